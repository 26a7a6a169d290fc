theorem dX3_isBucket_0 : decode cX3_isBucket 0 = .ok (.iload_n 1, 1) := by decide +kernel
theorem dX3_isBucket_1 : decode cX3_isBucket 1 = .ok (.ifCond .lt 15, 3) := by decide +kernel
theorem dX3_isBucket_4 : decode cX3_isBucket 4 = .ok (.iload_n 1, 1) := by decide +kernel
theorem dX3_isBucket_5 : decode cX3_isBucket 5 = .ok (.aload_n 0, 1) := by decide +kernel
theorem dX3_isBucket_6 : decode cX3_isBucket 6 = .ok (.getfield 36, 3) := by decide +kernel
theorem dX3_isBucket_9 : decode cX3_isBucket 9 = .ok (.if_icmp .ge 7, 3) := by decide +kernel
theorem dX3_isBucket_12 : decode cX3_isBucket 12 = .ok (.iconst 1, 1) := by decide +kernel
theorem dX3_isBucket_13 : decode cX3_isBucket 13 = .ok (.goto 4, 3) := by decide +kernel
theorem dX3_isBucket_16 : decode cX3_isBucket 16 = .ok (.iconst 0, 1) := by decide +kernel
theorem dX3_isBucket_17 : decode cX3_isBucket 17 = .ok (.ireturn, 1) := by decide +kernel
theorem dX3_roomsOf_0 : decode cX3_roomsOf 0 = .ok (.iload_n 1, 1) := by decide +kernel
theorem dX3_roomsOf_1 : decode cX3_roomsOf 1 = .ok (.ifCond .lt 11, 3) := by decide +kernel
theorem dX3_roomsOf_4 : decode cX3_roomsOf 4 = .ok (.iload_n 1, 1) := by decide +kernel
theorem dX3_roomsOf_5 : decode cX3_roomsOf 5 = .ok (.aload_n 0, 1) := by decide +kernel
theorem dX3_roomsOf_6 : decode cX3_roomsOf 6 = .ok (.getfield 36, 3) := by decide +kernel
theorem dX3_roomsOf_9 : decode cX3_roomsOf 9 = .ok (.if_icmp .lt 7, 3) := by decide +kernel
theorem dX3_roomsOf_12 : decode cX3_roomsOf 12 = .ok (.iconst 0, 1) := by decide +kernel
theorem dX3_roomsOf_13 : decode cX3_roomsOf 13 = .ok (.goto 16, 3) := by decide +kernel
theorem dX3_roomsOf_16 : decode cX3_roomsOf 16 = .ok (.aload_n 0, 1) := by decide +kernel
theorem dX3_roomsOf_17 : decode cX3_roomsOf 17 = .ok (.getfield 15, 3) := by decide +kernel
theorem dX3_roomsOf_20 : decode cX3_roomsOf 20 = .ok (.iload_n 1, 1) := by decide +kernel
theorem dX3_roomsOf_21 : decode cX3_roomsOf 21 = .ok (.iaload, 1) := by decide +kernel
theorem dX3_roomsOf_22 : decode cX3_roomsOf 22 = .ok (.aload_n 0, 1) := by decide +kernel
theorem dX3_roomsOf_23 : decode cX3_roomsOf 23 = .ok (.getfield 15, 3) := by decide +kernel
theorem dX3_roomsOf_26 : decode cX3_roomsOf 26 = .ok (.iload_n 1, 1) := by decide +kernel
theorem dX3_roomsOf_27 : decode cX3_roomsOf 27 = .ok (.iaload, 1) := by decide +kernel
theorem dX3_roomsOf_28 : decode cX3_roomsOf 28 = .ok (.imul, 1) := by decide +kernel
theorem dX3_roomsOf_29 : decode cX3_roomsOf 29 = .ok (.ireturn, 1) := by decide +kernel
theorem dX3_homeOf_0 : decode cX3_homeOf 0 = .ok (.aload_n 0, 1) := by decide +kernel
theorem dX3_homeOf_1 : decode cX3_homeOf 1 = .ok (.getfield 40, 3) := by decide +kernel
theorem dX3_homeOf_4 : decode cX3_homeOf 4 = .ok (.aload_n 0, 1) := by decide +kernel
theorem dX3_homeOf_5 : decode cX3_homeOf 5 = .ok (.getfield 43, 3) := by decide +kernel
theorem dX3_homeOf_8 : decode cX3_homeOf 8 = .ok (.iload_n 1, 1) := by decide +kernel
theorem dX3_homeOf_9 : decode cX3_homeOf 9 = .ok (.aload_n 0, 1) := by decide +kernel
theorem dX3_homeOf_10 : decode cX3_homeOf 10 = .ok (.getfield 36, 3) := by decide +kernel
theorem dX3_homeOf_13 : decode cX3_homeOf 13 = .ok (.invokestatic 46, 3) := by decide +kernel
theorem dX3_homeOf_16 : decode cX3_homeOf 16 = .ok (.ireturn, 1) := by decide +kernel
theorem dX3_roomOf_0 : decode cX3_roomOf 0 = .ok (.aload_n 0, 1) := by decide +kernel
theorem dX3_roomOf_1 : decode cX3_roomOf 1 = .ok (.iload_n 2, 1) := by decide +kernel
theorem dX3_roomOf_2 : decode cX3_roomOf 2 = .ok (.invokevirtual 50, 3) := by decide +kernel
theorem dX3_roomOf_5 : decode cX3_roomOf 5 = .ok (.istore_n 3, 1) := by decide +kernel
theorem dX3_roomOf_6 : decode cX3_roomOf 6 = .ok (.iload_n 3, 1) := by decide +kernel
theorem dX3_roomOf_7 : decode cX3_roomOf 7 = .ok (.ifCond .ne 7, 3) := by decide +kernel
theorem dX3_roomOf_10 : decode cX3_roomOf 10 = .ok (.iconst (-1), 1) := by decide +kernel
theorem dX3_roomOf_11 : decode cX3_roomOf 11 = .ok (.goto 20, 3) := by decide +kernel
theorem dX3_roomOf_14 : decode cX3_roomOf 14 = .ok (.aload_n 0, 1) := by decide +kernel
theorem dX3_roomOf_15 : decode cX3_roomOf 15 = .ok (.getfield 18, 3) := by decide +kernel
theorem dX3_roomOf_18 : decode cX3_roomOf 18 = .ok (.iload_n 2, 1) := by decide +kernel
theorem dX3_roomOf_19 : decode cX3_roomOf 19 = .ok (.iaload, 1) := by decide +kernel
theorem dX3_roomOf_20 : decode cX3_roomOf 20 = .ok (.aload_n 0, 1) := by decide +kernel
theorem dX3_roomOf_21 : decode cX3_roomOf 21 = .ok (.getfield 21, 3) := by decide +kernel
theorem dX3_roomOf_24 : decode cX3_roomOf 24 = .ok (.iload_n 2, 1) := by decide +kernel
theorem dX3_roomOf_25 : decode cX3_roomOf 25 = .ok (.iaload, 1) := by decide +kernel
theorem dX3_roomOf_26 : decode cX3_roomOf 26 = .ok (.iload_n 1, 1) := by decide +kernel
theorem dX3_roomOf_27 : decode cX3_roomOf 27 = .ok (.iload_n 3, 1) := by decide +kernel
theorem dX3_roomOf_28 : decode cX3_roomOf 28 = .ok (.invokestatic 46, 3) := by decide +kernel
theorem dX3_roomOf_31 : decode cX3_roomOf 31 = .ok (.ireturn, 1) := by decide +kernel
theorem dX3_tenant_0 : decode cX3_tenant 0 = .ok (.iconst 0, 1) := by decide +kernel
theorem dX3_tenant_1 : decode cX3_tenant 1 = .ok (.istore_n 3, 1) := by decide +kernel
theorem dX3_tenant_2 : decode cX3_tenant 2 = .ok (.iload_n 3, 1) := by decide +kernel
theorem dX3_tenant_3 : decode cX3_tenant 3 = .ok (.aload_n 0, 1) := by decide +kernel
theorem dX3_tenant_4 : decode cX3_tenant 4 = .ok (.getfield 54, 3) := by decide +kernel
theorem dX3_tenant_7 : decode cX3_tenant 7 = .ok (.if_icmp .ge 31, 3) := by decide +kernel
theorem dX3_tenant_10 : decode cX3_tenant 10 = .ok (.aload_n 0, 1) := by decide +kernel
theorem dX3_tenant_11 : decode cX3_tenant 11 = .ok (.getfield 27, 3) := by decide +kernel
theorem dX3_tenant_14 : decode cX3_tenant 14 = .ok (.iload_n 3, 1) := by decide +kernel
theorem dX3_tenant_15 : decode cX3_tenant 15 = .ok (.iaload, 1) := by decide +kernel
theorem dX3_tenant_16 : decode cX3_tenant 16 = .ok (.iload_n 1, 1) := by decide +kernel
theorem dX3_tenant_17 : decode cX3_tenant 17 = .ok (.if_icmp .ne 15, 3) := by decide +kernel
theorem dX3_tenant_20 : decode cX3_tenant 20 = .ok (.aload_n 0, 1) := by decide +kernel
theorem dX3_tenant_21 : decode cX3_tenant 21 = .ok (.getfield 30, 3) := by decide +kernel
theorem dX3_tenant_24 : decode cX3_tenant 24 = .ok (.iload_n 3, 1) := by decide +kernel
theorem dX3_tenant_25 : decode cX3_tenant 25 = .ok (.iaload, 1) := by decide +kernel
theorem dX3_tenant_26 : decode cX3_tenant 26 = .ok (.iload_n 2, 1) := by decide +kernel
theorem dX3_tenant_27 : decode cX3_tenant 27 = .ok (.if_icmp .ne 5, 3) := by decide +kernel
theorem dX3_tenant_30 : decode cX3_tenant 30 = .ok (.iload_n 3, 1) := by decide +kernel
theorem dX3_tenant_31 : decode cX3_tenant 31 = .ok (.ireturn, 1) := by decide +kernel
theorem dX3_tenant_32 : decode cX3_tenant 32 = .ok (.iinc 3 1, 3) := by decide +kernel
theorem dX3_tenant_35 : decode cX3_tenant 35 = .ok (.goto (-33), 3) := by decide +kernel
theorem dX3_tenant_38 : decode cX3_tenant 38 = .ok (.iconst (-1), 1) := by decide +kernel
theorem dX3_tenant_39 : decode cX3_tenant 39 = .ok (.ireturn, 1) := by decide +kernel
theorem dX3_bucketsWith_0 : decode cX3_bucketsWith 0 = .ok (.iconst 0, 1) := by decide +kernel
theorem dX3_bucketsWith_1 : decode cX3_bucketsWith 1 = .ok (.istore_n 2, 1) := by decide +kernel
theorem dX3_bucketsWith_2 : decode cX3_bucketsWith 2 = .ok (.iconst 0, 1) := by decide +kernel
theorem dX3_bucketsWith_3 : decode cX3_bucketsWith 3 = .ok (.istore_n 3, 1) := by decide +kernel
theorem dX3_bucketsWith_4 : decode cX3_bucketsWith 4 = .ok (.iload_n 3, 1) := by decide +kernel
theorem dX3_bucketsWith_5 : decode cX3_bucketsWith 5 = .ok (.aload_n 0, 1) := by decide +kernel
theorem dX3_bucketsWith_6 : decode cX3_bucketsWith 6 = .ok (.getfield 36, 3) := by decide +kernel
theorem dX3_bucketsWith_9 : decode cX3_bucketsWith 9 = .ok (.if_icmp .ge 22, 3) := by decide +kernel
theorem dX3_bucketsWith_12 : decode cX3_bucketsWith 12 = .ok (.aload_n 0, 1) := by decide +kernel
theorem dX3_bucketsWith_13 : decode cX3_bucketsWith 13 = .ok (.getfield 9, 3) := by decide +kernel
theorem dX3_bucketsWith_16 : decode cX3_bucketsWith 16 = .ok (.iload_n 3, 1) := by decide +kernel
theorem dX3_bucketsWith_17 : decode cX3_bucketsWith 17 = .ok (.iaload, 1) := by decide +kernel
theorem dX3_bucketsWith_18 : decode cX3_bucketsWith 18 = .ok (.iload_n 1, 1) := by decide +kernel
theorem dX3_bucketsWith_19 : decode cX3_bucketsWith 19 = .ok (.if_icmp .ne 6, 3) := by decide +kernel
theorem dX3_bucketsWith_22 : decode cX3_bucketsWith 22 = .ok (.iinc 2 1, 3) := by decide +kernel
theorem dX3_bucketsWith_25 : decode cX3_bucketsWith 25 = .ok (.iinc 3 1, 3) := by decide +kernel
theorem dX3_bucketsWith_28 : decode cX3_bucketsWith 28 = .ok (.goto (-24), 3) := by decide +kernel
theorem dX3_bucketsWith_31 : decode cX3_bucketsWith 31 = .ok (.iload_n 2, 1) := by decide +kernel
theorem dX3_bucketsWith_32 : decode cX3_bucketsWith 32 = .ok (.ireturn, 1) := by decide +kernel
theorem dX3_fullest_0 : decode cX3_fullest 0 = .ok (.iconst 0, 1) := by decide +kernel
theorem dX3_fullest_1 : decode cX3_fullest 1 = .ok (.istore_n 1, 1) := by decide +kernel
theorem dX3_fullest_2 : decode cX3_fullest 2 = .ok (.iconst 1, 1) := by decide +kernel
theorem dX3_fullest_3 : decode cX3_fullest 3 = .ok (.istore_n 2, 1) := by decide +kernel
theorem dX3_fullest_4 : decode cX3_fullest 4 = .ok (.iload_n 2, 1) := by decide +kernel
theorem dX3_fullest_5 : decode cX3_fullest 5 = .ok (.aload_n 0, 1) := by decide +kernel
theorem dX3_fullest_6 : decode cX3_fullest 6 = .ok (.getfield 36, 3) := by decide +kernel
theorem dX3_fullest_9 : decode cX3_fullest 9 = .ok (.if_icmp .ge 26, 3) := by decide +kernel
theorem dX3_fullest_12 : decode cX3_fullest 12 = .ok (.aload_n 0, 1) := by decide +kernel
theorem dX3_fullest_13 : decode cX3_fullest 13 = .ok (.getfield 9, 3) := by decide +kernel
theorem dX3_fullest_16 : decode cX3_fullest 16 = .ok (.iload_n 2, 1) := by decide +kernel
theorem dX3_fullest_17 : decode cX3_fullest 17 = .ok (.iaload, 1) := by decide +kernel
theorem dX3_fullest_18 : decode cX3_fullest 18 = .ok (.aload_n 0, 1) := by decide +kernel
theorem dX3_fullest_19 : decode cX3_fullest 19 = .ok (.getfield 9, 3) := by decide +kernel
theorem dX3_fullest_22 : decode cX3_fullest 22 = .ok (.iload_n 1, 1) := by decide +kernel
theorem dX3_fullest_23 : decode cX3_fullest 23 = .ok (.iaload, 1) := by decide +kernel
theorem dX3_fullest_24 : decode cX3_fullest 24 = .ok (.if_icmp .le 5, 3) := by decide +kernel
theorem dX3_fullest_27 : decode cX3_fullest 27 = .ok (.iload_n 2, 1) := by decide +kernel
theorem dX3_fullest_28 : decode cX3_fullest 28 = .ok (.istore_n 1, 1) := by decide +kernel
theorem dX3_fullest_29 : decode cX3_fullest 29 = .ok (.iinc 2 1, 3) := by decide +kernel
theorem dX3_fullest_32 : decode cX3_fullest 32 = .ok (.goto (-28), 3) := by decide +kernel
theorem dX3_fullest_35 : decode cX3_fullest 35 = .ok (.iload_n 1, 1) := by decide +kernel
theorem dX3_fullest_36 : decode cX3_fullest 36 = .ok (.ireturn, 1) := by decide +kernel
theorem dX3_twos_0 : decode cX3_twos 0 = .ok (.iconst 0, 1) := by decide +kernel
theorem dX3_twos_1 : decode cX3_twos 1 = .ok (.istore_n 1, 1) := by decide +kernel
theorem dX3_twos_2 : decode cX3_twos 2 = .ok (.iconst 0, 1) := by decide +kernel
theorem dX3_twos_3 : decode cX3_twos 3 = .ok (.istore_n 2, 1) := by decide +kernel
theorem dX3_twos_4 : decode cX3_twos 4 = .ok (.iload_n 2, 1) := by decide +kernel
theorem dX3_twos_5 : decode cX3_twos 5 = .ok (.aload_n 0, 1) := by decide +kernel
theorem dX3_twos_6 : decode cX3_twos 6 = .ok (.getfield 36, 3) := by decide +kernel
theorem dX3_twos_9 : decode cX3_twos 9 = .ok (.if_icmp .ge 29, 3) := by decide +kernel
theorem dX3_twos_12 : decode cX3_twos 12 = .ok (.iload_n 1, 1) := by decide +kernel
theorem dX3_twos_13 : decode cX3_twos 13 = .ok (.aload_n 0, 1) := by decide +kernel
theorem dX3_twos_14 : decode cX3_twos 14 = .ok (.getfield 9, 3) := by decide +kernel
theorem dX3_twos_17 : decode cX3_twos 17 = .ok (.iload_n 2, 1) := by decide +kernel
theorem dX3_twos_18 : decode cX3_twos 18 = .ok (.iaload, 1) := by decide +kernel
theorem dX3_twos_19 : decode cX3_twos 19 = .ok (.aload_n 0, 1) := by decide +kernel
theorem dX3_twos_20 : decode cX3_twos 20 = .ok (.getfield 9, 3) := by decide +kernel
theorem dX3_twos_23 : decode cX3_twos 23 = .ok (.iload_n 2, 1) := by decide +kernel
theorem dX3_twos_24 : decode cX3_twos 24 = .ok (.iaload, 1) := by decide +kernel
theorem dX3_twos_25 : decode cX3_twos 25 = .ok (.iconst 1, 1) := by decide +kernel
theorem dX3_twos_26 : decode cX3_twos 26 = .ok (.isub, 1) := by decide +kernel
theorem dX3_twos_27 : decode cX3_twos 27 = .ok (.imul, 1) := by decide +kernel
theorem dX3_twos_28 : decode cX3_twos 28 = .ok (.iconst 2, 1) := by decide +kernel
theorem dX3_twos_29 : decode cX3_twos 29 = .ok (.idiv, 1) := by decide +kernel
theorem dX3_twos_30 : decode cX3_twos 30 = .ok (.iadd, 1) := by decide +kernel
theorem dX3_twos_31 : decode cX3_twos 31 = .ok (.istore_n 1, 1) := by decide +kernel
theorem dX3_twos_32 : decode cX3_twos 32 = .ok (.iinc 2 1, 3) := by decide +kernel
theorem dX3_twos_35 : decode cX3_twos 35 = .ok (.goto (-31), 3) := by decide +kernel
theorem dX3_twos_38 : decode cX3_twos 38 = .ok (.iload_n 1, 1) := by decide +kernel
theorem dX3_twos_39 : decode cX3_twos 39 = .ok (.ireturn, 1) := by decide +kernel
theorem dX3_sweep_0 : decode cX3_sweep 0 = .ok (.iconst 0, 1) := by decide +kernel
theorem dX3_sweep_1 : decode cX3_sweep 1 = .ok (.istore_n 1, 1) := by decide +kernel
theorem dX3_sweep_2 : decode cX3_sweep 2 = .ok (.iload_n 1, 1) := by decide +kernel
theorem dX3_sweep_3 : decode cX3_sweep 3 = .ok (.aload_n 0, 1) := by decide +kernel
theorem dX3_sweep_4 : decode cX3_sweep 4 = .ok (.getfield 54, 3) := by decide +kernel
theorem dX3_sweep_7 : decode cX3_sweep 7 = .ok (.if_icmp .ge 21, 3) := by decide +kernel
theorem dX3_sweep_10 : decode cX3_sweep 10 = .ok (.aload_n 0, 1) := by decide +kernel
theorem dX3_sweep_11 : decode cX3_sweep 11 = .ok (.getfield 9, 3) := by decide +kernel
theorem dX3_sweep_14 : decode cX3_sweep 14 = .ok (.aload_n 0, 1) := by decide +kernel
theorem dX3_sweep_15 : decode cX3_sweep 15 = .ok (.getfield 27, 3) := by decide +kernel
theorem dX3_sweep_18 : decode cX3_sweep 18 = .ok (.iload_n 1, 1) := by decide +kernel
theorem dX3_sweep_19 : decode cX3_sweep 19 = .ok (.iaload, 1) := by decide +kernel
theorem dX3_sweep_20 : decode cX3_sweep 20 = .ok (.iconst 0, 1) := by decide +kernel
theorem dX3_sweep_21 : decode cX3_sweep 21 = .ok (.iastore, 1) := by decide +kernel
theorem dX3_sweep_22 : decode cX3_sweep 22 = .ok (.iinc 1 1, 3) := by decide +kernel
theorem dX3_sweep_25 : decode cX3_sweep 25 = .ok (.goto (-23), 3) := by decide +kernel
theorem dX3_sweep_28 : decode cX3_sweep 28 = .ok (.return_, 1) := by decide +kernel
theorem dX3_gather_0 : decode cX3_gather 0 = .ok (.iconst 0, 1) := by decide +kernel
theorem dX3_gather_1 : decode cX3_gather 1 = .ok (.istore_n 2, 1) := by decide +kernel
theorem dX3_gather_2 : decode cX3_gather 2 = .ok (.iconst 0, 1) := by decide +kernel
theorem dX3_gather_3 : decode cX3_gather 3 = .ok (.istore_n 3, 1) := by decide +kernel
theorem dX3_gather_4 : decode cX3_gather 4 = .ok (.iload_n 3, 1) := by decide +kernel
theorem dX3_gather_5 : decode cX3_gather 5 = .ok (.aload_n 0, 1) := by decide +kernel
theorem dX3_gather_6 : decode cX3_gather 6 = .ok (.getfield 54, 3) := by decide +kernel
theorem dX3_gather_9 : decode cX3_gather 9 = .ok (.if_icmp .ge 29, 3) := by decide +kernel
theorem dX3_gather_12 : decode cX3_gather 12 = .ok (.aload_n 0, 1) := by decide +kernel
theorem dX3_gather_13 : decode cX3_gather 13 = .ok (.getfield 27, 3) := by decide +kernel
theorem dX3_gather_16 : decode cX3_gather 16 = .ok (.iload_n 3, 1) := by decide +kernel
theorem dX3_gather_17 : decode cX3_gather 17 = .ok (.iaload, 1) := by decide +kernel
theorem dX3_gather_18 : decode cX3_gather 18 = .ok (.iload_n 1, 1) := by decide +kernel
theorem dX3_gather_19 : decode cX3_gather 19 = .ok (.if_icmp .ne 13, 3) := by decide +kernel
theorem dX3_gather_22 : decode cX3_gather 22 = .ok (.aload_n 0, 1) := by decide +kernel
theorem dX3_gather_23 : decode cX3_gather 23 = .ok (.getfield 33, 3) := by decide +kernel
theorem dX3_gather_26 : decode cX3_gather 26 = .ok (.iload_n 2, 1) := by decide +kernel
theorem dX3_gather_27 : decode cX3_gather 27 = .ok (.iload_n 3, 1) := by decide +kernel
theorem dX3_gather_28 : decode cX3_gather 28 = .ok (.iastore, 1) := by decide +kernel
theorem dX3_gather_29 : decode cX3_gather 29 = .ok (.iinc 2 1, 3) := by decide +kernel
theorem dX3_gather_32 : decode cX3_gather 32 = .ok (.iinc 3 1, 3) := by decide +kernel
theorem dX3_gather_35 : decode cX3_gather 35 = .ok (.goto (-31), 3) := by decide +kernel
theorem dX3_gather_38 : decode cX3_gather 38 = .ok (.iload_n 2, 1) := by decide +kernel
theorem dX3_gather_39 : decode cX3_gather 39 = .ok (.ireturn, 1) := by decide +kernel
