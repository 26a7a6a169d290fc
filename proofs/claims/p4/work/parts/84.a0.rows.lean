theorem dX10_isTableNumber_0 : decode cX10_isTableNumber 0 = .ok (.iload_n 0, 1) := by decide +kernel
theorem dX10_isTableNumber_1 : decode cX10_isTableNumber 1 = .ok (.ifCond .lt 12, 3) := by decide +kernel
theorem dX10_isTableNumber_4 : decode cX10_isTableNumber 4 = .ok (.iload_n 0, 1) := by decide +kernel
theorem dX10_isTableNumber_5 : decode cX10_isTableNumber 5 = .ok (.iconst 4, 1) := by decide +kernel
theorem dX10_isTableNumber_6 : decode cX10_isTableNumber 6 = .ok (.if_icmp .ge 7, 3) := by decide +kernel
theorem dX10_isTableNumber_9 : decode cX10_isTableNumber 9 = .ok (.iconst 1, 1) := by decide +kernel
theorem dX10_isTableNumber_10 : decode cX10_isTableNumber 10 = .ok (.goto 4, 3) := by decide +kernel
theorem dX10_isTableNumber_13 : decode cX10_isTableNumber 13 = .ok (.iconst 0, 1) := by decide +kernel
theorem dX10_isTableNumber_14 : decode cX10_isTableNumber 14 = .ok (.ireturn, 1) := by decide +kernel
theorem dX10_isKey_0 : decode cX10_isKey 0 = .ok (.iload_n 0, 1) := by decide +kernel
theorem dX10_isKey_1 : decode cX10_isKey 1 = .ok (.ifCond .lt 14, 3) := by decide +kernel
theorem dX10_isKey_4 : decode cX10_isKey 4 = .ok (.iload_n 0, 1) := by decide +kernel
theorem dX10_isKey_5 : decode cX10_isKey 5 = .ok (.ldc_w 352, 3) := by decide +kernel
theorem dX10_isKey_8 : decode cX10_isKey 8 = .ok (.if_icmp .ge 7, 3) := by decide +kernel
theorem dX10_isKey_11 : decode cX10_isKey 11 = .ok (.iconst 1, 1) := by decide +kernel
theorem dX10_isKey_12 : decode cX10_isKey 12 = .ok (.goto 4, 3) := by decide +kernel
theorem dX10_isKey_15 : decode cX10_isKey 15 = .ok (.iconst 0, 1) := by decide +kernel
theorem dX10_isKey_16 : decode cX10_isKey 16 = .ok (.ireturn, 1) := by decide +kernel
theorem dX10_isPair_0 : decode cX10_isPair 0 = .ok (.iload_n 0, 1) := by decide +kernel
theorem dX10_isPair_1 : decode cX10_isPair 1 = .ok (.iconst 1, 1) := by decide +kernel
theorem dX10_isPair_2 : decode cX10_isPair 2 = .ok (.if_icmp .lt 25, 3) := by decide +kernel
theorem dX10_isPair_5 : decode cX10_isPair 5 = .ok (.iload_n 0, 1) := by decide +kernel
theorem dX10_isPair_6 : decode cX10_isPair 6 = .ok (.ldc_w 352, 3) := by decide +kernel
theorem dX10_isPair_9 : decode cX10_isPair 9 = .ok (.if_icmp .ge 18, 3) := by decide +kernel
theorem dX10_isPair_12 : decode cX10_isPair 12 = .ok (.iload_n 1, 1) := by decide +kernel
theorem dX10_isPair_13 : decode cX10_isPair 13 = .ok (.ifCond .lt 14, 3) := by decide +kernel
theorem dX10_isPair_16 : decode cX10_isPair 16 = .ok (.iload_n 1, 1) := by decide +kernel
theorem dX10_isPair_17 : decode cX10_isPair 17 = .ok (.ldc_w 352, 3) := by decide +kernel
theorem dX10_isPair_20 : decode cX10_isPair 20 = .ok (.if_icmp .ge 7, 3) := by decide +kernel
theorem dX10_isPair_23 : decode cX10_isPair 23 = .ok (.iconst 1, 1) := by decide +kernel
theorem dX10_isPair_24 : decode cX10_isPair 24 = .ok (.goto 4, 3) := by decide +kernel
theorem dX10_isPair_27 : decode cX10_isPair 27 = .ok (.iconst 0, 1) := by decide +kernel
theorem dX10_isPair_28 : decode cX10_isPair 28 = .ok (.ireturn, 1) := by decide +kernel
theorem dX10_areSettings_0 : decode cX10_areSettings 0 = .ok (.iload_n 0, 1) := by decide +kernel
theorem dX10_areSettings_1 : decode cX10_areSettings 1 = .ok (.bipush 8, 2) := by decide +kernel
theorem dX10_areSettings_3 : decode cX10_areSettings 3 = .ok (.if_icmp .lt 37, 3) := by decide +kernel
theorem dX10_areSettings_6 : decode cX10_areSettings 6 = .ok (.iload_n 0, 1) := by decide +kernel
theorem dX10_areSettings_7 : decode cX10_areSettings 7 = .ok (.bipush 64, 2) := by decide +kernel
theorem dX10_areSettings_9 : decode cX10_areSettings 9 = .ok (.if_icmp .gt 31, 3) := by decide +kernel
theorem dX10_areSettings_12 : decode cX10_areSettings 12 = .ok (.iload_n 1, 1) := by decide +kernel
theorem dX10_areSettings_13 : decode cX10_areSettings 13 = .ok (.bipush 25, 2) := by decide +kernel
theorem dX10_areSettings_15 : decode cX10_areSettings 15 = .ok (.if_icmp .lt 25, 3) := by decide +kernel
theorem dX10_areSettings_18 : decode cX10_areSettings 18 = .ok (.iload_n 1, 1) := by decide +kernel
theorem dX10_areSettings_19 : decode cX10_areSettings 19 = .ok (.sipush 400, 3) := by decide +kernel
theorem dX10_areSettings_22 : decode cX10_areSettings 22 = .ok (.if_icmp .gt 18, 3) := by decide +kernel
theorem dX10_areSettings_25 : decode cX10_areSettings 25 = .ok (.iload_n 2, 1) := by decide +kernel
theorem dX10_areSettings_26 : decode cX10_areSettings 26 = .ok (.ifCond .lt 14, 3) := by decide +kernel
theorem dX10_areSettings_29 : decode cX10_areSettings 29 = .ok (.iload_n 2, 1) := by decide +kernel
theorem dX10_areSettings_30 : decode cX10_areSettings 30 = .ok (.sipush 200, 3) := by decide +kernel
theorem dX10_areSettings_33 : decode cX10_areSettings 33 = .ok (.if_icmp .gt 7, 3) := by decide +kernel
theorem dX10_areSettings_36 : decode cX10_areSettings 36 = .ok (.iconst 1, 1) := by decide +kernel
theorem dX10_areSettings_37 : decode cX10_areSettings 37 = .ok (.goto 4, 3) := by decide +kernel
theorem dX10_areSettings_40 : decode cX10_areSettings 40 = .ok (.iconst 0, 1) := by decide +kernel
theorem dX10_areSettings_41 : decode cX10_areSettings 41 = .ok (.ireturn, 1) := by decide +kernel
theorem dX10_writeInt_0 : decode cX10_writeInt 0 = .ok (.iload_n 1, 1) := by decide +kernel
theorem dX10_writeInt_1 : decode cX10_writeInt 1 = .ok (.ifCond .lt 11, 3) := by decide +kernel
theorem dX10_writeInt_4 : decode cX10_writeInt 4 = .ok (.iload_n 1, 1) := by decide +kernel
theorem dX10_writeInt_5 : decode cX10_writeInt 5 = .ok (.iconst 4, 1) := by decide +kernel
theorem dX10_writeInt_6 : decode cX10_writeInt 6 = .ok (.iadd, 1) := by decide +kernel
theorem dX10_writeInt_7 : decode cX10_writeInt 7 = .ok (.aload_n 0, 1) := by decide +kernel
theorem dX10_writeInt_8 : decode cX10_writeInt 8 = .ok (.arraylength, 1) := by decide +kernel
theorem dX10_writeInt_9 : decode cX10_writeInt 9 = .ok (.if_icmp .le 4, 3) := by decide +kernel
theorem dX10_writeInt_12 : decode cX10_writeInt 12 = .ok (.return_, 1) := by decide +kernel
theorem dX10_writeInt_13 : decode cX10_writeInt 13 = .ok (.iconst 0, 1) := by decide +kernel
theorem dX10_writeInt_14 : decode cX10_writeInt 14 = .ok (.istore_n 3, 1) := by decide +kernel
theorem dX10_writeInt_15 : decode cX10_writeInt 15 = .ok (.iload_n 3, 1) := by decide +kernel
theorem dX10_writeInt_16 : decode cX10_writeInt 16 = .ok (.iconst 4, 1) := by decide +kernel
theorem dX10_writeInt_17 : decode cX10_writeInt 17 = .ok (.if_icmp .ge 27, 3) := by decide +kernel
theorem dX10_writeInt_20 : decode cX10_writeInt 20 = .ok (.aload_n 0, 1) := by decide +kernel
theorem dX10_writeInt_21 : decode cX10_writeInt 21 = .ok (.iload_n 1, 1) := by decide +kernel
theorem dX10_writeInt_22 : decode cX10_writeInt 22 = .ok (.iload_n 3, 1) := by decide +kernel
theorem dX10_writeInt_23 : decode cX10_writeInt 23 = .ok (.iadd, 1) := by decide +kernel
theorem dX10_writeInt_24 : decode cX10_writeInt 24 = .ok (.iload_n 2, 1) := by decide +kernel
theorem dX10_writeInt_25 : decode cX10_writeInt 25 = .ok (.bipush 24, 2) := by decide +kernel
theorem dX10_writeInt_27 : decode cX10_writeInt 27 = .ok (.bipush 8, 2) := by decide +kernel
theorem dX10_writeInt_29 : decode cX10_writeInt 29 = .ok (.iload_n 3, 1) := by decide +kernel
theorem dX10_writeInt_30 : decode cX10_writeInt 30 = .ok (.imul, 1) := by decide +kernel
theorem dX10_writeInt_31 : decode cX10_writeInt 31 = .ok (.isub, 1) := by decide +kernel
theorem dX10_writeInt_32 : decode cX10_writeInt 32 = .ok (.iushr, 1) := by decide +kernel
theorem dX10_writeInt_33 : decode cX10_writeInt 33 = .ok (.sipush 255, 3) := by decide +kernel
theorem dX10_writeInt_36 : decode cX10_writeInt 36 = .ok (.iand, 1) := by decide +kernel
theorem dX10_writeInt_37 : decode cX10_writeInt 37 = .ok (.iastore, 1) := by decide +kernel
theorem dX10_writeInt_38 : decode cX10_writeInt 38 = .ok (.iinc 3 1, 3) := by decide +kernel
theorem dX10_writeInt_41 : decode cX10_writeInt 41 = .ok (.goto (-26), 3) := by decide +kernel
theorem dX10_writeInt_44 : decode cX10_writeInt 44 = .ok (.return_, 1) := by decide +kernel
theorem dX10_readInt_0 : decode cX10_readInt 0 = .ok (.iload_n 1, 1) := by decide +kernel
theorem dX10_readInt_1 : decode cX10_readInt 1 = .ok (.ifCond .lt 11, 3) := by decide +kernel
theorem dX10_readInt_4 : decode cX10_readInt 4 = .ok (.iload_n 1, 1) := by decide +kernel
theorem dX10_readInt_5 : decode cX10_readInt 5 = .ok (.iconst 4, 1) := by decide +kernel
theorem dX10_readInt_6 : decode cX10_readInt 6 = .ok (.iadd, 1) := by decide +kernel
theorem dX10_readInt_7 : decode cX10_readInt 7 = .ok (.aload_n 0, 1) := by decide +kernel
theorem dX10_readInt_8 : decode cX10_readInt 8 = .ok (.arraylength, 1) := by decide +kernel
theorem dX10_readInt_9 : decode cX10_readInt 9 = .ok (.if_icmp .le 5, 3) := by decide +kernel
theorem dX10_readInt_14 : decode cX10_readInt 14 = .ok (.iconst 0, 1) := by decide +kernel
theorem dX10_readInt_15 : decode cX10_readInt 15 = .ok (.istore_n 2, 1) := by decide +kernel
theorem dX10_readInt_16 : decode cX10_readInt 16 = .ok (.iconst 0, 1) := by decide +kernel
theorem dX10_readInt_17 : decode cX10_readInt 17 = .ok (.istore_n 3, 1) := by decide +kernel
theorem dX10_readInt_18 : decode cX10_readInt 18 = .ok (.iload_n 3, 1) := by decide +kernel
theorem dX10_readInt_19 : decode cX10_readInt 19 = .ok (.iconst 4, 1) := by decide +kernel
theorem dX10_readInt_20 : decode cX10_readInt 20 = .ok (.if_icmp .ge 20, 3) := by decide +kernel
theorem dX10_readInt_23 : decode cX10_readInt 23 = .ok (.iload_n 2, 1) := by decide +kernel
theorem dX10_readInt_24 : decode cX10_readInt 24 = .ok (.bipush 8, 2) := by decide +kernel
theorem dX10_readInt_26 : decode cX10_readInt 26 = .ok (.ishl, 1) := by decide +kernel
theorem dX10_readInt_27 : decode cX10_readInt 27 = .ok (.aload_n 0, 1) := by decide +kernel
theorem dX10_readInt_28 : decode cX10_readInt 28 = .ok (.iload_n 1, 1) := by decide +kernel
theorem dX10_readInt_29 : decode cX10_readInt 29 = .ok (.iload_n 3, 1) := by decide +kernel
theorem dX10_readInt_30 : decode cX10_readInt 30 = .ok (.iadd, 1) := by decide +kernel
theorem dX10_readInt_31 : decode cX10_readInt 31 = .ok (.iaload, 1) := by decide +kernel
theorem dX10_readInt_32 : decode cX10_readInt 32 = .ok (.ior, 1) := by decide +kernel
theorem dX10_readInt_33 : decode cX10_readInt 33 = .ok (.istore_n 2, 1) := by decide +kernel
theorem dX10_readInt_34 : decode cX10_readInt 34 = .ok (.iinc 3 1, 3) := by decide +kernel
theorem dX10_readInt_37 : decode cX10_readInt 37 = .ok (.goto (-19), 3) := by decide +kernel
theorem dX10_readInt_40 : decode cX10_readInt 40 = .ok (.iload_n 2, 1) := by decide +kernel
theorem dX10_readInt_41 : decode cX10_readInt 41 = .ok (.ireturn, 1) := by decide +kernel
theorem dX10_readLong_0 : decode cX10_readLong 0 = .ok (.aload_n 0, 1) := by decide +kernel
theorem dX10_readLong_1 : decode cX10_readLong 1 = .ok (.iload_n 1, 1) := by decide +kernel
theorem dX10_readLong_2 : decode cX10_readLong 2 = .ok (.invokestatic 334, 3) := by decide +kernel
theorem dX10_readLong_5 : decode cX10_readLong 5 = .ok (.i2l, 1) := by decide +kernel
theorem dX10_readLong_6 : decode cX10_readLong 6 = .ok (.bipush 32, 2) := by decide +kernel
theorem dX10_readLong_8 : decode cX10_readLong 8 = .ok (.lshl, 1) := by decide +kernel
theorem dX10_readLong_9 : decode cX10_readLong 9 = .ok (.aload_n 0, 1) := by decide +kernel
theorem dX10_readLong_10 : decode cX10_readLong 10 = .ok (.iload_n 1, 1) := by decide +kernel
theorem dX10_readLong_11 : decode cX10_readLong 11 = .ok (.iconst 4, 1) := by decide +kernel
theorem dX10_readLong_12 : decode cX10_readLong 12 = .ok (.iadd, 1) := by decide +kernel
theorem dX10_readLong_13 : decode cX10_readLong 13 = .ok (.invokestatic 334, 3) := by decide +kernel
theorem dX10_readLong_16 : decode cX10_readLong 16 = .ok (.i2l, 1) := by decide +kernel
theorem dX10_readLong_17 : decode cX10_readLong 17 = .ok (.ldc2_w 355, 3) := by decide +kernel
theorem dX10_readLong_20 : decode cX10_readLong 20 = .ok (.land, 1) := by decide +kernel
theorem dX10_readLong_21 : decode cX10_readLong 21 = .ok (.lor, 1) := by decide +kernel
theorem dX10_readLong_22 : decode cX10_readLong 22 = .ok (.lreturn, 1) := by decide +kernel
theorem dX10_spreadOf_0 : decode cX10_spreadOf 0 = .ok (.aload_n 0, 1) := by decide +kernel
theorem dX10_spreadOf_1 : decode cX10_spreadOf 1 = .ok (.iconst 1, 1) := by decide +kernel
theorem dX10_spreadOf_2 : decode cX10_spreadOf 2 = .ok (.iaload, 1) := by decide +kernel
theorem dX10_spreadOf_3 : decode cX10_spreadOf 3 = .ok (.bipush 8, 2) := by decide +kernel
theorem dX10_spreadOf_5 : decode cX10_spreadOf 5 = .ok (.ishl, 1) := by decide +kernel
theorem dX10_spreadOf_6 : decode cX10_spreadOf 6 = .ok (.aload_n 0, 1) := by decide +kernel
theorem dX10_spreadOf_7 : decode cX10_spreadOf 7 = .ok (.iconst 2, 1) := by decide +kernel
theorem dX10_spreadOf_8 : decode cX10_spreadOf 8 = .ok (.iaload, 1) := by decide +kernel
theorem dX10_spreadOf_9 : decode cX10_spreadOf 9 = .ok (.ior, 1) := by decide +kernel
theorem dX10_spreadOf_10 : decode cX10_spreadOf 10 = .ok (.ireturn, 1) := by decide +kernel
theorem dX10_checkOf_0 : decode cX10_checkOf 0 = .ok (.bipush 7, 2) := by decide +kernel
theorem dX10_checkOf_2 : decode cX10_checkOf 2 = .ok (.istore_n 2, 1) := by decide +kernel
theorem dX10_checkOf_3 : decode cX10_checkOf 3 = .ok (.iconst 0, 1) := by decide +kernel
theorem dX10_checkOf_4 : decode cX10_checkOf 4 = .ok (.istore_n 3, 1) := by decide +kernel
theorem dX10_checkOf_5 : decode cX10_checkOf 5 = .ok (.iload_n 3, 1) := by decide +kernel
theorem dX10_checkOf_6 : decode cX10_checkOf 6 = .ok (.iload_n 1, 1) := by decide +kernel
theorem dX10_checkOf_7 : decode cX10_checkOf 7 = .ok (.if_icmp .ge 27, 3) := by decide +kernel
theorem dX10_checkOf_10 : decode cX10_checkOf 10 = .ok (.iload_n 3, 1) := by decide +kernel
theorem dX10_checkOf_11 : decode cX10_checkOf 11 = .ok (.aload_n 0, 1) := by decide +kernel
theorem dX10_checkOf_12 : decode cX10_checkOf 12 = .ok (.arraylength, 1) := by decide +kernel
theorem dX10_checkOf_13 : decode cX10_checkOf 13 = .ok (.if_icmp .ge 21, 3) := by decide +kernel
theorem dX10_checkOf_16 : decode cX10_checkOf 16 = .ok (.iconst 5, 1) := by decide +kernel
theorem dX10_checkOf_17 : decode cX10_checkOf 17 = .ok (.iload_n 2, 1) := by decide +kernel
theorem dX10_checkOf_18 : decode cX10_checkOf 18 = .ok (.imul, 1) := by decide +kernel
theorem dX10_checkOf_19 : decode cX10_checkOf 19 = .ok (.aload_n 0, 1) := by decide +kernel
theorem dX10_checkOf_20 : decode cX10_checkOf 20 = .ok (.iload_n 3, 1) := by decide +kernel
theorem dX10_checkOf_21 : decode cX10_checkOf 21 = .ok (.iaload, 1) := by decide +kernel
theorem dX10_checkOf_22 : decode cX10_checkOf 22 = .ok (.iadd, 1) := by decide +kernel
theorem dX10_checkOf_23 : decode cX10_checkOf 23 = .ok (.sipush 253, 3) := by decide +kernel
theorem dX10_checkOf_26 : decode cX10_checkOf 26 = .ok (.irem, 1) := by decide +kernel
theorem dX10_checkOf_27 : decode cX10_checkOf 27 = .ok (.istore_n 2, 1) := by decide +kernel
theorem dX10_checkOf_28 : decode cX10_checkOf 28 = .ok (.iinc 3 1, 3) := by decide +kernel
theorem dX10_checkOf_31 : decode cX10_checkOf 31 = .ok (.goto (-26), 3) := by decide +kernel
theorem dX10_checkOf_34 : decode cX10_checkOf 34 = .ok (.iload_n 2, 1) := by decide +kernel
theorem dX10_checkOf_35 : decode cX10_checkOf 35 = .ok (.ireturn, 1) := by decide +kernel
