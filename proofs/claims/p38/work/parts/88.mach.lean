theorem dX4_begin_0 : decode cX4_begin 0 = .ok (.aload_n 0, 1) := by decide +kernel
theorem dX4_begin_1 : decode cX4_begin 1 = .ok (.iconst 0, 1) := by decide +kernel
theorem dX4_begin_2 : decode cX4_begin 2 = .ok (.putfield 18, 3) := by decide +kernel
theorem dX4_begin_5 : decode cX4_begin 5 = .ok (.aload_n 0, 1) := by decide +kernel
theorem dX4_begin_6 : decode cX4_begin 6 = .ok (.iconst 0, 1) := by decide +kernel
theorem dX4_begin_7 : decode cX4_begin 7 = .ok (.putfield 22, 3) := by decide +kernel
theorem dX4_begin_10 : decode cX4_begin 10 = .ok (.aload_n 0, 1) := by decide +kernel
theorem dX4_begin_11 : decode cX4_begin 11 = .ok (.iconst 0, 1) := by decide +kernel
theorem dX4_begin_12 : decode cX4_begin 12 = .ok (.putfield 25, 3) := by decide +kernel
theorem dX4_begin_15 : decode cX4_begin 15 = .ok (.aload_n 0, 1) := by decide +kernel
theorem dX4_begin_16 : decode cX4_begin 16 = .ok (.iconst 0, 1) := by decide +kernel
theorem dX4_begin_17 : decode cX4_begin 17 = .ok (.putfield 28, 3) := by decide +kernel
theorem dX4_begin_20 : decode cX4_begin 20 = .ok (.aload_n 0, 1) := by decide +kernel
theorem dX4_begin_21 : decode cX4_begin 21 = .ok (.iconst 0, 1) := by decide +kernel
theorem dX4_begin_22 : decode cX4_begin 22 = .ok (.putfield 32, 3) := by decide +kernel
theorem dX4_begin_25 : decode cX4_begin 25 = .ok (.aload_n 0, 1) := by decide +kernel
theorem dX4_begin_26 : decode cX4_begin 26 = .ok (.iconst 0, 1) := by decide +kernel
theorem dX4_begin_27 : decode cX4_begin 27 = .ok (.putfield 35, 3) := by decide +kernel
theorem dX4_begin_30 : decode cX4_begin 30 = .ok (.return_, 1) := by decide +kernel
theorem dX4_push_0 : decode cX4_push 0 = .ok (.aload_n 0, 1) := by decide +kernel
theorem dX4_push_1 : decode cX4_push 1 = .ok (.getfield 35, 3) := by decide +kernel
theorem dX4_push_4 : decode cX4_push 4 = .ok (.bipush 64, 2) := by decide +kernel
theorem dX4_push_6 : decode cX4_push 6 = .ok (.if_icmp .ge 23, 3) := by decide +kernel
theorem dX4_push_9 : decode cX4_push 9 = .ok (.aload_n 0, 1) := by decide +kernel
theorem dX4_push_10 : decode cX4_push 10 = .ok (.getfield 15, 3) := by decide +kernel
theorem dX4_push_13 : decode cX4_push 13 = .ok (.aload_n 0, 1) := by decide +kernel
theorem dX4_push_14 : decode cX4_push 14 = .ok (.getfield 35, 3) := by decide +kernel
theorem dX4_push_17 : decode cX4_push 17 = .ok (.iload_n 1, 1) := by decide +kernel
theorem dX4_push_18 : decode cX4_push 18 = .ok (.iastore, 1) := by decide +kernel
theorem dX4_push_19 : decode cX4_push 19 = .ok (.aload_n 0, 1) := by decide +kernel
theorem dX4_push_20 : decode cX4_push 20 = .ok (.dup, 1) := by decide +kernel
theorem dX4_push_21 : decode cX4_push 21 = .ok (.getfield 35, 3) := by decide +kernel
theorem dX4_push_24 : decode cX4_push 24 = .ok (.iconst 1, 1) := by decide +kernel
theorem dX4_push_25 : decode cX4_push 25 = .ok (.iadd, 1) := by decide +kernel
theorem dX4_push_26 : decode cX4_push 26 = .ok (.putfield 35, 3) := by decide +kernel
theorem dX4_push_29 : decode cX4_push 29 = .ok (.return_, 1) := by decide +kernel
theorem dX4_pop_0 : decode cX4_pop 0 = .ok (.aload_n 0, 1) := by decide +kernel
theorem dX4_pop_1 : decode cX4_pop 1 = .ok (.getfield 35, 3) := by decide +kernel
theorem dX4_pop_4 : decode cX4_pop 4 = .ok (.ifCond .ne 5, 3) := by decide +kernel
theorem dX4_pop_7 : decode cX4_pop 7 = .ok (.iconst 0, 1) := by decide +kernel
theorem dX4_pop_8 : decode cX4_pop 8 = .ok (.ireturn, 1) := by decide +kernel
theorem dX4_pop_9 : decode cX4_pop 9 = .ok (.aload_n 0, 1) := by decide +kernel
theorem dX4_pop_10 : decode cX4_pop 10 = .ok (.dup, 1) := by decide +kernel
theorem dX4_pop_11 : decode cX4_pop 11 = .ok (.getfield 35, 3) := by decide +kernel
theorem dX4_pop_14 : decode cX4_pop 14 = .ok (.iconst 1, 1) := by decide +kernel
theorem dX4_pop_15 : decode cX4_pop 15 = .ok (.isub, 1) := by decide +kernel
theorem dX4_pop_16 : decode cX4_pop 16 = .ok (.putfield 35, 3) := by decide +kernel
theorem dX4_pop_19 : decode cX4_pop 19 = .ok (.aload_n 0, 1) := by decide +kernel
theorem dX4_pop_20 : decode cX4_pop 20 = .ok (.getfield 15, 3) := by decide +kernel
theorem dX4_pop_23 : decode cX4_pop 23 = .ok (.aload_n 0, 1) := by decide +kernel
theorem dX4_pop_24 : decode cX4_pop 24 = .ok (.getfield 35, 3) := by decide +kernel
theorem dX4_pop_27 : decode cX4_pop 27 = .ok (.iaload, 1) := by decide +kernel
theorem dX4_pop_28 : decode cX4_pop 28 = .ok (.ireturn, 1) := by decide +kernel
theorem dX4_step_0 : decode cX4_step 0 = .ok (.aload_n 0, 1) := by decide +kernel
theorem dX4_step_1 : decode cX4_step 1 = .ok (.getfield 18, 3) := by decide +kernel
theorem dX4_step_4 : decode cX4_step 4 = .ok (.sipush 300, 3) := by decide +kernel
theorem dX4_step_7 : decode cX4_step 7 = .ok (.if_icmp .lt 10, 3) := by decide +kernel
theorem dX4_step_10 : decode cX4_step 10 = .ok (.aload_n 0, 1) := by decide +kernel
theorem dX4_step_11 : decode cX4_step 11 = .ok (.iconst 1, 1) := by decide +kernel
theorem dX4_step_12 : decode cX4_step 12 = .ok (.putfield 28, 3) := by decide +kernel
theorem dX4_step_15 : decode cX4_step 15 = .ok (.iconst 0, 1) := by decide +kernel
theorem dX4_step_16 : decode cX4_step 16 = .ok (.ireturn, 1) := by decide +kernel
theorem dX4_step_17 : decode cX4_step 17 = .ok (.aload_n 0, 1) := by decide +kernel
theorem dX4_step_18 : decode cX4_step 18 = .ok (.dup, 1) := by decide +kernel
theorem dX4_step_19 : decode cX4_step 19 = .ok (.getfield 18, 3) := by decide +kernel
theorem dX4_step_22 : decode cX4_step 22 = .ok (.iconst 1, 1) := by decide +kernel
theorem dX4_step_23 : decode cX4_step 23 = .ok (.iadd, 1) := by decide +kernel
theorem dX4_step_24 : decode cX4_step 24 = .ok (.putfield 18, 3) := by decide +kernel
theorem dX4_step_27 : decode cX4_step 27 = .ok (.iconst 1, 1) := by decide +kernel
theorem dX4_step_28 : decode cX4_step 28 = .ok (.ireturn, 1) := by decide +kernel
theorem dX4_beginRounds_0 : decode cX4_beginRounds 0 = .ok (.aload_n 1, 1) := by decide +kernel
theorem dX4_beginRounds_1 : decode cX4_beginRounds 1 = .ok (.getfield 47, 3) := by decide +kernel
theorem dX4_beginRounds_4 : decode cX4_beginRounds 4 = .ok (.iload_n 2, 1) := by decide +kernel
theorem dX4_beginRounds_5 : decode cX4_beginRounds 5 = .ok (.iaload, 1) := by decide +kernel
theorem dX4_beginRounds_6 : decode cX4_beginRounds 6 = .ok (.ifCond .ne 12, 3) := by decide +kernel
theorem dX4_beginRounds_9 : decode cX4_beginRounds 9 = .ok (.aload_n 1, 1) := by decide +kernel
theorem dX4_beginRounds_10 : decode cX4_beginRounds 10 = .ok (.getfield 58, 3) := by decide +kernel
theorem dX4_beginRounds_13 : decode cX4_beginRounds 13 = .ok (.iload_n 2, 1) := by decide +kernel
theorem dX4_beginRounds_14 : decode cX4_beginRounds 14 = .ok (.iaload, 1) := by decide +kernel
theorem dX4_beginRounds_15 : decode cX4_beginRounds 15 = .ok (.iconst 1, 1) := by decide +kernel
theorem dX4_beginRounds_16 : decode cX4_beginRounds 16 = .ok (.iadd, 1) := by decide +kernel
theorem dX4_beginRounds_17 : decode cX4_beginRounds 17 = .ok (.ireturn, 1) := by decide +kernel
theorem dX4_beginRounds_18 : decode cX4_beginRounds 18 = .ok (.aload_n 0, 1) := by decide +kernel
theorem dX4_beginRounds_19 : decode cX4_beginRounds 19 = .ok (.getfield 32, 3) := by decide +kernel
theorem dX4_beginRounds_22 : decode cX4_beginRounds 22 = .ok (.iconst 5, 1) := by decide +kernel
theorem dX4_beginRounds_23 : decode cX4_beginRounds 23 = .ok (.if_icmp .ge 30, 3) := by decide +kernel
theorem dX4_beginRounds_26 : decode cX4_beginRounds 26 = .ok (.aload_n 0, 1) := by decide +kernel
theorem dX4_beginRounds_27 : decode cX4_beginRounds 27 = .ok (.invokevirtual 75, 3) := by decide +kernel
theorem dX4_beginRounds_30 : decode cX4_beginRounds 30 = .ok (.ifCond .eq 23, 3) := by decide +kernel
theorem dX4_beginRounds_33 : decode cX4_beginRounds 33 = .ok (.aload_n 0, 1) := by decide +kernel
theorem dX4_beginRounds_34 : decode cX4_beginRounds 34 = .ok (.getfield 9, 3) := by decide +kernel
theorem dX4_beginRounds_37 : decode cX4_beginRounds 37 = .ok (.aload_n 0, 1) := by decide +kernel
theorem dX4_beginRounds_38 : decode cX4_beginRounds 38 = .ok (.getfield 32, 3) := by decide +kernel
theorem dX4_beginRounds_41 : decode cX4_beginRounds 41 = .ok (.iconst 0, 1) := by decide +kernel
theorem dX4_beginRounds_42 : decode cX4_beginRounds 42 = .ok (.iastore, 1) := by decide +kernel
theorem dX4_beginRounds_43 : decode cX4_beginRounds 43 = .ok (.aload_n 0, 1) := by decide +kernel
theorem dX4_beginRounds_44 : decode cX4_beginRounds 44 = .ok (.dup, 1) := by decide +kernel
theorem dX4_beginRounds_45 : decode cX4_beginRounds 45 = .ok (.getfield 32, 3) := by decide +kernel
theorem dX4_beginRounds_48 : decode cX4_beginRounds 48 = .ok (.iconst 1, 1) := by decide +kernel
theorem dX4_beginRounds_49 : decode cX4_beginRounds 49 = .ok (.iadd, 1) := by decide +kernel
theorem dX4_beginRounds_50 : decode cX4_beginRounds 50 = .ok (.putfield 32, 3) := by decide +kernel
theorem dX4_beginRounds_53 : decode cX4_beginRounds 53 = .ok (.iload_n 2, 1) := by decide +kernel
theorem dX4_beginRounds_54 : decode cX4_beginRounds 54 = .ok (.iconst 1, 1) := by decide +kernel
theorem dX4_beginRounds_55 : decode cX4_beginRounds 55 = .ok (.iadd, 1) := by decide +kernel
theorem dX4_beginRounds_56 : decode cX4_beginRounds 56 = .ok (.ireturn, 1) := by decide +kernel
theorem dX4_goRound_0 : decode cX4_goRound 0 = .ok (.aload_n 1, 1) := by decide +kernel
theorem dX4_goRound_1 : decode cX4_goRound 1 = .ok (.getfield 58, 3) := by decide +kernel
theorem dX4_goRound_4 : decode cX4_goRound 4 = .ok (.iload_n 2, 1) := by decide +kernel
theorem dX4_goRound_5 : decode cX4_goRound 5 = .ok (.iaload, 1) := by decide +kernel
theorem dX4_goRound_6 : decode cX4_goRound 6 = .ok (.istore_n 3, 1) := by decide +kernel
theorem dX4_goRound_7 : decode cX4_goRound 7 = .ok (.aload_n 0, 1) := by decide +kernel
theorem dX4_goRound_8 : decode cX4_goRound 8 = .ok (.getfield 32, 3) := by decide +kernel
theorem dX4_goRound_11 : decode cX4_goRound 11 = .ok (.ifCond .eq 11, 3) := by decide +kernel
theorem dX4_goRound_14 : decode cX4_goRound 14 = .ok (.aload_n 1, 1) := by decide +kernel
theorem dX4_goRound_15 : decode cX4_goRound 15 = .ok (.iload_n 3, 1) := by decide +kernel
theorem dX4_goRound_16 : decode cX4_goRound 16 = .ok (.invokevirtual 79, 3) := by decide +kernel
theorem dX4_goRound_19 : decode cX4_goRound 19 = .ok (.ifCond .ne 7, 3) := by decide +kernel
theorem dX4_goRound_22 : decode cX4_goRound 22 = .ok (.iload_n 2, 1) := by decide +kernel
theorem dX4_goRound_23 : decode cX4_goRound 23 = .ok (.iconst 1, 1) := by decide +kernel
theorem dX4_goRound_24 : decode cX4_goRound 24 = .ok (.iadd, 1) := by decide +kernel
theorem dX4_goRound_25 : decode cX4_goRound 25 = .ok (.ireturn, 1) := by decide +kernel
theorem dX4_goRound_26 : decode cX4_goRound 26 = .ok (.aload_n 0, 1) := by decide +kernel
theorem dX4_goRound_27 : decode cX4_goRound 27 = .ok (.getfield 9, 3) := by decide +kernel
theorem dX4_goRound_30 : decode cX4_goRound 30 = .ok (.aload_n 0, 1) := by decide +kernel
theorem dX4_goRound_31 : decode cX4_goRound 31 = .ok (.getfield 32, 3) := by decide +kernel
theorem dX4_goRound_34 : decode cX4_goRound 34 = .ok (.iconst 1, 1) := by decide +kernel
theorem dX4_goRound_35 : decode cX4_goRound 35 = .ok (.isub, 1) := by decide +kernel
theorem dX4_goRound_36 : decode cX4_goRound 36 = .ok (.iaload, 1) := by decide +kernel
theorem dX4_goRound_37 : decode cX4_goRound 37 = .ok (.iconst 1, 1) := by decide +kernel
theorem dX4_goRound_38 : decode cX4_goRound 38 = .ok (.iadd, 1) := by decide +kernel
theorem dX4_goRound_39 : decode cX4_goRound 39 = .ok (.aload_n 1, 1) := by decide +kernel
theorem dX4_goRound_40 : decode cX4_goRound 40 = .ok (.getfield 47, 3) := by decide +kernel
theorem dX4_goRound_43 : decode cX4_goRound 43 = .ok (.iload_n 3, 1) := by decide +kernel
theorem dX4_goRound_44 : decode cX4_goRound 44 = .ok (.iaload, 1) := by decide +kernel
theorem dX4_goRound_45 : decode cX4_goRound 45 = .ok (.if_icmp .lt 17, 3) := by decide +kernel
theorem dX4_goRound_48 : decode cX4_goRound 48 = .ok (.aload_n 0, 1) := by decide +kernel
theorem dX4_goRound_49 : decode cX4_goRound 49 = .ok (.dup, 1) := by decide +kernel
theorem dX4_goRound_50 : decode cX4_goRound 50 = .ok (.getfield 32, 3) := by decide +kernel
theorem dX4_goRound_53 : decode cX4_goRound 53 = .ok (.iconst 1, 1) := by decide +kernel
theorem dX4_goRound_54 : decode cX4_goRound 54 = .ok (.isub, 1) := by decide +kernel
theorem dX4_goRound_55 : decode cX4_goRound 55 = .ok (.putfield 32, 3) := by decide +kernel
theorem dX4_goRound_58 : decode cX4_goRound 58 = .ok (.iload_n 2, 1) := by decide +kernel
theorem dX4_goRound_59 : decode cX4_goRound 59 = .ok (.iconst 1, 1) := by decide +kernel
theorem dX4_goRound_60 : decode cX4_goRound 60 = .ok (.iadd, 1) := by decide +kernel
theorem dX4_goRound_61 : decode cX4_goRound 61 = .ok (.ireturn, 1) := by decide +kernel
theorem dX4_goRound_62 : decode cX4_goRound 62 = .ok (.aload_n 0, 1) := by decide +kernel
theorem dX4_goRound_63 : decode cX4_goRound 63 = .ok (.invokevirtual 75, 3) := by decide +kernel
theorem dX4_goRound_66 : decode cX4_goRound 66 = .ok (.ifCond .eq 18, 3) := by decide +kernel
theorem dX4_goRound_69 : decode cX4_goRound 69 = .ok (.aload_n 0, 1) := by decide +kernel
theorem dX4_goRound_70 : decode cX4_goRound 70 = .ok (.getfield 9, 3) := by decide +kernel
theorem dX4_goRound_73 : decode cX4_goRound 73 = .ok (.aload_n 0, 1) := by decide +kernel
theorem dX4_goRound_74 : decode cX4_goRound 74 = .ok (.getfield 32, 3) := by decide +kernel
theorem dX4_goRound_77 : decode cX4_goRound 77 = .ok (.iconst 1, 1) := by decide +kernel
theorem dX4_goRound_78 : decode cX4_goRound 78 = .ok (.isub, 1) := by decide +kernel
theorem dX4_goRound_79 : decode cX4_goRound 79 = .ok (.dup2, 1) := by decide +kernel
theorem dX4_goRound_80 : decode cX4_goRound 80 = .ok (.iaload, 1) := by decide +kernel
theorem dX4_goRound_81 : decode cX4_goRound 81 = .ok (.iconst 1, 1) := by decide +kernel
theorem dX4_goRound_82 : decode cX4_goRound 82 = .ok (.iadd, 1) := by decide +kernel
theorem dX4_goRound_83 : decode cX4_goRound 83 = .ok (.iastore, 1) := by decide +kernel
theorem dX4_goRound_84 : decode cX4_goRound 84 = .ok (.iload_n 3, 1) := by decide +kernel
theorem dX4_goRound_85 : decode cX4_goRound 85 = .ok (.iconst 1, 1) := by decide +kernel
theorem dX4_goRound_86 : decode cX4_goRound 86 = .ok (.iadd, 1) := by decide +kernel
theorem dX4_goRound_87 : decode cX4_goRound 87 = .ok (.ireturn, 1) := by decide +kernel
theorem dX4_calculate_0 : decode cX4_calculate 0 = .ok (.aload_n 0, 1) := by decide +kernel
theorem dX4_calculate_1 : decode cX4_calculate 1 = .ok (.invokevirtual 54, 3) := by decide +kernel
theorem dX4_calculate_4 : decode cX4_calculate 4 = .ok (.istore_n 2, 1) := by decide +kernel
theorem dX4_calculate_5 : decode cX4_calculate 5 = .ok (.aload_n 0, 1) := by decide +kernel
theorem dX4_calculate_6 : decode cX4_calculate 6 = .ok (.invokevirtual 54, 3) := by decide +kernel
theorem dX4_calculate_9 : decode cX4_calculate 9 = .ok (.istore_n 3, 1) := by decide +kernel
theorem dX4_calculate_10 : decode cX4_calculate 10 = .ok (.iload_n 1, 1) := by decide +kernel
theorem dX4_calculate_11 : decode cX4_calculate 11 = .ok (.tableswitch 85 42 47 #[57, 37, 85, 47, 85, 67], 37) := by decide +kernel
theorem dX4_calculate_48 : decode cX4_calculate 48 = .ok (.aload_n 0, 1) := by decide +kernel
theorem dX4_calculate_49 : decode cX4_calculate 49 = .ok (.iload_n 3, 1) := by decide +kernel
theorem dX4_calculate_50 : decode cX4_calculate 50 = .ok (.iload_n 2, 1) := by decide +kernel
theorem dX4_calculate_51 : decode cX4_calculate 51 = .ok (.iadd, 1) := by decide +kernel
theorem dX4_calculate_52 : decode cX4_calculate 52 = .ok (.invokevirtual 50, 3) := by decide +kernel
theorem dX4_calculate_55 : decode cX4_calculate 55 = .ok (.goto 56, 3) := by decide +kernel
theorem dX4_calculate_58 : decode cX4_calculate 58 = .ok (.aload_n 0, 1) := by decide +kernel
theorem dX4_calculate_59 : decode cX4_calculate 59 = .ok (.iload_n 3, 1) := by decide +kernel
theorem dX4_calculate_60 : decode cX4_calculate 60 = .ok (.iload_n 2, 1) := by decide +kernel
theorem dX4_calculate_61 : decode cX4_calculate 61 = .ok (.isub, 1) := by decide +kernel
theorem dX4_calculate_62 : decode cX4_calculate 62 = .ok (.invokevirtual 50, 3) := by decide +kernel
theorem dX4_calculate_65 : decode cX4_calculate 65 = .ok (.goto 46, 3) := by decide +kernel
theorem dX4_calculate_68 : decode cX4_calculate 68 = .ok (.aload_n 0, 1) := by decide +kernel
theorem dX4_calculate_69 : decode cX4_calculate 69 = .ok (.iload_n 3, 1) := by decide +kernel
theorem dX4_calculate_70 : decode cX4_calculate 70 = .ok (.iload_n 2, 1) := by decide +kernel
theorem dX4_calculate_71 : decode cX4_calculate 71 = .ok (.imul, 1) := by decide +kernel
theorem dX4_calculate_72 : decode cX4_calculate 72 = .ok (.invokevirtual 50, 3) := by decide +kernel
theorem dX4_calculate_75 : decode cX4_calculate 75 = .ok (.goto 36, 3) := by decide +kernel
theorem dX4_calculate_78 : decode cX4_calculate 78 = .ok (.aload_n 0, 1) := by decide +kernel
theorem dX4_calculate_79 : decode cX4_calculate 79 = .ok (.iload_n 2, 1) := by decide +kernel
theorem dX4_calculate_80 : decode cX4_calculate 80 = .ok (.ifCond .ne 7, 3) := by decide +kernel
theorem dX4_calculate_83 : decode cX4_calculate 83 = .ok (.iconst 0, 1) := by decide +kernel
theorem dX4_calculate_84 : decode cX4_calculate 84 = .ok (.goto 6, 3) := by decide +kernel
theorem dX4_calculate_87 : decode cX4_calculate 87 = .ok (.iload_n 3, 1) := by decide +kernel
theorem dX4_calculate_88 : decode cX4_calculate 88 = .ok (.iload_n 2, 1) := by decide +kernel
theorem dX4_calculate_89 : decode cX4_calculate 89 = .ok (.idiv, 1) := by decide +kernel
theorem dX4_calculate_90 : decode cX4_calculate 90 = .ok (.invokevirtual 50, 3) := by decide +kernel
theorem dX4_calculate_93 : decode cX4_calculate 93 = .ok (.goto 18, 3) := by decide +kernel
theorem dX4_calculate_96 : decode cX4_calculate 96 = .ok (.aload_n 0, 1) := by decide +kernel
theorem dX4_calculate_97 : decode cX4_calculate 97 = .ok (.iload_n 2, 1) := by decide +kernel
theorem dX4_calculate_98 : decode cX4_calculate 98 = .ok (.ifCond .ne 7, 3) := by decide +kernel
theorem dX4_calculate_101 : decode cX4_calculate 101 = .ok (.iconst 0, 1) := by decide +kernel
theorem dX4_calculate_102 : decode cX4_calculate 102 = .ok (.goto 6, 3) := by decide +kernel
theorem dX4_calculate_105 : decode cX4_calculate 105 = .ok (.iload_n 3, 1) := by decide +kernel
theorem dX4_calculate_106 : decode cX4_calculate 106 = .ok (.iload_n 2, 1) := by decide +kernel
theorem dX4_calculate_107 : decode cX4_calculate 107 = .ok (.irem, 1) := by decide +kernel
theorem dX4_calculate_108 : decode cX4_calculate 108 = .ok (.invokevirtual 50, 3) := by decide +kernel
theorem dX4_calculate_111 : decode cX4_calculate 111 = .ok (.return_, 1) := by decide +kernel
theorem dX4_act_0 : decode cX4_act 0 = .ok (.aload_n 0, 1) := by decide +kernel
theorem dX4_act_1 : decode cX4_act 1 = .ok (.invokevirtual 75, 3) := by decide +kernel
theorem dX4_act_4 : decode cX4_act 4 = .ok (.ifCond .ne 4, 3) := by decide +kernel
theorem dX4_act_7 : decode cX4_act 7 = .ok (.return_, 1) := by decide +kernel
theorem dX4_act_8 : decode cX4_act 8 = .ok (.iload_n 1, 1) := by decide +kernel
theorem dX4_act_9 : decode cX4_act 9 = .ok (.iconst 3, 1) := by decide +kernel
theorem dX4_act_10 : decode cX4_act 10 = .ok (.if_icmp .ne 10, 3) := by decide +kernel
theorem dX4_act_13 : decode cX4_act 13 = .ok (.aload_n 0, 1) := by decide +kernel
theorem dX4_act_14 : decode cX4_act 14 = .ok (.invokevirtual 54, 3) := by decide +kernel
theorem dX4_act_17 : decode cX4_act 17 = .ok (.goto 4, 3) := by decide +kernel
theorem dX4_act_20 : decode cX4_act 20 = .ok (.iconst 0, 1) := by decide +kernel
theorem dX4_act_21 : decode cX4_act 21 = .ok (.istore_n 3, 1) := by decide +kernel
theorem dX4_act_22 : decode cX4_act 22 = .ok (.aload_n 0, 1) := by decide +kernel
theorem dX4_act_23 : decode cX4_act 23 = .ok (.invokevirtual 54, 3) := by decide +kernel
theorem dX4_act_26 : decode cX4_act 26 = .ok (.istore 4, 2) := by decide +kernel
theorem dX4_act_28 : decode cX4_act 28 = .ok (.iload_n 1, 1) := by decide +kernel
theorem dX4_act_29 : decode cX4_act 29 = .ok (.bipush 7, 2) := by decide +kernel
theorem dX4_act_31 : decode cX4_act 31 = .ok (.if_icmp .ne 12, 3) := by decide +kernel
theorem dX4_act_34 : decode cX4_act 34 = .ok (.aload_n 0, 1) := by decide +kernel
theorem dX4_act_35 : decode cX4_act 35 = .ok (.iload 4, 2) := by decide +kernel
theorem dX4_act_37 : decode cX4_act 37 = .ok (.putfield 25, 3) := by decide +kernel
theorem dX4_act_40 : decode cX4_act 40 = .ok (.goto 99, 3) := by decide +kernel
theorem dX4_act_43 : decode cX4_act 43 = .ok (.iload_n 1, 1) := by decide +kernel
theorem dX4_act_44 : decode cX4_act 44 = .ok (.bipush 6, 2) := by decide +kernel
theorem dX4_act_46 : decode cX4_act 46 = .ok (.if_icmp .ne 13, 3) := by decide +kernel
theorem dX4_act_49 : decode cX4_act 49 = .ok (.aload_n 0, 1) := by decide +kernel
theorem dX4_act_50 : decode cX4_act 50 = .ok (.iload 4, 2) := by decide +kernel
theorem dX4_act_52 : decode cX4_act 52 = .ok (.aload_n 2, 1) := by decide +kernel
theorem dX4_act_53 : decode cX4_act 53 = .ok (.invokevirtual 83, 3) := by decide +kernel
theorem dX4_act_56 : decode cX4_act 56 = .ok (.goto 83, 3) := by decide +kernel
theorem dX4_act_59 : decode cX4_act 59 = .ok (.iload 4, 2) := by decide +kernel
theorem dX4_act_61 : decode cX4_act 61 = .ok (.invokestatic 86, 3) := by decide +kernel
theorem dX4_act_64 : decode cX4_act 64 = .ok (.ifCond .eq 17, 3) := by decide +kernel
theorem dX4_act_67 : decode cX4_act 67 = .ok (.iload_n 1, 1) := by decide +kernel
theorem dX4_act_68 : decode cX4_act 68 = .ok (.iconst 3, 1) := by decide +kernel
theorem dX4_act_69 : decode cX4_act 69 = .ok (.if_icmp .ne 25, 3) := by decide +kernel
theorem dX4_act_72 : decode cX4_act 72 = .ok (.aload_n 2, 1) := by decide +kernel
theorem dX4_act_73 : decode cX4_act 73 = .ok (.iload 4, 2) := by decide +kernel
theorem dX4_act_75 : decode cX4_act 75 = .ok (.invokevirtual 89, 3) := by decide +kernel
theorem dX4_act_78 : decode cX4_act 78 = .ok (.ifCond .eq 16, 3) := by decide +kernel
theorem dX4_act_81 : decode cX4_act 81 = .ok (.aload_n 0, 1) := by decide +kernel
theorem dX4_act_82 : decode cX4_act 82 = .ok (.dup, 1) := by decide +kernel
theorem dX4_act_83 : decode cX4_act 83 = .ok (.getfield 22, 3) := by decide +kernel
theorem dX4_act_86 : decode cX4_act 86 = .ok (.iconst 1, 1) := by decide +kernel
theorem dX4_act_87 : decode cX4_act 87 = .ok (.iadd, 1) := by decide +kernel
theorem dX4_act_88 : decode cX4_act 88 = .ok (.putfield 22, 3) := by decide +kernel
theorem dX4_act_91 : decode cX4_act 91 = .ok (.goto 48, 3) := by decide +kernel
theorem dX4_act_94 : decode cX4_act 94 = .ok (.aload_n 2, 1) := by decide +kernel
theorem dX4_act_95 : decode cX4_act 95 = .ok (.iload 4, 2) := by decide +kernel
theorem dX4_act_97 : decode cX4_act 97 = .ok (.invokevirtual 94, 3) := by decide +kernel
theorem dX4_act_100 : decode cX4_act 100 = .ok (.iload_n 1, 1) := by decide +kernel
theorem dX4_act_101 : decode cX4_act 101 = .ok (.iconst 3, 1) := by decide +kernel
theorem dX4_act_102 : decode cX4_act 102 = .ok (.if_icmp .ne 13, 3) := by decide +kernel
theorem dX4_act_105 : decode cX4_act 105 = .ok (.aload_n 2, 1) := by decide +kernel
theorem dX4_act_106 : decode cX4_act 106 = .ok (.iload 4, 2) := by decide +kernel
theorem dX4_act_108 : decode cX4_act 108 = .ok (.iload_n 3, 1) := by decide +kernel
theorem dX4_act_109 : decode cX4_act 109 = .ok (.invokevirtual 97, 3) := by decide +kernel
theorem dX4_act_112 : decode cX4_act 112 = .ok (.goto 9, 3) := by decide +kernel
theorem dX4_act_115 : decode cX4_act 115 = .ok (.aload_n 2, 1) := by decide +kernel
theorem dX4_act_116 : decode cX4_act 116 = .ok (.iload 4, 2) := by decide +kernel
theorem dX4_act_118 : decode cX4_act 118 = .ok (.invokevirtual 101, 3) := by decide +kernel
theorem dX4_act_121 : decode cX4_act 121 = .ok (.istore 5, 2) := by decide +kernel
theorem dX4_act_123 : decode cX4_act 123 = .ok (.iload 5, 2) := by decide +kernel
theorem dX4_act_125 : decode cX4_act 125 = .ok (.iconst (-1), 1) := by decide +kernel
theorem dX4_act_126 : decode cX4_act 126 = .ok (.if_icmp .ne 13, 3) := by decide +kernel
theorem dX4_act_129 : decode cX4_act 129 = .ok (.aload_n 0, 1) := by decide +kernel
theorem dX4_act_130 : decode cX4_act 130 = .ok (.dup, 1) := by decide +kernel
theorem dX4_act_131 : decode cX4_act 131 = .ok (.getfield 22, 3) := by decide +kernel
theorem dX4_act_134 : decode cX4_act 134 = .ok (.iconst 1, 1) := by decide +kernel
theorem dX4_act_135 : decode cX4_act 135 = .ok (.iadd, 1) := by decide +kernel
theorem dX4_act_136 : decode cX4_act 136 = .ok (.putfield 22, 3) := by decide +kernel
theorem dX4_act_139 : decode cX4_act 139 = .ok (.return_, 1) := by decide +kernel
theorem dX4_look_0 : decode cX4_look 0 = .ok (.aload_n 0, 1) := by decide +kernel
theorem dX4_look_1 : decode cX4_look 1 = .ok (.iconst (-1), 1) := by decide +kernel
theorem dX4_look_2 : decode cX4_look 2 = .ok (.putfield 25, 3) := by decide +kernel
theorem dX4_look_5 : decode cX4_look 5 = .ok (.iload_n 1, 1) := by decide +kernel
theorem dX4_look_6 : decode cX4_look 6 = .ok (.invokestatic 86, 3) := by decide +kernel
theorem dX4_look_9 : decode cX4_look 9 = .ok (.ifCond .ne 14, 3) := by decide +kernel
theorem dX4_look_12 : decode cX4_look 12 = .ok (.aload_n 0, 1) := by decide +kernel
theorem dX4_look_13 : decode cX4_look 13 = .ok (.dup, 1) := by decide +kernel
theorem dX4_look_14 : decode cX4_look 14 = .ok (.getfield 22, 3) := by decide +kernel
theorem dX4_look_17 : decode cX4_look 17 = .ok (.iconst 1, 1) := by decide +kernel
theorem dX4_look_18 : decode cX4_look 18 = .ok (.iadd, 1) := by decide +kernel
theorem dX4_look_19 : decode cX4_look 19 = .ok (.putfield 22, 3) := by decide +kernel
theorem dX4_look_22 : decode cX4_look 22 = .ok (.return_, 1) := by decide +kernel
theorem dX4_look_23 : decode cX4_look 23 = .ok (.aload_n 2, 1) := by decide +kernel
theorem dX4_look_24 : decode cX4_look 24 = .ok (.iload_n 1, 1) := by decide +kernel
theorem dX4_look_25 : decode cX4_look 25 = .ok (.invokevirtual 94, 3) := by decide +kernel
theorem dX4_look_28 : decode cX4_look 28 = .ok (.aload_n 2, 1) := by decide +kernel
theorem dX4_look_29 : decode cX4_look 29 = .ok (.getfield 105, 3) := by decide +kernel
theorem dX4_look_32 : decode cX4_look 32 = .ok (.iload_n 1, 1) := by decide +kernel
theorem dX4_look_33 : decode cX4_look 33 = .ok (.invokevirtual 109, 3) := by decide +kernel
theorem dX4_look_36 : decode cX4_look 36 = .ok (.istore_n 3, 1) := by decide +kernel
theorem dX4_look_37 : decode cX4_look 37 = .ok (.iload_n 3, 1) := by decide +kernel
theorem dX4_look_38 : decode cX4_look 38 = .ok (.ifCond .lt 15, 3) := by decide +kernel
theorem dX4_look_41 : decode cX4_look 41 = .ok (.aload_n 0, 1) := by decide +kernel
theorem dX4_look_42 : decode cX4_look 42 = .ok (.aload_n 2, 1) := by decide +kernel
theorem dX4_look_43 : decode cX4_look 43 = .ok (.getfield 105, 3) := by decide +kernel
theorem dX4_look_46 : decode cX4_look 46 = .ok (.iload_n 3, 1) := by decide +kernel
theorem dX4_look_47 : decode cX4_look 47 = .ok (.invokevirtual 114, 3) := by decide +kernel
theorem dX4_look_50 : decode cX4_look 50 = .ok (.putfield 25, 3) := by decide +kernel
theorem dX4_look_53 : decode cX4_look 53 = .ok (.return_, 1) := by decide +kernel
/-! the class's machine and its table -/
theorem fulK_f {fk fv : Nat → Int32} {cn kx : Nat} {L : List (Nat × Int32)} (h : KvT fk fv cn L) (hx : kx < 2147483647) (hF : cn < 160 ∨ (rkF fk cn (nI kx) < cn ∧ fk (rkF fk cn (nI kx)) = nI kx)) : fulL L kx = false := by
  unfold fulL
  rcases hF with z | z
  · rw [h.len, decide_eq_false (by omega)]
    rfl
  · rw [(h.fd hx z).2.1]
    exact Bool.and_false _
theorem fulK_t {fk fv : Nat → Int32} {cn kx : Nat} {L : List (Nat × Int32)} (h : KvT fk fv cn L) (hx : kx < 2147483647) (hc : 160 ≤ cn) (hF : ¬ (rkF fk cn (nI kx) < cn ∧ fk (rkF fk cn (nI kx)) = nI kx)) : fulL L kx = true := by
  unfold fulL
  rw [(h.nf hx hF).2.1, h.len, decide_eq_true (show cn = 160 by have := h.1; omega)]
  rfl
def own_k_mbegin : List Cond := [.fieldLink RX4 18 "ClashFree$Machine" "steps" "I", .fieldLink RX4 22 "ClashFree$Machine" "refused" "I", .fieldLink RX4 25 "ClashFree$Machine" "latest" "I", .fieldLink RX4 28 "ClashFree$Machine" "ended" "Z", .fieldLink RX4 32 "ClashFree$Machine" "loops" "I", .fieldLink RX4 35 "ClashFree$Machine" "operandsSize" "I"]
def wp_k_mbegin : List Cond := .code yX4_begin cX4_begin 1 none :: (own_k_mbegin ++ (wsX40 ++ ([] : List Cond)))
set_option maxRecDepth 20000 in
theorem inown_k_mbegin : ∀ w ∈ own_k_mbegin, w ∈ lw_tbl := mem_places [383, 385, 387, 389, 391, 393] (by decide +kernel)
set_option maxRecDepth 20000 in
theorem in_k_mbegin : ∀ w ∈ wp_k_mbegin, w ∈ lw_tbl := List.forall_mem_cons.mpr ⟨List.mem_of_getElem? (i := 1093) (by decide +kernel), List.forall_mem_append.mpr ⟨inown_k_mbegin, List.forall_mem_append.mpr ⟨lwb_X4, fun _ h => absurd h List.not_mem_nil⟩⟩⟩
set_option maxRecDepth 20000 in
theorem good_k_mbegin : wp_k_mbegin.all goodWord = true := by decide +kernel
set_option maxHeartbeats 4000000 in
set_option maxRecDepth 100000 in
theorem k_mbegin (l : Launch) (D : va_G) (sz : Nat) (ow : Nat → Nat) (cI : ClassId) (st : Nat) (rf : Int32) (lt : Int32) (en : Int32) (lo : Nat) (oz : Nat)  : Met l yX4_begin wp_k_mbegin ({ frames := 0, cells := 0, slots := 0, locals := 0 }) (PcWC D [.ref (ow 0)] sz [(ow 0, .inr (4, gMa ow (nI st) rf lt en (nI lo) (nI oz)))] []) (va_Qv (fun (u : (Nat) × (Int32) × (Int32) × (Int32) × (Nat) × (Nat)) => u.1 ≤ 300 ∧ u.2.2.2.2.1 ≤ 5 ∧ u.2.2.2.2.2 ≤ 64 ∧ u.1 = 0 ∧ u.2.2.1 = 0 ∧ u.2.2.2.1 = 0 ∧ u.2.2.2.2.1 = 0 ∧ u.2.2.2.2.2 = 0) (fun (u : (Nat) × (Int32) × (Int32) × (Int32) × (Nat) × (Nat)) t => va_P D vwCl [(ow 0, .inr (4, gMa ow (nI u.1) u.2.1 u.2.2.1 u.2.2.2.1 (nI u.2.2.2.2.1) (nI u.2.2.2.2.2)))] t.heap ∧ va_K D vwCl [] t ∧ va_D (va_A [(ow 0, .inr (4, gMa ow (nI st) rf lt en (nI lo) (nI oz)))] sz) [(ow 0, .inr (4, gMa ow (nI u.1) u.2.1 u.2.2.1 u.2.2.2.1 (nI u.2.2.2.2.1) (nI u.2.2.2.2.2)))]) (va_A [(ow 0, .inr (4, gMa ow (nI st) rf lt en (nI lo) (nI oz)))] sz)) 0 0 (va_A [(ow 0, .inr (4, gMa ow (nI st) rf lt en (nI lo) (nI oz)))] sz) := by
  refine Met.ofW (cc := cX4_begin) (maxL := 1) (ret := none) (by decide) rfl ?_
  intro p e s m args below meth c s₁ B hml hv
  obtain ⟨rfl, hsz, hP, hK, hD0, hN⟩ := hv
  have hx := B.exec
  have hb := B.bytes
  have hr := B.returns
  have hts := atoms_spec (ws := wp_k_mbegin) B.pre
  have hin_X4 : ∀ w ∈ wsX40, w ∈ wp_k_mbegin := fun _ h => (List.mem_cons_of_mem _ (List.mem_append_right _ (List.mem_append_left _ h)))
  have hown : s.vm.findClass RX4 = some m.cls := findClass_of_methodNamed B.named
  have hlocks := B.notSynchronized
  subst hsz
  have hD := hD0.self (sz := s.heap.size)
  generalize hAe : va_A [(ow 0, .inr (4, gMa ow (nI st) rf lt en (nI lo) (nI oz)))] s.heap.size = A at hD ⊢
  have hA : ∀ q : Nat, s.heap.size ≤ q → A q := fun q h => by rw [← hAe]; exact Or.inr h
  have hS : va_S A s.heap s.heap [] := va_S.rf
  have hP : va_P D vwCl [(ow 0, .inr (4, gMa ow (nI st) rf lt en (nI lo) (nI oz)))] s.heap := hP
  have hl := lv_entry ([.ref (ow 0)]) (n := 1) (Nat.le_of_ble_eq_true rfl)
  rw [lg_entry_eq]
  generalize (lg_sl ([.ref (ow 0)]) ++ List.replicate (1 - (lg_sl ([.ref (ow 0)])).length) Slot.unset).toArray = ls at hl ⊢
  have hl : lv_has ls 1 [(0, .ref (ow 0))] := hl
  refine lv_aload_n hx hb dX4_begin_0 rfl (lv_at hl 0 rfl) ?_
  refine lv_iconst (v := 0) hx hb dX4_begin_1 (by decide) ?_
  refine va_put (D := D) (ci := 4) (v := .int 0) (ty := .int) (C := RX4) (T := TX4) (N := 8) hx hb hts hin_X4 tyX4 tyX4_ok nmX4 hown hK hP hD hS 0 rfl rfl 0 (by decide) (hts (.fieldLink RX4 18 "ClashFree$Machine" "steps" "I") (List.mem_of_getElem? (i := 1) rfl)) (fun _ h9 => h9) rfl (by decide +kernel) rfl rfl (Nat.le_of_ble_eq_true rfl) dX4_begin_2 (fun H locs hP hD hS => ?_)
  have hP : va_P D vwCl [(ow 0, .inr (4, gMa ow 0 rf lt en (nI lo) (nI oz)))] H := hP
  have hD : va_D A [(ow 0, .inr (4, gMa ow 0 rf lt en (nI lo) (nI oz)))] := hD
  refine lv_aload_n hx hb dX4_begin_5 rfl (lv_at hl 0 rfl) ?_
  refine lv_iconst (v := 0) hx hb dX4_begin_6 (by decide) ?_
  refine va_put (D := D) (ci := 4) (v := .int 0) (ty := .int) (C := RX4) (T := TX4) (N := 8) hx hb hts hin_X4 tyX4 tyX4_ok nmX4 hown hK hP hD hS 0 rfl rfl 1 (by decide) (hts (.fieldLink RX4 22 "ClashFree$Machine" "refused" "I") (List.mem_of_getElem? (i := 2) rfl)) (fun _ h9 => h9) rfl (by decide +kernel) rfl rfl (Nat.le_of_ble_eq_true rfl) dX4_begin_7 (fun H locs hP hD hS => ?_)
  have hP : va_P D vwCl [(ow 0, .inr (4, gMa ow 0 0 lt en (nI lo) (nI oz)))] H := hP
  have hD : va_D A [(ow 0, .inr (4, gMa ow 0 0 lt en (nI lo) (nI oz)))] := hD
  refine lv_aload_n hx hb dX4_begin_10 rfl (lv_at hl 0 rfl) ?_
  refine lv_iconst (v := 0) hx hb dX4_begin_11 (by decide) ?_
  refine va_put (D := D) (ci := 4) (v := .int 0) (ty := .int) (C := RX4) (T := TX4) (N := 8) hx hb hts hin_X4 tyX4 tyX4_ok nmX4 hown hK hP hD hS 0 rfl rfl 2 (by decide) (hts (.fieldLink RX4 25 "ClashFree$Machine" "latest" "I") (List.mem_of_getElem? (i := 3) rfl)) (fun _ h9 => h9) rfl (by decide +kernel) rfl rfl (Nat.le_of_ble_eq_true rfl) dX4_begin_12 (fun H locs hP hD hS => ?_)
  have hP : va_P D vwCl [(ow 0, .inr (4, gMa ow 0 0 0 en (nI lo) (nI oz)))] H := hP
  have hD : va_D A [(ow 0, .inr (4, gMa ow 0 0 0 en (nI lo) (nI oz)))] := hD
  refine lv_aload_n hx hb dX4_begin_15 rfl (lv_at hl 0 rfl) ?_
  refine lv_iconst (v := 0) hx hb dX4_begin_16 (by decide) ?_
  refine va_put (D := D) (ci := 4) (v := .int 0) (ty := .boolean) (C := RX4) (T := TX4) (N := 8) hx hb hts hin_X4 tyX4 tyX4_ok nmX4 hown hK hP hD hS 0 rfl rfl 3 (by decide) (hts (.fieldLink RX4 28 "ClashFree$Machine" "ended" "Z") (List.mem_of_getElem? (i := 4) rfl)) (fun _ h9 => h9) rfl (by decide +kernel) rfl rfl (Nat.le_of_ble_eq_true rfl) dX4_begin_17 (fun H locs hP hD hS => ?_)
  have hP : va_P D vwCl [(ow 0, .inr (4, gMa ow 0 0 0 0 (nI lo) (nI oz)))] H := hP
  have hD : va_D A [(ow 0, .inr (4, gMa ow 0 0 0 0 (nI lo) (nI oz)))] := hD
  refine lv_aload_n hx hb dX4_begin_20 rfl (lv_at hl 0 rfl) ?_
  refine lv_iconst (v := 0) hx hb dX4_begin_21 (by decide) ?_
  refine va_put (D := D) (ci := 4) (v := .int 0) (ty := .int) (C := RX4) (T := TX4) (N := 8) hx hb hts hin_X4 tyX4 tyX4_ok nmX4 hown hK hP hD hS 0 rfl rfl 4 (by decide) (hts (.fieldLink RX4 32 "ClashFree$Machine" "loops" "I") (List.mem_of_getElem? (i := 5) rfl)) (fun _ h9 => h9) rfl (by decide +kernel) rfl rfl (Nat.le_of_ble_eq_true rfl) dX4_begin_22 (fun H locs hP hD hS => ?_)
  have hP : va_P D vwCl [(ow 0, .inr (4, gMa ow 0 0 0 0 0 (nI oz)))] H := hP
  have hD : va_D A [(ow 0, .inr (4, gMa ow 0 0 0 0 0 (nI oz)))] := hD
  refine lv_aload_n hx hb dX4_begin_25 rfl (lv_at hl 0 rfl) ?_
  refine lv_iconst (v := 0) hx hb dX4_begin_26 (by decide) ?_
  refine va_put (D := D) (ci := 4) (v := .int 0) (ty := .int) (C := RX4) (T := TX4) (N := 8) hx hb hts hin_X4 tyX4 tyX4_ok nmX4 hown hK hP hD hS 0 rfl rfl 6 (by decide) (hts (.fieldLink RX4 35 "ClashFree$Machine" "operandsSize" "I") (List.mem_of_getElem? (i := 6) rfl)) (fun _ h9 => h9) rfl (by decide +kernel) rfl rfl (Nat.le_of_ble_eq_true rfl) dX4_begin_27 (fun H locs hP hD hS => ?_)
  have hP : va_P D vwCl [(ow 0, .inr (4, gMa ow 0 0 0 0 0 0))] H := hP
  have hD : va_D A [(ow 0, .inr (4, gMa ow 0 0 0 0 0 0))] := hD
  exact W.vret hx hb hr (fun t ht hW => ⟨⟨(0, 0, 0, 0, 0, 0), rfl, (by (try dsimp only); first | done | exact ⟨by omega, by omega, by omega, rfl, rfl, rfl, rfl, rfl⟩), by rw [ht]; exact hP.sub [0] rfl, va_K.moved hW.alike (hK.sub [] rfl), hD.sub [0] (by decide) rfl⟩, hS.F ht⟩) hS.2.2 dX4_begin_30

def own_k_push : List Cond := [.fieldLink RX4 35 "ClashFree$Machine" "operandsSize" "I", .fieldLink RX4 15 "ClashFree$Machine" "operands" "[I"]
def wp_k_push : List Cond := .code yX4_push cX4_push 2 none :: (own_k_push ++ (wsX40 ++ ([] : List Cond)))
set_option maxRecDepth 20000 in
theorem inown_k_push : ∀ w ∈ own_k_push, w ∈ lw_tbl := mem_places [393, 394] (by decide +kernel)
set_option maxRecDepth 20000 in
theorem in_k_push : ∀ w ∈ wp_k_push, w ∈ lw_tbl := List.forall_mem_cons.mpr ⟨List.mem_of_getElem? (i := 1102) (by decide +kernel), List.forall_mem_append.mpr ⟨inown_k_push, List.forall_mem_append.mpr ⟨lwb_X4, fun _ h => absurd h List.not_mem_nil⟩⟩⟩
set_option maxRecDepth 20000 in
theorem good_k_push : wp_k_push.all goodWord = true := by decide +kernel
set_option maxHeartbeats 4000000 in
set_option maxRecDepth 100000 in
theorem k_push (l : Launch) (D : va_G) (sz : Nat) (ow : Nat → Nat) (cI : ClassId) (st : Nat) (rf : Int32) (lt : Int32) (en : Int32) (lo : Nat) (oz : Nat) (fP : Nat → Int32) (z1 : Int32) (hoz : oz ≤ 64) : Met l yX4_push wp_k_push ({ frames := 0, cells := 0, slots := 0, locals := 0 }) (PcWC D [.ref (ow 0), .int z1] sz [(ow 0, .inr (4, gMa ow (nI st) rf lt en (nI lo) (nI oz))), (ow 2, .inl (cI, 64, .inl fP))] [(cI, .int)]) (va_Qv (fun (u : (Nat) × (Nat → Int32)) => u.1 ≤ 64 ∧ ∀ os, oz = os.length → OsM os fP → u.1 = (pshC os z1).length ∧ OsM (pshC os z1) u.2) (fun (u : (Nat) × (Nat → Int32)) t => va_P D vwCl [(ow 0, .inr (4, gMa ow (nI st) rf lt en (nI lo) (nI u.1))), (ow 2, .inl (cI, 64, .inl u.2))] t.heap ∧ va_K D vwCl [(cI, .int)] t ∧ va_D (va_A [(ow 0, .inr (4, gMa ow (nI st) rf lt en (nI lo) (nI oz))), (ow 2, .inl (cI, 64, .inl fP))] sz) [(ow 0, .inr (4, gMa ow (nI st) rf lt en (nI lo) (nI u.1))), (ow 2, .inl (cI, 64, .inl u.2))]) (va_A [(ow 0, .inr (4, gMa ow (nI st) rf lt en (nI lo) (nI oz))), (ow 2, .inl (cI, 64, .inl fP))] sz)) 0 0 (va_A [(ow 0, .inr (4, gMa ow (nI st) rf lt en (nI lo) (nI oz))), (ow 2, .inl (cI, 64, .inl fP))] sz) := by
  refine Met.ofW (cc := cX4_push) (maxL := 2) (ret := none) (by decide) rfl ?_
  intro p e s m args below meth c s₁ B hml hv
  obtain ⟨rfl, hsz, hP, hK, hD0, hN⟩ := hv
  have hx := B.exec
  have hb := B.bytes
  have hr := B.returns
  have hts := atoms_spec (ws := wp_k_push) B.pre
  have hin_X4 : ∀ w ∈ wsX40, w ∈ wp_k_push := fun _ h => (List.mem_cons_of_mem _ (List.mem_append_right _ (List.mem_append_left _ h)))
  have hown : s.vm.findClass RX4 = some m.cls := findClass_of_methodNamed B.named
  have hlocks := B.notSynchronized
  subst hsz
  have hD := hD0.self (sz := s.heap.size)
  generalize hAe : va_A [(ow 0, .inr (4, gMa ow (nI st) rf lt en (nI lo) (nI oz))), (ow 2, .inl (cI, 64, .inl fP))] s.heap.size = A at hD ⊢
  have hA : ∀ q : Nat, s.heap.size ≤ q → A q := fun q h => by rw [← hAe]; exact Or.inr h
  have hS : va_S A s.heap s.heap [] := va_S.rf
  have hP : va_P D vwCl [(ow 0, .inr (4, gMa ow (nI st) rf lt en (nI lo) (nI oz))), (ow 2, .inl (cI, 64, .inl fP))] s.heap := hP
  have hl := lv_entry ([.ref (ow 0), .int z1]) (n := 2) (Nat.le_of_ble_eq_true rfl)
  rw [lg_entry_eq]
  generalize (lg_sl ([.ref (ow 0), .int z1]) ++ List.replicate (2 - (lg_sl ([.ref (ow 0), .int z1])).length) Slot.unset).toArray = ls at hl ⊢
  have hl : lv_has ls 2 [(0, .ref (ow 0)), (1, .int z1)] := hl
  refine lv_aload_n hx hb dX4_push_0 rfl (lv_at hl 0 rfl) ?_
  refine va_get (D := D) (ci := 4) (v := .int (nI oz)) (C := RX4) (T := TX4) (N := 8) hx hb hts hin_X4 hown hK hP 0 rfl rfl 6 (by decide) (hts (.fieldLink RX4 35 "ClashFree$Machine" "operandsSize" "I") (List.mem_of_getElem? (i := 1) rfl)) (fun _ h9 => h9) rfl dX4_push_1 ?_
  refine lv_bipush (v := 64) hx hb dX4_push_4 (by decide) ?_
  refine lv_icmp_ge (tgt := 29) hx hb dX4_push_6 (by decide) (fun hc1 => ?_) (fun hc1 => ?_)
  ·
    have hlt : 64 ≤ oz := (nI_leI (by omega) (by omega)).mp hc1
    exact W.vret hx hb hr (fun t ht hW => ⟨⟨(oz, fP), rfl, (by (try dsimp only); first | done | exact ⟨by omega, fun os e h => by
        rw [psh_ge (by omega)]
        exact ⟨e, h⟩⟩), by rw [ht]; exact hP.sub [0, 1] rfl, va_K.moved hW.alike (hK.sub [0] rfl), hD.sub [0, 1] (by decide) rfl⟩, hS.F ht⟩) hS.2.2 dX4_push_29
  ·
    have hlt : oz < 64 := by
      rcases Nat.lt_or_ge oz (64) with z | z
      · exact z
      · exact absurd (nI_le z (by omega)) hc1
    refine lv_aload_n hx hb dX4_push_9 rfl (lv_at hl 0 rfl) ?_
    refine va_get (D := D) (ci := 4) (v := .ref (ow 2)) (C := RX4) (T := TX4) (N := 8) hx hb hts hin_X4 hown hK hP 0 rfl rfl 7 (by decide) (hts (.fieldLink RX4 15 "ClashFree$Machine" "operands" "[I") (List.mem_of_getElem? (i := 2) rfl)) (fun _ h9 => h9) rfl dX4_push_10 ?_
    refine lv_aload_n hx hb dX4_push_13 rfl (lv_at hl 0 rfl) ?_
    refine va_get (D := D) (ci := 4) (v := .int (nI oz)) (C := RX4) (T := TX4) (N := 8) hx hb hts hin_X4 hown hK hP 0 rfl rfl 6 (by decide) (hts (.fieldLink RX4 35 "ClashFree$Machine" "operandsSize" "I") (List.mem_of_getElem? (i := 1) rfl)) (fun _ h9 => h9) rfl dX4_push_14 ?_
    refine lv_iload_n hx hb dX4_push_17 rfl (lv_at hl 1 rfl) ?_
    refine va_iast hx hb hK hP hD hS 1 0 rfl rfl (vp_in_nI (by omega) (by decide)) dX4_push_18 (fun H locs hP hD hS => ?_)
    have hP : va_P D vwCl [(ow 0, .inr (4, gMa ow (nI st) rf lt en (nI lo) (nI oz))), (ow 2, .inl (cI, 64, .inl (upd fP (Int32.toNatClampNeg (nI oz)) z1)))] H := hP
    have hD : va_D A [(ow 0, .inr (4, gMa ow (nI st) rf lt en (nI lo) (nI oz))), (ow 2, .inl (cI, 64, .inl (upd fP (Int32.toNatClampNeg (nI oz)) z1)))] := hD
    rw [show (upd fP (Int32.toNatClampNeg (nI oz)) z1) = (upd fP oz z1) from by rw [nI_clamp (by omega)]] at hP hD
    refine lv_aload_n hx hb dX4_push_19 rfl (lv_at hl 0 rfl) ?_
    refine lv_dup hx hb dX4_push_20 rfl ?_
    refine va_get (D := D) (ci := 4) (v := .int (nI oz)) (C := RX4) (T := TX4) (N := 8) hx hb hts hin_X4 hown hK hP 0 rfl rfl 6 (by decide) (hts (.fieldLink RX4 35 "ClashFree$Machine" "operandsSize" "I") (List.mem_of_getElem? (i := 1) rfl)) (fun _ h9 => h9) rfl dX4_push_21 ?_
    refine lv_iconst (v := 1) hx hb dX4_push_24 (by decide) ?_
    refine lv_iadd hx hb dX4_push_25 ?_
    refine lv_topi (fun v2 ev2 => ?_)
    obtain rfl : v2 = nI (oz + 1) := ev2.trans (nI_1 _)
    refine va_put (D := D) (ci := 4) (v := .int (nI (oz + 1))) (ty := .int) (C := RX4) (T := TX4) (N := 8) hx hb hts hin_X4 tyX4 tyX4_ok nmX4 hown hK hP hD hS 0 rfl rfl 6 (by decide) (hts (.fieldLink RX4 35 "ClashFree$Machine" "operandsSize" "I") (List.mem_of_getElem? (i := 1) rfl)) (fun _ h9 => h9) rfl (by decide +kernel) rfl rfl (Nat.le_of_ble_eq_true rfl) dX4_push_26 (fun H locs hP hD hS => ?_)
    have hP : va_P D vwCl [(ow 0, .inr (4, gMa ow (nI st) rf lt en (nI lo) (nI (oz + 1)))), (ow 2, .inl (cI, 64, .inl (upd fP oz z1)))] H := hP
    have hD : va_D A [(ow 0, .inr (4, gMa ow (nI st) rf lt en (nI lo) (nI (oz + 1)))), (ow 2, .inl (cI, 64, .inl (upd fP oz z1)))] := hD
    exact W.vret hx hb hr (fun t ht hW => ⟨⟨((oz + 1), (upd fP oz z1)), rfl, (by (try dsimp only); first | done | exact ⟨by omega, fun os e h => by
        rw [psh_lt (by omega)]
        exact ⟨by rw [List.length_cons]; omega, OsM_psh e h⟩⟩), by rw [ht]; exact hP.sub [0, 1] rfl, va_K.moved hW.alike (hK.sub [0] rfl), hD.sub [0, 1] (by decide) rfl⟩, hS.F ht⟩) hS.2.2 dX4_push_29

def own_k_pop : List Cond := [.fieldLink RX4 35 "ClashFree$Machine" "operandsSize" "I", .fieldLink RX4 15 "ClashFree$Machine" "operands" "[I"]
def wp_k_pop : List Cond := .code yX4_pop cX4_pop 1 (some .int) :: (own_k_pop ++ (wsX40 ++ ([] : List Cond)))
set_option maxRecDepth 20000 in
theorem inown_k_pop : ∀ w ∈ own_k_pop, w ∈ lw_tbl := mem_places [393, 394] (by decide +kernel)
set_option maxRecDepth 20000 in
theorem in_k_pop : ∀ w ∈ wp_k_pop, w ∈ lw_tbl := List.forall_mem_cons.mpr ⟨List.mem_of_getElem? (i := 1106) (by decide +kernel), List.forall_mem_append.mpr ⟨inown_k_pop, List.forall_mem_append.mpr ⟨lwb_X4, fun _ h => absurd h List.not_mem_nil⟩⟩⟩
set_option maxRecDepth 20000 in
theorem good_k_pop : wp_k_pop.all goodWord = true := by decide +kernel
set_option maxHeartbeats 4000000 in
set_option maxRecDepth 100000 in
theorem k_pop (l : Launch) (D : va_G) (sz : Nat) (ow : Nat → Nat) (cI : ClassId) (st : Nat) (rf : Int32) (lt : Int32) (en : Int32) (lo : Nat) (oz : Nat) (fP : Nat → Int32) (hoz : oz ≤ 64) : Met l yX4_pop wp_k_pop ({ frames := 0, cells := 0, slots := 0, locals := 0 }) (PcWC D [.ref (ow 0)] sz [(ow 0, .inr (4, gMa ow (nI st) rf lt en (nI lo) (nI oz))), (ow 2, .inl (cI, 64, .inl fP))] [(cI, .int)]) (va_Qi (fun (r : Int32) (u : (Nat)) => u ≤ 64 ∧ ∀ os, oz = os.length → OsM os fP → r = os.headD 0 ∧ u = os.tail.length ∧ OsM os.tail fP) (fun (u : (Nat)) t => va_P D vwCl [(ow 0, .inr (4, gMa ow (nI st) rf lt en (nI lo) (nI u))), (ow 2, .inl (cI, 64, .inl fP))] t.heap ∧ va_K D vwCl [(cI, .int)] t ∧ va_D (va_A [(ow 0, .inr (4, gMa ow (nI st) rf lt en (nI lo) (nI oz))), (ow 2, .inl (cI, 64, .inl fP))] sz) [(ow 0, .inr (4, gMa ow (nI st) rf lt en (nI lo) (nI u))), (ow 2, .inl (cI, 64, .inl fP))]) (va_A [(ow 0, .inr (4, gMa ow (nI st) rf lt en (nI lo) (nI oz))), (ow 2, .inl (cI, 64, .inl fP))] sz)) 0 0 (va_A [(ow 0, .inr (4, gMa ow (nI st) rf lt en (nI lo) (nI oz))), (ow 2, .inl (cI, 64, .inl fP))] sz) := by
  refine Met.ofW (cc := cX4_pop) (maxL := 1) (ret := (some .int)) (by decide) rfl ?_
  intro p e s m args below meth c s₁ B hml hv
  obtain ⟨rfl, hsz, hP, hK, hD0, hN⟩ := hv
  have hx := B.exec
  have hb := B.bytes
  have hr := B.returns
  have hts := atoms_spec (ws := wp_k_pop) B.pre
  have hin_X4 : ∀ w ∈ wsX40, w ∈ wp_k_pop := fun _ h => (List.mem_cons_of_mem _ (List.mem_append_right _ (List.mem_append_left _ h)))
  have hown : s.vm.findClass RX4 = some m.cls := findClass_of_methodNamed B.named
  have hlocks := B.notSynchronized
  subst hsz
  have hD := hD0.self (sz := s.heap.size)
  generalize hAe : va_A [(ow 0, .inr (4, gMa ow (nI st) rf lt en (nI lo) (nI oz))), (ow 2, .inl (cI, 64, .inl fP))] s.heap.size = A at hD ⊢
  have hA : ∀ q : Nat, s.heap.size ≤ q → A q := fun q h => by rw [← hAe]; exact Or.inr h
  have hS : va_S A s.heap s.heap [] := va_S.rf
  have hP : va_P D vwCl [(ow 0, .inr (4, gMa ow (nI st) rf lt en (nI lo) (nI oz))), (ow 2, .inl (cI, 64, .inl fP))] s.heap := hP
  have hl := lv_entry ([.ref (ow 0)]) (n := 1) (Nat.le_of_ble_eq_true rfl)
  rw [lg_entry_eq]
  generalize (lg_sl ([.ref (ow 0)]) ++ List.replicate (1 - (lg_sl ([.ref (ow 0)])).length) Slot.unset).toArray = ls at hl ⊢
  have hl : lv_has ls 1 [(0, .ref (ow 0))] := hl
  refine lv_aload_n hx hb dX4_pop_0 rfl (lv_at hl 0 rfl) ?_
  refine va_get (D := D) (ci := 4) (v := .int (nI oz)) (C := RX4) (T := TX4) (N := 8) hx hb hts hin_X4 hown hK hP 0 rfl rfl 6 (by decide) (hts (.fieldLink RX4 35 "ClashFree$Machine" "operandsSize" "I") (List.mem_of_getElem? (i := 1) rfl)) (fun _ h9 => h9) rfl dX4_pop_1 ?_
  refine lv_if_ne (tgt := 9) hx hb dX4_pop_4 (by decide) (fun hc1 => ?_) (fun hc1 => ?_)
  ·
    have hp1 : 1 ≤ oz := by
      rcases Nat.eq_zero_or_pos oz with z | z
      · exact absurd (by rw [z]; first | rfl | decide) hc1
      · exact z
    refine lv_aload_n hx hb dX4_pop_9 rfl (lv_at hl 0 rfl) ?_
    refine lv_dup hx hb dX4_pop_10 rfl ?_
    refine va_get (D := D) (ci := 4) (v := .int (nI oz)) (C := RX4) (T := TX4) (N := 8) hx hb hts hin_X4 hown hK hP 0 rfl rfl 6 (by decide) (hts (.fieldLink RX4 35 "ClashFree$Machine" "operandsSize" "I") (List.mem_of_getElem? (i := 1) rfl)) (fun _ h9 => h9) rfl dX4_pop_11 ?_
    refine lv_iconst (v := 1) hx hb dX4_pop_14 (by decide) ?_
    refine lv_isub hx hb dX4_pop_15 ?_
    refine lv_topi (fun v2 ev2 => ?_)
    obtain rfl : v2 = nI (oz - 1) := ev2.trans (pk_sub (b := 1) (by omega))
    refine va_put (D := D) (ci := 4) (v := .int (nI (oz - 1))) (ty := .int) (C := RX4) (T := TX4) (N := 8) hx hb hts hin_X4 tyX4 tyX4_ok nmX4 hown hK hP hD hS 0 rfl rfl 6 (by decide) (hts (.fieldLink RX4 35 "ClashFree$Machine" "operandsSize" "I") (List.mem_of_getElem? (i := 1) rfl)) (fun _ h9 => h9) rfl (by decide +kernel) rfl rfl (Nat.le_of_ble_eq_true rfl) dX4_pop_16 (fun H locs hP hD hS => ?_)
    have hP : va_P D vwCl [(ow 0, .inr (4, gMa ow (nI st) rf lt en (nI lo) (nI (oz - 1)))), (ow 2, .inl (cI, 64, .inl fP))] H := hP
    have hD : va_D A [(ow 0, .inr (4, gMa ow (nI st) rf lt en (nI lo) (nI (oz - 1)))), (ow 2, .inl (cI, 64, .inl fP))] := hD
    refine lv_aload_n hx hb dX4_pop_19 rfl (lv_at hl 0 rfl) ?_
    refine va_get (D := D) (ci := 4) (v := .ref (ow 2)) (C := RX4) (T := TX4) (N := 8) hx hb hts hin_X4 hown hK hP 0 rfl rfl 7 (by decide) (hts (.fieldLink RX4 15 "ClashFree$Machine" "operands" "[I") (List.mem_of_getElem? (i := 2) rfl)) (fun _ h9 => h9) rfl dX4_pop_20 ?_
    refine lv_aload_n hx hb dX4_pop_23 rfl (lv_at hl 0 rfl) ?_
    refine va_get (D := D) (ci := 4) (v := .int (nI (oz - 1))) (C := RX4) (T := TX4) (N := 8) hx hb hts hin_X4 hown hK hP 0 rfl rfl 6 (by decide) (hts (.fieldLink RX4 35 "ClashFree$Machine" "operandsSize" "I") (List.mem_of_getElem? (i := 1) rfl)) (fun _ h9 => h9) rfl dX4_pop_24 ?_
    refine va_iald hx hb hK hP 1 0 rfl rfl (vp_in_nI (by omega) (by decide)) dX4_pop_27 ?_
    refine lv_topi (fun v3 ev3 => ?_)
    obtain rfl : v3 = fP (oz - 1) := ev3.trans (by rw [nI_clamp (by omega)])
    exact W.iret (v := fP (oz - 1)) hx hb hr (fun t ht hW => ⟨⟨fP (oz - 1), (oz - 1), rfl, ⟨by omega, fun os e h => OsM_pop e h hp1⟩, by rw [ht]; exact hP.sub [0, 1] rfl, va_K.moved hW.alike (hK.sub [0] rfl), hD.sub [0, 1] (by decide) rfl⟩, hS.F ht⟩) hS.2.2 dX4_pop_28
  ·
    have h00 : oz = 0 := (nI_eq (b := 0) (by omega) (by decide)).mp hc1
    refine lv_iconst (v := 0) hx hb dX4_pop_7 (by decide) ?_
    exact W.iret (v := 0) hx hb hr (fun t ht hW => ⟨⟨0, oz, rfl, ⟨by omega, fun os e h => OsM_pop0 e h00⟩, by rw [ht]; exact hP.sub [0, 1] rfl, va_K.moved hW.alike (hK.sub [0] rfl), hD.sub [0, 1] (by decide) rfl⟩, hS.F ht⟩) hS.2.2 dX4_pop_8

def own_k_step : List Cond := [.fieldLink RX4 18 "ClashFree$Machine" "steps" "I", .fieldLink RX4 28 "ClashFree$Machine" "ended" "Z"]
def wp_k_step : List Cond := .code yX4_step cX4_step 1 (some .boolean) :: (own_k_step ++ (wsX40 ++ ([] : List Cond)))
set_option maxRecDepth 20000 in
theorem inown_k_step : ∀ w ∈ own_k_step, w ∈ lw_tbl := mem_places [383, 389] (by decide +kernel)
set_option maxRecDepth 20000 in
theorem in_k_step : ∀ w ∈ wp_k_step, w ∈ lw_tbl := List.forall_mem_cons.mpr ⟨List.mem_of_getElem? (i := 1114) (by decide +kernel), List.forall_mem_append.mpr ⟨inown_k_step, List.forall_mem_append.mpr ⟨lwb_X4, fun _ h => absurd h List.not_mem_nil⟩⟩⟩
set_option maxRecDepth 20000 in
theorem good_k_step : wp_k_step.all goodWord = true := by decide +kernel
set_option maxHeartbeats 4000000 in
set_option maxRecDepth 100000 in
theorem k_step (l : Launch) (D : va_G) (sz : Nat) (ow : Nat → Nat) (cI : ClassId) (st : Nat) (rf : Int32) (lt : Int32) (en : Int32) (lo : Nat) (oz : Nat) (hst : st ≤ 300) : Met l yX4_step wp_k_step ({ frames := 0, cells := 0, slots := 0, locals := 0 }) (PcWC D [.ref (ow 0)] sz [(ow 0, .inr (4, gMa ow (nI st) rf lt en (nI lo) (nI oz)))] []) (va_Qi (fun (r : Int32) (u : (Nat) × (Int32)) => (r = 1 ∧ u.1 ≤ 300 ∧ st < 300 ∧ u.1 = st + 1 ∧ u.2 = en) ∨ (r = 0 ∧ u.1 ≤ 300 ∧ 300 ≤ st ∧ u.1 = st ∧ u.2 = 1)) (fun (u : (Nat) × (Int32)) t => va_P D vwCl [(ow 0, .inr (4, gMa ow (nI u.1) rf lt u.2 (nI lo) (nI oz)))] t.heap ∧ va_K D vwCl [] t ∧ va_D (va_A [(ow 0, .inr (4, gMa ow (nI st) rf lt en (nI lo) (nI oz)))] sz) [(ow 0, .inr (4, gMa ow (nI u.1) rf lt u.2 (nI lo) (nI oz)))]) (va_A [(ow 0, .inr (4, gMa ow (nI st) rf lt en (nI lo) (nI oz)))] sz)) 0 0 (va_A [(ow 0, .inr (4, gMa ow (nI st) rf lt en (nI lo) (nI oz)))] sz) := by
  refine Met.ofW (cc := cX4_step) (maxL := 1) (ret := (some .boolean)) (by decide) rfl ?_
  intro p e s m args below meth c s₁ B hml hv
  obtain ⟨rfl, hsz, hP, hK, hD0, hN⟩ := hv
  have hx := B.exec
  have hb := B.bytes
  have hr := B.returns
  have hts := atoms_spec (ws := wp_k_step) B.pre
  have hin_X4 : ∀ w ∈ wsX40, w ∈ wp_k_step := fun _ h => (List.mem_cons_of_mem _ (List.mem_append_right _ (List.mem_append_left _ h)))
  have hown : s.vm.findClass RX4 = some m.cls := findClass_of_methodNamed B.named
  have hlocks := B.notSynchronized
  subst hsz
  have hD := hD0.self (sz := s.heap.size)
  generalize hAe : va_A [(ow 0, .inr (4, gMa ow (nI st) rf lt en (nI lo) (nI oz)))] s.heap.size = A at hD ⊢
  have hA : ∀ q : Nat, s.heap.size ≤ q → A q := fun q h => by rw [← hAe]; exact Or.inr h
  have hS : va_S A s.heap s.heap [] := va_S.rf
  have hP : va_P D vwCl [(ow 0, .inr (4, gMa ow (nI st) rf lt en (nI lo) (nI oz)))] s.heap := hP
  have hl := lv_entry ([.ref (ow 0)]) (n := 1) (Nat.le_of_ble_eq_true rfl)
  rw [lg_entry_eq]
  generalize (lg_sl ([.ref (ow 0)]) ++ List.replicate (1 - (lg_sl ([.ref (ow 0)])).length) Slot.unset).toArray = ls at hl ⊢
  have hl : lv_has ls 1 [(0, .ref (ow 0))] := hl
  refine lv_aload_n hx hb dX4_step_0 rfl (lv_at hl 0 rfl) ?_
  refine va_get (D := D) (ci := 4) (v := .int (nI st)) (C := RX4) (T := TX4) (N := 8) hx hb hts hin_X4 hown hK hP 0 rfl rfl 0 (by decide) (hts (.fieldLink RX4 18 "ClashFree$Machine" "steps" "I") (List.mem_of_getElem? (i := 1) rfl)) (fun _ h9 => h9) rfl dX4_step_1 ?_
  refine lv_sipush (v := 300) hx hb dX4_step_4 (by decide) ?_
  refine lv_icmp_lt (tgt := 17) hx hb dX4_step_7 (by decide) (fun hc1 => ?_) (fun hc1 => ?_)
  ·
    have hlt : st < 300 := by
      rcases Nat.lt_or_ge st 300 with z | z
      · exact z
      · exact absurd hc1 (Int32.not_lt.mpr (nI_le (a := 300) z (by omega)))
    refine lv_aload_n hx hb dX4_step_17 rfl (lv_at hl 0 rfl) ?_
    refine lv_dup hx hb dX4_step_18 rfl ?_
    refine va_get (D := D) (ci := 4) (v := .int (nI st)) (C := RX4) (T := TX4) (N := 8) hx hb hts hin_X4 hown hK hP 0 rfl rfl 0 (by decide) (hts (.fieldLink RX4 18 "ClashFree$Machine" "steps" "I") (List.mem_of_getElem? (i := 1) rfl)) (fun _ h9 => h9) rfl dX4_step_19 ?_
    refine lv_iconst (v := 1) hx hb dX4_step_22 (by decide) ?_
    refine lv_iadd hx hb dX4_step_23 ?_
    refine lv_topi (fun v2 ev2 => ?_)
    obtain rfl : v2 = nI (st + 1) := ev2.trans (nI_1 _)
    refine va_put (D := D) (ci := 4) (v := .int (nI (st + 1))) (ty := .int) (C := RX4) (T := TX4) (N := 8) hx hb hts hin_X4 tyX4 tyX4_ok nmX4 hown hK hP hD hS 0 rfl rfl 0 (by decide) (hts (.fieldLink RX4 18 "ClashFree$Machine" "steps" "I") (List.mem_of_getElem? (i := 1) rfl)) (fun _ h9 => h9) rfl (by decide +kernel) rfl rfl (Nat.le_of_ble_eq_true rfl) dX4_step_24 (fun H locs hP hD hS => ?_)
    have hP : va_P D vwCl [(ow 0, .inr (4, gMa ow (nI (st + 1)) rf lt en (nI lo) (nI oz)))] H := hP
    have hD : va_D A [(ow 0, .inr (4, gMa ow (nI (st + 1)) rf lt en (nI lo) (nI oz)))] := hD
    refine lv_iconst (v := 1) hx hb dX4_step_27 (by decide) ?_
    exact W.zret (v := 1) hx hb hr rfl (fun t ht hW => ⟨⟨1, ((st + 1), en), rfl, (by (try dsimp only); first | done | exact Or.inl ⟨rfl, by omega, hlt, rfl, rfl⟩), by rw [ht]; exact hP.sub [0] rfl, va_K.moved hW.alike (hK.sub [] rfl), hD.sub [0] (by decide) rfl⟩, hS.F ht⟩) hS.2.2 dX4_step_28
  ·
    have hge : 300 ≤ st := by
      rcases Nat.lt_or_ge st 300 with z | z
      · exact absurd (nI_lt (b := 300) z (by decide)) hc1
      · exact z
    refine lv_aload_n hx hb dX4_step_10 rfl (lv_at hl 0 rfl) ?_
    refine lv_iconst (v := 1) hx hb dX4_step_11 (by decide) ?_
    refine va_put (D := D) (ci := 4) (v := .int 1) (ty := .boolean) (C := RX4) (T := TX4) (N := 8) hx hb hts hin_X4 tyX4 tyX4_ok nmX4 hown hK hP hD hS 0 rfl rfl 3 (by decide) (hts (.fieldLink RX4 28 "ClashFree$Machine" "ended" "Z") (List.mem_of_getElem? (i := 2) rfl)) (fun _ h9 => h9) rfl (by decide +kernel) rfl rfl (Nat.le_of_ble_eq_true rfl) dX4_step_12 (fun H locs hP hD hS => ?_)
    have hP : va_P D vwCl [(ow 0, .inr (4, gMa ow (nI st) rf lt 1 (nI lo) (nI oz)))] H := hP
    have hD : va_D A [(ow 0, .inr (4, gMa ow (nI st) rf lt 1 (nI lo) (nI oz)))] := hD
    refine lv_iconst (v := 0) hx hb dX4_step_15 (by decide) ?_
    exact W.zret (v := 0) hx hb hr rfl (fun t ht hW => ⟨⟨0, (st, 1), rfl, (by (try dsimp only); first | done | exact Or.inr ⟨rfl, by omega, hge, rfl, rfl⟩), by rw [ht]; exact hP.sub [0] rfl, va_K.moved hW.alike (hK.sub [] rfl), hD.sub [0] (by decide) rfl⟩, hS.F ht⟩) hS.2.2 dX4_step_16

def own_k_beginRounds : List Cond := [.fieldLink RX4 47 "ClashFree$Program" "numbers" "[I", .fieldLink RX4 32 "ClashFree$Machine" "loops" "I", .methodLink RX4 75 yX4_step, .instanceMethod yX4_step, .selects RX4 yX4_step yX4_step, .initialized RX4, .fieldLink RX4 9 "ClashFree$Machine" "roundOf" "[I", .fieldLink RX4 58 "ClashFree$Program" "links" "[I"]
def wp_k_beginRounds : List Cond := .code yX4_beginRounds cX4_beginRounds 3 (some .int) :: (own_k_beginRounds ++ (wp_k_step ++ (wsX70 ++ (wsX40 ++ ([] : List Cond)))))
set_option maxRecDepth 20000 in
theorem inown_k_beginRounds : ∀ w ∈ own_k_beginRounds, w ∈ lw_tbl := mem_places [284, 391, 1111, 1113, 29, 114, 392, 286] (by decide +kernel)
set_option maxRecDepth 20000 in
theorem in_k_beginRounds : ∀ w ∈ wp_k_beginRounds, w ∈ lw_tbl := List.forall_mem_cons.mpr ⟨List.mem_of_getElem? (i := 1110) (by decide +kernel), List.forall_mem_append.mpr ⟨inown_k_beginRounds, List.forall_mem_append.mpr ⟨in_k_step, List.forall_mem_append.mpr ⟨lwb_X7, List.forall_mem_append.mpr ⟨lwb_X4, fun _ h => absurd h List.not_mem_nil⟩⟩⟩⟩⟩
set_option maxRecDepth 20000 in
theorem good_k_beginRounds : wp_k_beginRounds.all goodWord = true := by decide +kernel
set_option maxRecDepth 20000 in
theorem g_k_beginRounds_k_step_75 : GoodIn wp_k_beginRounds (wsV RX4 75 RX4 yX4_step wp_k_step) := goodIn_sub (List.forall_mem_append.mpr ⟨List.forall_mem_cons.mpr ⟨(List.mem_of_getElem? (i := 3) rfl), List.forall_mem_cons.mpr ⟨(List.mem_of_getElem? (i := 4) rfl), List.forall_mem_cons.mpr ⟨(List.mem_of_getElem? (i := 5) rfl), List.forall_mem_cons.mpr ⟨(List.mem_of_getElem? (i := 6) rfl), fun _ h => absurd h List.not_mem_nil⟩⟩⟩⟩, (fun _ h => (List.mem_cons_of_mem _ (List.mem_append_right _ (List.mem_append_left _ h))))⟩) (by decide +kernel)
set_option maxHeartbeats 4000000 in
set_option maxRecDepth 100000 in
theorem k_beginRounds (l : Launch) (D : va_G) (sz : Nat) (ow : Nat → Nat) (oq : Nat → Nat) (cI : ClassId) (st : Nat) (rf : Int32) (lt : Int32) (en : Int32) (lo : Nat) (oz : Nat) (fR : Nat → Int32) (pz : Nat) (fN : Nat → Int32) (fL : Nat → Int32) (xa : Nat) (hst : st ≤ 300) (hlo : lo ≤ 5) (hxa : xa < 600) : Met l yX4_beginRounds wp_k_beginRounds ({ frames := 1, cells := 0, slots := 0, locals := 20 }) (PcWC D [.ref (ow 0), .ref (oq 1), .int (nI xa)] sz [(ow 0, .inr (4, gMa ow (nI st) rf lt en (nI lo) (nI oz))), (ow 1, .inl (cI, 5, .inl fR)), (oq 1, .inr (7, [.int (nI pz), .ref (oq 2), .ref (oq 3), .ref (oq 4)])), (oq 3, .inl (cI, 600, .inl fN)), (oq 4, .inl (cI, 600, .inl fL))] [(cI, .int)]) (va_Qi (fun (r : Int32) (u : (Nat) × (Int32) × (Nat) × (Nat → Int32)) => (u.1 ≤ 300 ∧ u.2.2.1 ≤ 5) ∧ ((fN xa = 0 ∧ r = fL xa + 1 ∧ u.1 = st ∧ u.2.1 = en ∧ u.2.2.1 = lo ∧ u.2.2.2 = fR) ∨ (¬ fN xa = 0 ∧ r = nI (xa + 1) ∧ ((lo < 5 ∧ st < 300 ∧ u.1 = st + 1 ∧ u.2.1 = en ∧ u.2.2.1 = lo + 1 ∧ u.2.2.2 = upd fR lo 0) ∨ (lo < 5 ∧ 300 ≤ st ∧ u.1 = st ∧ u.2.1 = 1 ∧ u.2.2.1 = lo ∧ u.2.2.2 = fR) ∨ (5 ≤ lo ∧ u.1 = st ∧ u.2.1 = en ∧ u.2.2.1 = lo ∧ u.2.2.2 = fR))))) (fun (u : (Nat) × (Int32) × (Nat) × (Nat → Int32)) t => va_P D vwCl [(ow 0, .inr (4, gMa ow (nI u.1) rf lt u.2.1 (nI u.2.2.1) (nI oz))), (ow 1, .inl (cI, 5, .inl u.2.2.2)), (oq 1, .inr (7, [.int (nI pz), .ref (oq 2), .ref (oq 3), .ref (oq 4)])), (oq 3, .inl (cI, 600, .inl fN)), (oq 4, .inl (cI, 600, .inl fL))] t.heap ∧ va_K D vwCl [(cI, .int)] t ∧ va_D (va_A [(ow 0, .inr (4, gMa ow (nI st) rf lt en (nI lo) (nI oz))), (ow 1, .inl (cI, 5, .inl fR)), (oq 1, .inr (7, [.int (nI pz), .ref (oq 2), .ref (oq 3), .ref (oq 4)])), (oq 3, .inl (cI, 600, .inl fN)), (oq 4, .inl (cI, 600, .inl fL))] sz) [(ow 0, .inr (4, gMa ow (nI u.1) rf lt u.2.1 (nI u.2.2.1) (nI oz))), (ow 1, .inl (cI, 5, .inl u.2.2.2)), (oq 1, .inr (7, [.int (nI pz), .ref (oq 2), .ref (oq 3), .ref (oq 4)])), (oq 3, .inl (cI, 600, .inl fN)), (oq 4, .inl (cI, 600, .inl fL))]) (va_A [(ow 0, .inr (4, gMa ow (nI st) rf lt en (nI lo) (nI oz))), (ow 1, .inl (cI, 5, .inl fR)), (oq 1, .inr (7, [.int (nI pz), .ref (oq 2), .ref (oq 3), .ref (oq 4)])), (oq 3, .inl (cI, 600, .inl fN)), (oq 4, .inl (cI, 600, .inl fL))] sz)) 0 0 (va_A [(ow 0, .inr (4, gMa ow (nI st) rf lt en (nI lo) (nI oz))), (ow 1, .inl (cI, 5, .inl fR)), (oq 1, .inr (7, [.int (nI pz), .ref (oq 2), .ref (oq 3), .ref (oq 4)])), (oq 3, .inl (cI, 600, .inl fN)), (oq 4, .inl (cI, 600, .inl fL))] sz) := by
  refine Met.ofW (cc := cX4_beginRounds) (maxL := 3) (ret := (some .int)) (by decide) rfl ?_
  intro p e s m args below meth c s₁ B hml hv
  obtain ⟨rfl, hsz, hP, hK, hD0, hN⟩ := hv
  have hx := B.exec
  have hb := B.bytes
  have hr := B.returns
  have hts := atoms_spec (ws := wp_k_beginRounds) B.pre
  have hin_X7 : ∀ w ∈ wsX70, w ∈ wp_k_beginRounds := fun _ h => (List.mem_cons_of_mem _ (List.mem_append_right _ (List.mem_append_right _ (List.mem_append_left _ h))))
  have hin_X4 : ∀ w ∈ wsX40, w ∈ wp_k_beginRounds := fun _ h => (List.mem_cons_of_mem _ (List.mem_append_right _ (List.mem_append_right _ (List.mem_append_right _ (List.mem_append_left _ h)))))
  have hown : s.vm.findClass RX4 = some m.cls := findClass_of_methodNamed B.named
  have hlocks := B.notSynchronized
  subst hsz
  have hD := hD0.self (sz := s.heap.size)
  generalize hAe : va_A [(ow 0, .inr (4, gMa ow (nI st) rf lt en (nI lo) (nI oz))), (ow 1, .inl (cI, 5, .inl fR)), (oq 1, .inr (7, [.int (nI pz), .ref (oq 2), .ref (oq 3), .ref (oq 4)])), (oq 3, .inl (cI, 600, .inl fN)), (oq 4, .inl (cI, 600, .inl fL))] s.heap.size = A at hD ⊢
  have hA : ∀ q : Nat, s.heap.size ≤ q → A q := fun q h => by rw [← hAe]; exact Or.inr h
  have hS : va_S A s.heap s.heap [] := va_S.rf
  have hP : va_P D vwCl [(ow 0, .inr (4, gMa ow (nI st) rf lt en (nI lo) (nI oz))), (ow 1, .inl (cI, 5, .inl fR)), (oq 1, .inr (7, [.int (nI pz), .ref (oq 2), .ref (oq 3), .ref (oq 4)])), (oq 3, .inl (cI, 600, .inl fN)), (oq 4, .inl (cI, 600, .inl fL))] s.heap := hP
  have hl := lv_entry ([.ref (ow 0), .ref (oq 1), .int (nI xa)]) (n := 3) (Nat.le_of_ble_eq_true rfl)
  rw [lg_entry_eq]
  generalize (lg_sl ([.ref (ow 0), .ref (oq 1), .int (nI xa)]) ++ List.replicate (3 - (lg_sl ([.ref (ow 0), .ref (oq 1), .int (nI xa)])).length) Slot.unset).toArray = ls at hl ⊢
  have hl : lv_has ls 3 [(0, .ref (ow 0)), (1, .ref (oq 1)), (2, .int (nI xa))] := hl
  refine lv_aload_n hx hb dX4_beginRounds_0 rfl (lv_at hl 1 rfl) ?_
  refine va_get (D := D) (ci := 7) (v := .ref (oq 3)) (C := RX7) (T := TX7) (N := 4) hx hb hts hin_X7 hown hK hP 2 rfl rfl 2 (by decide) (hts (.fieldLink RX4 47 "ClashFree$Program" "numbers" "[I") (List.mem_of_getElem? (i := 1) rfl)) (fun _ h9 => h9) rfl dX4_beginRounds_1 ?_
  refine lv_iload_n hx hb dX4_beginRounds_4 rfl (lv_at hl 2 rfl) ?_
  refine va_iald hx hb hK hP 3 0 rfl rfl (vp_in_nI (by omega) (by decide)) dX4_beginRounds_5 ?_
  refine lv_topi (fun v1 ev1 => ?_)
  obtain rfl : v1 = fN xa := ev1.trans (by rw [nI_clamp (by omega)])
  refine lv_if_ne (tgt := 18) hx hb dX4_beginRounds_6 (by decide) (fun hc2 => ?_) (fun hc2 => ?_)
  ·
    refine lv_aload_n hx hb dX4_beginRounds_18 rfl (lv_at hl 0 rfl) ?_
    refine va_get (D := D) (ci := 4) (v := .int (nI lo)) (C := RX4) (T := TX4) (N := 8) hx hb hts hin_X4 hown hK hP 0 rfl rfl 4 (by decide) (hts (.fieldLink RX4 32 "ClashFree$Machine" "loops" "I") (List.mem_of_getElem? (i := 2) rfl)) (fun _ h9 => h9) rfl dX4_beginRounds_19 ?_
    refine lv_iconst (v := 5) hx hb dX4_beginRounds_22 (by decide) ?_
    refine lv_icmp_ge (tgt := 53) hx hb dX4_beginRounds_23 (by decide) (fun hc3 => ?_) (fun hc3 => ?_)
    ·
      have hlt : 5 ≤ lo := (nI_leI (by omega) (by omega)).mp hc3
      refine lv_iload_n hx hb dX4_beginRounds_53 rfl (lv_at hl 2 rfl) ?_
      refine lv_iconst (v := 1) hx hb dX4_beginRounds_54 (by decide) ?_
      refine lv_iadd hx hb dX4_beginRounds_55 ?_
      refine lv_topi (fun v4 ev4 => ?_)
      obtain rfl : v4 = nI (xa + 1) := ev4.trans (nI_1 _)
      exact W.iret (v := nI (xa + 1)) hx hb hr (fun t ht hW => ⟨⟨nI (xa + 1), (st, en, lo, fR), rfl, (by (try dsimp only); first | done | exact ⟨⟨by omega, by omega⟩, Or.inr ⟨hc2, rfl, Or.inr (Or.inr ⟨hlt, rfl, rfl, rfl, rfl⟩)⟩⟩), by rw [ht]; exact hP.sub [0, 1, 2, 3, 4] rfl, va_K.moved hW.alike (hK.sub [0] rfl), hD.sub [0, 1, 2, 3, 4] (by decide) rfl⟩, hS.F ht⟩) hS.2.2 dX4_beginRounds_56
    ·
      have hlt : lo < 5 := by
        rcases Nat.lt_or_ge lo (5) with z | z
        · exact z
        · exact absurd (nI_le z (by omega)) hc3
      refine lv_aload_n hx hb dX4_beginRounds_26 rfl (lv_at hl 0 rfl) ?_
      have hPc := hP.sub (ws' := [(ow 0, .inr (4, gMa ow (nI st) rf lt en (nI lo) (nI oz)))]) [0] rfl
      have hKc := hK.sub (tys' := []) [] rfl
      have hDc := hD.sub (ws' := [(ow 0, .inr (4, gMa ow (nI st) rf lt en (nI lo) (nI oz)))]) [0] (by decide) rfl
      have hFc := va_free (wc := [(ow 0, .inr (4, gMa ow (nI st) rf lt en (nI lo) (nI oz)))]) hD hS hA [0] rfl
      refine va_calli (va_runV (As := []) (rest := []) ⟨hx, hb, hml, hown, hts⟩ (k_step l D _ ow cI st rf lt en lo oz hst) (cwV 0 hts g_k_beginRounds_k_step_75 rfl rfl rfl (by decide +kernel) ⟨(Nat.le_of_ble_eq_true rfl), (Nat.le_of_ble_eq_true rfl)⟩) (PcWC_V (q0 := 0) hPc hKc hDc hN rfl rfl) rfl rfl hl.1 rfl (lv_room (Nat.le_of_ble_eq_true rfl)) dX4_beginRounds_27 ⟨(Nat.le_of_ble_eq_true rfl), (Nat.le_of_ble_eq_true rfl)⟩) hS (fun q _ h => hFc q h) hFc (fun r5 uu tt H locs htt hvm hw hB hz1 hk1 hS => ?_)
      obtain ⟨w6, w7⟩ := uu
      obtain ⟨hP1, hK1, hD1⟩ := hB
      rw [htt] at hP1
      have hK1 := va_K.moved hvm.symm hK1
      have hP1 : va_P D vwCl [(ow 0, .inr (4, gMa ow (nI w6) rf lt w7 (nI lo) (nI oz)))] H := hP1
      obtain ⟨hP, hD⟩ := va_join (wr := [(ow 1, .inl (cI, 5, .inl fR)), (oq 1, .inr (7, [.int (nI pz), .ref (oq 2), .ref (oq 3), .ref (oq 4)])), (oq 3, .inl (cI, 600, .inl fN)), (oq 4, .inl (cI, 600, .inl fL))]) (w1 := [(ow 0, .inr (4, gMa ow (nI w6) rf lt w7 (nI lo) (nI oz)))]) hP hD [0] [1, 2, 3, 4] rfl rfl (by decide) (by decide) hk1 hFc hP1 hD1
      have hP : va_P D vwCl [(ow 1, .inl (cI, 5, .inl fR)), (oq 1, .inr (7, [.int (nI pz), .ref (oq 2), .ref (oq 3), .ref (oq 4)])), (oq 3, .inl (cI, 600, .inl fN)), (oq 4, .inl (cI, 600, .inl fL)), (ow 0, .inr (4, gMa ow (nI w6) rf lt w7 (nI lo) (nI oz)))] H := hP
      have hD : va_D A [(ow 1, .inl (cI, 5, .inl fR)), (oq 1, .inr (7, [.int (nI pz), .ref (oq 2), .ref (oq 3), .ref (oq 4)])), (oq 3, .inl (cI, 600, .inl fN)), (oq 4, .inl (cI, 600, .inl fL)), (ow 0, .inr (4, gMa ow (nI w6) rf lt w7 (nI lo) (nI oz)))] := hD
      try dsimp only at hw
      clear hz1 hk1 hFc hPc hKc hDc
      rcases hw with ⟨rfl, hA_r5⟩ | ⟨rfl, hA_r5⟩
      ·
        obtain ⟨hA_r5_1, hA_r5_2, hA_r5_3, hA_r5_4⟩ := hA_r5
        refine lv_if_eq (tgt := 53) hx hb dX4_beginRounds_30 (by decide) (fun hc => absurd hc (by decide)) (fun hc => ?_)
        refine lv_aload_n hx hb dX4_beginRounds_33 rfl (lv_at hl 0 rfl) ?_
        refine va_get (D := D) (ci := 4) (v := .ref (ow 1)) (C := RX4) (T := TX4) (N := 8) hx hb hts hin_X4 hown hK hP 4 rfl rfl 5 (by decide) (hts (.fieldLink RX4 9 "ClashFree$Machine" "roundOf" "[I") (List.mem_of_getElem? (i := 7) rfl)) (fun _ h9 => h9) rfl dX4_beginRounds_34 ?_
        refine lv_aload_n hx hb dX4_beginRounds_37 rfl (lv_at hl 0 rfl) ?_
        refine va_get (D := D) (ci := 4) (v := .int (nI lo)) (C := RX4) (T := TX4) (N := 8) hx hb hts hin_X4 hown hK hP 4 rfl rfl 4 (by decide) (hts (.fieldLink RX4 32 "ClashFree$Machine" "loops" "I") (List.mem_of_getElem? (i := 2) rfl)) (fun _ h9 => h9) rfl dX4_beginRounds_38 ?_
        refine lv_iconst (v := 0) hx hb dX4_beginRounds_41 (by decide) ?_
        refine va_iast hx hb hK hP hD hS 0 0 rfl rfl (vp_in_nI (by omega) (by decide)) dX4_beginRounds_42 (fun H locs hP hD hS => ?_)
        have hP : va_P D vwCl [(ow 1, .inl (cI, 5, .inl (upd fR (Int32.toNatClampNeg (nI lo)) 0))), (oq 1, .inr (7, [.int (nI pz), .ref (oq 2), .ref (oq 3), .ref (oq 4)])), (oq 3, .inl (cI, 600, .inl fN)), (oq 4, .inl (cI, 600, .inl fL)), (ow 0, .inr (4, gMa ow (nI w6) rf lt w7 (nI lo) (nI oz)))] H := hP
        have hD : va_D A [(ow 1, .inl (cI, 5, .inl (upd fR (Int32.toNatClampNeg (nI lo)) 0))), (oq 1, .inr (7, [.int (nI pz), .ref (oq 2), .ref (oq 3), .ref (oq 4)])), (oq 3, .inl (cI, 600, .inl fN)), (oq 4, .inl (cI, 600, .inl fL)), (ow 0, .inr (4, gMa ow (nI w6) rf lt w7 (nI lo) (nI oz)))] := hD
        rw [show (upd fR (Int32.toNatClampNeg (nI lo)) 0) = (upd fR lo 0) from by rw [nI_clamp (by omega)]] at hP hD
        refine lv_aload_n hx hb dX4_beginRounds_43 rfl (lv_at hl 0 rfl) ?_
        refine lv_dup hx hb dX4_beginRounds_44 rfl ?_
        refine va_get (D := D) (ci := 4) (v := .int (nI lo)) (C := RX4) (T := TX4) (N := 8) hx hb hts hin_X4 hown hK hP 4 rfl rfl 4 (by decide) (hts (.fieldLink RX4 32 "ClashFree$Machine" "loops" "I") (List.mem_of_getElem? (i := 2) rfl)) (fun _ h9 => h9) rfl dX4_beginRounds_45 ?_
        refine lv_iconst (v := 1) hx hb dX4_beginRounds_48 (by decide) ?_
        refine lv_iadd hx hb dX4_beginRounds_49 ?_
        refine lv_topi (fun v8 ev8 => ?_)
        obtain rfl : v8 = nI (lo + 1) := ev8.trans (nI_1 _)
        refine va_put (D := D) (ci := 4) (v := .int (nI (lo + 1))) (ty := .int) (C := RX4) (T := TX4) (N := 8) hx hb hts hin_X4 tyX4 tyX4_ok nmX4 hown hK hP hD hS 4 rfl rfl 4 (by decide) (hts (.fieldLink RX4 32 "ClashFree$Machine" "loops" "I") (List.mem_of_getElem? (i := 2) rfl)) (fun _ h9 => h9) rfl (by decide +kernel) rfl rfl (Nat.le_of_ble_eq_true rfl) dX4_beginRounds_50 (fun H locs hP hD hS => ?_)
        have hP : va_P D vwCl [(ow 1, .inl (cI, 5, .inl (upd fR lo 0))), (oq 1, .inr (7, [.int (nI pz), .ref (oq 2), .ref (oq 3), .ref (oq 4)])), (oq 3, .inl (cI, 600, .inl fN)), (oq 4, .inl (cI, 600, .inl fL)), (ow 0, .inr (4, gMa ow (nI w6) rf lt w7 (nI (lo + 1)) (nI oz)))] H := hP
        have hD : va_D A [(ow 1, .inl (cI, 5, .inl (upd fR lo 0))), (oq 1, .inr (7, [.int (nI pz), .ref (oq 2), .ref (oq 3), .ref (oq 4)])), (oq 3, .inl (cI, 600, .inl fN)), (oq 4, .inl (cI, 600, .inl fL)), (ow 0, .inr (4, gMa ow (nI w6) rf lt w7 (nI (lo + 1)) (nI oz)))] := hD
        refine lv_iload_n hx hb dX4_beginRounds_53 rfl (lv_at hl 2 rfl) ?_
        refine lv_iconst (v := 1) hx hb dX4_beginRounds_54 (by decide) ?_
        refine lv_iadd hx hb dX4_beginRounds_55 ?_
        refine lv_topi (fun v9 ev9 => ?_)
        obtain rfl : v9 = nI (xa + 1) := ev9.trans (nI_1 _)
        exact W.iret (v := nI (xa + 1)) hx hb hr (fun t ht hW => ⟨⟨nI (xa + 1), (w6, w7, (lo + 1), (upd fR lo 0)), rfl, (by (try dsimp only); first | done | exact ⟨⟨by omega, by omega⟩, Or.inr ⟨hc2, rfl, Or.inl ⟨hlt, hA_r5_2, hA_r5_3, hA_r5_4, rfl, rfl⟩⟩⟩), by rw [ht]; exact hP.sub [4, 0, 1, 2, 3] rfl, va_K.moved hW.alike (hK.sub [0] rfl), hD.sub [4, 0, 1, 2, 3] (by decide) rfl⟩, hS.F ht⟩) hS.2.2 dX4_beginRounds_56
      ·
        obtain ⟨hA_r5_1, hA_r5_2, hA_r5_3, hA_r5_4⟩ := hA_r5
        refine lv_if_eq (tgt := 53) hx hb dX4_beginRounds_30 (by decide) (fun hc => ?_) (fun hc => absurd (by decide) hc)
        refine lv_iload_n hx hb dX4_beginRounds_53 rfl (lv_at hl 2 rfl) ?_
        refine lv_iconst (v := 1) hx hb dX4_beginRounds_54 (by decide) ?_
        refine lv_iadd hx hb dX4_beginRounds_55 ?_
        refine lv_topi (fun v10 ev10 => ?_)
        obtain rfl : v10 = nI (xa + 1) := ev10.trans (nI_1 _)
        exact W.iret (v := nI (xa + 1)) hx hb hr (fun t ht hW => ⟨⟨nI (xa + 1), (w6, w7, lo, fR), rfl, (by (try dsimp only); first | done | exact ⟨⟨by omega, by omega⟩, Or.inr ⟨hc2, rfl, Or.inr (Or.inl ⟨hlt, hA_r5_2, hA_r5_3, hA_r5_4, rfl, rfl⟩)⟩⟩), by rw [ht]; exact hP.sub [4, 0, 1, 2, 3] rfl, va_K.moved hW.alike (hK.sub [0] rfl), hD.sub [4, 0, 1, 2, 3] (by decide) rfl⟩, hS.F ht⟩) hS.2.2 dX4_beginRounds_56
  ·
    refine lv_aload_n hx hb dX4_beginRounds_9 rfl (lv_at hl 1 rfl) ?_
    refine va_get (D := D) (ci := 7) (v := .ref (oq 4)) (C := RX7) (T := TX7) (N := 4) hx hb hts hin_X7 hown hK hP 2 rfl rfl 3 (by decide) (hts (.fieldLink RX4 58 "ClashFree$Program" "links" "[I") (List.mem_of_getElem? (i := 8) rfl)) (fun _ h9 => h9) rfl dX4_beginRounds_10 ?_
    refine lv_iload_n hx hb dX4_beginRounds_13 rfl (lv_at hl 2 rfl) ?_
    refine va_iald hx hb hK hP 4 0 rfl rfl (vp_in_nI (by omega) (by decide)) dX4_beginRounds_14 ?_
    refine lv_topi (fun v11 ev11 => ?_)
    obtain rfl : v11 = fL xa := ev11.trans (by rw [nI_clamp (by omega)])
    refine lv_iconst (v := 1) hx hb dX4_beginRounds_15 (by decide) ?_
    refine lv_iadd hx hb dX4_beginRounds_16 ?_
    refine lv_topi (fun v12 ev12 => ?_)
    obtain rfl : v12 = fL xa + 1 := ev12.trans (rfl)
    exact W.iret (v := fL xa + 1) hx hb hr (fun t ht hW => ⟨⟨fL xa + 1, (st, en, lo, fR), rfl, (by (try dsimp only); first | done | exact ⟨⟨by omega, by omega⟩, Or.inl ⟨hc2, rfl, rfl, rfl, rfl, rfl⟩⟩), by rw [ht]; exact hP.sub [0, 1, 2, 3, 4] rfl, va_K.moved hW.alike (hK.sub [0] rfl), hD.sub [0, 1, 2, 3, 4] (by decide) rfl⟩, hS.F ht⟩) hS.2.2 dX4_beginRounds_17

def own_k_goRound : List Cond := [.fieldLink RX4 58 "ClashFree$Program" "links" "[I", .fieldLink RX4 32 "ClashFree$Machine" "loops" "I", .methodLink RX4 79 yX7_isFor, .instanceMethod yX7_isFor, .selects RX7 yX7_isFor yX7_isFor, .initialized RX7, .fieldLink RX4 9 "ClashFree$Machine" "roundOf" "[I", .fieldLink RX4 47 "ClashFree$Program" "numbers" "[I", .methodLink RX4 75 yX4_step, .instanceMethod yX4_step, .selects RX4 yX4_step yX4_step, .initialized RX4]
def wp_k_goRound : List Cond := .code yX4_goRound cX4_goRound 4 (some .int) :: (own_k_goRound ++ (wp_k_pisFor ++ (wp_k_step ++ (wsX70 ++ (wsX40 ++ ([] : List Cond))))))
set_option maxRecDepth 20000 in
theorem inown_k_goRound : ∀ w ∈ own_k_goRound, w ∈ lw_tbl := mem_places [286, 391, 1119, 1036, 1037, 112, 392, 284, 1111, 1113, 29, 114] (by decide +kernel)
set_option maxRecDepth 20000 in
theorem in_k_goRound : ∀ w ∈ wp_k_goRound, w ∈ lw_tbl := List.forall_mem_cons.mpr ⟨List.mem_of_getElem? (i := 1118) (by decide +kernel), List.forall_mem_append.mpr ⟨inown_k_goRound, List.forall_mem_append.mpr ⟨in_k_pisFor, List.forall_mem_append.mpr ⟨in_k_step, List.forall_mem_append.mpr ⟨lwb_X7, List.forall_mem_append.mpr ⟨lwb_X4, fun _ h => absurd h List.not_mem_nil⟩⟩⟩⟩⟩⟩
set_option maxRecDepth 20000 in
theorem good_k_goRound : wp_k_goRound.all goodWord = true := by decide +kernel
set_option maxRecDepth 20000 in
theorem g_k_goRound_k_pisFor_79 : GoodIn wp_k_goRound (wsV RX4 79 RX7 yX7_isFor wp_k_pisFor) := goodIn_sub (List.forall_mem_append.mpr ⟨List.forall_mem_cons.mpr ⟨(List.mem_of_getElem? (i := 3) rfl), List.forall_mem_cons.mpr ⟨(List.mem_of_getElem? (i := 4) rfl), List.forall_mem_cons.mpr ⟨(List.mem_of_getElem? (i := 5) rfl), List.forall_mem_cons.mpr ⟨(List.mem_of_getElem? (i := 6) rfl), fun _ h => absurd h List.not_mem_nil⟩⟩⟩⟩, (fun _ h => (List.mem_cons_of_mem _ (List.mem_append_right _ (List.mem_append_left _ h))))⟩) (by decide +kernel)
set_option maxRecDepth 20000 in
theorem g_k_goRound_k_step_75 : GoodIn wp_k_goRound (wsV RX4 75 RX4 yX4_step wp_k_step) := goodIn_sub (List.forall_mem_append.mpr ⟨List.forall_mem_cons.mpr ⟨(List.mem_of_getElem? (i := 9) rfl), List.forall_mem_cons.mpr ⟨(List.mem_of_getElem? (i := 10) rfl), List.forall_mem_cons.mpr ⟨(List.mem_of_getElem? (i := 11) rfl), List.forall_mem_cons.mpr ⟨(List.mem_of_getElem? (i := 12) rfl), fun _ h => absurd h List.not_mem_nil⟩⟩⟩⟩, (fun _ h => (List.mem_cons_of_mem _ (List.mem_append_right _ (List.mem_append_right _ (List.mem_append_left _ h)))))⟩) (by decide +kernel)
set_option maxHeartbeats 4000000 in
set_option maxRecDepth 100000 in
theorem k_goRound (l : Launch) (D : va_G) (sz : Nat) (ow : Nat → Nat) (oq : Nat → Nat) (cI : ClassId) (st : Nat) (rf : Int32) (lt : Int32) (en : Int32) (lo : Nat) (oz : Nat) (fR : Nat → Int32) (pz : Nat) (fK : Nat → Int32) (fN : Nat → Int32) (fL : Nat → Int32) (xa : Nat) (hst : st ≤ 300) (hlo : lo ≤ 5) (hxa : xa < 600) (hpz : pz ≤ 600) : Met l yX4_goRound wp_k_goRound ({ frames := 1, cells := 0, slots := 0, locals := 21 }) (PcWC D [.ref (ow 0), .ref (oq 1), .int (nI xa)] sz [(ow 0, .inr (4, gMa ow (nI st) rf lt en (nI lo) (nI oz))), (ow 1, .inl (cI, 5, .inl fR)), (oq 1, .inr (7, [.int (nI pz), .ref (oq 2), .ref (oq 3), .ref (oq 4)])), (oq 2, .inl (cI, 600, .inl fK)), (oq 3, .inl (cI, 600, .inl fN)), (oq 4, .inl (cI, 600, .inl fL))] [(cI, .int)]) (va_Qi (fun (r : Int32) (u : (Nat) × (Int32) × (Nat) × (Nat → Int32)) => (u.1 ≤ 300 ∧ u.2.2.1 ≤ 5) ∧ (((lo = 0 ∨ ∀ x, x < pz → fL xa = nI x → ¬ fK x = 8) ∧ r = nI (xa + 1) ∧ u.1 = st ∧ u.2.1 = en ∧ u.2.2.1 = lo ∧ u.2.2.2 = fR) ∨ ∃ xf, xf < pz ∧ fL xa = nI xf ∧ fK xf = 8 ∧ 1 ≤ lo ∧ ((¬ fR (lo - 1) + 1 < fN xf ∧ r = nI (xa + 1) ∧ u.1 = st ∧ u.2.1 = en ∧ u.2.2.1 = lo - 1 ∧ u.2.2.2 = fR) ∨ (fR (lo - 1) + 1 < fN xf ∧ r = nI (xf + 1) ∧ ((st < 300 ∧ u.1 = st + 1 ∧ u.2.1 = en ∧ u.2.2.1 = lo ∧ u.2.2.2 = upd fR (lo - 1) (fR (lo - 1) + 1)) ∨ (300 ≤ st ∧ u.1 = st ∧ u.2.1 = 1 ∧ u.2.2.1 = lo ∧ u.2.2.2 = fR)))))) (fun (u : (Nat) × (Int32) × (Nat) × (Nat → Int32)) t => va_P D vwCl [(ow 0, .inr (4, gMa ow (nI u.1) rf lt u.2.1 (nI u.2.2.1) (nI oz))), (ow 1, .inl (cI, 5, .inl u.2.2.2)), (oq 1, .inr (7, [.int (nI pz), .ref (oq 2), .ref (oq 3), .ref (oq 4)])), (oq 2, .inl (cI, 600, .inl fK)), (oq 3, .inl (cI, 600, .inl fN)), (oq 4, .inl (cI, 600, .inl fL))] t.heap ∧ va_K D vwCl [(cI, .int)] t ∧ va_D (va_A [(ow 0, .inr (4, gMa ow (nI st) rf lt en (nI lo) (nI oz))), (ow 1, .inl (cI, 5, .inl fR)), (oq 1, .inr (7, [.int (nI pz), .ref (oq 2), .ref (oq 3), .ref (oq 4)])), (oq 2, .inl (cI, 600, .inl fK)), (oq 3, .inl (cI, 600, .inl fN)), (oq 4, .inl (cI, 600, .inl fL))] sz) [(ow 0, .inr (4, gMa ow (nI u.1) rf lt u.2.1 (nI u.2.2.1) (nI oz))), (ow 1, .inl (cI, 5, .inl u.2.2.2)), (oq 1, .inr (7, [.int (nI pz), .ref (oq 2), .ref (oq 3), .ref (oq 4)])), (oq 2, .inl (cI, 600, .inl fK)), (oq 3, .inl (cI, 600, .inl fN)), (oq 4, .inl (cI, 600, .inl fL))]) (va_A [(ow 0, .inr (4, gMa ow (nI st) rf lt en (nI lo) (nI oz))), (ow 1, .inl (cI, 5, .inl fR)), (oq 1, .inr (7, [.int (nI pz), .ref (oq 2), .ref (oq 3), .ref (oq 4)])), (oq 2, .inl (cI, 600, .inl fK)), (oq 3, .inl (cI, 600, .inl fN)), (oq 4, .inl (cI, 600, .inl fL))] sz)) 0 0 (va_A [(ow 0, .inr (4, gMa ow (nI st) rf lt en (nI lo) (nI oz))), (ow 1, .inl (cI, 5, .inl fR)), (oq 1, .inr (7, [.int (nI pz), .ref (oq 2), .ref (oq 3), .ref (oq 4)])), (oq 2, .inl (cI, 600, .inl fK)), (oq 3, .inl (cI, 600, .inl fN)), (oq 4, .inl (cI, 600, .inl fL))] sz) := by
  refine Met.ofW (cc := cX4_goRound) (maxL := 4) (ret := (some .int)) (by decide) rfl ?_
  intro p e s m args below meth c s₁ B hml hv
  obtain ⟨rfl, hsz, hP, hK, hD0, hN⟩ := hv
  have hx := B.exec
  have hb := B.bytes
  have hr := B.returns
  have hts := atoms_spec (ws := wp_k_goRound) B.pre
  have hin_X7 : ∀ w ∈ wsX70, w ∈ wp_k_goRound := fun _ h => (List.mem_cons_of_mem _ (List.mem_append_right _ (List.mem_append_right _ (List.mem_append_right _ (List.mem_append_left _ h)))))
  have hin_X4 : ∀ w ∈ wsX40, w ∈ wp_k_goRound := fun _ h => (List.mem_cons_of_mem _ (List.mem_append_right _ (List.mem_append_right _ (List.mem_append_right _ (List.mem_append_right _ (List.mem_append_left _ h))))))
  have hown : s.vm.findClass RX4 = some m.cls := findClass_of_methodNamed B.named
  have hlocks := B.notSynchronized
  subst hsz
  have hD := hD0.self (sz := s.heap.size)
  generalize hAe : va_A [(ow 0, .inr (4, gMa ow (nI st) rf lt en (nI lo) (nI oz))), (ow 1, .inl (cI, 5, .inl fR)), (oq 1, .inr (7, [.int (nI pz), .ref (oq 2), .ref (oq 3), .ref (oq 4)])), (oq 2, .inl (cI, 600, .inl fK)), (oq 3, .inl (cI, 600, .inl fN)), (oq 4, .inl (cI, 600, .inl fL))] s.heap.size = A at hD ⊢
  have hA : ∀ q : Nat, s.heap.size ≤ q → A q := fun q h => by rw [← hAe]; exact Or.inr h
  have hS : va_S A s.heap s.heap [] := va_S.rf
  have hP : va_P D vwCl [(ow 0, .inr (4, gMa ow (nI st) rf lt en (nI lo) (nI oz))), (ow 1, .inl (cI, 5, .inl fR)), (oq 1, .inr (7, [.int (nI pz), .ref (oq 2), .ref (oq 3), .ref (oq 4)])), (oq 2, .inl (cI, 600, .inl fK)), (oq 3, .inl (cI, 600, .inl fN)), (oq 4, .inl (cI, 600, .inl fL))] s.heap := hP
  have hl := lv_entry ([.ref (ow 0), .ref (oq 1), .int (nI xa)]) (n := 4) (Nat.le_of_ble_eq_true rfl)
  rw [lg_entry_eq]
  generalize (lg_sl ([.ref (ow 0), .ref (oq 1), .int (nI xa)]) ++ List.replicate (4 - (lg_sl ([.ref (ow 0), .ref (oq 1), .int (nI xa)])).length) Slot.unset).toArray = ls at hl ⊢
  have hl : lv_has ls 4 [(0, .ref (ow 0)), (1, .ref (oq 1)), (2, .int (nI xa))] := hl
  refine lv_aload_n hx hb dX4_goRound_0 rfl (lv_at hl 1 rfl) ?_
  refine va_get (D := D) (ci := 7) (v := .ref (oq 4)) (C := RX7) (T := TX7) (N := 4) hx hb hts hin_X7 hown hK hP 2 rfl rfl 3 (by decide) (hts (.fieldLink RX4 58 "ClashFree$Program" "links" "[I") (List.mem_of_getElem? (i := 1) rfl)) (fun _ h9 => h9) rfl dX4_goRound_1 ?_
  refine lv_iload_n hx hb dX4_goRound_4 rfl (lv_at hl 2 rfl) ?_
  refine va_iald hx hb hK hP 5 0 rfl rfl (vp_in_nI (by omega) (by decide)) dX4_goRound_5 ?_
  refine lv_topi (fun v1 ev1 => ?_)
  refine lv_istore_n (lv' := [(3, .int v1), (0, .ref (ow 0)), (1, .ref (oq 1)), (2, .int (nI xa))]) hx hb dX4_goRound_6 rfl hl (by decide) rfl (fun ls hl => ?_)
  refine lv_aload_n hx hb dX4_goRound_7 rfl (lv_at hl 1 rfl) ?_
  refine va_get (D := D) (ci := 4) (v := .int (nI lo)) (C := RX4) (T := TX4) (N := 8) hx hb hts hin_X4 hown hK hP 0 rfl rfl 4 (by decide) (hts (.fieldLink RX4 32 "ClashFree$Machine" "loops" "I") (List.mem_of_getElem? (i := 2) rfl)) (fun _ h9 => h9) rfl dX4_goRound_8 ?_
  refine lv_if_eq (tgt := 22) hx hb dX4_goRound_11 (by decide) (fun hc2 => ?_) (fun hc2 => ?_)
  ·
    have hl0 : lo = 0 := (nI_eq (b := 0) (by omega) (by decide)).mp hc2
    refine lv_iload_n hx hb dX4_goRound_22 rfl (lv_at hl 3 rfl) ?_
    refine lv_iconst (v := 1) hx hb dX4_goRound_23 (by decide) ?_
    refine lv_iadd hx hb dX4_goRound_24 ?_
    refine lv_topi (fun v3 ev3 => ?_)
    obtain rfl : v3 = nI (xa + 1) := ev3.trans (nI_1 _)
    exact W.iret (v := nI (xa + 1)) hx hb hr (fun t ht hW => ⟨⟨nI (xa + 1), (st, en, lo, fR), rfl, (by (try dsimp only); first | done | exact ⟨⟨by omega, by omega⟩, Or.inl ⟨Or.inl hl0, rfl, rfl, rfl, rfl, rfl⟩⟩), by rw [ht]; exact hP.sub [0, 1, 2, 3, 4, 5] rfl, va_K.moved hW.alike (hK.sub [0] rfl), hD.sub [0, 1, 2, 3, 4, 5] (by decide) rfl⟩, hS.F ht⟩) hS.2.2 dX4_goRound_25
  ·
    have hp1 : 1 ≤ lo := by
      rcases Nat.eq_zero_or_pos lo with z | z
      · exact absurd (by rw [z]; first | rfl | decide) hc2
      · exact z
    refine lv_aload_n hx hb dX4_goRound_14 rfl (lv_at hl 2 rfl) ?_
    refine lv_iload_n hx hb dX4_goRound_15 rfl (lv_at hl 0 rfl) ?_
    have hPc := hP.sub (ws' := [(oq 1, .inr (7, [.int (nI pz), .ref (oq 2), .ref (oq 3), .ref (oq 4)])), (oq 2, .inl (cI, 600, .inl fK))]) [2, 3] rfl
    have hKc := hK.sub (tys' := [(cI, .int)]) [0] rfl
    have hFc := va_free0 hS hA
    refine va_calli (va_runV (As := [.int v1]) (rest := []) ⟨hx, hb, hml, hown, hts⟩ (k_pisFor l D _ oq cI pz fK v1 hpz) (cwV 1 hts g_k_goRound_k_pisFor_79 rfl rfl rfl (by decide +kernel) ⟨(Nat.le_of_ble_eq_true rfl), (Nat.le_of_ble_eq_true rfl)⟩) (PcRC_V (q0 := 0) hPc hKc hN rfl rfl) rfl rfl hl.1 rfl (lv_room (Nat.le_of_ble_eq_true rfl)) dX4_goRound_16 ⟨(Nat.le_of_ble_eq_true rfl), (Nat.le_of_ble_eq_true rfl)⟩) hS (fun q _ h => hFc q h) hFc (fun r4 uu tt H locs htt hvm hw hB hz1 hk1 hS => ?_)
    have hP := va_keep hP hk1
    try dsimp only at hw
    clear hB hz1 hk1 hFc hPc hKc
    rcases hw with ⟨rfl, hA_r4⟩ | ⟨rfl, hA_r4⟩
    ·
      obtain ⟨xf, hxf, rfl, h8f⟩ := hA_r4
      have hfl : fL xa = nI xf := by
        rw [nI_clamp (by omega)] at ev1
        exact ev1.symm
      refine lv_if_ne (tgt := 26) hx hb dX4_goRound_19 (by decide) (fun hc => ?_) (fun hc => absurd hc (by decide))
      refine lv_aload_n hx hb dX4_goRound_26 rfl (lv_at hl 1 rfl) ?_
      refine va_get (D := D) (ci := 4) (v := .ref (ow 1)) (C := RX4) (T := TX4) (N := 8) hx hb hts hin_X4 hown hK hP 0 rfl rfl 5 (by decide) (hts (.fieldLink RX4 9 "ClashFree$Machine" "roundOf" "[I") (List.mem_of_getElem? (i := 7) rfl)) (fun _ h9 => h9) rfl dX4_goRound_27 ?_
      refine lv_aload_n hx hb dX4_goRound_30 rfl (lv_at hl 1 rfl) ?_
      refine va_get (D := D) (ci := 4) (v := .int (nI lo)) (C := RX4) (T := TX4) (N := 8) hx hb hts hin_X4 hown hK hP 0 rfl rfl 4 (by decide) (hts (.fieldLink RX4 32 "ClashFree$Machine" "loops" "I") (List.mem_of_getElem? (i := 2) rfl)) (fun _ h9 => h9) rfl dX4_goRound_31 ?_
      refine lv_iconst (v := 1) hx hb dX4_goRound_34 (by decide) ?_
      refine lv_isub hx hb dX4_goRound_35 ?_
      refine lv_topi (fun v5 ev5 => ?_)
      obtain rfl : v5 = nI (lo - 1) := ev5.trans (pk_sub (b := 1) (by omega))
      refine va_iald hx hb hK hP 1 0 rfl rfl (vp_in_nI (by omega) (by decide)) dX4_goRound_36 ?_
      refine lv_topi (fun v6 ev6 => ?_)
      obtain rfl : v6 = fR (lo - 1) := ev6.trans (by rw [nI_clamp (by omega)])
      refine lv_iconst (v := 1) hx hb dX4_goRound_37 (by decide) ?_
      refine lv_iadd hx hb dX4_goRound_38 ?_
      refine lv_topi (fun v7 ev7 => ?_)
      obtain rfl : v7 = fR (lo - 1) + 1 := ev7.trans (rfl)
      refine lv_aload_n hx hb dX4_goRound_39 rfl (lv_at hl 2 rfl) ?_
      refine va_get (D := D) (ci := 7) (v := .ref (oq 3)) (C := RX7) (T := TX7) (N := 4) hx hb hts hin_X7 hown hK hP 2 rfl rfl 2 (by decide) (hts (.fieldLink RX4 47 "ClashFree$Program" "numbers" "[I") (List.mem_of_getElem? (i := 8) rfl)) (fun _ h9 => h9) rfl dX4_goRound_40 ?_
      refine lv_iload_n hx hb dX4_goRound_43 rfl (lv_at hl 0 rfl) ?_
      refine va_iald hx hb hK hP 4 0 rfl rfl (vp_in_nI (by omega) (by decide)) dX4_goRound_44 ?_
      refine lv_topi (fun v8 ev8 => ?_)
      obtain rfl : v8 = fN xf := ev8.trans (by rw [nI_clamp (by omega)])
      refine lv_icmp_lt (tgt := 62) hx hb dX4_goRound_45 (by decide) (fun hc9 => ?_) (fun hc9 => ?_)
      ·
        refine lv_aload_n hx hb dX4_goRound_62 rfl (lv_at hl 1 rfl) ?_
        have hPc := hP.sub (ws' := [(ow 0, .inr (4, gMa ow (nI st) rf lt en (nI lo) (nI oz)))]) [0] rfl
        have hKc := hK.sub (tys' := []) [] rfl
        have hDc := hD.sub (ws' := [(ow 0, .inr (4, gMa ow (nI st) rf lt en (nI lo) (nI oz)))]) [0] (by decide) rfl
        have hFc := va_free (wc := [(ow 0, .inr (4, gMa ow (nI st) rf lt en (nI lo) (nI oz)))]) hD hS hA [0] rfl
        refine va_calli (va_runV (As := []) (rest := []) ⟨hx, hb, hml, hown, hts⟩ (k_step l D _ ow cI st rf lt en lo oz hst) (cwV 0 hts g_k_goRound_k_step_75 rfl rfl rfl (by decide +kernel) ⟨(Nat.le_of_ble_eq_true rfl), (Nat.le_of_ble_eq_true rfl)⟩) (PcWC_V (q0 := 0) hPc hKc hDc hN rfl rfl) rfl rfl hl.1 rfl (lv_room (Nat.le_of_ble_eq_true rfl)) dX4_goRound_63 ⟨(Nat.le_of_ble_eq_true rfl), (Nat.le_of_ble_eq_true rfl)⟩) hS (fun q _ h => hFc q h) hFc (fun r10 uu tt H locs htt hvm hw hB hz1 hk1 hS => ?_)
        obtain ⟨w11, w12⟩ := uu
        obtain ⟨hP1, hK1, hD1⟩ := hB
        rw [htt] at hP1
        have hK1 := va_K.moved hvm.symm hK1
        have hP1 : va_P D vwCl [(ow 0, .inr (4, gMa ow (nI w11) rf lt w12 (nI lo) (nI oz)))] H := hP1
        obtain ⟨hP, hD⟩ := va_join (wr := [(ow 1, .inl (cI, 5, .inl fR)), (oq 1, .inr (7, [.int (nI pz), .ref (oq 2), .ref (oq 3), .ref (oq 4)])), (oq 2, .inl (cI, 600, .inl fK)), (oq 3, .inl (cI, 600, .inl fN)), (oq 4, .inl (cI, 600, .inl fL))]) (w1 := [(ow 0, .inr (4, gMa ow (nI w11) rf lt w12 (nI lo) (nI oz)))]) hP hD [0] [1, 2, 3, 4, 5] rfl rfl (by decide) (by decide) hk1 hFc hP1 hD1
        have hP : va_P D vwCl [(ow 1, .inl (cI, 5, .inl fR)), (oq 1, .inr (7, [.int (nI pz), .ref (oq 2), .ref (oq 3), .ref (oq 4)])), (oq 2, .inl (cI, 600, .inl fK)), (oq 3, .inl (cI, 600, .inl fN)), (oq 4, .inl (cI, 600, .inl fL)), (ow 0, .inr (4, gMa ow (nI w11) rf lt w12 (nI lo) (nI oz)))] H := hP
        have hD : va_D A [(ow 1, .inl (cI, 5, .inl fR)), (oq 1, .inr (7, [.int (nI pz), .ref (oq 2), .ref (oq 3), .ref (oq 4)])), (oq 2, .inl (cI, 600, .inl fK)), (oq 3, .inl (cI, 600, .inl fN)), (oq 4, .inl (cI, 600, .inl fL)), (ow 0, .inr (4, gMa ow (nI w11) rf lt w12 (nI lo) (nI oz)))] := hD
        try dsimp only at hw
        clear hz1 hk1 hFc hPc hKc hDc
        rcases hw with ⟨rfl, hA_r10⟩ | ⟨rfl, hA_r10⟩
        ·
          obtain ⟨hA_r10_1, hA_r10_2, hA_r10_3, hA_r10_4⟩ := hA_r10
          refine lv_if_eq (tgt := 84) hx hb dX4_goRound_66 (by decide) (fun hc => absurd hc (by decide)) (fun hc => ?_)
          refine lv_aload_n hx hb dX4_goRound_69 rfl (lv_at hl 1 rfl) ?_
          refine va_get (D := D) (ci := 4) (v := .ref (ow 1)) (C := RX4) (T := TX4) (N := 8) hx hb hts hin_X4 hown hK hP 5 rfl rfl 5 (by decide) (hts (.fieldLink RX4 9 "ClashFree$Machine" "roundOf" "[I") (List.mem_of_getElem? (i := 7) rfl)) (fun _ h9 => h9) rfl dX4_goRound_70 ?_
          refine lv_aload_n hx hb dX4_goRound_73 rfl (lv_at hl 1 rfl) ?_
          refine va_get (D := D) (ci := 4) (v := .int (nI lo)) (C := RX4) (T := TX4) (N := 8) hx hb hts hin_X4 hown hK hP 5 rfl rfl 4 (by decide) (hts (.fieldLink RX4 32 "ClashFree$Machine" "loops" "I") (List.mem_of_getElem? (i := 2) rfl)) (fun _ h9 => h9) rfl dX4_goRound_74 ?_
          refine lv_iconst (v := 1) hx hb dX4_goRound_77 (by decide) ?_
          refine lv_isub hx hb dX4_goRound_78 ?_
          refine lv_topi (fun v13 ev13 => ?_)
          obtain rfl : v13 = nI (lo - 1) := ev13.trans (pk_sub (b := 1) (by omega))
          refine lv_dup2_11 hx hb dX4_goRound_79 rfl rfl ?_
          refine va_iald hx hb hK hP 0 0 rfl rfl (vp_in_nI (by omega) (by decide)) dX4_goRound_80 ?_
          refine lv_topi (fun v14 ev14 => ?_)
          obtain rfl : v14 = fR (lo - 1) := ev14.trans (by rw [nI_clamp (by omega)])
          refine lv_iconst (v := 1) hx hb dX4_goRound_81 (by decide) ?_
          refine lv_iadd hx hb dX4_goRound_82 ?_
          refine lv_topi (fun v15 ev15 => ?_)
          obtain rfl : v15 = fR (lo - 1) + 1 := ev15.trans (rfl)
          refine va_iast hx hb hK hP hD hS 0 0 rfl rfl (vp_in_nI (by omega) (by decide)) dX4_goRound_83 (fun H locs hP hD hS => ?_)
          have hP : va_P D vwCl [(ow 1, .inl (cI, 5, .inl (upd fR (Int32.toNatClampNeg (nI (lo - 1))) (fR (lo - 1) + 1)))), (oq 1, .inr (7, [.int (nI pz), .ref (oq 2), .ref (oq 3), .ref (oq 4)])), (oq 2, .inl (cI, 600, .inl fK)), (oq 3, .inl (cI, 600, .inl fN)), (oq 4, .inl (cI, 600, .inl fL)), (ow 0, .inr (4, gMa ow (nI w11) rf lt w12 (nI lo) (nI oz)))] H := hP
          have hD : va_D A [(ow 1, .inl (cI, 5, .inl (upd fR (Int32.toNatClampNeg (nI (lo - 1))) (fR (lo - 1) + 1)))), (oq 1, .inr (7, [.int (nI pz), .ref (oq 2), .ref (oq 3), .ref (oq 4)])), (oq 2, .inl (cI, 600, .inl fK)), (oq 3, .inl (cI, 600, .inl fN)), (oq 4, .inl (cI, 600, .inl fL)), (ow 0, .inr (4, gMa ow (nI w11) rf lt w12 (nI lo) (nI oz)))] := hD
          rw [show (upd fR (Int32.toNatClampNeg (nI (lo - 1))) (fR (lo - 1) + 1)) = (upd fR (lo - 1) (fR (lo - 1) + 1)) from by rw [nI_clamp (by omega)]] at hP hD
          refine lv_iload_n hx hb dX4_goRound_84 rfl (lv_at hl 0 rfl) ?_
          refine lv_iconst (v := 1) hx hb dX4_goRound_85 (by decide) ?_
          refine lv_iadd hx hb dX4_goRound_86 ?_
          refine lv_topi (fun v16 ev16 => ?_)
          obtain rfl : v16 = nI (xf + 1) := ev16.trans (nI_1 _)
          exact W.iret (v := nI (xf + 1)) hx hb hr (fun t ht hW => ⟨⟨nI (xf + 1), (w11, w12, lo, (upd fR (lo - 1) (fR (lo - 1) + 1))), rfl, (by (try dsimp only); first | done | exact ⟨⟨by omega, by omega⟩, Or.inr ⟨xf, hxf, hfl, h8f, hp1, Or.inr ⟨hc9, rfl, Or.inl ⟨hA_r10_2, hA_r10_3, hA_r10_4, rfl, rfl⟩⟩⟩⟩), by rw [ht]; exact hP.sub [5, 0, 1, 2, 3, 4] rfl, va_K.moved hW.alike (hK.sub [0] rfl), hD.sub [5, 0, 1, 2, 3, 4] (by decide) rfl⟩, hS.F ht⟩) hS.2.2 dX4_goRound_87
        ·
          obtain ⟨hA_r10_1, hA_r10_2, hA_r10_3, hA_r10_4⟩ := hA_r10
          refine lv_if_eq (tgt := 84) hx hb dX4_goRound_66 (by decide) (fun hc => ?_) (fun hc => absurd (by decide) hc)
          refine lv_iload_n hx hb dX4_goRound_84 rfl (lv_at hl 0 rfl) ?_
          refine lv_iconst (v := 1) hx hb dX4_goRound_85 (by decide) ?_
          refine lv_iadd hx hb dX4_goRound_86 ?_
          refine lv_topi (fun v17 ev17 => ?_)
          obtain rfl : v17 = nI (xf + 1) := ev17.trans (nI_1 _)
          exact W.iret (v := nI (xf + 1)) hx hb hr (fun t ht hW => ⟨⟨nI (xf + 1), (w11, w12, lo, fR), rfl, (by (try dsimp only); first | done | exact ⟨⟨by omega, by omega⟩, Or.inr ⟨xf, hxf, hfl, h8f, hp1, Or.inr ⟨hc9, rfl, Or.inr ⟨hA_r10_2, hA_r10_3, hA_r10_4, rfl, rfl⟩⟩⟩⟩), by rw [ht]; exact hP.sub [5, 0, 1, 2, 3, 4] rfl, va_K.moved hW.alike (hK.sub [0] rfl), hD.sub [5, 0, 1, 2, 3, 4] (by decide) rfl⟩, hS.F ht⟩) hS.2.2 dX4_goRound_87
      ·
        refine lv_aload_n hx hb dX4_goRound_48 rfl (lv_at hl 1 rfl) ?_
        refine lv_dup hx hb dX4_goRound_49 rfl ?_
        refine va_get (D := D) (ci := 4) (v := .int (nI lo)) (C := RX4) (T := TX4) (N := 8) hx hb hts hin_X4 hown hK hP 0 rfl rfl 4 (by decide) (hts (.fieldLink RX4 32 "ClashFree$Machine" "loops" "I") (List.mem_of_getElem? (i := 2) rfl)) (fun _ h9 => h9) rfl dX4_goRound_50 ?_
        refine lv_iconst (v := 1) hx hb dX4_goRound_53 (by decide) ?_
        refine lv_isub hx hb dX4_goRound_54 ?_
        refine lv_topi (fun v18 ev18 => ?_)
        obtain rfl : v18 = nI (lo - 1) := ev18.trans (pk_sub (b := 1) (by omega))
        refine va_put (D := D) (ci := 4) (v := .int (nI (lo - 1))) (ty := .int) (C := RX4) (T := TX4) (N := 8) hx hb hts hin_X4 tyX4 tyX4_ok nmX4 hown hK hP hD hS 0 rfl rfl 4 (by decide) (hts (.fieldLink RX4 32 "ClashFree$Machine" "loops" "I") (List.mem_of_getElem? (i := 2) rfl)) (fun _ h9 => h9) rfl (by decide +kernel) rfl rfl (Nat.le_of_ble_eq_true rfl) dX4_goRound_55 (fun H locs hP hD hS => ?_)
        have hP : va_P D vwCl [(ow 0, .inr (4, gMa ow (nI st) rf lt en (nI (lo - 1)) (nI oz))), (ow 1, .inl (cI, 5, .inl fR)), (oq 1, .inr (7, [.int (nI pz), .ref (oq 2), .ref (oq 3), .ref (oq 4)])), (oq 2, .inl (cI, 600, .inl fK)), (oq 3, .inl (cI, 600, .inl fN)), (oq 4, .inl (cI, 600, .inl fL))] H := hP
        have hD : va_D A [(ow 0, .inr (4, gMa ow (nI st) rf lt en (nI (lo - 1)) (nI oz))), (ow 1, .inl (cI, 5, .inl fR)), (oq 1, .inr (7, [.int (nI pz), .ref (oq 2), .ref (oq 3), .ref (oq 4)])), (oq 2, .inl (cI, 600, .inl fK)), (oq 3, .inl (cI, 600, .inl fN)), (oq 4, .inl (cI, 600, .inl fL))] := hD
        refine lv_iload_n hx hb dX4_goRound_58 rfl (lv_at hl 3 rfl) ?_
        refine lv_iconst (v := 1) hx hb dX4_goRound_59 (by decide) ?_
        refine lv_iadd hx hb dX4_goRound_60 ?_
        refine lv_topi (fun v19 ev19 => ?_)
        obtain rfl : v19 = nI (xa + 1) := ev19.trans (nI_1 _)
        exact W.iret (v := nI (xa + 1)) hx hb hr (fun t ht hW => ⟨⟨nI (xa + 1), (st, en, (lo - 1), fR), rfl, (by (try dsimp only); first | done | exact ⟨⟨by omega, by omega⟩, Or.inr ⟨xf, hxf, hfl, h8f, hp1, Or.inl ⟨hc9, rfl, rfl, rfl, rfl, rfl⟩⟩⟩), by rw [ht]; exact hP.sub [0, 1, 2, 3, 4, 5] rfl, va_K.moved hW.alike (hK.sub [0] rfl), hD.sub [0, 1, 2, 3, 4, 5] (by decide) rfl⟩, hS.F ht⟩) hS.2.2 dX4_goRound_61
    ·
      have hnf : ∀ x, x < pz → fL xa = nI x → ¬ fK x = 8 := fun x hx9 e9 => hA_r4 x hx9 (by
        rw [nI_clamp (by omega)] at ev1
        exact ev1.trans e9)
      refine lv_if_ne (tgt := 26) hx hb dX4_goRound_19 (by decide) (fun hc => absurd (by decide) hc) (fun hc => ?_)
      refine lv_iload_n hx hb dX4_goRound_22 rfl (lv_at hl 3 rfl) ?_
      refine lv_iconst (v := 1) hx hb dX4_goRound_23 (by decide) ?_
      refine lv_iadd hx hb dX4_goRound_24 ?_
      refine lv_topi (fun v20 ev20 => ?_)
      obtain rfl : v20 = nI (xa + 1) := ev20.trans (nI_1 _)
      exact W.iret (v := nI (xa + 1)) hx hb hr (fun t ht hW => ⟨⟨nI (xa + 1), (st, en, lo, fR), rfl, (by (try dsimp only); first | done | exact ⟨⟨by omega, by omega⟩, Or.inl ⟨Or.inr hnf, rfl, rfl, rfl, rfl, rfl⟩⟩), by rw [ht]; exact hP.sub [0, 1, 2, 3, 4, 5] rfl, va_K.moved hW.alike (hK.sub [0] rfl), hD.sub [0, 1, 2, 3, 4, 5] (by decide) rfl⟩, hS.F ht⟩) hS.2.2 dX4_goRound_25

def own_k_calculate : List Cond := [.methodLink RX4 54 yX4_pop, .instanceMethod yX4_pop, .selects RX4 yX4_pop yX4_pop, .initialized RX4, .methodLink RX4 50 yX4_push, .instanceMethod yX4_push, .selects RX4 yX4_push yX4_push]
def wp_k_calculate : List Cond := .code yX4_calculate cX4_calculate 4 none :: (own_k_calculate ++ (wp_k_pop ++ (wp_k_push ++ ([] : List Cond))))
set_option maxRecDepth 20000 in
theorem inown_k_calculate : ∀ w ∈ own_k_calculate, w ∈ lw_tbl := mem_places [1103, 1105, 27, 114, 1099, 1101, 26] (by decide +kernel)
set_option maxRecDepth 20000 in
theorem in_k_calculate : ∀ w ∈ wp_k_calculate, w ∈ lw_tbl := List.forall_mem_cons.mpr ⟨List.mem_of_getElem? (i := 1138) (by decide +kernel), List.forall_mem_append.mpr ⟨inown_k_calculate, List.forall_mem_append.mpr ⟨in_k_pop, List.forall_mem_append.mpr ⟨in_k_push, fun _ h => absurd h List.not_mem_nil⟩⟩⟩⟩
set_option maxRecDepth 20000 in
theorem good_k_calculate : wp_k_calculate.all goodWord = true := by decide +kernel
set_option maxRecDepth 20000 in
theorem g_k_calculate_k_pop_54 : GoodIn wp_k_calculate (wsV RX4 54 RX4 yX4_pop wp_k_pop) := goodIn_sub (List.forall_mem_append.mpr ⟨List.forall_mem_cons.mpr ⟨(List.mem_of_getElem? (i := 1) rfl), List.forall_mem_cons.mpr ⟨(List.mem_of_getElem? (i := 2) rfl), List.forall_mem_cons.mpr ⟨(List.mem_of_getElem? (i := 3) rfl), List.forall_mem_cons.mpr ⟨(List.mem_of_getElem? (i := 4) rfl), fun _ h => absurd h List.not_mem_nil⟩⟩⟩⟩, (fun _ h => (List.mem_cons_of_mem _ (List.mem_append_right _ (List.mem_append_left _ h))))⟩) (by decide +kernel)
set_option maxRecDepth 20000 in
theorem g_k_calculate_k_push_50 : GoodIn wp_k_calculate (wsV RX4 50 RX4 yX4_push wp_k_push) := goodIn_sub (List.forall_mem_append.mpr ⟨List.forall_mem_cons.mpr ⟨(List.mem_of_getElem? (i := 5) rfl), List.forall_mem_cons.mpr ⟨(List.mem_of_getElem? (i := 6) rfl), List.forall_mem_cons.mpr ⟨(List.mem_of_getElem? (i := 7) rfl), List.forall_mem_cons.mpr ⟨(List.mem_of_getElem? (i := 4) rfl), fun _ h => absurd h List.not_mem_nil⟩⟩⟩⟩, (fun _ h => (List.mem_cons_of_mem _ (List.mem_append_right _ (List.mem_append_right _ (List.mem_append_left _ h)))))⟩) (by decide +kernel)
set_option maxHeartbeats 4000000 in
set_option maxRecDepth 100000 in
theorem k_calculate (l : Launch) (D : va_G) (sz : Nat) (ow : Nat → Nat) (cI : ClassId) (st : Nat) (rf : Int32) (lt : Int32) (en : Int32) (lo : Nat) (oz : Nat) (fP : Nat → Int32) (z1 : Int32) (hoz : oz ≤ 64) : Met l yX4_calculate wp_k_calculate ({ frames := 1, cells := 0, slots := 0, locals := 21 }) (PcWC D [.ref (ow 0), .int z1] sz [(ow 0, .inr (4, gMa ow (nI st) rf lt en (nI lo) (nI oz))), (ow 2, .inl (cI, 64, .inl fP))] [(cI, .int)]) (va_Qv (fun (u : (Nat) × (Nat → Int32)) => u.1 ≤ 64 ∧ ∀ os kc, z1 = nI kc → kc ≤ 255 → oz = os.length → OsM os fP → u.1 = (pshC os.tail.tail (jnD kc (os.tail.headD 0) (os.headD 0))).length ∧ OsM (pshC os.tail.tail (jnD kc (os.tail.headD 0) (os.headD 0))) u.2) (fun (u : (Nat) × (Nat → Int32)) t => va_P D vwCl [(ow 0, .inr (4, gMa ow (nI st) rf lt en (nI lo) (nI u.1))), (ow 2, .inl (cI, 64, .inl u.2))] t.heap ∧ va_K D vwCl [(cI, .int)] t ∧ va_D (va_A [(ow 0, .inr (4, gMa ow (nI st) rf lt en (nI lo) (nI oz))), (ow 2, .inl (cI, 64, .inl fP))] sz) [(ow 0, .inr (4, gMa ow (nI st) rf lt en (nI lo) (nI u.1))), (ow 2, .inl (cI, 64, .inl u.2))]) (va_A [(ow 0, .inr (4, gMa ow (nI st) rf lt en (nI lo) (nI oz))), (ow 2, .inl (cI, 64, .inl fP))] sz)) 0 0 (va_A [(ow 0, .inr (4, gMa ow (nI st) rf lt en (nI lo) (nI oz))), (ow 2, .inl (cI, 64, .inl fP))] sz) := by
  refine Met.ofW (cc := cX4_calculate) (maxL := 4) (ret := none) (by decide) rfl ?_
  intro p e s m args below meth c s₁ B hml hv
  obtain ⟨rfl, hsz, hP, hK, hD0, hN⟩ := hv
  have hx := B.exec
  have hb := B.bytes
  have hr := B.returns
  have hts := atoms_spec (ws := wp_k_calculate) B.pre
  have hown : s.vm.findClass RX4 = some m.cls := findClass_of_methodNamed B.named
  have hlocks := B.notSynchronized
  subst hsz
  have hD := hD0.self (sz := s.heap.size)
  generalize hAe : va_A [(ow 0, .inr (4, gMa ow (nI st) rf lt en (nI lo) (nI oz))), (ow 2, .inl (cI, 64, .inl fP))] s.heap.size = A at hD ⊢
  have hA : ∀ q : Nat, s.heap.size ≤ q → A q := fun q h => by rw [← hAe]; exact Or.inr h
  have hS : va_S A s.heap s.heap [] := va_S.rf
  have hP : va_P D vwCl [(ow 0, .inr (4, gMa ow (nI st) rf lt en (nI lo) (nI oz))), (ow 2, .inl (cI, 64, .inl fP))] s.heap := hP
  have hl := lv_entry ([.ref (ow 0), .int z1]) (n := 4) (Nat.le_of_ble_eq_true rfl)
  rw [lg_entry_eq]
  generalize (lg_sl ([.ref (ow 0), .int z1]) ++ List.replicate (4 - (lg_sl ([.ref (ow 0), .int z1])).length) Slot.unset).toArray = ls at hl ⊢
  have hl : lv_has ls 4 [(0, .ref (ow 0)), (1, .int z1)] := hl
  refine lv_aload_n hx hb dX4_calculate_0 rfl (lv_at hl 0 rfl) ?_
  have hPc := hP.sub (ws' := [(ow 0, .inr (4, gMa ow (nI st) rf lt en (nI lo) (nI oz))), (ow 2, .inl (cI, 64, .inl fP))]) [0, 1] rfl
  have hKc := hK.sub (tys' := [(cI, .int)]) [0] rfl
  have hDc := hD.sub (ws' := [(ow 0, .inr (4, gMa ow (nI st) rf lt en (nI lo) (nI oz))), (ow 2, .inl (cI, 64, .inl fP))]) [0, 1] (by decide) rfl
  have hFc := va_free (wc := [(ow 0, .inr (4, gMa ow (nI st) rf lt en (nI lo) (nI oz))), (ow 2, .inl (cI, 64, .inl fP))]) hD hS hA [0, 1] rfl
  refine va_calli (va_runV (As := []) (rest := []) ⟨hx, hb, hml, hown, hts⟩ (k_pop l D _ ow cI st rf lt en lo oz fP hoz) (cwV 0 hts g_k_calculate_k_pop_54 rfl rfl rfl (by decide +kernel) ⟨(Nat.le_of_ble_eq_true rfl), (Nat.le_of_ble_eq_true rfl)⟩) (PcWC_V (q0 := 0) hPc hKc hDc hN rfl rfl) rfl rfl hl.1 rfl (lv_room (Nat.le_of_ble_eq_true rfl)) dX4_calculate_1 ⟨(Nat.le_of_ble_eq_true rfl), (Nat.le_of_ble_eq_true rfl)⟩) hS (fun q _ h => hFc q h) hFc (fun r1 uu tt H locs htt hvm hw hB hz1 hk1 hS => ?_)
  obtain ⟨w2, rfl⟩ : ∃ z, z = uu := ⟨_, rfl⟩
  obtain ⟨hP1, hK1, hD1⟩ := hB
  rw [htt] at hP1
  have hK1 := va_K.moved hvm.symm hK1
  have hP1 : va_P D vwCl [(ow 0, .inr (4, gMa ow (nI st) rf lt en (nI lo) (nI w2))), (ow 2, .inl (cI, 64, .inl fP))] H := hP1
  obtain ⟨hP, hD⟩ := va_join (wr := []) (w1 := [(ow 0, .inr (4, gMa ow (nI st) rf lt en (nI lo) (nI w2))), (ow 2, .inl (cI, 64, .inl fP))]) hP hD [0, 1] [] rfl rfl (by decide) (by decide) hk1 hFc hP1 hD1
  have hP : va_P D vwCl [(ow 0, .inr (4, gMa ow (nI st) rf lt en (nI lo) (nI w2))), (ow 2, .inl (cI, 64, .inl fP))] H := hP
  have hD : va_D A [(ow 0, .inr (4, gMa ow (nI st) rf lt en (nI lo) (nI w2))), (ow 2, .inl (cI, 64, .inl fP))] := hD
  try dsimp only at hw
  clear hz1 hk1 hFc hPc hKc hDc
  obtain ⟨hm3_hoz, hm3_v⟩ := hw
  refine lv_istore_n (lv' := [(2, .int r1), (0, .ref (ow 0)), (1, .int z1)]) hx hb dX4_calculate_4 rfl hl (by decide) rfl (fun ls hl => ?_)
  refine lv_aload_n hx hb dX4_calculate_5 rfl (lv_at hl 1 rfl) ?_
  have hPc := hP.sub (ws' := [(ow 0, .inr (4, gMa ow (nI st) rf lt en (nI lo) (nI w2))), (ow 2, .inl (cI, 64, .inl fP))]) [0, 1] rfl
  have hKc := hK.sub (tys' := [(cI, .int)]) [0] rfl
  have hDc := hD.sub (ws' := [(ow 0, .inr (4, gMa ow (nI st) rf lt en (nI lo) (nI w2))), (ow 2, .inl (cI, 64, .inl fP))]) [0, 1] (by decide) rfl
  have hFc := va_free (wc := [(ow 0, .inr (4, gMa ow (nI st) rf lt en (nI lo) (nI w2))), (ow 2, .inl (cI, 64, .inl fP))]) hD hS hA [0, 1] rfl
  refine va_calli (va_runV (As := []) (rest := []) ⟨hx, hb, hml, hown, hts⟩ (k_pop l D _ ow cI st rf lt en lo w2 fP hm3_hoz) (cwV 0 hts g_k_calculate_k_pop_54 rfl rfl rfl (by decide +kernel) ⟨(Nat.le_of_ble_eq_true rfl), (Nat.le_of_ble_eq_true rfl)⟩) (PcWC_V (q0 := 0) hPc hKc hDc hN rfl rfl) rfl rfl hl.1 rfl (lv_room (Nat.le_of_ble_eq_true rfl)) dX4_calculate_6 ⟨(Nat.le_of_ble_eq_true rfl), (Nat.le_of_ble_eq_true rfl)⟩) hS (fun q _ h => hFc q h) hFc (fun r4 uu tt H locs htt hvm hw hB hz1 hk1 hS => ?_)
  obtain ⟨w5, rfl⟩ : ∃ z, z = uu := ⟨_, rfl⟩
  obtain ⟨hP1, hK1, hD1⟩ := hB
  rw [htt] at hP1
  have hK1 := va_K.moved hvm.symm hK1
  have hP1 : va_P D vwCl [(ow 0, .inr (4, gMa ow (nI st) rf lt en (nI lo) (nI w5))), (ow 2, .inl (cI, 64, .inl fP))] H := hP1
  obtain ⟨hP, hD⟩ := va_join (wr := []) (w1 := [(ow 0, .inr (4, gMa ow (nI st) rf lt en (nI lo) (nI w5))), (ow 2, .inl (cI, 64, .inl fP))]) hP hD [0, 1] [] rfl rfl (by decide) (by decide) hk1 hFc hP1 hD1
  have hP : va_P D vwCl [(ow 0, .inr (4, gMa ow (nI st) rf lt en (nI lo) (nI w5))), (ow 2, .inl (cI, 64, .inl fP))] H := hP
  have hD : va_D A [(ow 0, .inr (4, gMa ow (nI st) rf lt en (nI lo) (nI w5))), (ow 2, .inl (cI, 64, .inl fP))] := hD
  try dsimp only at hw
  clear hz1 hk1 hFc hPc hKc hDc
  obtain ⟨hm6_hoz, hm6_v⟩ := hw
  refine lv_istore_n (lv' := [(3, .int r4), (2, .int r1), (0, .ref (ow 0)), (1, .int z1)]) hx hb dX4_calculate_9 rfl hl (by decide) rfl (fun ls hl => ?_)
  refine lv_iload_n hx hb dX4_calculate_10 rfl (lv_at hl 3 rfl) ?_
  by_cases hs7 : z1 = 42
  ·
    subst hs7
    refine lv_tableIn (off := 57) (tgt := 68) hx hb dX4_calculate_11 (by decide) (by decide) (by decide +kernel) (by decide) ?_
    refine lv_aload_n hx hb dX4_calculate_68 rfl (lv_at hl 2 rfl) ?_
    refine lv_iload_n hx hb dX4_calculate_69 rfl (lv_at hl 0 rfl) ?_
    refine lv_iload_n hx hb dX4_calculate_70 rfl (lv_at hl 1 rfl) ?_
    refine lv_imul hx hb dX4_calculate_71 ?_
    have hPc := hP.sub (ws' := [(ow 0, .inr (4, gMa ow (nI st) rf lt en (nI lo) (nI w5))), (ow 2, .inl (cI, 64, .inl fP))]) [0, 1] rfl
    have hKc := hK.sub (tys' := [(cI, .int)]) [0] rfl
    have hDc := hD.sub (ws' := [(ow 0, .inr (4, gMa ow (nI st) rf lt en (nI lo) (nI w5))), (ow 2, .inl (cI, 64, .inl fP))]) [0, 1] (by decide) rfl
    have hFc := va_free (wc := [(ow 0, .inr (4, gMa ow (nI st) rf lt en (nI lo) (nI w5))), (ow 2, .inl (cI, 64, .inl fP))]) hD hS hA [0, 1] rfl
    refine va_callv (va_runV (As := [.int (r4 * r1)]) (rest := []) ⟨hx, hb, hml, hown, hts⟩ (k_push l D _ ow cI st rf lt en lo w5 fP (r4 * r1) hm6_hoz) (cwV 1 hts g_k_calculate_k_push_50 rfl rfl rfl (by decide +kernel) ⟨(Nat.le_of_ble_eq_true rfl), (Nat.le_of_ble_eq_true rfl)⟩) (PcWC_V (q0 := 0) hPc hKc hDc hN rfl rfl) rfl rfl hl.1 rfl (lv_room (Nat.le_of_ble_eq_true rfl)) dX4_calculate_72 ⟨(Nat.le_of_ble_eq_true rfl), (Nat.le_of_ble_eq_true rfl)⟩) hS (fun q _ h => hFc q h) hFc (fun uu tt H locs htt hvm hw hB hz1 hk1 hS => ?_)
    obtain ⟨w9, w10⟩ := uu
    obtain ⟨hP1, hK1, hD1⟩ := hB
    rw [htt] at hP1
    have hK1 := va_K.moved hvm.symm hK1
    have hP1 : va_P D vwCl [(ow 0, .inr (4, gMa ow (nI st) rf lt en (nI lo) (nI w9))), (ow 2, .inl (cI, 64, .inl w10))] H := hP1
    obtain ⟨hP, hD⟩ := va_join (wr := []) (w1 := [(ow 0, .inr (4, gMa ow (nI st) rf lt en (nI lo) (nI w9))), (ow 2, .inl (cI, 64, .inl w10))]) hP hD [0, 1] [] rfl rfl (by decide) (by decide) hk1 hFc hP1 hD1
    have hP : va_P D vwCl [(ow 0, .inr (4, gMa ow (nI st) rf lt en (nI lo) (nI w9))), (ow 2, .inl (cI, 64, .inl w10))] H := hP
    have hD : va_D A [(ow 0, .inr (4, gMa ow (nI st) rf lt en (nI lo) (nI w9))), (ow 2, .inl (cI, 64, .inl w10))] := hD
    try dsimp only at hw
    clear hz1 hk1 hFc hPc hKc hDc
    obtain ⟨hm11_hoz, hm11_v⟩ := hw
    refine lv_goto (tgt := 111) hx hb dX4_calculate_75 (by decide) ?_
    exact W.vret hx hb hr (fun t ht hW => ⟨⟨(w9, w10), rfl, (by (try dsimp only); first | done | exact ⟨hm11_hoz, fun os kc hz hk e h => by
        obtain rfl : kc = 42 := (nI_eq (b := 42) (by omega) (by decide)).mp hz.symm
        obtain ⟨a1, a2, a3⟩ := hm3_v os e h
        obtain ⟨b1, b2, b3⟩ := hm6_v os.tail a2 a3
        have c := hm11_v os.tail.tail b2 b3
        rw [← a1, ← b1]
        unfold jnD; rw [if_neg (by decide), if_neg (by decide), if_pos rfl]; exact c⟩), by rw [ht]; exact hP.sub [0, 1] rfl, va_K.moved hW.alike (hK.sub [0] rfl), hD.sub [0, 1] (by decide) rfl⟩, hS.F ht⟩) hS.2.2 dX4_calculate_111
  by_cases hs12 : z1 = 43
  ·
    subst hs12
    refine lv_tableIn (off := 37) (tgt := 48) hx hb dX4_calculate_11 (by decide) (by decide) (by decide +kernel) (by decide) ?_
    refine lv_aload_n hx hb dX4_calculate_48 rfl (lv_at hl 2 rfl) ?_
    refine lv_iload_n hx hb dX4_calculate_49 rfl (lv_at hl 0 rfl) ?_
    refine lv_iload_n hx hb dX4_calculate_50 rfl (lv_at hl 1 rfl) ?_
    refine lv_iadd hx hb dX4_calculate_51 ?_
    have hPc := hP.sub (ws' := [(ow 0, .inr (4, gMa ow (nI st) rf lt en (nI lo) (nI w5))), (ow 2, .inl (cI, 64, .inl fP))]) [0, 1] rfl
    have hKc := hK.sub (tys' := [(cI, .int)]) [0] rfl
    have hDc := hD.sub (ws' := [(ow 0, .inr (4, gMa ow (nI st) rf lt en (nI lo) (nI w5))), (ow 2, .inl (cI, 64, .inl fP))]) [0, 1] (by decide) rfl
    have hFc := va_free (wc := [(ow 0, .inr (4, gMa ow (nI st) rf lt en (nI lo) (nI w5))), (ow 2, .inl (cI, 64, .inl fP))]) hD hS hA [0, 1] rfl
    refine va_callv (va_runV (As := [.int (r4 + r1)]) (rest := []) ⟨hx, hb, hml, hown, hts⟩ (k_push l D _ ow cI st rf lt en lo w5 fP (r4 + r1) hm6_hoz) (cwV 1 hts g_k_calculate_k_push_50 rfl rfl rfl (by decide +kernel) ⟨(Nat.le_of_ble_eq_true rfl), (Nat.le_of_ble_eq_true rfl)⟩) (PcWC_V (q0 := 0) hPc hKc hDc hN rfl rfl) rfl rfl hl.1 rfl (lv_room (Nat.le_of_ble_eq_true rfl)) dX4_calculate_52 ⟨(Nat.le_of_ble_eq_true rfl), (Nat.le_of_ble_eq_true rfl)⟩) hS (fun q _ h => hFc q h) hFc (fun uu tt H locs htt hvm hw hB hz1 hk1 hS => ?_)
    obtain ⟨w14, w15⟩ := uu
    obtain ⟨hP1, hK1, hD1⟩ := hB
    rw [htt] at hP1
    have hK1 := va_K.moved hvm.symm hK1
    have hP1 : va_P D vwCl [(ow 0, .inr (4, gMa ow (nI st) rf lt en (nI lo) (nI w14))), (ow 2, .inl (cI, 64, .inl w15))] H := hP1
    obtain ⟨hP, hD⟩ := va_join (wr := []) (w1 := [(ow 0, .inr (4, gMa ow (nI st) rf lt en (nI lo) (nI w14))), (ow 2, .inl (cI, 64, .inl w15))]) hP hD [0, 1] [] rfl rfl (by decide) (by decide) hk1 hFc hP1 hD1
    have hP : va_P D vwCl [(ow 0, .inr (4, gMa ow (nI st) rf lt en (nI lo) (nI w14))), (ow 2, .inl (cI, 64, .inl w15))] H := hP
    have hD : va_D A [(ow 0, .inr (4, gMa ow (nI st) rf lt en (nI lo) (nI w14))), (ow 2, .inl (cI, 64, .inl w15))] := hD
    try dsimp only at hw
    clear hz1 hk1 hFc hPc hKc hDc
    obtain ⟨hm16_hoz, hm16_v⟩ := hw
    refine lv_goto (tgt := 111) hx hb dX4_calculate_55 (by decide) ?_
    exact W.vret hx hb hr (fun t ht hW => ⟨⟨(w14, w15), rfl, (by (try dsimp only); first | done | exact ⟨hm16_hoz, fun os kc hz hk e h => by
        obtain rfl : kc = 43 := (nI_eq (b := 43) (by omega) (by decide)).mp hz.symm
        obtain ⟨a1, a2, a3⟩ := hm3_v os e h
        obtain ⟨b1, b2, b3⟩ := hm6_v os.tail a2 a3
        have c := hm16_v os.tail.tail b2 b3
        rw [← a1, ← b1]
        unfold jnD; rw [if_pos rfl]; exact c⟩), by rw [ht]; exact hP.sub [0, 1] rfl, va_K.moved hW.alike (hK.sub [0] rfl), hD.sub [0, 1] (by decide) rfl⟩, hS.F ht⟩) hS.2.2 dX4_calculate_111
  by_cases hs17 : z1 = 44
  ·
    subst hs17
    refine lv_tableIn (off := 85) (tgt := 96) hx hb dX4_calculate_11 (by decide) (by decide) (by decide +kernel) (by decide) ?_
    refine lv_aload_n hx hb dX4_calculate_96 rfl (lv_at hl 2 rfl) ?_
    refine lv_iload_n hx hb dX4_calculate_97 rfl (lv_at hl 1 rfl) ?_
    refine lv_if_ne (tgt := 105) hx hb dX4_calculate_98 (by decide) (fun hc18 => ?_) (fun hc18 => ?_)
    ·
      refine lv_iload_n hx hb dX4_calculate_105 rfl (lv_at hl 0 rfl) ?_
      refine lv_iload_n hx hb dX4_calculate_106 rfl (lv_at hl 1 rfl) ?_
      refine lv_irem hx hb dX4_calculate_107 (by assumption) ?_
      have hPc := hP.sub (ws' := [(ow 0, .inr (4, gMa ow (nI st) rf lt en (nI lo) (nI w5))), (ow 2, .inl (cI, 64, .inl fP))]) [0, 1] rfl
      have hKc := hK.sub (tys' := [(cI, .int)]) [0] rfl
      have hDc := hD.sub (ws' := [(ow 0, .inr (4, gMa ow (nI st) rf lt en (nI lo) (nI w5))), (ow 2, .inl (cI, 64, .inl fP))]) [0, 1] (by decide) rfl
      have hFc := va_free (wc := [(ow 0, .inr (4, gMa ow (nI st) rf lt en (nI lo) (nI w5))), (ow 2, .inl (cI, 64, .inl fP))]) hD hS hA [0, 1] rfl
      refine va_callv (va_runV (As := [.int (r4 - r4 / r1 * r1)]) (rest := []) ⟨hx, hb, hml, hown, hts⟩ (k_push l D _ ow cI st rf lt en lo w5 fP (r4 - r4 / r1 * r1) hm6_hoz) (cwV 1 hts g_k_calculate_k_push_50 rfl rfl rfl (by decide +kernel) ⟨(Nat.le_of_ble_eq_true rfl), (Nat.le_of_ble_eq_true rfl)⟩) (PcWC_V (q0 := 0) hPc hKc hDc hN rfl rfl) rfl rfl hl.1 rfl (lv_room (Nat.le_of_ble_eq_true rfl)) dX4_calculate_108 ⟨(Nat.le_of_ble_eq_true rfl), (Nat.le_of_ble_eq_true rfl)⟩) hS (fun q _ h => hFc q h) hFc (fun uu tt H locs htt hvm hw hB hz1 hk1 hS => ?_)
      obtain ⟨w20, w21⟩ := uu
      obtain ⟨hP1, hK1, hD1⟩ := hB
      rw [htt] at hP1
      have hK1 := va_K.moved hvm.symm hK1
      have hP1 : va_P D vwCl [(ow 0, .inr (4, gMa ow (nI st) rf lt en (nI lo) (nI w20))), (ow 2, .inl (cI, 64, .inl w21))] H := hP1
      obtain ⟨hP, hD⟩ := va_join (wr := []) (w1 := [(ow 0, .inr (4, gMa ow (nI st) rf lt en (nI lo) (nI w20))), (ow 2, .inl (cI, 64, .inl w21))]) hP hD [0, 1] [] rfl rfl (by decide) (by decide) hk1 hFc hP1 hD1
      have hP : va_P D vwCl [(ow 0, .inr (4, gMa ow (nI st) rf lt en (nI lo) (nI w20))), (ow 2, .inl (cI, 64, .inl w21))] H := hP
      have hD : va_D A [(ow 0, .inr (4, gMa ow (nI st) rf lt en (nI lo) (nI w20))), (ow 2, .inl (cI, 64, .inl w21))] := hD
      try dsimp only at hw
      clear hz1 hk1 hFc hPc hKc hDc
      obtain ⟨hm22_hoz, hm22_v⟩ := hw
      exact W.vret hx hb hr (fun t ht hW => ⟨⟨(w20, w21), rfl, (by (try dsimp only); first | done | exact ⟨hm22_hoz, fun os kc hz hk e h => by
          obtain rfl : kc = 44 := (nI_eq (b := 44) (by omega) (by decide)).mp hz.symm
          obtain ⟨a1, a2, a3⟩ := hm3_v os e h
          obtain ⟨b1, b2, b3⟩ := hm6_v os.tail a2 a3
          have c := hm22_v os.tail.tail b2 b3
          rw [← a1, ← b1]
          unfold jnD; rw [if_neg (by omega), if_neg (by omega), if_neg (by omega), if_neg (by omega)]; rw [if_neg hc18]; exact c⟩), by rw [ht]; exact hP.sub [0, 1] rfl, va_K.moved hW.alike (hK.sub [0] rfl), hD.sub [0, 1] (by decide) rfl⟩, hS.F ht⟩) hS.2.2 dX4_calculate_111
    ·
      refine lv_iconst (v := 0) hx hb dX4_calculate_101 (by decide) ?_
      refine lv_goto (tgt := 108) hx hb dX4_calculate_102 (by decide) ?_
      have hPc := hP.sub (ws' := [(ow 0, .inr (4, gMa ow (nI st) rf lt en (nI lo) (nI w5))), (ow 2, .inl (cI, 64, .inl fP))]) [0, 1] rfl
      have hKc := hK.sub (tys' := [(cI, .int)]) [0] rfl
      have hDc := hD.sub (ws' := [(ow 0, .inr (4, gMa ow (nI st) rf lt en (nI lo) (nI w5))), (ow 2, .inl (cI, 64, .inl fP))]) [0, 1] (by decide) rfl
      have hFc := va_free (wc := [(ow 0, .inr (4, gMa ow (nI st) rf lt en (nI lo) (nI w5))), (ow 2, .inl (cI, 64, .inl fP))]) hD hS hA [0, 1] rfl
      refine va_callv (va_runV (As := [.int 0]) (rest := []) ⟨hx, hb, hml, hown, hts⟩ (k_push l D _ ow cI st rf lt en lo w5 fP 0 hm6_hoz) (cwV 1 hts g_k_calculate_k_push_50 rfl rfl rfl (by decide +kernel) ⟨(Nat.le_of_ble_eq_true rfl), (Nat.le_of_ble_eq_true rfl)⟩) (PcWC_V (q0 := 0) hPc hKc hDc hN rfl rfl) rfl rfl hl.1 rfl (lv_room (Nat.le_of_ble_eq_true rfl)) dX4_calculate_108 ⟨(Nat.le_of_ble_eq_true rfl), (Nat.le_of_ble_eq_true rfl)⟩) hS (fun q _ h => hFc q h) hFc (fun uu tt H locs htt hvm hw hB hz1 hk1 hS => ?_)
      obtain ⟨w24, w25⟩ := uu
      obtain ⟨hP1, hK1, hD1⟩ := hB
      rw [htt] at hP1
      have hK1 := va_K.moved hvm.symm hK1
      have hP1 : va_P D vwCl [(ow 0, .inr (4, gMa ow (nI st) rf lt en (nI lo) (nI w24))), (ow 2, .inl (cI, 64, .inl w25))] H := hP1
      obtain ⟨hP, hD⟩ := va_join (wr := []) (w1 := [(ow 0, .inr (4, gMa ow (nI st) rf lt en (nI lo) (nI w24))), (ow 2, .inl (cI, 64, .inl w25))]) hP hD [0, 1] [] rfl rfl (by decide) (by decide) hk1 hFc hP1 hD1
      have hP : va_P D vwCl [(ow 0, .inr (4, gMa ow (nI st) rf lt en (nI lo) (nI w24))), (ow 2, .inl (cI, 64, .inl w25))] H := hP
      have hD : va_D A [(ow 0, .inr (4, gMa ow (nI st) rf lt en (nI lo) (nI w24))), (ow 2, .inl (cI, 64, .inl w25))] := hD
      try dsimp only at hw
      clear hz1 hk1 hFc hPc hKc hDc
      obtain ⟨hm26_hoz, hm26_v⟩ := hw
      exact W.vret hx hb hr (fun t ht hW => ⟨⟨(w24, w25), rfl, (by (try dsimp only); first | done | exact ⟨hm26_hoz, fun os kc hz hk e h => by
          obtain rfl : kc = 44 := (nI_eq (b := 44) (by omega) (by decide)).mp hz.symm
          obtain ⟨a1, a2, a3⟩ := hm3_v os e h
          obtain ⟨b1, b2, b3⟩ := hm6_v os.tail a2 a3
          have c := hm26_v os.tail.tail b2 b3
          rw [← a1, ← b1]
          unfold jnD; rw [if_neg (by omega), if_neg (by omega), if_neg (by omega), if_neg (by omega)]; rw [if_pos hc18]; exact c⟩), by rw [ht]; exact hP.sub [0, 1] rfl, va_K.moved hW.alike (hK.sub [0] rfl), hD.sub [0, 1] (by decide) rfl⟩, hS.F ht⟩) hS.2.2 dX4_calculate_111
  by_cases hs27 : z1 = 45
  ·
    subst hs27
    refine lv_tableIn (off := 47) (tgt := 58) hx hb dX4_calculate_11 (by decide) (by decide) (by decide +kernel) (by decide) ?_
    refine lv_aload_n hx hb dX4_calculate_58 rfl (lv_at hl 2 rfl) ?_
    refine lv_iload_n hx hb dX4_calculate_59 rfl (lv_at hl 0 rfl) ?_
    refine lv_iload_n hx hb dX4_calculate_60 rfl (lv_at hl 1 rfl) ?_
    refine lv_isub hx hb dX4_calculate_61 ?_
    have hPc := hP.sub (ws' := [(ow 0, .inr (4, gMa ow (nI st) rf lt en (nI lo) (nI w5))), (ow 2, .inl (cI, 64, .inl fP))]) [0, 1] rfl
    have hKc := hK.sub (tys' := [(cI, .int)]) [0] rfl
    have hDc := hD.sub (ws' := [(ow 0, .inr (4, gMa ow (nI st) rf lt en (nI lo) (nI w5))), (ow 2, .inl (cI, 64, .inl fP))]) [0, 1] (by decide) rfl
    have hFc := va_free (wc := [(ow 0, .inr (4, gMa ow (nI st) rf lt en (nI lo) (nI w5))), (ow 2, .inl (cI, 64, .inl fP))]) hD hS hA [0, 1] rfl
    refine va_callv (va_runV (As := [.int (r4 - r1)]) (rest := []) ⟨hx, hb, hml, hown, hts⟩ (k_push l D _ ow cI st rf lt en lo w5 fP (r4 - r1) hm6_hoz) (cwV 1 hts g_k_calculate_k_push_50 rfl rfl rfl (by decide +kernel) ⟨(Nat.le_of_ble_eq_true rfl), (Nat.le_of_ble_eq_true rfl)⟩) (PcWC_V (q0 := 0) hPc hKc hDc hN rfl rfl) rfl rfl hl.1 rfl (lv_room (Nat.le_of_ble_eq_true rfl)) dX4_calculate_62 ⟨(Nat.le_of_ble_eq_true rfl), (Nat.le_of_ble_eq_true rfl)⟩) hS (fun q _ h => hFc q h) hFc (fun uu tt H locs htt hvm hw hB hz1 hk1 hS => ?_)
    obtain ⟨w29, w30⟩ := uu
    obtain ⟨hP1, hK1, hD1⟩ := hB
    rw [htt] at hP1
    have hK1 := va_K.moved hvm.symm hK1
    have hP1 : va_P D vwCl [(ow 0, .inr (4, gMa ow (nI st) rf lt en (nI lo) (nI w29))), (ow 2, .inl (cI, 64, .inl w30))] H := hP1
    obtain ⟨hP, hD⟩ := va_join (wr := []) (w1 := [(ow 0, .inr (4, gMa ow (nI st) rf lt en (nI lo) (nI w29))), (ow 2, .inl (cI, 64, .inl w30))]) hP hD [0, 1] [] rfl rfl (by decide) (by decide) hk1 hFc hP1 hD1
    have hP : va_P D vwCl [(ow 0, .inr (4, gMa ow (nI st) rf lt en (nI lo) (nI w29))), (ow 2, .inl (cI, 64, .inl w30))] H := hP
    have hD : va_D A [(ow 0, .inr (4, gMa ow (nI st) rf lt en (nI lo) (nI w29))), (ow 2, .inl (cI, 64, .inl w30))] := hD
    try dsimp only at hw
    clear hz1 hk1 hFc hPc hKc hDc
    obtain ⟨hm31_hoz, hm31_v⟩ := hw
    refine lv_goto (tgt := 111) hx hb dX4_calculate_65 (by decide) ?_
    exact W.vret hx hb hr (fun t ht hW => ⟨⟨(w29, w30), rfl, (by (try dsimp only); first | done | exact ⟨hm31_hoz, fun os kc hz hk e h => by
        obtain rfl : kc = 45 := (nI_eq (b := 45) (by omega) (by decide)).mp hz.symm
        obtain ⟨a1, a2, a3⟩ := hm3_v os e h
        obtain ⟨b1, b2, b3⟩ := hm6_v os.tail a2 a3
        have c := hm31_v os.tail.tail b2 b3
        rw [← a1, ← b1]
        unfold jnD; rw [if_neg (by decide), if_pos rfl]; exact c⟩), by rw [ht]; exact hP.sub [0, 1] rfl, va_K.moved hW.alike (hK.sub [0] rfl), hD.sub [0, 1] (by decide) rfl⟩, hS.F ht⟩) hS.2.2 dX4_calculate_111
  by_cases hs32 : z1 = 46
  ·
    subst hs32
    refine lv_tableIn (off := 85) (tgt := 96) hx hb dX4_calculate_11 (by decide) (by decide) (by decide +kernel) (by decide) ?_
    refine lv_aload_n hx hb dX4_calculate_96 rfl (lv_at hl 2 rfl) ?_
    refine lv_iload_n hx hb dX4_calculate_97 rfl (lv_at hl 1 rfl) ?_
    refine lv_if_ne (tgt := 105) hx hb dX4_calculate_98 (by decide) (fun hc33 => ?_) (fun hc33 => ?_)
    ·
      refine lv_iload_n hx hb dX4_calculate_105 rfl (lv_at hl 0 rfl) ?_
      refine lv_iload_n hx hb dX4_calculate_106 rfl (lv_at hl 1 rfl) ?_
      refine lv_irem hx hb dX4_calculate_107 (by assumption) ?_
      have hPc := hP.sub (ws' := [(ow 0, .inr (4, gMa ow (nI st) rf lt en (nI lo) (nI w5))), (ow 2, .inl (cI, 64, .inl fP))]) [0, 1] rfl
      have hKc := hK.sub (tys' := [(cI, .int)]) [0] rfl
      have hDc := hD.sub (ws' := [(ow 0, .inr (4, gMa ow (nI st) rf lt en (nI lo) (nI w5))), (ow 2, .inl (cI, 64, .inl fP))]) [0, 1] (by decide) rfl
      have hFc := va_free (wc := [(ow 0, .inr (4, gMa ow (nI st) rf lt en (nI lo) (nI w5))), (ow 2, .inl (cI, 64, .inl fP))]) hD hS hA [0, 1] rfl
      refine va_callv (va_runV (As := [.int (r4 - r4 / r1 * r1)]) (rest := []) ⟨hx, hb, hml, hown, hts⟩ (k_push l D _ ow cI st rf lt en lo w5 fP (r4 - r4 / r1 * r1) hm6_hoz) (cwV 1 hts g_k_calculate_k_push_50 rfl rfl rfl (by decide +kernel) ⟨(Nat.le_of_ble_eq_true rfl), (Nat.le_of_ble_eq_true rfl)⟩) (PcWC_V (q0 := 0) hPc hKc hDc hN rfl rfl) rfl rfl hl.1 rfl (lv_room (Nat.le_of_ble_eq_true rfl)) dX4_calculate_108 ⟨(Nat.le_of_ble_eq_true rfl), (Nat.le_of_ble_eq_true rfl)⟩) hS (fun q _ h => hFc q h) hFc (fun uu tt H locs htt hvm hw hB hz1 hk1 hS => ?_)
      obtain ⟨w35, w36⟩ := uu
      obtain ⟨hP1, hK1, hD1⟩ := hB
      rw [htt] at hP1
      have hK1 := va_K.moved hvm.symm hK1
      have hP1 : va_P D vwCl [(ow 0, .inr (4, gMa ow (nI st) rf lt en (nI lo) (nI w35))), (ow 2, .inl (cI, 64, .inl w36))] H := hP1
      obtain ⟨hP, hD⟩ := va_join (wr := []) (w1 := [(ow 0, .inr (4, gMa ow (nI st) rf lt en (nI lo) (nI w35))), (ow 2, .inl (cI, 64, .inl w36))]) hP hD [0, 1] [] rfl rfl (by decide) (by decide) hk1 hFc hP1 hD1
      have hP : va_P D vwCl [(ow 0, .inr (4, gMa ow (nI st) rf lt en (nI lo) (nI w35))), (ow 2, .inl (cI, 64, .inl w36))] H := hP
      have hD : va_D A [(ow 0, .inr (4, gMa ow (nI st) rf lt en (nI lo) (nI w35))), (ow 2, .inl (cI, 64, .inl w36))] := hD
      try dsimp only at hw
      clear hz1 hk1 hFc hPc hKc hDc
      obtain ⟨hm37_hoz, hm37_v⟩ := hw
      exact W.vret hx hb hr (fun t ht hW => ⟨⟨(w35, w36), rfl, (by (try dsimp only); first | done | exact ⟨hm37_hoz, fun os kc hz hk e h => by
          obtain rfl : kc = 46 := (nI_eq (b := 46) (by omega) (by decide)).mp hz.symm
          obtain ⟨a1, a2, a3⟩ := hm3_v os e h
          obtain ⟨b1, b2, b3⟩ := hm6_v os.tail a2 a3
          have c := hm37_v os.tail.tail b2 b3
          rw [← a1, ← b1]
          unfold jnD; rw [if_neg (by omega), if_neg (by omega), if_neg (by omega), if_neg (by omega)]; rw [if_neg hc33]; exact c⟩), by rw [ht]; exact hP.sub [0, 1] rfl, va_K.moved hW.alike (hK.sub [0] rfl), hD.sub [0, 1] (by decide) rfl⟩, hS.F ht⟩) hS.2.2 dX4_calculate_111
    ·
      refine lv_iconst (v := 0) hx hb dX4_calculate_101 (by decide) ?_
      refine lv_goto (tgt := 108) hx hb dX4_calculate_102 (by decide) ?_
      have hPc := hP.sub (ws' := [(ow 0, .inr (4, gMa ow (nI st) rf lt en (nI lo) (nI w5))), (ow 2, .inl (cI, 64, .inl fP))]) [0, 1] rfl
      have hKc := hK.sub (tys' := [(cI, .int)]) [0] rfl
      have hDc := hD.sub (ws' := [(ow 0, .inr (4, gMa ow (nI st) rf lt en (nI lo) (nI w5))), (ow 2, .inl (cI, 64, .inl fP))]) [0, 1] (by decide) rfl
      have hFc := va_free (wc := [(ow 0, .inr (4, gMa ow (nI st) rf lt en (nI lo) (nI w5))), (ow 2, .inl (cI, 64, .inl fP))]) hD hS hA [0, 1] rfl
      refine va_callv (va_runV (As := [.int 0]) (rest := []) ⟨hx, hb, hml, hown, hts⟩ (k_push l D _ ow cI st rf lt en lo w5 fP 0 hm6_hoz) (cwV 1 hts g_k_calculate_k_push_50 rfl rfl rfl (by decide +kernel) ⟨(Nat.le_of_ble_eq_true rfl), (Nat.le_of_ble_eq_true rfl)⟩) (PcWC_V (q0 := 0) hPc hKc hDc hN rfl rfl) rfl rfl hl.1 rfl (lv_room (Nat.le_of_ble_eq_true rfl)) dX4_calculate_108 ⟨(Nat.le_of_ble_eq_true rfl), (Nat.le_of_ble_eq_true rfl)⟩) hS (fun q _ h => hFc q h) hFc (fun uu tt H locs htt hvm hw hB hz1 hk1 hS => ?_)
      obtain ⟨w39, w40⟩ := uu
      obtain ⟨hP1, hK1, hD1⟩ := hB
      rw [htt] at hP1
      have hK1 := va_K.moved hvm.symm hK1
      have hP1 : va_P D vwCl [(ow 0, .inr (4, gMa ow (nI st) rf lt en (nI lo) (nI w39))), (ow 2, .inl (cI, 64, .inl w40))] H := hP1
      obtain ⟨hP, hD⟩ := va_join (wr := []) (w1 := [(ow 0, .inr (4, gMa ow (nI st) rf lt en (nI lo) (nI w39))), (ow 2, .inl (cI, 64, .inl w40))]) hP hD [0, 1] [] rfl rfl (by decide) (by decide) hk1 hFc hP1 hD1
      have hP : va_P D vwCl [(ow 0, .inr (4, gMa ow (nI st) rf lt en (nI lo) (nI w39))), (ow 2, .inl (cI, 64, .inl w40))] H := hP
      have hD : va_D A [(ow 0, .inr (4, gMa ow (nI st) rf lt en (nI lo) (nI w39))), (ow 2, .inl (cI, 64, .inl w40))] := hD
      try dsimp only at hw
      clear hz1 hk1 hFc hPc hKc hDc
      obtain ⟨hm41_hoz, hm41_v⟩ := hw
      exact W.vret hx hb hr (fun t ht hW => ⟨⟨(w39, w40), rfl, (by (try dsimp only); first | done | exact ⟨hm41_hoz, fun os kc hz hk e h => by
          obtain rfl : kc = 46 := (nI_eq (b := 46) (by omega) (by decide)).mp hz.symm
          obtain ⟨a1, a2, a3⟩ := hm3_v os e h
          obtain ⟨b1, b2, b3⟩ := hm6_v os.tail a2 a3
          have c := hm41_v os.tail.tail b2 b3
          rw [← a1, ← b1]
          unfold jnD; rw [if_neg (by omega), if_neg (by omega), if_neg (by omega), if_neg (by omega)]; rw [if_pos hc33]; exact c⟩), by rw [ht]; exact hP.sub [0, 1] rfl, va_K.moved hW.alike (hK.sub [0] rfl), hD.sub [0, 1] (by decide) rfl⟩, hS.F ht⟩) hS.2.2 dX4_calculate_111
  by_cases hs42 : z1 = 47
  ·
    subst hs42
    refine lv_tableIn (off := 67) (tgt := 78) hx hb dX4_calculate_11 (by decide) (by decide) (by decide +kernel) (by decide) ?_
    refine lv_aload_n hx hb dX4_calculate_78 rfl (lv_at hl 2 rfl) ?_
    refine lv_iload_n hx hb dX4_calculate_79 rfl (lv_at hl 1 rfl) ?_
    refine lv_if_ne (tgt := 87) hx hb dX4_calculate_80 (by decide) (fun hc43 => ?_) (fun hc43 => ?_)
    ·
      refine lv_iload_n hx hb dX4_calculate_87 rfl (lv_at hl 0 rfl) ?_
      refine lv_iload_n hx hb dX4_calculate_88 rfl (lv_at hl 1 rfl) ?_
      refine lv_idiv hx hb dX4_calculate_89 (by assumption) ?_
      have hPc := hP.sub (ws' := [(ow 0, .inr (4, gMa ow (nI st) rf lt en (nI lo) (nI w5))), (ow 2, .inl (cI, 64, .inl fP))]) [0, 1] rfl
      have hKc := hK.sub (tys' := [(cI, .int)]) [0] rfl
      have hDc := hD.sub (ws' := [(ow 0, .inr (4, gMa ow (nI st) rf lt en (nI lo) (nI w5))), (ow 2, .inl (cI, 64, .inl fP))]) [0, 1] (by decide) rfl
      have hFc := va_free (wc := [(ow 0, .inr (4, gMa ow (nI st) rf lt en (nI lo) (nI w5))), (ow 2, .inl (cI, 64, .inl fP))]) hD hS hA [0, 1] rfl
      refine va_callv (va_runV (As := [.int (r4 / r1)]) (rest := []) ⟨hx, hb, hml, hown, hts⟩ (k_push l D _ ow cI st rf lt en lo w5 fP (r4 / r1) hm6_hoz) (cwV 1 hts g_k_calculate_k_push_50 rfl rfl rfl (by decide +kernel) ⟨(Nat.le_of_ble_eq_true rfl), (Nat.le_of_ble_eq_true rfl)⟩) (PcWC_V (q0 := 0) hPc hKc hDc hN rfl rfl) rfl rfl hl.1 rfl (lv_room (Nat.le_of_ble_eq_true rfl)) dX4_calculate_90 ⟨(Nat.le_of_ble_eq_true rfl), (Nat.le_of_ble_eq_true rfl)⟩) hS (fun q _ h => hFc q h) hFc (fun uu tt H locs htt hvm hw hB hz1 hk1 hS => ?_)
      obtain ⟨w45, w46⟩ := uu
      obtain ⟨hP1, hK1, hD1⟩ := hB
      rw [htt] at hP1
      have hK1 := va_K.moved hvm.symm hK1
      have hP1 : va_P D vwCl [(ow 0, .inr (4, gMa ow (nI st) rf lt en (nI lo) (nI w45))), (ow 2, .inl (cI, 64, .inl w46))] H := hP1
      obtain ⟨hP, hD⟩ := va_join (wr := []) (w1 := [(ow 0, .inr (4, gMa ow (nI st) rf lt en (nI lo) (nI w45))), (ow 2, .inl (cI, 64, .inl w46))]) hP hD [0, 1] [] rfl rfl (by decide) (by decide) hk1 hFc hP1 hD1
      have hP : va_P D vwCl [(ow 0, .inr (4, gMa ow (nI st) rf lt en (nI lo) (nI w45))), (ow 2, .inl (cI, 64, .inl w46))] H := hP
      have hD : va_D A [(ow 0, .inr (4, gMa ow (nI st) rf lt en (nI lo) (nI w45))), (ow 2, .inl (cI, 64, .inl w46))] := hD
      try dsimp only at hw
      clear hz1 hk1 hFc hPc hKc hDc
      obtain ⟨hm47_hoz, hm47_v⟩ := hw
      refine lv_goto (tgt := 111) hx hb dX4_calculate_93 (by decide) ?_
      exact W.vret hx hb hr (fun t ht hW => ⟨⟨(w45, w46), rfl, (by (try dsimp only); first | done | exact ⟨hm47_hoz, fun os kc hz hk e h => by
          obtain rfl : kc = 47 := (nI_eq (b := 47) (by omega) (by decide)).mp hz.symm
          obtain ⟨a1, a2, a3⟩ := hm3_v os e h
          obtain ⟨b1, b2, b3⟩ := hm6_v os.tail a2 a3
          have c := hm47_v os.tail.tail b2 b3
          rw [← a1, ← b1]
          unfold jnD; rw [if_neg (by decide), if_neg (by decide), if_neg (by decide), if_pos rfl]; rw [if_neg hc43]; exact c⟩), by rw [ht]; exact hP.sub [0, 1] rfl, va_K.moved hW.alike (hK.sub [0] rfl), hD.sub [0, 1] (by decide) rfl⟩, hS.F ht⟩) hS.2.2 dX4_calculate_111
    ·
      refine lv_iconst (v := 0) hx hb dX4_calculate_83 (by decide) ?_
      refine lv_goto (tgt := 90) hx hb dX4_calculate_84 (by decide) ?_
      have hPc := hP.sub (ws' := [(ow 0, .inr (4, gMa ow (nI st) rf lt en (nI lo) (nI w5))), (ow 2, .inl (cI, 64, .inl fP))]) [0, 1] rfl
      have hKc := hK.sub (tys' := [(cI, .int)]) [0] rfl
      have hDc := hD.sub (ws' := [(ow 0, .inr (4, gMa ow (nI st) rf lt en (nI lo) (nI w5))), (ow 2, .inl (cI, 64, .inl fP))]) [0, 1] (by decide) rfl
      have hFc := va_free (wc := [(ow 0, .inr (4, gMa ow (nI st) rf lt en (nI lo) (nI w5))), (ow 2, .inl (cI, 64, .inl fP))]) hD hS hA [0, 1] rfl
      refine va_callv (va_runV (As := [.int 0]) (rest := []) ⟨hx, hb, hml, hown, hts⟩ (k_push l D _ ow cI st rf lt en lo w5 fP 0 hm6_hoz) (cwV 1 hts g_k_calculate_k_push_50 rfl rfl rfl (by decide +kernel) ⟨(Nat.le_of_ble_eq_true rfl), (Nat.le_of_ble_eq_true rfl)⟩) (PcWC_V (q0 := 0) hPc hKc hDc hN rfl rfl) rfl rfl hl.1 rfl (lv_room (Nat.le_of_ble_eq_true rfl)) dX4_calculate_90 ⟨(Nat.le_of_ble_eq_true rfl), (Nat.le_of_ble_eq_true rfl)⟩) hS (fun q _ h => hFc q h) hFc (fun uu tt H locs htt hvm hw hB hz1 hk1 hS => ?_)
      obtain ⟨w49, w50⟩ := uu
      obtain ⟨hP1, hK1, hD1⟩ := hB
      rw [htt] at hP1
      have hK1 := va_K.moved hvm.symm hK1
      have hP1 : va_P D vwCl [(ow 0, .inr (4, gMa ow (nI st) rf lt en (nI lo) (nI w49))), (ow 2, .inl (cI, 64, .inl w50))] H := hP1
      obtain ⟨hP, hD⟩ := va_join (wr := []) (w1 := [(ow 0, .inr (4, gMa ow (nI st) rf lt en (nI lo) (nI w49))), (ow 2, .inl (cI, 64, .inl w50))]) hP hD [0, 1] [] rfl rfl (by decide) (by decide) hk1 hFc hP1 hD1
      have hP : va_P D vwCl [(ow 0, .inr (4, gMa ow (nI st) rf lt en (nI lo) (nI w49))), (ow 2, .inl (cI, 64, .inl w50))] H := hP
      have hD : va_D A [(ow 0, .inr (4, gMa ow (nI st) rf lt en (nI lo) (nI w49))), (ow 2, .inl (cI, 64, .inl w50))] := hD
      try dsimp only at hw
      clear hz1 hk1 hFc hPc hKc hDc
      obtain ⟨hm51_hoz, hm51_v⟩ := hw
      refine lv_goto (tgt := 111) hx hb dX4_calculate_93 (by decide) ?_
      exact W.vret hx hb hr (fun t ht hW => ⟨⟨(w49, w50), rfl, (by (try dsimp only); first | done | exact ⟨hm51_hoz, fun os kc hz hk e h => by
          obtain rfl : kc = 47 := (nI_eq (b := 47) (by omega) (by decide)).mp hz.symm
          obtain ⟨a1, a2, a3⟩ := hm3_v os e h
          obtain ⟨b1, b2, b3⟩ := hm6_v os.tail a2 a3
          have c := hm51_v os.tail.tail b2 b3
          rw [← a1, ← b1]
          unfold jnD; rw [if_neg (by decide), if_neg (by decide), if_neg (by decide), if_pos rfl]; rw [if_pos hc43]; exact c⟩), by rw [ht]; exact hP.sub [0, 1] rfl, va_K.moved hW.alike (hK.sub [0] rfl), hD.sub [0, 1] (by decide) rfl⟩, hS.F ht⟩) hS.2.2 dX4_calculate_111
  refine lv_tableOut (tgt := 96) hx hb dX4_calculate_11 (by have a0 := sw_ne (n := 42) hs7 (by decide) (by decide); have a1 := sw_ne (n := 43) hs12 (by decide) (by decide); have a2 := sw_ne (n := 44) hs17 (by decide) (by decide); have a3 := sw_ne (n := 45) hs27 (by decide) (by decide); have a4 := sw_ne (n := 46) hs32 (by decide) (by decide); have a5 := sw_ne (n := 47) hs42 (by decide) (by decide); omega) (by decide) ?_
  refine lv_aload_n hx hb dX4_calculate_96 rfl (lv_at hl 2 rfl) ?_
  refine lv_iload_n hx hb dX4_calculate_97 rfl (lv_at hl 1 rfl) ?_
  refine lv_if_ne (tgt := 105) hx hb dX4_calculate_98 (by decide) (fun hc52 => ?_) (fun hc52 => ?_)
  ·
    refine lv_iload_n hx hb dX4_calculate_105 rfl (lv_at hl 0 rfl) ?_
    refine lv_iload_n hx hb dX4_calculate_106 rfl (lv_at hl 1 rfl) ?_
    refine lv_irem hx hb dX4_calculate_107 (by assumption) ?_
    have hPc := hP.sub (ws' := [(ow 0, .inr (4, gMa ow (nI st) rf lt en (nI lo) (nI w5))), (ow 2, .inl (cI, 64, .inl fP))]) [0, 1] rfl
    have hKc := hK.sub (tys' := [(cI, .int)]) [0] rfl
    have hDc := hD.sub (ws' := [(ow 0, .inr (4, gMa ow (nI st) rf lt en (nI lo) (nI w5))), (ow 2, .inl (cI, 64, .inl fP))]) [0, 1] (by decide) rfl
    have hFc := va_free (wc := [(ow 0, .inr (4, gMa ow (nI st) rf lt en (nI lo) (nI w5))), (ow 2, .inl (cI, 64, .inl fP))]) hD hS hA [0, 1] rfl
    refine va_callv (va_runV (As := [.int (r4 - r4 / r1 * r1)]) (rest := []) ⟨hx, hb, hml, hown, hts⟩ (k_push l D _ ow cI st rf lt en lo w5 fP (r4 - r4 / r1 * r1) hm6_hoz) (cwV 1 hts g_k_calculate_k_push_50 rfl rfl rfl (by decide +kernel) ⟨(Nat.le_of_ble_eq_true rfl), (Nat.le_of_ble_eq_true rfl)⟩) (PcWC_V (q0 := 0) hPc hKc hDc hN rfl rfl) rfl rfl hl.1 rfl (lv_room (Nat.le_of_ble_eq_true rfl)) dX4_calculate_108 ⟨(Nat.le_of_ble_eq_true rfl), (Nat.le_of_ble_eq_true rfl)⟩) hS (fun q _ h => hFc q h) hFc (fun uu tt H locs htt hvm hw hB hz1 hk1 hS => ?_)
    obtain ⟨w54, w55⟩ := uu
    obtain ⟨hP1, hK1, hD1⟩ := hB
    rw [htt] at hP1
    have hK1 := va_K.moved hvm.symm hK1
    have hP1 : va_P D vwCl [(ow 0, .inr (4, gMa ow (nI st) rf lt en (nI lo) (nI w54))), (ow 2, .inl (cI, 64, .inl w55))] H := hP1
    obtain ⟨hP, hD⟩ := va_join (wr := []) (w1 := [(ow 0, .inr (4, gMa ow (nI st) rf lt en (nI lo) (nI w54))), (ow 2, .inl (cI, 64, .inl w55))]) hP hD [0, 1] [] rfl rfl (by decide) (by decide) hk1 hFc hP1 hD1
    have hP : va_P D vwCl [(ow 0, .inr (4, gMa ow (nI st) rf lt en (nI lo) (nI w54))), (ow 2, .inl (cI, 64, .inl w55))] H := hP
    have hD : va_D A [(ow 0, .inr (4, gMa ow (nI st) rf lt en (nI lo) (nI w54))), (ow 2, .inl (cI, 64, .inl w55))] := hD
    try dsimp only at hw
    clear hz1 hk1 hFc hPc hKc hDc
    obtain ⟨hm56_hoz, hm56_v⟩ := hw
    exact W.vret hx hb hr (fun t ht hW => ⟨⟨(w54, w55), rfl, (by (try dsimp only); first | done | exact ⟨hm56_hoz, fun os kc hz hk e h => by
        have hn43 : ¬ kc = 43 := fun q => absurd (hz.trans (congrArg nI q)) (by assumption)
        have hn45 : ¬ kc = 45 := fun q => absurd (hz.trans (congrArg nI q)) (by assumption)
        have hn42 : ¬ kc = 42 := fun q => absurd (hz.trans (congrArg nI q)) (by assumption)
        have hn47 : ¬ kc = 47 := fun q => absurd (hz.trans (congrArg nI q)) (by assumption)
        obtain ⟨a1, a2, a3⟩ := hm3_v os e h
        obtain ⟨b1, b2, b3⟩ := hm6_v os.tail a2 a3
        have c := hm56_v os.tail.tail b2 b3
        rw [← a1, ← b1]
        unfold jnD; rw [if_neg (by omega), if_neg (by omega), if_neg (by omega), if_neg (by omega)]; rw [if_neg hc52]; exact c⟩), by rw [ht]; exact hP.sub [0, 1] rfl, va_K.moved hW.alike (hK.sub [0] rfl), hD.sub [0, 1] (by decide) rfl⟩, hS.F ht⟩) hS.2.2 dX4_calculate_111
  ·
    refine lv_iconst (v := 0) hx hb dX4_calculate_101 (by decide) ?_
    refine lv_goto (tgt := 108) hx hb dX4_calculate_102 (by decide) ?_
    have hPc := hP.sub (ws' := [(ow 0, .inr (4, gMa ow (nI st) rf lt en (nI lo) (nI w5))), (ow 2, .inl (cI, 64, .inl fP))]) [0, 1] rfl
    have hKc := hK.sub (tys' := [(cI, .int)]) [0] rfl
    have hDc := hD.sub (ws' := [(ow 0, .inr (4, gMa ow (nI st) rf lt en (nI lo) (nI w5))), (ow 2, .inl (cI, 64, .inl fP))]) [0, 1] (by decide) rfl
    have hFc := va_free (wc := [(ow 0, .inr (4, gMa ow (nI st) rf lt en (nI lo) (nI w5))), (ow 2, .inl (cI, 64, .inl fP))]) hD hS hA [0, 1] rfl
    refine va_callv (va_runV (As := [.int 0]) (rest := []) ⟨hx, hb, hml, hown, hts⟩ (k_push l D _ ow cI st rf lt en lo w5 fP 0 hm6_hoz) (cwV 1 hts g_k_calculate_k_push_50 rfl rfl rfl (by decide +kernel) ⟨(Nat.le_of_ble_eq_true rfl), (Nat.le_of_ble_eq_true rfl)⟩) (PcWC_V (q0 := 0) hPc hKc hDc hN rfl rfl) rfl rfl hl.1 rfl (lv_room (Nat.le_of_ble_eq_true rfl)) dX4_calculate_108 ⟨(Nat.le_of_ble_eq_true rfl), (Nat.le_of_ble_eq_true rfl)⟩) hS (fun q _ h => hFc q h) hFc (fun uu tt H locs htt hvm hw hB hz1 hk1 hS => ?_)
    obtain ⟨w58, w59⟩ := uu
    obtain ⟨hP1, hK1, hD1⟩ := hB
    rw [htt] at hP1
    have hK1 := va_K.moved hvm.symm hK1
    have hP1 : va_P D vwCl [(ow 0, .inr (4, gMa ow (nI st) rf lt en (nI lo) (nI w58))), (ow 2, .inl (cI, 64, .inl w59))] H := hP1
    obtain ⟨hP, hD⟩ := va_join (wr := []) (w1 := [(ow 0, .inr (4, gMa ow (nI st) rf lt en (nI lo) (nI w58))), (ow 2, .inl (cI, 64, .inl w59))]) hP hD [0, 1] [] rfl rfl (by decide) (by decide) hk1 hFc hP1 hD1
    have hP : va_P D vwCl [(ow 0, .inr (4, gMa ow (nI st) rf lt en (nI lo) (nI w58))), (ow 2, .inl (cI, 64, .inl w59))] H := hP
    have hD : va_D A [(ow 0, .inr (4, gMa ow (nI st) rf lt en (nI lo) (nI w58))), (ow 2, .inl (cI, 64, .inl w59))] := hD
    try dsimp only at hw
    clear hz1 hk1 hFc hPc hKc hDc
    obtain ⟨hm60_hoz, hm60_v⟩ := hw
    exact W.vret hx hb hr (fun t ht hW => ⟨⟨(w58, w59), rfl, (by (try dsimp only); first | done | exact ⟨hm60_hoz, fun os kc hz hk e h => by
        have hn43 : ¬ kc = 43 := fun q => absurd (hz.trans (congrArg nI q)) (by assumption)
        have hn45 : ¬ kc = 45 := fun q => absurd (hz.trans (congrArg nI q)) (by assumption)
        have hn42 : ¬ kc = 42 := fun q => absurd (hz.trans (congrArg nI q)) (by assumption)
        have hn47 : ¬ kc = 47 := fun q => absurd (hz.trans (congrArg nI q)) (by assumption)
        obtain ⟨a1, a2, a3⟩ := hm3_v os e h
        obtain ⟨b1, b2, b3⟩ := hm6_v os.tail a2 a3
        have c := hm60_v os.tail.tail b2 b3
        rw [← a1, ← b1]
        unfold jnD; rw [if_neg (by omega), if_neg (by omega), if_neg (by omega), if_neg (by omega)]; rw [if_pos hc52]; exact c⟩), by rw [ht]; exact hP.sub [0, 1] rfl, va_K.moved hW.alike (hK.sub [0] rfl), hD.sub [0, 1] (by decide) rfl⟩, hS.F ht⟩) hS.2.2 dX4_calculate_111

def own_k_look : List Cond := [.fieldLink RX4 25 "ClashFree$Machine" "latest" "I", .initialized RX10, .static yX10_isKey, .methodLink RX4 94 yX9_countReads, .instanceMethod yX9_countReads, .selects RX9 yX9_countReads yX9_countReads, .initialized RX9, .fieldLink RX4 105 "ClashFree$Table" "keys" "LClashFree$Keys;", .methodLink RX4 109 yX2_find, .instanceMethod yX2_find, .selects RX2 yX2_find yX2_find, .initialized RX2, .methodLink RX4 114 yX2_valueAt, .instanceMethod yX2_valueAt, .selects RX2 yX2_valueAt yX2_valueAt, .fieldLink RX4 22 "ClashFree$Machine" "refused" "I"]
def wp_k_look : List Cond := .code yX4_look cX4_look 4 none :: (own_k_look ++ (wp_k_isKey ++ (wp_k_countReads ++ (wp_k_find ++ (wp_k_valueAt ++ (wsX40 ++ (wsX90 ++ ([] : List Cond))))))))
set_option maxRecDepth 20000 in
theorem inown_k_look : ∀ w ∈ own_k_look, w ∈ lw_tbl := mem_places [387, 106, 615, 1129, 631, 632, 116, 519, 1130, 623, 624, 117, 1131, 694, 695, 385] (by decide +kernel)
set_option maxRecDepth 20000 in
theorem in_k_look : ∀ w ∈ wp_k_look, w ∈ lw_tbl := List.forall_mem_cons.mpr ⟨List.mem_of_getElem? (i := 1127) (by decide +kernel), List.forall_mem_append.mpr ⟨inown_k_look, List.forall_mem_append.mpr ⟨in_k_isKey, List.forall_mem_append.mpr ⟨in_k_countReads, List.forall_mem_append.mpr ⟨in_k_find, List.forall_mem_append.mpr ⟨in_k_valueAt, List.forall_mem_append.mpr ⟨lwb_X4, List.forall_mem_append.mpr ⟨lwb_X9, fun _ h => absurd h List.not_mem_nil⟩⟩⟩⟩⟩⟩⟩⟩
set_option maxRecDepth 20000 in
theorem good_k_look : wp_k_look.all goodWord = true := by decide +kernel
set_option maxRecDepth 20000 in
theorem g_k_look_k_isKey_86 : GoodIn wp_k_look (wp_k_isKey) := goodIn_sub ((fun _ h => (List.mem_cons_of_mem _ (List.mem_append_right _ (List.mem_append_left _ h))))) (by decide +kernel)
set_option maxRecDepth 20000 in
theorem g_k_look_k_countReads_94 : GoodIn wp_k_look (wsV RX4 94 RX9 yX9_countReads wp_k_countReads) := goodIn_sub (List.forall_mem_append.mpr ⟨List.forall_mem_cons.mpr ⟨(List.mem_of_getElem? (i := 4) rfl), List.forall_mem_cons.mpr ⟨(List.mem_of_getElem? (i := 5) rfl), List.forall_mem_cons.mpr ⟨(List.mem_of_getElem? (i := 6) rfl), List.forall_mem_cons.mpr ⟨(List.mem_of_getElem? (i := 7) rfl), fun _ h => absurd h List.not_mem_nil⟩⟩⟩⟩, (fun _ h => (List.mem_cons_of_mem _ (List.mem_append_right _ (List.mem_append_right _ (List.mem_append_left _ h)))))⟩) (by decide +kernel)
set_option maxRecDepth 20000 in
theorem g_k_look_k_find_109 : GoodIn wp_k_look (wsV RX4 109 RX2 yX2_find wp_k_find) := goodIn_sub (List.forall_mem_append.mpr ⟨List.forall_mem_cons.mpr ⟨(List.mem_of_getElem? (i := 9) rfl), List.forall_mem_cons.mpr ⟨(List.mem_of_getElem? (i := 10) rfl), List.forall_mem_cons.mpr ⟨(List.mem_of_getElem? (i := 11) rfl), List.forall_mem_cons.mpr ⟨(List.mem_of_getElem? (i := 12) rfl), fun _ h => absurd h List.not_mem_nil⟩⟩⟩⟩, (fun _ h => (List.mem_cons_of_mem _ (List.mem_append_right _ (List.mem_append_right _ (List.mem_append_right _ (List.mem_append_left _ h))))))⟩) (by decide +kernel)
set_option maxRecDepth 20000 in
theorem g_k_look_k_valueAt_114 : GoodIn wp_k_look (wsV RX4 114 RX2 yX2_valueAt wp_k_valueAt) := goodIn_sub (List.forall_mem_append.mpr ⟨List.forall_mem_cons.mpr ⟨(List.mem_of_getElem? (i := 13) rfl), List.forall_mem_cons.mpr ⟨(List.mem_of_getElem? (i := 14) rfl), List.forall_mem_cons.mpr ⟨(List.mem_of_getElem? (i := 15) rfl), List.forall_mem_cons.mpr ⟨(List.mem_of_getElem? (i := 12) rfl), fun _ h => absurd h List.not_mem_nil⟩⟩⟩⟩, (fun _ h => (List.mem_cons_of_mem _ (List.mem_append_right _ (List.mem_append_right _ (List.mem_append_right _ (List.mem_append_right _ (List.mem_append_left _ h)))))))⟩) (by decide +kernel)
set_option maxHeartbeats 4000000 in
set_option maxRecDepth 100000 in
theorem k_look (l : Launch) (D : va_G) (sz : Nat) (ow : Nat → Nat) (ob : Nat → Nat) (cI : ClassId) (st : Nat) (rf : Int32) (lt : Int32) (en : Int32) (lo : Nat) (oz : Nat) (tb : Int32) (ts : Int32) (tg : Int32) (tl : Int32) (tc : Int32) (tr : Int32) (tu : Int32) (tv : Int32) (tw : Int32) (cn : Nat) (fk : Nat → Int32) (fv : Nat → Int32) (nb : Nat) (ka : Nat) (kb : Nat) (sm : Int32) (ln : Nat) (ff : Nat → Int32) (z1 : Int32) (hc : cn ≤ 160) (hnb : nb ≤ 2048) (hn1 : 1 ≤ nb) (hka : ka < 2147483647) (hkb : kb < 2147483647) : Met l yX4_look wp_k_look ({ frames := 3, cells := 0, slots := 0, locals := 65 }) (PcWC D [.ref (ow 0), .int z1, .ref (ob 0)] sz [(ow 0, .inr (4, gMa ow (nI st) rf lt en (nI lo) (nI oz))), (ob 0, .inr (9, gT ob tb ts tg tl tc tr tu tv tw)), (ob 2, .inr (2, [.int (nI cn), .ref (ob 3), .ref (ob 4)])), (ob 3, .inl (cI, 160, .inl fk)), (ob 4, .inl (cI, 160, .inl fv)), (ob 5, .inr (3, gY ob (nI nb) (nI ka) (nI kb) sm (nI ln))), (ob 7, .inl (cI, 2048, .inl ff))] [(cI, .int)]) (va_Qv (fun (u : (Int32) × (Int32) × (Int32)) => ∀ L, KvT fk fv cn L → u.2.1 = if isKB z1 = true then lkD (lookL L (toK z1)) else -1) (fun (u : (Int32) × (Int32) × (Int32)) t => va_P D vwCl [(ow 0, .inr (4, gMa ow (nI st) u.1 u.2.1 en (nI lo) (nI oz))), (ob 0, .inr (9, gT ob tb ts tg tl tc u.2.2 tu tv tw)), (ob 2, .inr (2, [.int (nI cn), .ref (ob 3), .ref (ob 4)])), (ob 3, .inl (cI, 160, .inl fk)), (ob 4, .inl (cI, 160, .inl fv)), (ob 5, .inr (3, gY ob (nI nb) (nI ka) (nI kb) sm (nI ln))), (ob 7, .inl (cI, 2048, .inl ff))] t.heap ∧ va_K D vwCl [(cI, .int)] t ∧ va_D (va_A [(ow 0, .inr (4, gMa ow (nI st) rf lt en (nI lo) (nI oz))), (ob 0, .inr (9, gT ob tb ts tg tl tc tr tu tv tw)), (ob 2, .inr (2, [.int (nI cn), .ref (ob 3), .ref (ob 4)])), (ob 3, .inl (cI, 160, .inl fk)), (ob 4, .inl (cI, 160, .inl fv)), (ob 5, .inr (3, gY ob (nI nb) (nI ka) (nI kb) sm (nI ln))), (ob 7, .inl (cI, 2048, .inl ff))] sz) [(ow 0, .inr (4, gMa ow (nI st) u.1 u.2.1 en (nI lo) (nI oz))), (ob 0, .inr (9, gT ob tb ts tg tl tc u.2.2 tu tv tw)), (ob 2, .inr (2, [.int (nI cn), .ref (ob 3), .ref (ob 4)])), (ob 3, .inl (cI, 160, .inl fk)), (ob 4, .inl (cI, 160, .inl fv)), (ob 5, .inr (3, gY ob (nI nb) (nI ka) (nI kb) sm (nI ln))), (ob 7, .inl (cI, 2048, .inl ff))]) (va_A [(ow 0, .inr (4, gMa ow (nI st) rf lt en (nI lo) (nI oz))), (ob 0, .inr (9, gT ob tb ts tg tl tc tr tu tv tw)), (ob 2, .inr (2, [.int (nI cn), .ref (ob 3), .ref (ob 4)])), (ob 3, .inl (cI, 160, .inl fk)), (ob 4, .inl (cI, 160, .inl fv)), (ob 5, .inr (3, gY ob (nI nb) (nI ka) (nI kb) sm (nI ln))), (ob 7, .inl (cI, 2048, .inl ff))] sz)) 0 0 (va_A [(ow 0, .inr (4, gMa ow (nI st) rf lt en (nI lo) (nI oz))), (ob 0, .inr (9, gT ob tb ts tg tl tc tr tu tv tw)), (ob 2, .inr (2, [.int (nI cn), .ref (ob 3), .ref (ob 4)])), (ob 3, .inl (cI, 160, .inl fk)), (ob 4, .inl (cI, 160, .inl fv)), (ob 5, .inr (3, gY ob (nI nb) (nI ka) (nI kb) sm (nI ln))), (ob 7, .inl (cI, 2048, .inl ff))] sz) := by
  refine Met.ofW (cc := cX4_look) (maxL := 4) (ret := none) (by decide) rfl ?_
  intro p e s m args below meth c s₁ B hml hv
  obtain ⟨rfl, hsz, hP, hK, hD0, hN⟩ := hv
  have hx := B.exec
  have hb := B.bytes
  have hr := B.returns
  have hts := atoms_spec (ws := wp_k_look) B.pre
  have hin_X4 : ∀ w ∈ wsX40, w ∈ wp_k_look := fun _ h => (List.mem_cons_of_mem _ (List.mem_append_right _ (List.mem_append_right _ (List.mem_append_right _ (List.mem_append_right _ (List.mem_append_right _ (List.mem_append_left _ h)))))))
  have hin_X9 : ∀ w ∈ wsX90, w ∈ wp_k_look := fun _ h => (List.mem_cons_of_mem _ (List.mem_append_right _ (List.mem_append_right _ (List.mem_append_right _ (List.mem_append_right _ (List.mem_append_right _ (List.mem_append_right _ (List.mem_append_left _ h))))))))
  have hown : s.vm.findClass RX4 = some m.cls := findClass_of_methodNamed B.named
  have hlocks := B.notSynchronized
  subst hsz
  have hD := hD0.self (sz := s.heap.size)
  generalize hAe : va_A [(ow 0, .inr (4, gMa ow (nI st) rf lt en (nI lo) (nI oz))), (ob 0, .inr (9, gT ob tb ts tg tl tc tr tu tv tw)), (ob 2, .inr (2, [.int (nI cn), .ref (ob 3), .ref (ob 4)])), (ob 3, .inl (cI, 160, .inl fk)), (ob 4, .inl (cI, 160, .inl fv)), (ob 5, .inr (3, gY ob (nI nb) (nI ka) (nI kb) sm (nI ln))), (ob 7, .inl (cI, 2048, .inl ff))] s.heap.size = A at hD ⊢
  have hA : ∀ q : Nat, s.heap.size ≤ q → A q := fun q h => by rw [← hAe]; exact Or.inr h
  have hS : va_S A s.heap s.heap [] := va_S.rf
  have hP : va_P D vwCl [(ow 0, .inr (4, gMa ow (nI st) rf lt en (nI lo) (nI oz))), (ob 0, .inr (9, gT ob tb ts tg tl tc tr tu tv tw)), (ob 2, .inr (2, [.int (nI cn), .ref (ob 3), .ref (ob 4)])), (ob 3, .inl (cI, 160, .inl fk)), (ob 4, .inl (cI, 160, .inl fv)), (ob 5, .inr (3, gY ob (nI nb) (nI ka) (nI kb) sm (nI ln))), (ob 7, .inl (cI, 2048, .inl ff))] s.heap := hP
  have hl := lv_entry ([.ref (ow 0), .int z1, .ref (ob 0)]) (n := 4) (Nat.le_of_ble_eq_true rfl)
  rw [lg_entry_eq]
  generalize (lg_sl ([.ref (ow 0), .int z1, .ref (ob 0)]) ++ List.replicate (4 - (lg_sl ([.ref (ow 0), .int z1, .ref (ob 0)])).length) Slot.unset).toArray = ls at hl ⊢
  have hl : lv_has ls 4 [(0, .ref (ow 0)), (1, .int z1), (2, .ref (ob 0))] := hl
  have hcz := hc
  refine lv_aload_n hx hb dX4_look_0 rfl (lv_at hl 0 rfl) ?_
  refine lv_iconst (v := (-1)) hx hb dX4_look_1 (by decide) ?_
  refine va_put (D := D) (ci := 4) (v := .int (-1)) (ty := .int) (C := RX4) (T := TX4) (N := 8) hx hb hts hin_X4 tyX4 tyX4_ok nmX4 hown hK hP hD hS 0 rfl rfl 2 (by decide) (hts (.fieldLink RX4 25 "ClashFree$Machine" "latest" "I") (List.mem_of_getElem? (i := 1) rfl)) (fun _ h9 => h9) rfl (by decide +kernel) rfl rfl (Nat.le_of_ble_eq_true rfl) dX4_look_2 (fun H locs hP hD hS => ?_)
  have hP : va_P D vwCl [(ow 0, .inr (4, gMa ow (nI st) rf (-1) en (nI lo) (nI oz))), (ob 0, .inr (9, gT ob tb ts tg tl tc tr tu tv tw)), (ob 2, .inr (2, [.int (nI cn), .ref (ob 3), .ref (ob 4)])), (ob 3, .inl (cI, 160, .inl fk)), (ob 4, .inl (cI, 160, .inl fv)), (ob 5, .inr (3, gY ob (nI nb) (nI ka) (nI kb) sm (nI ln))), (ob 7, .inl (cI, 2048, .inl ff))] H := hP
  have hD : va_D A [(ow 0, .inr (4, gMa ow (nI st) rf (-1) en (nI lo) (nI oz))), (ob 0, .inr (9, gT ob tb ts tg tl tc tr tu tv tw)), (ob 2, .inr (2, [.int (nI cn), .ref (ob 3), .ref (ob 4)])), (ob 3, .inl (cI, 160, .inl fk)), (ob 4, .inl (cI, 160, .inl fv)), (ob 5, .inr (3, gY ob (nI nb) (nI ka) (nI kb) sm (nI ln))), (ob 7, .inl (cI, 2048, .inl ff))] := hD
  refine lv_iload_n hx hb dX4_look_5 rfl (lv_at hl 1 rfl) ?_
  have hPc := hP.sub (ws' := []) [] rfl
  have hKc := hK.sub (tys' := []) [] rfl
  have hFc := va_free0 hS hA
  refine va_calli (va_runSN (As := [.int z1]) (rest := []) ⟨hx, hb, hml, hown, hts⟩ (k_isKey l D _ cI z1) ⟨va_cnB 1 hts g_k_look_k_isKey_86 rfl rfl rfl hN.2.2.2.1 (hts (.initialized RX10) (List.mem_of_getElem? (i := 2) rfl)) (by decide +kernel) ⟨(Nat.le_of_ble_eq_true rfl), (Nat.le_of_ble_eq_true rfl)⟩, (hts (.static yX10_isKey) (List.mem_of_getElem? (i := 3) rfl)), trivial⟩ (PcRC_S hPc hKc hN) rfl rfl hl.1 rfl (lv_room (Nat.le_of_ble_eq_true rfl)) dX4_look_6 ⟨(Nat.le_of_ble_eq_true rfl), (Nat.le_of_ble_eq_true rfl)⟩) hS (fun q _ h => hFc q h) hFc (fun r1 uu tt H locs htt hvm hw hB hz1 hk1 hS => ?_)
  have hP := va_keep hP hk1
  try dsimp only at hw
  clear hB hz1 hk1 hFc hPc hKc
  rcases hw with ⟨rfl, hA_r1⟩ | ⟨rfl, hA_r1⟩
  ·
    obtain ⟨kx, hkx, rfl⟩ := hA_r1
    refine lv_if_ne (tgt := 23) hx hb dX4_look_9 (by decide) (fun hc => ?_) (fun hc => absurd hc (by decide))
    refine lv_aload_n hx hb dX4_look_23 rfl (lv_at hl 2 rfl) ?_
    refine lv_iload_n hx hb dX4_look_24 rfl (lv_at hl 1 rfl) ?_
    have hPc := hP.sub (ws' := [(ob 0, .inr (9, gT ob tb ts tg tl tc tr tu tv tw)), (ob 5, .inr (3, gY ob (nI nb) (nI ka) (nI kb) sm (nI ln))), (ob 7, .inl (cI, 2048, .inl ff))]) [1, 5, 6] rfl
    have hKc := hK.sub (tys' := [(cI, .int)]) [0] rfl
    have hDc := hD.sub (ws' := [(ob 0, .inr (9, gT ob tb ts tg tl tc tr tu tv tw)), (ob 5, .inr (3, gY ob (nI nb) (nI ka) (nI kb) sm (nI ln))), (ob 7, .inl (cI, 2048, .inl ff))]) [1, 5, 6] (by decide) rfl
    have hFc := va_free (wc := [(ob 0, .inr (9, gT ob tb ts tg tl tc tr tu tv tw)), (ob 5, .inr (3, gY ob (nI nb) (nI ka) (nI kb) sm (nI ln))), (ob 7, .inl (cI, 2048, .inl ff))]) hD hS hA [1, 5, 6] rfl
    refine va_callv (va_runV (As := [.int (nI kx)]) (rest := []) ⟨hx, hb, hml, hown, hts⟩ (k_countReads l D _ ob cI tb ts tg tl tc tr tu tv tw nb ka kb sm ln ff kx hnb hn1 hka hkb hkx) (cwV 1 hts g_k_look_k_countReads_94 rfl rfl rfl (by decide +kernel) ⟨(Nat.le_of_ble_eq_true rfl), (Nat.le_of_ble_eq_true rfl)⟩) (PcWC_V (q0 := 0) hPc hKc hDc hN rfl rfl) rfl rfl hl.1 rfl (lv_room (Nat.le_of_ble_eq_true rfl)) dX4_look_25 ⟨(Nat.le_of_ble_eq_true rfl), (Nat.le_of_ble_eq_true rfl)⟩) hS (fun q _ h => hFc q h) hFc (fun uu tt H locs htt hvm hw hB hz1 hk1 hS => ?_)
    obtain ⟨w3, rfl⟩ : ∃ z, z = uu := ⟨_, rfl⟩
    obtain ⟨hP1, hK1, hD1⟩ := hB
    rw [htt] at hP1
    have hK1 := va_K.moved hvm.symm hK1
    have hP1 : va_P D vwCl [(ob 0, .inr (9, gT ob tb ts tg tl tc w3 tu tv tw)), (ob 5, .inr (3, gY ob (nI nb) (nI ka) (nI kb) sm (nI ln))), (ob 7, .inl (cI, 2048, .inl ff))] H := hP1
    obtain ⟨hP, hD⟩ := va_join (wr := [(ow 0, .inr (4, gMa ow (nI st) rf (-1) en (nI lo) (nI oz))), (ob 2, .inr (2, [.int (nI cn), .ref (ob 3), .ref (ob 4)])), (ob 3, .inl (cI, 160, .inl fk)), (ob 4, .inl (cI, 160, .inl fv))]) (w1 := [(ob 0, .inr (9, gT ob tb ts tg tl tc w3 tu tv tw)), (ob 5, .inr (3, gY ob (nI nb) (nI ka) (nI kb) sm (nI ln))), (ob 7, .inl (cI, 2048, .inl ff))]) hP hD [1, 5, 6] [0, 2, 3, 4] rfl rfl (by decide) (by decide) hk1 hFc hP1 hD1
    have hP : va_P D vwCl [(ow 0, .inr (4, gMa ow (nI st) rf (-1) en (nI lo) (nI oz))), (ob 2, .inr (2, [.int (nI cn), .ref (ob 3), .ref (ob 4)])), (ob 3, .inl (cI, 160, .inl fk)), (ob 4, .inl (cI, 160, .inl fv)), (ob 0, .inr (9, gT ob tb ts tg tl tc w3 tu tv tw)), (ob 5, .inr (3, gY ob (nI nb) (nI ka) (nI kb) sm (nI ln))), (ob 7, .inl (cI, 2048, .inl ff))] H := hP
    have hD : va_D A [(ow 0, .inr (4, gMa ow (nI st) rf (-1) en (nI lo) (nI oz))), (ob 2, .inr (2, [.int (nI cn), .ref (ob 3), .ref (ob 4)])), (ob 3, .inl (cI, 160, .inl fk)), (ob 4, .inl (cI, 160, .inl fv)), (ob 0, .inr (9, gT ob tb ts tg tl tc w3 tu tv tw)), (ob 5, .inr (3, gY ob (nI nb) (nI ka) (nI kb) sm (nI ln))), (ob 7, .inl (cI, 2048, .inl ff))] := hD
    try dsimp only at hw
    clear hz1 hk1 hFc hPc hKc hDc
    refine lv_aload_n hx hb dX4_look_28 rfl (lv_at hl 2 rfl) ?_
    refine va_get (D := D) (ci := 9) (v := .ref (ob 2)) (C := RX9) (T := TX9) (N := 12) hx hb hts hin_X9 hown hK hP 4 rfl rfl 10 (by decide) (hts (.fieldLink RX4 105 "ClashFree$Table" "keys" "LClashFree$Keys;") (List.mem_of_getElem? (i := 8) rfl)) (fun _ h9 => h9) rfl dX4_look_29 ?_
    refine lv_iload_n hx hb dX4_look_32 rfl (lv_at hl 1 rfl) ?_
    have hPc := hP.sub (ws' := [(ob 2, .inr (2, [.int (nI cn), .ref (ob 3), .ref (ob 4)])), (ob 3, .inl (cI, 160, .inl fk))]) [1, 2] rfl
    have hKc := hK.sub (tys' := [(cI, .int)]) [0] rfl
    have hFc := va_free0 hS hA
    refine va_calli (va_runV (As := [.int (nI kx)]) (rest := []) ⟨hx, hb, hml, hown, hts⟩ (k_find l D _ ob cI cn fk (nI kx) hcz) (cwV 1 hts g_k_look_k_find_109 rfl rfl rfl (by decide +kernel) ⟨(Nat.le_of_ble_eq_true rfl), (Nat.le_of_ble_eq_true rfl)⟩) (PcRC_V (q0 := 0) hPc hKc hN rfl rfl) rfl rfl hl.1 rfl (lv_room (Nat.le_of_ble_eq_true rfl)) dX4_look_33 ⟨(Nat.le_of_ble_eq_true rfl), (Nat.le_of_ble_eq_true rfl)⟩) hS (fun q _ h => hFc q h) hFc (fun r4 uu tt H locs htt hvm hw hB hz1 hk1 hS => ?_)
    have hP := va_keep hP hk1
    try dsimp only at hw
    clear hB hz1 hk1 hFc hPc hKc
    rcases hw with ⟨rfl, hF_rk5⟩ | ⟨erk5_, hF_rk5⟩
    ·
      refine lv_istore_n (lv' := [(3, .int (-1)), (0, .ref (ow 0)), (1, .int (nI kx)), (2, .ref (ob 0))]) hx hb dX4_look_36 rfl hl (by decide) rfl (fun ls hl => ?_)
      refine lv_iload_n hx hb dX4_look_37 rfl (lv_at hl 0 rfl) ?_
      refine lv_if_lt (tgt := 53) hx hb dX4_look_38 (by decide) (fun hc => ?_) (fun hc => absurd (by decide) hc)
      exact W.vret hx hb hr (fun t ht hW => ⟨⟨(rf, (-1), w3), rfl, (by (try dsimp only); first | done | exact (fun L hL => by
          rw [if_pos (isK_KB.mp ⟨kx, hkx, rfl⟩), toK_nI hkx, (hL.nf hkx hF_rk5).2.1]
          rfl)), by rw [ht]; exact hP.sub [0, 4, 1, 2, 3, 5, 6] rfl, va_K.moved hW.alike (hK.sub [0] rfl), hD.sub [0, 4, 1, 2, 3, 5, 6] (by decide) rfl⟩, hS.F ht⟩) hS.2.2 dX4_look_53
    ·
      obtain ⟨rk5, erk5, rfl⟩ : ∃ q, q = (rkF fk cn (nI kx)) ∧ r4 = nI q := ⟨_, rfl, erk5_⟩
      have hrk5 : rk5 < cn := by rw [erk5]; exact hF_rk5.1
      refine lv_istore_n (lv' := [(3, .int (nI rk5)), (0, .ref (ow 0)), (1, .int (nI kx)), (2, .ref (ob 0))]) hx hb dX4_look_36 rfl hl (by decide) rfl (fun ls hl => ?_)
      refine lv_iload_n hx hb dX4_look_37 rfl (lv_at hl 0 rfl) ?_
      refine lv_if_lt (tgt := 53) hx hb dX4_look_38 (by decide) (fun hc => absurd hc (Int32.not_lt.mpr (nI_pos' (by omega)))) (fun hc => ?_)
      refine lv_aload_n hx hb dX4_look_41 rfl (lv_at hl 1 rfl) ?_
      refine lv_aload_n hx hb dX4_look_42 rfl (lv_at hl 3 rfl) ?_
      refine va_get (D := D) (ci := 9) (v := .ref (ob 2)) (C := RX9) (T := TX9) (N := 12) hx hb hts hin_X9 hown hK hP 4 rfl rfl 10 (by decide) (hts (.fieldLink RX4 105 "ClashFree$Table" "keys" "LClashFree$Keys;") (List.mem_of_getElem? (i := 8) rfl)) (fun _ h9 => h9) rfl dX4_look_43 ?_
      refine lv_iload_n hx hb dX4_look_46 rfl (lv_at hl 0 rfl) ?_
      have hPc := hP.sub (ws' := [(ob 2, .inr (2, [.int (nI cn), .ref (ob 3), .ref (ob 4)])), (ob 4, .inl (cI, 160, .inl fv))]) [1, 3] rfl
      have hKc := hK.sub (tys' := [(cI, .int)]) [0] rfl
      have hFc := va_free0 hS hA
      refine va_calli (va_runV (As := [.int (nI rk5)]) (rest := [.ref (ow 0)]) ⟨hx, hb, hml, hown, hts⟩ (k_valueAt l D _ ob cI cn fv (nI rk5) hcz) (cwV 1 hts g_k_look_k_valueAt_114 rfl rfl rfl (by decide +kernel) ⟨(Nat.le_of_ble_eq_true rfl), (Nat.le_of_ble_eq_true rfl)⟩) (PcRC_V (q0 := 0) hPc hKc hN rfl rfl) rfl rfl hl.1 rfl (lv_room (Nat.le_of_ble_eq_true rfl)) dX4_look_47 ⟨(Nat.le_of_ble_eq_true rfl), (Nat.le_of_ble_eq_true rfl)⟩) hS (fun q _ h => hFc q h) hFc (fun r6 uu tt H locs htt hvm hw hB hz1 hk1 hS => ?_)
      have hP := va_keep hP hk1
      try dsimp only at hw
      clear hB hz1 hk1 hFc hPc hKc
      have hva_r6 := hw
      refine va_put (D := D) (ci := 4) (v := .int r6) (ty := .int) (C := RX4) (T := TX4) (N := 8) hx hb hts hin_X4 tyX4 tyX4_ok nmX4 hown hK hP hD hS 0 rfl rfl 2 (by decide) (hts (.fieldLink RX4 25 "ClashFree$Machine" "latest" "I") (List.mem_of_getElem? (i := 1) rfl)) (fun _ h9 => h9) rfl (by decide +kernel) rfl rfl (Nat.le_of_ble_eq_true rfl) dX4_look_50 (fun H locs hP hD hS => ?_)
      have hP : va_P D vwCl [(ow 0, .inr (4, gMa ow (nI st) rf r6 en (nI lo) (nI oz))), (ob 2, .inr (2, [.int (nI cn), .ref (ob 3), .ref (ob 4)])), (ob 3, .inl (cI, 160, .inl fk)), (ob 4, .inl (cI, 160, .inl fv)), (ob 0, .inr (9, gT ob tb ts tg tl tc w3 tu tv tw)), (ob 5, .inr (3, gY ob (nI nb) (nI ka) (nI kb) sm (nI ln))), (ob 7, .inl (cI, 2048, .inl ff))] H := hP
      have hD : va_D A [(ow 0, .inr (4, gMa ow (nI st) rf r6 en (nI lo) (nI oz))), (ob 2, .inr (2, [.int (nI cn), .ref (ob 3), .ref (ob 4)])), (ob 3, .inl (cI, 160, .inl fk)), (ob 4, .inl (cI, 160, .inl fv)), (ob 0, .inr (9, gT ob tb ts tg tl tc w3 tu tv tw)), (ob 5, .inr (3, gY ob (nI nb) (nI ka) (nI kb) sm (nI ln))), (ob 7, .inl (cI, 2048, .inl ff))] := hD
      exact W.vret hx hb hr (fun t ht hW => ⟨⟨(rf, r6, w3), rfl, (by (try dsimp only); first | done | exact (fun L hL => by
          rw [if_pos (isK_KB.mp ⟨kx, hkx, rfl⟩), toK_nI hkx, (hL.fd hkx hF_rk5).2.1]
          exact (hva_r6 rk5 (by omega) rfl).trans (by rw [← erk5]; rfl))), by rw [ht]; exact hP.sub [0, 4, 1, 2, 3, 5, 6] rfl, va_K.moved hW.alike (hK.sub [0] rfl), hD.sub [0, 4, 1, 2, 3, 5, 6] (by decide) rfl⟩, hS.F ht⟩) hS.2.2 dX4_look_53
  ·
    refine lv_if_ne (tgt := 23) hx hb dX4_look_9 (by decide) (fun hc => absurd (by decide) hc) (fun hc => ?_)
    refine lv_aload_n hx hb dX4_look_12 rfl (lv_at hl 0 rfl) ?_
    refine lv_dup hx hb dX4_look_13 rfl ?_
    refine va_get (D := D) (ci := 4) (v := .int rf) (C := RX4) (T := TX4) (N := 8) hx hb hts hin_X4 hown hK hP 0 rfl rfl 1 (by decide) (hts (.fieldLink RX4 22 "ClashFree$Machine" "refused" "I") (List.mem_of_getElem? (i := 16) rfl)) (fun _ h9 => h9) rfl dX4_look_14 ?_
    refine lv_iconst (v := 1) hx hb dX4_look_17 (by decide) ?_
    refine lv_iadd hx hb dX4_look_18 ?_
    refine lv_topi (fun v7 ev7 => ?_)
    refine va_put (D := D) (ci := 4) (v := .int v7) (ty := .int) (C := RX4) (T := TX4) (N := 8) hx hb hts hin_X4 tyX4 tyX4_ok nmX4 hown hK hP hD hS 0 rfl rfl 1 (by decide) (hts (.fieldLink RX4 22 "ClashFree$Machine" "refused" "I") (List.mem_of_getElem? (i := 16) rfl)) (fun _ h9 => h9) rfl (by decide +kernel) rfl rfl (Nat.le_of_ble_eq_true rfl) dX4_look_19 (fun H locs hP hD hS => ?_)
    have hP : va_P D vwCl [(ow 0, .inr (4, gMa ow (nI st) v7 (-1) en (nI lo) (nI oz))), (ob 0, .inr (9, gT ob tb ts tg tl tc tr tu tv tw)), (ob 2, .inr (2, [.int (nI cn), .ref (ob 3), .ref (ob 4)])), (ob 3, .inl (cI, 160, .inl fk)), (ob 4, .inl (cI, 160, .inl fv)), (ob 5, .inr (3, gY ob (nI nb) (nI ka) (nI kb) sm (nI ln))), (ob 7, .inl (cI, 2048, .inl ff))] H := hP
    have hD : va_D A [(ow 0, .inr (4, gMa ow (nI st) v7 (-1) en (nI lo) (nI oz))), (ob 0, .inr (9, gT ob tb ts tg tl tc tr tu tv tw)), (ob 2, .inr (2, [.int (nI cn), .ref (ob 3), .ref (ob 4)])), (ob 3, .inl (cI, 160, .inl fk)), (ob 4, .inl (cI, 160, .inl fv)), (ob 5, .inr (3, gY ob (nI nb) (nI ka) (nI kb) sm (nI ln))), (ob 7, .inl (cI, 2048, .inl ff))] := hD
    exact W.vret hx hb hr (fun t ht hW => ⟨⟨(v7, (-1), tr), rfl, (by (try dsimp only); first | done | exact fun L hL => (if_neg (fun q => hA_r1 (isK_KB.mpr q))).symm), by rw [ht]; exact hP.sub [0, 1, 2, 3, 4, 5, 6] rfl, va_K.moved hW.alike (hK.sub [0] rfl), hD.sub [0, 1, 2, 3, 4, 5, 6] (by decide) rfl⟩, hS.F ht⟩) hS.2.2 dX4_look_22

def own_k_act : List Cond := [.methodLink RX4 75 yX4_step, .instanceMethod yX4_step, .selects RX4 yX4_step yX4_step, .initialized RX4, .methodLink RX4 54 yX4_pop, .instanceMethod yX4_pop, .selects RX4 yX4_pop yX4_pop, .initialized RX10, .static yX10_isKey, .methodLink RX4 94 yX9_countReads, .instanceMethod yX9_countReads, .selects RX9 yX9_countReads yX9_countReads, .initialized RX9, .methodLink RX4 101 yX9_take, .instanceMethod yX9_take, .selects RX9 yX9_take yX9_take, .fieldLink RX4 22 "ClashFree$Machine" "refused" "I", .methodLink RX4 83 yX4_look, .instanceMethod yX4_look, .selects RX4 yX4_look yX4_look, .fieldLink RX4 25 "ClashFree$Machine" "latest" "I", .methodLink RX4 89 yX9_isFullFor, .instanceMethod yX9_isFullFor, .selects RX9 yX9_isFullFor yX9_isFullFor, .methodLink RX4 97 yX9_lay, .instanceMethod yX9_lay, .selects RX9 yX9_lay yX9_lay]
def wp_k_act : List Cond := .code yX4_act cX4_act 6 none :: (own_k_act ++ (wp_k_step ++ (wp_k_pop ++ (wp_k_isKey ++ (wp_k_countReads ++ (wp_k_take ++ (wp_k_look ++ (wp_k_isFullFor ++ (wp_k_lay ++ (wsX40 ++ ([] : List Cond)))))))))))
set_option maxRecDepth 20000 in
theorem inown_k_act : ∀ w ∈ own_k_act, w ∈ lw_tbl := mem_places [1111, 1113, 29, 114, 1103, 1105, 27, 106, 615, 1129, 631, 632, 116, 1134, 702, 703, 385, 1124, 1126, 32, 387, 1132, 619, 620, 1133, 640, 641] (by decide +kernel)
set_option maxRecDepth 20000 in
theorem in_k_act : ∀ w ∈ wp_k_act, w ∈ lw_tbl := List.forall_mem_cons.mpr ⟨List.mem_of_getElem? (i := 1123) (by decide +kernel), List.forall_mem_append.mpr ⟨inown_k_act, List.forall_mem_append.mpr ⟨in_k_step, List.forall_mem_append.mpr ⟨in_k_pop, List.forall_mem_append.mpr ⟨in_k_isKey, List.forall_mem_append.mpr ⟨in_k_countReads, List.forall_mem_append.mpr ⟨in_k_take, List.forall_mem_append.mpr ⟨in_k_look, List.forall_mem_append.mpr ⟨in_k_isFullFor, List.forall_mem_append.mpr ⟨in_k_lay, List.forall_mem_append.mpr ⟨lwb_X4, fun _ h => absurd h List.not_mem_nil⟩⟩⟩⟩⟩⟩⟩⟩⟩⟩⟩
set_option maxRecDepth 20000 in
theorem good_k_act : wp_k_act.all goodWord = true := by decide +kernel
set_option maxRecDepth 20000 in
theorem g_k_act_k_step_75 : GoodIn wp_k_act (wsV RX4 75 RX4 yX4_step wp_k_step) := goodIn_sub (List.forall_mem_append.mpr ⟨List.forall_mem_cons.mpr ⟨(List.mem_of_getElem? (i := 1) rfl), List.forall_mem_cons.mpr ⟨(List.mem_of_getElem? (i := 2) rfl), List.forall_mem_cons.mpr ⟨(List.mem_of_getElem? (i := 3) rfl), List.forall_mem_cons.mpr ⟨(List.mem_of_getElem? (i := 4) rfl), fun _ h => absurd h List.not_mem_nil⟩⟩⟩⟩, (fun _ h => (List.mem_cons_of_mem _ (List.mem_append_right _ (List.mem_append_left _ h))))⟩) (by decide +kernel)
set_option maxRecDepth 20000 in
theorem g_k_act_k_pop_54 : GoodIn wp_k_act (wsV RX4 54 RX4 yX4_pop wp_k_pop) := goodIn_sub (List.forall_mem_append.mpr ⟨List.forall_mem_cons.mpr ⟨(List.mem_of_getElem? (i := 5) rfl), List.forall_mem_cons.mpr ⟨(List.mem_of_getElem? (i := 6) rfl), List.forall_mem_cons.mpr ⟨(List.mem_of_getElem? (i := 7) rfl), List.forall_mem_cons.mpr ⟨(List.mem_of_getElem? (i := 4) rfl), fun _ h => absurd h List.not_mem_nil⟩⟩⟩⟩, (fun _ h => (List.mem_cons_of_mem _ (List.mem_append_right _ (List.mem_append_right _ (List.mem_append_left _ h)))))⟩) (by decide +kernel)
set_option maxRecDepth 20000 in
theorem g_k_act_k_isKey_86 : GoodIn wp_k_act (wp_k_isKey) := goodIn_sub ((fun _ h => (List.mem_cons_of_mem _ (List.mem_append_right _ (List.mem_append_right _ (List.mem_append_right _ (List.mem_append_left _ h))))))) (by decide +kernel)
set_option maxRecDepth 20000 in
theorem g_k_act_k_countReads_94 : GoodIn wp_k_act (wsV RX4 94 RX9 yX9_countReads wp_k_countReads) := goodIn_sub (List.forall_mem_append.mpr ⟨List.forall_mem_cons.mpr ⟨(List.mem_of_getElem? (i := 10) rfl), List.forall_mem_cons.mpr ⟨(List.mem_of_getElem? (i := 11) rfl), List.forall_mem_cons.mpr ⟨(List.mem_of_getElem? (i := 12) rfl), List.forall_mem_cons.mpr ⟨(List.mem_of_getElem? (i := 13) rfl), fun _ h => absurd h List.not_mem_nil⟩⟩⟩⟩, (fun _ h => (List.mem_cons_of_mem _ (List.mem_append_right _ (List.mem_append_right _ (List.mem_append_right _ (List.mem_append_right _ (List.mem_append_left _ h)))))))⟩) (by decide +kernel)
set_option maxRecDepth 20000 in
theorem g_k_act_k_take_101 : GoodIn wp_k_act (wsV RX4 101 RX9 yX9_take wp_k_take) := goodIn_sub (List.forall_mem_append.mpr ⟨List.forall_mem_cons.mpr ⟨(List.mem_of_getElem? (i := 14) rfl), List.forall_mem_cons.mpr ⟨(List.mem_of_getElem? (i := 15) rfl), List.forall_mem_cons.mpr ⟨(List.mem_of_getElem? (i := 16) rfl), List.forall_mem_cons.mpr ⟨(List.mem_of_getElem? (i := 13) rfl), fun _ h => absurd h List.not_mem_nil⟩⟩⟩⟩, (fun _ h => (List.mem_cons_of_mem _ (List.mem_append_right _ (List.mem_append_right _ (List.mem_append_right _ (List.mem_append_right _ (List.mem_append_right _ (List.mem_append_left _ h))))))))⟩) (by decide +kernel)
set_option maxRecDepth 20000 in
theorem g_k_act_k_look_83 : GoodIn wp_k_act (wsV RX4 83 RX4 yX4_look wp_k_look) := goodIn_sub (List.forall_mem_append.mpr ⟨List.forall_mem_cons.mpr ⟨(List.mem_of_getElem? (i := 18) rfl), List.forall_mem_cons.mpr ⟨(List.mem_of_getElem? (i := 19) rfl), List.forall_mem_cons.mpr ⟨(List.mem_of_getElem? (i := 20) rfl), List.forall_mem_cons.mpr ⟨(List.mem_of_getElem? (i := 4) rfl), fun _ h => absurd h List.not_mem_nil⟩⟩⟩⟩, (fun _ h => (List.mem_cons_of_mem _ (List.mem_append_right _ (List.mem_append_right _ (List.mem_append_right _ (List.mem_append_right _ (List.mem_append_right _ (List.mem_append_right _ (List.mem_append_left _ h)))))))))⟩) (by decide +kernel)
set_option maxRecDepth 20000 in
theorem g_k_act_k_isFullFor_89 : GoodIn wp_k_act (wsV RX4 89 RX9 yX9_isFullFor wp_k_isFullFor) := goodIn_sub (List.forall_mem_append.mpr ⟨List.forall_mem_cons.mpr ⟨(List.mem_of_getElem? (i := 22) rfl), List.forall_mem_cons.mpr ⟨(List.mem_of_getElem? (i := 23) rfl), List.forall_mem_cons.mpr ⟨(List.mem_of_getElem? (i := 24) rfl), List.forall_mem_cons.mpr ⟨(List.mem_of_getElem? (i := 13) rfl), fun _ h => absurd h List.not_mem_nil⟩⟩⟩⟩, (fun _ h => (List.mem_cons_of_mem _ (List.mem_append_right _ (List.mem_append_right _ (List.mem_append_right _ (List.mem_append_right _ (List.mem_append_right _ (List.mem_append_right _ (List.mem_append_right _ (List.mem_append_left _ h))))))))))⟩) (by decide +kernel)
set_option maxRecDepth 20000 in
theorem g_k_act_k_lay_97 : GoodIn wp_k_act (wsV RX4 97 RX9 yX9_lay wp_k_lay) := goodIn_sub (List.forall_mem_append.mpr ⟨List.forall_mem_cons.mpr ⟨(List.mem_of_getElem? (i := 25) rfl), List.forall_mem_cons.mpr ⟨(List.mem_of_getElem? (i := 26) rfl), List.forall_mem_cons.mpr ⟨(List.mem_of_getElem? (i := 27) rfl), List.forall_mem_cons.mpr ⟨(List.mem_of_getElem? (i := 13) rfl), fun _ h => absurd h List.not_mem_nil⟩⟩⟩⟩, (fun _ h => (List.mem_cons_of_mem _ (List.mem_append_right _ (List.mem_append_right _ (List.mem_append_right _ (List.mem_append_right _ (List.mem_append_right _ (List.mem_append_right _ (List.mem_append_right _ (List.mem_append_right _ (List.mem_append_left _ h)))))))))))⟩) (by decide +kernel)
set_option maxHeartbeats 4000000 in
set_option maxRecDepth 100000 in
theorem k_act (l : Launch) (D : va_G) (sz : Nat) (ow : Nat → Nat) (ob : Nat → Nat) (cI : ClassId) (st : Nat) (rf : Int32) (lt : Int32) (en : Int32) (lo : Nat) (oz : Nat) (fP : Nat → Int32) (tb : Int32) (ts : Int32) (tg : Int32) (tl : Int32) (tc : Int32) (tr : Int32) (tu : Int32) (tv : Int32) (tw : Int32) (sd : Int64) (da : Nat) (db : Nat) (pr : Int32) (cn : Nat) (fk : Nat → Int32) (fv : Nat → Int32) (nb : Nat) (ka : Nat) (kb : Nat) (sm : Int32) (ln : Nat) (fh : Nat → Int32) (ff : Nat → Int32) (fa : Nat → Int32) (fs : Nat → Int32) (fj : Nat → Int32) (fr : Nat → Int32) (fo : Nat → Int32) (fx : Nat → Int32) (z1 : Int32) (hst : st ≤ 300) (hoz : oz ≤ 64) (hTb : TbI fk fj fh fo cn nb ka kb ln da db) : Met l yX4_act wp_k_act ({ frames := 6, cells := 0, slots := 0, locals := 208 }) (PcWC D [.ref (ow 0), .int z1, .ref (ob 0)] sz [(ow 0, .inr (4, gMa ow (nI st) rf lt en (nI lo) (nI oz))), (ow 2, .inl (cI, 64, .inl fP)), (ob 0, .inr (9, gT ob tb ts tg tl tc tr tu tv tw)), (ob 1, .inr (0, [.long sd, .int (nI da), .int (nI db), .int pr])), (ob 2, .inr (2, [.int (nI cn), .ref (ob 3), .ref (ob 4)])), (ob 3, .inl (cI, 160, .inl fk)), (ob 4, .inl (cI, 160, .inl fv)), (ob 5, .inr (3, gY ob (nI nb) (nI ka) (nI kb) sm (nI ln))), (ob 6, .inl (cI, 2048, .inl fh)), (ob 7, .inl (cI, 2048, .inl ff)), (ob 8, .inl (cI, 2048, .inl fa)), (ob 9, .inl (cI, 2048, .inl fs)), (ob 10, .inl (cI, 160, .inl fj)), (ob 11, .inl (cI, 160, .inl fr)), (ob 12, .inl (cI, 160, .inl fo)), (ob 13, .inl (cI, 2048, .inl fx))] [(cI, .int)]) (va_Qv (fun (u : (Nat) × (Int32) × (Int32) × (Int32) × (Nat) × (Int32) × (Int32) × (Int32) × (Int32) × (Int32) × (Int32) × (Int64) × (Nat) × (Nat) × (Int32) × (Nat) × (Nat → Int32) × (Nat → Int32) × (Nat) × (Nat) × (Nat) × (Int32) × (Nat) × (Nat → Int32) × (Nat → Int32) × (Nat → Int32) × (Nat → Int32) × (Nat → Int32) × (Nat → Int32) × (Nat → Int32) × (Nat → Int32)) => u.1 ≤ 300 ∧ u.2.2.2.2.1 ≤ 64 ∧ (TbI u.2.2.2.2.2.2.2.2.2.2.2.2.2.2.2.2.1 u.2.2.2.2.2.2.2.2.2.2.2.2.2.2.2.2.2.2.2.2.2.2.2.2.2.2.2.1 u.2.2.2.2.2.2.2.2.2.2.2.2.2.2.2.2.2.2.2.2.2.2.2.1 u.2.2.2.2.2.2.2.2.2.2.2.2.2.2.2.2.2.2.2.2.2.2.2.2.2.2.2.2.2.1 u.2.2.2.2.2.2.2.2.2.2.2.2.2.2.2.1 u.2.2.2.2.2.2.2.2.2.2.2.2.2.2.2.2.2.2.1 u.2.2.2.2.2.2.2.2.2.2.2.2.2.2.2.2.2.2.2.1 u.2.2.2.2.2.2.2.2.2.2.2.2.2.2.2.2.2.2.2.2.1 u.2.2.2.2.2.2.2.2.2.2.2.2.2.2.2.2.2.2.2.2.2.2.1 u.2.2.2.2.2.2.2.2.2.2.2.2.1 u.2.2.2.2.2.2.2.2.2.2.2.2.2.1) ∧ ∀ L os kc, z1 = nI kc → (kc = 3 ∨ kc = 5 ∨ kc = 6 ∨ kc = 7) → KvT fk fv cn L → oz = os.length → OsM os fP → (st < 300 ∧ u.1 = st + 1 ∧ u.2.2.2.1 = en ∧ ∃ x v oS, ((kc = 3 ∧ x = os.tail.headD 0 ∧ v = os.headD 0 ∧ oS = os.tail.tail) ∨ (¬ kc = 3 ∧ x = os.headD 0 ∧ v = 0 ∧ oS = os.tail)) ∧ u.2.2.2.2.1 = oS.length ∧ OsM oS fP ∧ u.2.2.1 = (actF kc x v lt L).1 ∧ KvT u.2.2.2.2.2.2.2.2.2.2.2.2.2.2.2.2.1 u.2.2.2.2.2.2.2.2.2.2.2.2.2.2.2.2.2.1 u.2.2.2.2.2.2.2.2.2.2.2.2.2.2.2.1 (actF kc x v lt L).2) ∨ (300 ≤ st ∧ u.1 = st ∧ u.2.2.2.1 = 1 ∧ u.2.2.2.2.1 = oz ∧ u.2.2.1 = lt ∧ KvT u.2.2.2.2.2.2.2.2.2.2.2.2.2.2.2.2.1 u.2.2.2.2.2.2.2.2.2.2.2.2.2.2.2.2.2.1 u.2.2.2.2.2.2.2.2.2.2.2.2.2.2.2.1 L)) (fun (u : (Nat) × (Int32) × (Int32) × (Int32) × (Nat) × (Int32) × (Int32) × (Int32) × (Int32) × (Int32) × (Int32) × (Int64) × (Nat) × (Nat) × (Int32) × (Nat) × (Nat → Int32) × (Nat → Int32) × (Nat) × (Nat) × (Nat) × (Int32) × (Nat) × (Nat → Int32) × (Nat → Int32) × (Nat → Int32) × (Nat → Int32) × (Nat → Int32) × (Nat → Int32) × (Nat → Int32) × (Nat → Int32)) t => va_P D vwCl [(ow 0, .inr (4, gMa ow (nI u.1) u.2.1 u.2.2.1 u.2.2.2.1 (nI lo) (nI u.2.2.2.2.1))), (ow 2, .inl (cI, 64, .inl fP)), (ob 0, .inr (9, gT ob tb ts tg u.2.2.2.2.2.2.1 u.2.2.2.2.2.2.2.1 u.2.2.2.2.2.1 u.2.2.2.2.2.2.2.2.1 u.2.2.2.2.2.2.2.2.2.1 u.2.2.2.2.2.2.2.2.2.2.1)), (ob 1, .inr (0, [.long u.2.2.2.2.2.2.2.2.2.2.2.1, .int (nI u.2.2.2.2.2.2.2.2.2.2.2.2.1), .int (nI u.2.2.2.2.2.2.2.2.2.2.2.2.2.1), .int u.2.2.2.2.2.2.2.2.2.2.2.2.2.2.1])), (ob 2, .inr (2, [.int (nI u.2.2.2.2.2.2.2.2.2.2.2.2.2.2.2.1), .ref (ob 3), .ref (ob 4)])), (ob 3, .inl (cI, 160, .inl u.2.2.2.2.2.2.2.2.2.2.2.2.2.2.2.2.1)), (ob 4, .inl (cI, 160, .inl u.2.2.2.2.2.2.2.2.2.2.2.2.2.2.2.2.2.1)), (ob 5, .inr (3, gY ob (nI u.2.2.2.2.2.2.2.2.2.2.2.2.2.2.2.2.2.2.1) (nI u.2.2.2.2.2.2.2.2.2.2.2.2.2.2.2.2.2.2.2.1) (nI u.2.2.2.2.2.2.2.2.2.2.2.2.2.2.2.2.2.2.2.2.1) u.2.2.2.2.2.2.2.2.2.2.2.2.2.2.2.2.2.2.2.2.2.1 (nI u.2.2.2.2.2.2.2.2.2.2.2.2.2.2.2.2.2.2.2.2.2.2.1))), (ob 6, .inl (cI, 2048, .inl u.2.2.2.2.2.2.2.2.2.2.2.2.2.2.2.2.2.2.2.2.2.2.2.1)), (ob 7, .inl (cI, 2048, .inl u.2.2.2.2.2.2.2.2.2.2.2.2.2.2.2.2.2.2.2.2.2.2.2.2.1)), (ob 8, .inl (cI, 2048, .inl u.2.2.2.2.2.2.2.2.2.2.2.2.2.2.2.2.2.2.2.2.2.2.2.2.2.1)), (ob 9, .inl (cI, 2048, .inl u.2.2.2.2.2.2.2.2.2.2.2.2.2.2.2.2.2.2.2.2.2.2.2.2.2.2.1)), (ob 10, .inl (cI, 160, .inl u.2.2.2.2.2.2.2.2.2.2.2.2.2.2.2.2.2.2.2.2.2.2.2.2.2.2.2.1)), (ob 11, .inl (cI, 160, .inl u.2.2.2.2.2.2.2.2.2.2.2.2.2.2.2.2.2.2.2.2.2.2.2.2.2.2.2.2.1)), (ob 12, .inl (cI, 160, .inl u.2.2.2.2.2.2.2.2.2.2.2.2.2.2.2.2.2.2.2.2.2.2.2.2.2.2.2.2.2.1)), (ob 13, .inl (cI, 2048, .inl u.2.2.2.2.2.2.2.2.2.2.2.2.2.2.2.2.2.2.2.2.2.2.2.2.2.2.2.2.2.2))] t.heap ∧ va_K D vwCl [(cI, .int)] t ∧ va_D (va_A [(ow 0, .inr (4, gMa ow (nI st) rf lt en (nI lo) (nI oz))), (ow 2, .inl (cI, 64, .inl fP)), (ob 0, .inr (9, gT ob tb ts tg tl tc tr tu tv tw)), (ob 1, .inr (0, [.long sd, .int (nI da), .int (nI db), .int pr])), (ob 2, .inr (2, [.int (nI cn), .ref (ob 3), .ref (ob 4)])), (ob 3, .inl (cI, 160, .inl fk)), (ob 4, .inl (cI, 160, .inl fv)), (ob 5, .inr (3, gY ob (nI nb) (nI ka) (nI kb) sm (nI ln))), (ob 6, .inl (cI, 2048, .inl fh)), (ob 7, .inl (cI, 2048, .inl ff)), (ob 8, .inl (cI, 2048, .inl fa)), (ob 9, .inl (cI, 2048, .inl fs)), (ob 10, .inl (cI, 160, .inl fj)), (ob 11, .inl (cI, 160, .inl fr)), (ob 12, .inl (cI, 160, .inl fo)), (ob 13, .inl (cI, 2048, .inl fx))] sz) [(ow 0, .inr (4, gMa ow (nI u.1) u.2.1 u.2.2.1 u.2.2.2.1 (nI lo) (nI u.2.2.2.2.1))), (ow 2, .inl (cI, 64, .inl fP)), (ob 0, .inr (9, gT ob tb ts tg u.2.2.2.2.2.2.1 u.2.2.2.2.2.2.2.1 u.2.2.2.2.2.1 u.2.2.2.2.2.2.2.2.1 u.2.2.2.2.2.2.2.2.2.1 u.2.2.2.2.2.2.2.2.2.2.1)), (ob 1, .inr (0, [.long u.2.2.2.2.2.2.2.2.2.2.2.1, .int (nI u.2.2.2.2.2.2.2.2.2.2.2.2.1), .int (nI u.2.2.2.2.2.2.2.2.2.2.2.2.2.1), .int u.2.2.2.2.2.2.2.2.2.2.2.2.2.2.1])), (ob 2, .inr (2, [.int (nI u.2.2.2.2.2.2.2.2.2.2.2.2.2.2.2.1), .ref (ob 3), .ref (ob 4)])), (ob 3, .inl (cI, 160, .inl u.2.2.2.2.2.2.2.2.2.2.2.2.2.2.2.2.1)), (ob 4, .inl (cI, 160, .inl u.2.2.2.2.2.2.2.2.2.2.2.2.2.2.2.2.2.1)), (ob 5, .inr (3, gY ob (nI u.2.2.2.2.2.2.2.2.2.2.2.2.2.2.2.2.2.2.1) (nI u.2.2.2.2.2.2.2.2.2.2.2.2.2.2.2.2.2.2.2.1) (nI u.2.2.2.2.2.2.2.2.2.2.2.2.2.2.2.2.2.2.2.2.1) u.2.2.2.2.2.2.2.2.2.2.2.2.2.2.2.2.2.2.2.2.2.1 (nI u.2.2.2.2.2.2.2.2.2.2.2.2.2.2.2.2.2.2.2.2.2.2.1))), (ob 6, .inl (cI, 2048, .inl u.2.2.2.2.2.2.2.2.2.2.2.2.2.2.2.2.2.2.2.2.2.2.2.1)), (ob 7, .inl (cI, 2048, .inl u.2.2.2.2.2.2.2.2.2.2.2.2.2.2.2.2.2.2.2.2.2.2.2.2.1)), (ob 8, .inl (cI, 2048, .inl u.2.2.2.2.2.2.2.2.2.2.2.2.2.2.2.2.2.2.2.2.2.2.2.2.2.1)), (ob 9, .inl (cI, 2048, .inl u.2.2.2.2.2.2.2.2.2.2.2.2.2.2.2.2.2.2.2.2.2.2.2.2.2.2.1)), (ob 10, .inl (cI, 160, .inl u.2.2.2.2.2.2.2.2.2.2.2.2.2.2.2.2.2.2.2.2.2.2.2.2.2.2.2.1)), (ob 11, .inl (cI, 160, .inl u.2.2.2.2.2.2.2.2.2.2.2.2.2.2.2.2.2.2.2.2.2.2.2.2.2.2.2.2.1)), (ob 12, .inl (cI, 160, .inl u.2.2.2.2.2.2.2.2.2.2.2.2.2.2.2.2.2.2.2.2.2.2.2.2.2.2.2.2.2.1)), (ob 13, .inl (cI, 2048, .inl u.2.2.2.2.2.2.2.2.2.2.2.2.2.2.2.2.2.2.2.2.2.2.2.2.2.2.2.2.2.2))]) (va_A [(ow 0, .inr (4, gMa ow (nI st) rf lt en (nI lo) (nI oz))), (ow 2, .inl (cI, 64, .inl fP)), (ob 0, .inr (9, gT ob tb ts tg tl tc tr tu tv tw)), (ob 1, .inr (0, [.long sd, .int (nI da), .int (nI db), .int pr])), (ob 2, .inr (2, [.int (nI cn), .ref (ob 3), .ref (ob 4)])), (ob 3, .inl (cI, 160, .inl fk)), (ob 4, .inl (cI, 160, .inl fv)), (ob 5, .inr (3, gY ob (nI nb) (nI ka) (nI kb) sm (nI ln))), (ob 6, .inl (cI, 2048, .inl fh)), (ob 7, .inl (cI, 2048, .inl ff)), (ob 8, .inl (cI, 2048, .inl fa)), (ob 9, .inl (cI, 2048, .inl fs)), (ob 10, .inl (cI, 160, .inl fj)), (ob 11, .inl (cI, 160, .inl fr)), (ob 12, .inl (cI, 160, .inl fo)), (ob 13, .inl (cI, 2048, .inl fx))] sz)) 0 0 (va_A [(ow 0, .inr (4, gMa ow (nI st) rf lt en (nI lo) (nI oz))), (ow 2, .inl (cI, 64, .inl fP)), (ob 0, .inr (9, gT ob tb ts tg tl tc tr tu tv tw)), (ob 1, .inr (0, [.long sd, .int (nI da), .int (nI db), .int pr])), (ob 2, .inr (2, [.int (nI cn), .ref (ob 3), .ref (ob 4)])), (ob 3, .inl (cI, 160, .inl fk)), (ob 4, .inl (cI, 160, .inl fv)), (ob 5, .inr (3, gY ob (nI nb) (nI ka) (nI kb) sm (nI ln))), (ob 6, .inl (cI, 2048, .inl fh)), (ob 7, .inl (cI, 2048, .inl ff)), (ob 8, .inl (cI, 2048, .inl fa)), (ob 9, .inl (cI, 2048, .inl fs)), (ob 10, .inl (cI, 160, .inl fj)), (ob 11, .inl (cI, 160, .inl fr)), (ob 12, .inl (cI, 160, .inl fo)), (ob 13, .inl (cI, 2048, .inl fx))] sz) := by
  refine Met.ofW (cc := cX4_act) (maxL := 6) (ret := none) (by decide) rfl ?_
  intro p e s m args below meth c s₁ B hml hv
  obtain ⟨rfl, hsz, hP, hK, hD0, hN⟩ := hv
  have hx := B.exec
  have hb := B.bytes
  have hr := B.returns
  have hts := atoms_spec (ws := wp_k_act) B.pre
  have hin_X4 : ∀ w ∈ wsX40, w ∈ wp_k_act := fun _ h => (List.mem_cons_of_mem _ (List.mem_append_right _ (List.mem_append_right _ (List.mem_append_right _ (List.mem_append_right _ (List.mem_append_right _ (List.mem_append_right _ (List.mem_append_right _ (List.mem_append_right _ (List.mem_append_right _ (List.mem_append_left _ h)))))))))))
  have hown : s.vm.findClass RX4 = some m.cls := findClass_of_methodNamed B.named
  have hlocks := B.notSynchronized
  subst hsz
  have hD := hD0.self (sz := s.heap.size)
  generalize hAe : va_A [(ow 0, .inr (4, gMa ow (nI st) rf lt en (nI lo) (nI oz))), (ow 2, .inl (cI, 64, .inl fP)), (ob 0, .inr (9, gT ob tb ts tg tl tc tr tu tv tw)), (ob 1, .inr (0, [.long sd, .int (nI da), .int (nI db), .int pr])), (ob 2, .inr (2, [.int (nI cn), .ref (ob 3), .ref (ob 4)])), (ob 3, .inl (cI, 160, .inl fk)), (ob 4, .inl (cI, 160, .inl fv)), (ob 5, .inr (3, gY ob (nI nb) (nI ka) (nI kb) sm (nI ln))), (ob 6, .inl (cI, 2048, .inl fh)), (ob 7, .inl (cI, 2048, .inl ff)), (ob 8, .inl (cI, 2048, .inl fa)), (ob 9, .inl (cI, 2048, .inl fs)), (ob 10, .inl (cI, 160, .inl fj)), (ob 11, .inl (cI, 160, .inl fr)), (ob 12, .inl (cI, 160, .inl fo)), (ob 13, .inl (cI, 2048, .inl fx))] s.heap.size = A at hD ⊢
  have hA : ∀ q : Nat, s.heap.size ≤ q → A q := fun q h => by rw [← hAe]; exact Or.inr h
  have hS : va_S A s.heap s.heap [] := va_S.rf
  have hP : va_P D vwCl [(ow 0, .inr (4, gMa ow (nI st) rf lt en (nI lo) (nI oz))), (ow 2, .inl (cI, 64, .inl fP)), (ob 0, .inr (9, gT ob tb ts tg tl tc tr tu tv tw)), (ob 1, .inr (0, [.long sd, .int (nI da), .int (nI db), .int pr])), (ob 2, .inr (2, [.int (nI cn), .ref (ob 3), .ref (ob 4)])), (ob 3, .inl (cI, 160, .inl fk)), (ob 4, .inl (cI, 160, .inl fv)), (ob 5, .inr (3, gY ob (nI nb) (nI ka) (nI kb) sm (nI ln))), (ob 6, .inl (cI, 2048, .inl fh)), (ob 7, .inl (cI, 2048, .inl ff)), (ob 8, .inl (cI, 2048, .inl fa)), (ob 9, .inl (cI, 2048, .inl fs)), (ob 10, .inl (cI, 160, .inl fj)), (ob 11, .inl (cI, 160, .inl fr)), (ob 12, .inl (cI, 160, .inl fo)), (ob 13, .inl (cI, 2048, .inl fx))] s.heap := hP
  have hl := lv_entry ([.ref (ow 0), .int z1, .ref (ob 0)]) (n := 6) (Nat.le_of_ble_eq_true rfl)
  rw [lg_entry_eq]
  generalize (lg_sl ([.ref (ow 0), .int z1, .ref (ob 0)]) ++ List.replicate (6 - (lg_sl ([.ref (ow 0), .int z1, .ref (ob 0)])).length) Slot.unset).toArray = ls at hl ⊢
  have hl : lv_has ls 6 [(0, .ref (ow 0)), (1, .int z1), (2, .ref (ob 0))] := hl
  obtain ⟨hky, hL, hO, hn1, hka, hkb, hda, hdb⟩ := id hTb
  have hnb := hL.1
  have hln := hL.2.1
  have hc := hky.1
  have hcz := hky.1
  refine lv_aload_n hx hb dX4_act_0 rfl (lv_at hl 0 rfl) ?_
  have hPc := hP.sub (ws' := [(ow 0, .inr (4, gMa ow (nI st) rf lt en (nI lo) (nI oz)))]) [0] rfl
  have hKc := hK.sub (tys' := []) [] rfl
  have hDc := hD.sub (ws' := [(ow 0, .inr (4, gMa ow (nI st) rf lt en (nI lo) (nI oz)))]) [0] (by decide) rfl
  have hFc := va_free (wc := [(ow 0, .inr (4, gMa ow (nI st) rf lt en (nI lo) (nI oz)))]) hD hS hA [0] rfl
  refine va_calli (va_runV (As := []) (rest := []) ⟨hx, hb, hml, hown, hts⟩ (k_step l D _ ow cI st rf lt en lo oz hst) (cwV 0 hts g_k_act_k_step_75 rfl rfl rfl (by decide +kernel) ⟨(Nat.le_of_ble_eq_true rfl), (Nat.le_of_ble_eq_true rfl)⟩) (PcWC_V (q0 := 0) hPc hKc hDc hN rfl rfl) rfl rfl hl.1 rfl (lv_room (Nat.le_of_ble_eq_true rfl)) dX4_act_1 ⟨(Nat.le_of_ble_eq_true rfl), (Nat.le_of_ble_eq_true rfl)⟩) hS (fun q _ h => hFc q h) hFc (fun r1 uu tt H locs htt hvm hw hB hz1 hk1 hS => ?_)
  obtain ⟨w2, w3⟩ := uu
  obtain ⟨hP1, hK1, hD1⟩ := hB
  rw [htt] at hP1
  have hK1 := va_K.moved hvm.symm hK1
  have hP1 : va_P D vwCl [(ow 0, .inr (4, gMa ow (nI w2) rf lt w3 (nI lo) (nI oz)))] H := hP1
  obtain ⟨hP, hD⟩ := va_join (wr := [(ow 2, .inl (cI, 64, .inl fP)), (ob 0, .inr (9, gT ob tb ts tg tl tc tr tu tv tw)), (ob 1, .inr (0, [.long sd, .int (nI da), .int (nI db), .int pr])), (ob 2, .inr (2, [.int (nI cn), .ref (ob 3), .ref (ob 4)])), (ob 3, .inl (cI, 160, .inl fk)), (ob 4, .inl (cI, 160, .inl fv)), (ob 5, .inr (3, gY ob (nI nb) (nI ka) (nI kb) sm (nI ln))), (ob 6, .inl (cI, 2048, .inl fh)), (ob 7, .inl (cI, 2048, .inl ff)), (ob 8, .inl (cI, 2048, .inl fa)), (ob 9, .inl (cI, 2048, .inl fs)), (ob 10, .inl (cI, 160, .inl fj)), (ob 11, .inl (cI, 160, .inl fr)), (ob 12, .inl (cI, 160, .inl fo)), (ob 13, .inl (cI, 2048, .inl fx))]) (w1 := [(ow 0, .inr (4, gMa ow (nI w2) rf lt w3 (nI lo) (nI oz)))]) hP hD [0] [1, 2, 3, 4, 5, 6, 7, 8, 9, 10, 11, 12, 13, 14, 15] rfl rfl (by decide) (by decide) hk1 hFc hP1 hD1
  have hP : va_P D vwCl [(ow 2, .inl (cI, 64, .inl fP)), (ob 0, .inr (9, gT ob tb ts tg tl tc tr tu tv tw)), (ob 1, .inr (0, [.long sd, .int (nI da), .int (nI db), .int pr])), (ob 2, .inr (2, [.int (nI cn), .ref (ob 3), .ref (ob 4)])), (ob 3, .inl (cI, 160, .inl fk)), (ob 4, .inl (cI, 160, .inl fv)), (ob 5, .inr (3, gY ob (nI nb) (nI ka) (nI kb) sm (nI ln))), (ob 6, .inl (cI, 2048, .inl fh)), (ob 7, .inl (cI, 2048, .inl ff)), (ob 8, .inl (cI, 2048, .inl fa)), (ob 9, .inl (cI, 2048, .inl fs)), (ob 10, .inl (cI, 160, .inl fj)), (ob 11, .inl (cI, 160, .inl fr)), (ob 12, .inl (cI, 160, .inl fo)), (ob 13, .inl (cI, 2048, .inl fx)), (ow 0, .inr (4, gMa ow (nI w2) rf lt w3 (nI lo) (nI oz)))] H := hP
  have hD : va_D A [(ow 2, .inl (cI, 64, .inl fP)), (ob 0, .inr (9, gT ob tb ts tg tl tc tr tu tv tw)), (ob 1, .inr (0, [.long sd, .int (nI da), .int (nI db), .int pr])), (ob 2, .inr (2, [.int (nI cn), .ref (ob 3), .ref (ob 4)])), (ob 3, .inl (cI, 160, .inl fk)), (ob 4, .inl (cI, 160, .inl fv)), (ob 5, .inr (3, gY ob (nI nb) (nI ka) (nI kb) sm (nI ln))), (ob 6, .inl (cI, 2048, .inl fh)), (ob 7, .inl (cI, 2048, .inl ff)), (ob 8, .inl (cI, 2048, .inl fa)), (ob 9, .inl (cI, 2048, .inl fs)), (ob 10, .inl (cI, 160, .inl fj)), (ob 11, .inl (cI, 160, .inl fr)), (ob 12, .inl (cI, 160, .inl fo)), (ob 13, .inl (cI, 2048, .inl fx)), (ow 0, .inr (4, gMa ow (nI w2) rf lt w3 (nI lo) (nI oz)))] := hD
  try dsimp only at hw
  clear hz1 hk1 hFc hPc hKc hDc
  rcases hw with ⟨rfl, hA_r1⟩ | ⟨rfl, hA_r1⟩
  ·
    obtain ⟨hA_r1_1, hA_r1_2, hA_r1_3, hA_r1_4⟩ := hA_r1
    refine lv_if_ne (tgt := 8) hx hb dX4_act_4 (by decide) (fun hc => ?_) (fun hc => absurd hc (by decide))
    refine lv_iload_n hx hb dX4_act_8 rfl (lv_at hl 1 rfl) ?_
    refine lv_iconst (v := 3) hx hb dX4_act_9 (by decide) ?_
    refine lv_icmp_ne (tgt := 20) hx hb dX4_act_10 (by decide) (fun hc4 => ?_) (fun hc4 => ?_)
    ·
      refine lv_iconst (v := 0) hx hb dX4_act_20 (by decide) ?_
      refine lv_istore_n (lv' := [(3, .int 0), (0, .ref (ow 0)), (1, .int z1), (2, .ref (ob 0))]) hx hb dX4_act_21 rfl hl (by decide) rfl (fun ls hl => ?_)
      refine lv_aload_n hx hb dX4_act_22 rfl (lv_at hl 1 rfl) ?_
      have hPc := hP.sub (ws' := [(ow 0, .inr (4, gMa ow (nI w2) rf lt w3 (nI lo) (nI oz))), (ow 2, .inl (cI, 64, .inl fP))]) [15, 0] rfl
      have hKc := hK.sub (tys' := [(cI, .int)]) [0] rfl
      have hDc := hD.sub (ws' := [(ow 0, .inr (4, gMa ow (nI w2) rf lt w3 (nI lo) (nI oz))), (ow 2, .inl (cI, 64, .inl fP))]) [15, 0] (by decide) rfl
      have hFc := va_free (wc := [(ow 0, .inr (4, gMa ow (nI w2) rf lt w3 (nI lo) (nI oz))), (ow 2, .inl (cI, 64, .inl fP))]) hD hS hA [15, 0] rfl
      refine va_calli (va_runV (As := []) (rest := []) ⟨hx, hb, hml, hown, hts⟩ (k_pop l D _ ow cI w2 rf lt w3 lo oz fP hoz) (cwV 0 hts g_k_act_k_pop_54 rfl rfl rfl (by decide +kernel) ⟨(Nat.le_of_ble_eq_true rfl), (Nat.le_of_ble_eq_true rfl)⟩) (PcWC_V (q0 := 0) hPc hKc hDc hN rfl rfl) rfl rfl hl.1 rfl (lv_room (Nat.le_of_ble_eq_true rfl)) dX4_act_23 ⟨(Nat.le_of_ble_eq_true rfl), (Nat.le_of_ble_eq_true rfl)⟩) hS (fun q _ h => hFc q h) hFc (fun r5 uu tt H locs htt hvm hw hB hz1 hk1 hS => ?_)
      obtain ⟨w6, rfl⟩ : ∃ z, z = uu := ⟨_, rfl⟩
      obtain ⟨hP1, hK1, hD1⟩ := hB
      rw [htt] at hP1
      have hK1 := va_K.moved hvm.symm hK1
      have hP1 : va_P D vwCl [(ow 0, .inr (4, gMa ow (nI w2) rf lt w3 (nI lo) (nI w6))), (ow 2, .inl (cI, 64, .inl fP))] H := hP1
      obtain ⟨hP, hD⟩ := va_join (wr := [(ob 0, .inr (9, gT ob tb ts tg tl tc tr tu tv tw)), (ob 1, .inr (0, [.long sd, .int (nI da), .int (nI db), .int pr])), (ob 2, .inr (2, [.int (nI cn), .ref (ob 3), .ref (ob 4)])), (ob 3, .inl (cI, 160, .inl fk)), (ob 4, .inl (cI, 160, .inl fv)), (ob 5, .inr (3, gY ob (nI nb) (nI ka) (nI kb) sm (nI ln))), (ob 6, .inl (cI, 2048, .inl fh)), (ob 7, .inl (cI, 2048, .inl ff)), (ob 8, .inl (cI, 2048, .inl fa)), (ob 9, .inl (cI, 2048, .inl fs)), (ob 10, .inl (cI, 160, .inl fj)), (ob 11, .inl (cI, 160, .inl fr)), (ob 12, .inl (cI, 160, .inl fo)), (ob 13, .inl (cI, 2048, .inl fx))]) (w1 := [(ow 0, .inr (4, gMa ow (nI w2) rf lt w3 (nI lo) (nI w6))), (ow 2, .inl (cI, 64, .inl fP))]) hP hD [15, 0] [1, 2, 3, 4, 5, 6, 7, 8, 9, 10, 11, 12, 13, 14] rfl rfl (by decide) (by decide) hk1 hFc hP1 hD1
      have hP : va_P D vwCl [(ob 0, .inr (9, gT ob tb ts tg tl tc tr tu tv tw)), (ob 1, .inr (0, [.long sd, .int (nI da), .int (nI db), .int pr])), (ob 2, .inr (2, [.int (nI cn), .ref (ob 3), .ref (ob 4)])), (ob 3, .inl (cI, 160, .inl fk)), (ob 4, .inl (cI, 160, .inl fv)), (ob 5, .inr (3, gY ob (nI nb) (nI ka) (nI kb) sm (nI ln))), (ob 6, .inl (cI, 2048, .inl fh)), (ob 7, .inl (cI, 2048, .inl ff)), (ob 8, .inl (cI, 2048, .inl fa)), (ob 9, .inl (cI, 2048, .inl fs)), (ob 10, .inl (cI, 160, .inl fj)), (ob 11, .inl (cI, 160, .inl fr)), (ob 12, .inl (cI, 160, .inl fo)), (ob 13, .inl (cI, 2048, .inl fx)), (ow 0, .inr (4, gMa ow (nI w2) rf lt w3 (nI lo) (nI w6))), (ow 2, .inl (cI, 64, .inl fP))] H := hP
      have hD : va_D A [(ob 0, .inr (9, gT ob tb ts tg tl tc tr tu tv tw)), (ob 1, .inr (0, [.long sd, .int (nI da), .int (nI db), .int pr])), (ob 2, .inr (2, [.int (nI cn), .ref (ob 3), .ref (ob 4)])), (ob 3, .inl (cI, 160, .inl fk)), (ob 4, .inl (cI, 160, .inl fv)), (ob 5, .inr (3, gY ob (nI nb) (nI ka) (nI kb) sm (nI ln))), (ob 6, .inl (cI, 2048, .inl fh)), (ob 7, .inl (cI, 2048, .inl ff)), (ob 8, .inl (cI, 2048, .inl fa)), (ob 9, .inl (cI, 2048, .inl fs)), (ob 10, .inl (cI, 160, .inl fj)), (ob 11, .inl (cI, 160, .inl fr)), (ob 12, .inl (cI, 160, .inl fo)), (ob 13, .inl (cI, 2048, .inl fx)), (ow 0, .inr (4, gMa ow (nI w2) rf lt w3 (nI lo) (nI w6))), (ow 2, .inl (cI, 64, .inl fP))] := hD
      try dsimp only at hw
      clear hz1 hk1 hFc hPc hKc hDc
      obtain ⟨hm7_hoz, hm7_v⟩ := hw
      refine lv_istore (lv' := [(4, .int r5), (3, .int 0), (0, .ref (ow 0)), (1, .int z1), (2, .ref (ob 0))]) hx hb dX4_act_26 hl (by decide) rfl (fun ls hl => ?_)
      refine lv_iload_n hx hb dX4_act_28 rfl (lv_at hl 3 rfl) ?_
      refine lv_bipush (v := 7) hx hb dX4_act_29 (by decide) ?_
      refine lv_icmp_ne (tgt := 43) hx hb dX4_act_31 (by decide) (fun hc8 => ?_) (fun hc8 => ?_)
      ·
        refine lv_iload_n hx hb dX4_act_43 rfl (lv_at hl 3 rfl) ?_
        refine lv_bipush (v := 6) hx hb dX4_act_44 (by decide) ?_
        refine lv_icmp_ne (tgt := 59) hx hb dX4_act_46 (by decide) (fun hc9 => ?_) (fun hc9 => ?_)
        ·
          refine lv_iload hx hb dX4_act_59 (lv_at hl 0 rfl) ?_
          have hPc := hP.sub (ws' := []) [] rfl
          have hKc := hK.sub (tys' := []) [] rfl
          have hFc := va_free0 hS hA
          refine va_calli (va_runSN (As := [.int r5]) (rest := []) ⟨hx, hb, hml, hown, hts⟩ (k_isKey l D _ cI r5) ⟨va_cnB 1 hts g_k_act_k_isKey_86 rfl rfl rfl hN.2.2.2.1 (hts (.initialized RX10) (List.mem_of_getElem? (i := 8) rfl)) (by decide +kernel) ⟨(Nat.le_of_ble_eq_true rfl), (Nat.le_of_ble_eq_true rfl)⟩, (hts (.static yX10_isKey) (List.mem_of_getElem? (i := 9) rfl)), trivial⟩ (PcRC_S hPc hKc hN) rfl rfl hl.1 rfl (lv_room (Nat.le_of_ble_eq_true rfl)) dX4_act_61 ⟨(Nat.le_of_ble_eq_true rfl), (Nat.le_of_ble_eq_true rfl)⟩) hS (fun q _ h => hFc q h) hFc (fun r10 uu tt H locs htt hvm hw hB hz1 hk1 hS => ?_)
          have hP := va_keep hP hk1
          try dsimp only at hw
          clear hB hz1 hk1 hFc hPc hKc
          rcases hw with ⟨rfl, hA_r10⟩ | ⟨rfl, hA_r10⟩
          ·
            obtain ⟨kx, hkx, rfl⟩ := hA_r10
            refine lv_if_eq (tgt := 81) hx hb dX4_act_64 (by decide) (fun hc => absurd hc (by decide)) (fun hc => ?_)
            refine lv_iload_n hx hb dX4_act_67 rfl (lv_at hl 3 rfl) ?_
            refine lv_iconst (v := 3) hx hb dX4_act_68 (by decide) ?_
            refine lv_icmp_ne (tgt := 94) hx hb dX4_act_69 (by decide) (fun hc => ?_) (fun hc => absurd hc (hc4))
            refine lv_aload_n hx hb dX4_act_94 rfl (lv_at hl 4 rfl) ?_
            refine lv_iload hx hb dX4_act_95 (lv_at hl 0 rfl) ?_
            have hPc := hP.sub (ws' := [(ob 0, .inr (9, gT ob tb ts tg tl tc tr tu tv tw)), (ob 5, .inr (3, gY ob (nI nb) (nI ka) (nI kb) sm (nI ln))), (ob 7, .inl (cI, 2048, .inl ff))]) [0, 5, 7] rfl
            have hKc := hK.sub (tys' := [(cI, .int)]) [0] rfl
            have hDc := hD.sub (ws' := [(ob 0, .inr (9, gT ob tb ts tg tl tc tr tu tv tw)), (ob 5, .inr (3, gY ob (nI nb) (nI ka) (nI kb) sm (nI ln))), (ob 7, .inl (cI, 2048, .inl ff))]) [0, 5, 7] (by decide) rfl
            have hFc := va_free (wc := [(ob 0, .inr (9, gT ob tb ts tg tl tc tr tu tv tw)), (ob 5, .inr (3, gY ob (nI nb) (nI ka) (nI kb) sm (nI ln))), (ob 7, .inl (cI, 2048, .inl ff))]) hD hS hA [0, 5, 7] rfl
            refine va_callv (va_runV (As := [.int (nI kx)]) (rest := []) ⟨hx, hb, hml, hown, hts⟩ (k_countReads l D _ ob cI tb ts tg tl tc tr tu tv tw nb ka kb sm ln ff kx hnb hn1 hka hkb hkx) (cwV 1 hts g_k_act_k_countReads_94 rfl rfl rfl (by decide +kernel) ⟨(Nat.le_of_ble_eq_true rfl), (Nat.le_of_ble_eq_true rfl)⟩) (PcWC_V (q0 := 0) hPc hKc hDc hN rfl rfl) rfl rfl hl.1 rfl (lv_room (Nat.le_of_ble_eq_true rfl)) dX4_act_97 ⟨(Nat.le_of_ble_eq_true rfl), (Nat.le_of_ble_eq_true rfl)⟩) hS (fun q _ h => hFc q h) hFc (fun uu tt H locs htt hvm hw hB hz1 hk1 hS => ?_)
            obtain ⟨w12, rfl⟩ : ∃ z, z = uu := ⟨_, rfl⟩
            obtain ⟨hP1, hK1, hD1⟩ := hB
            rw [htt] at hP1
            have hK1 := va_K.moved hvm.symm hK1
            have hP1 : va_P D vwCl [(ob 0, .inr (9, gT ob tb ts tg tl tc w12 tu tv tw)), (ob 5, .inr (3, gY ob (nI nb) (nI ka) (nI kb) sm (nI ln))), (ob 7, .inl (cI, 2048, .inl ff))] H := hP1
            obtain ⟨hP, hD⟩ := va_join (wr := [(ob 1, .inr (0, [.long sd, .int (nI da), .int (nI db), .int pr])), (ob 2, .inr (2, [.int (nI cn), .ref (ob 3), .ref (ob 4)])), (ob 3, .inl (cI, 160, .inl fk)), (ob 4, .inl (cI, 160, .inl fv)), (ob 6, .inl (cI, 2048, .inl fh)), (ob 8, .inl (cI, 2048, .inl fa)), (ob 9, .inl (cI, 2048, .inl fs)), (ob 10, .inl (cI, 160, .inl fj)), (ob 11, .inl (cI, 160, .inl fr)), (ob 12, .inl (cI, 160, .inl fo)), (ob 13, .inl (cI, 2048, .inl fx)), (ow 0, .inr (4, gMa ow (nI w2) rf lt w3 (nI lo) (nI w6))), (ow 2, .inl (cI, 64, .inl fP))]) (w1 := [(ob 0, .inr (9, gT ob tb ts tg tl tc w12 tu tv tw)), (ob 5, .inr (3, gY ob (nI nb) (nI ka) (nI kb) sm (nI ln))), (ob 7, .inl (cI, 2048, .inl ff))]) hP hD [0, 5, 7] [1, 2, 3, 4, 6, 8, 9, 10, 11, 12, 13, 14, 15] rfl rfl (by decide) (by decide) hk1 hFc hP1 hD1
            have hP : va_P D vwCl [(ob 1, .inr (0, [.long sd, .int (nI da), .int (nI db), .int pr])), (ob 2, .inr (2, [.int (nI cn), .ref (ob 3), .ref (ob 4)])), (ob 3, .inl (cI, 160, .inl fk)), (ob 4, .inl (cI, 160, .inl fv)), (ob 6, .inl (cI, 2048, .inl fh)), (ob 8, .inl (cI, 2048, .inl fa)), (ob 9, .inl (cI, 2048, .inl fs)), (ob 10, .inl (cI, 160, .inl fj)), (ob 11, .inl (cI, 160, .inl fr)), (ob 12, .inl (cI, 160, .inl fo)), (ob 13, .inl (cI, 2048, .inl fx)), (ow 0, .inr (4, gMa ow (nI w2) rf lt w3 (nI lo) (nI w6))), (ow 2, .inl (cI, 64, .inl fP)), (ob 0, .inr (9, gT ob tb ts tg tl tc w12 tu tv tw)), (ob 5, .inr (3, gY ob (nI nb) (nI ka) (nI kb) sm (nI ln))), (ob 7, .inl (cI, 2048, .inl ff))] H := hP
            have hD : va_D A [(ob 1, .inr (0, [.long sd, .int (nI da), .int (nI db), .int pr])), (ob 2, .inr (2, [.int (nI cn), .ref (ob 3), .ref (ob 4)])), (ob 3, .inl (cI, 160, .inl fk)), (ob 4, .inl (cI, 160, .inl fv)), (ob 6, .inl (cI, 2048, .inl fh)), (ob 8, .inl (cI, 2048, .inl fa)), (ob 9, .inl (cI, 2048, .inl fs)), (ob 10, .inl (cI, 160, .inl fj)), (ob 11, .inl (cI, 160, .inl fr)), (ob 12, .inl (cI, 160, .inl fo)), (ob 13, .inl (cI, 2048, .inl fx)), (ow 0, .inr (4, gMa ow (nI w2) rf lt w3 (nI lo) (nI w6))), (ow 2, .inl (cI, 64, .inl fP)), (ob 0, .inr (9, gT ob tb ts tg tl tc w12 tu tv tw)), (ob 5, .inr (3, gY ob (nI nb) (nI ka) (nI kb) sm (nI ln))), (ob 7, .inl (cI, 2048, .inl ff))] := hD
            try dsimp only at hw
            clear hz1 hk1 hFc hPc hKc hDc
            refine lv_iload_n hx hb dX4_act_100 rfl (lv_at hl 3 rfl) ?_
            refine lv_iconst (v := 3) hx hb dX4_act_101 (by decide) ?_
            refine lv_icmp_ne (tgt := 115) hx hb dX4_act_102 (by decide) (fun hc => ?_) (fun hc => absurd hc (hc4))
            refine lv_aload_n hx hb dX4_act_115 rfl (lv_at hl 4 rfl) ?_
            refine lv_iload hx hb dX4_act_116 (lv_at hl 0 rfl) ?_
            have hPc := hP.sub (ws' := [(ob 0, .inr (9, gT ob tb ts tg tl tc w12 tu tv tw)), (ob 1, .inr (0, [.long sd, .int (nI da), .int (nI db), .int pr])), (ob 2, .inr (2, [.int (nI cn), .ref (ob 3), .ref (ob 4)])), (ob 3, .inl (cI, 160, .inl fk)), (ob 4, .inl (cI, 160, .inl fv)), (ob 5, .inr (3, gY ob (nI nb) (nI ka) (nI kb) sm (nI ln))), (ob 6, .inl (cI, 2048, .inl fh)), (ob 7, .inl (cI, 2048, .inl ff)), (ob 8, .inl (cI, 2048, .inl fa)), (ob 9, .inl (cI, 2048, .inl fs)), (ob 10, .inl (cI, 160, .inl fj)), (ob 11, .inl (cI, 160, .inl fr)), (ob 12, .inl (cI, 160, .inl fo)), (ob 13, .inl (cI, 2048, .inl fx))]) [13, 0, 1, 2, 3, 14, 4, 15, 5, 6, 7, 8, 9, 10] rfl
            have hKc := hK.sub (tys' := [(cI, .int)]) [0] rfl
            have hDc := hD.sub (ws' := [(ob 0, .inr (9, gT ob tb ts tg tl tc w12 tu tv tw)), (ob 1, .inr (0, [.long sd, .int (nI da), .int (nI db), .int pr])), (ob 2, .inr (2, [.int (nI cn), .ref (ob 3), .ref (ob 4)])), (ob 3, .inl (cI, 160, .inl fk)), (ob 4, .inl (cI, 160, .inl fv)), (ob 5, .inr (3, gY ob (nI nb) (nI ka) (nI kb) sm (nI ln))), (ob 6, .inl (cI, 2048, .inl fh)), (ob 7, .inl (cI, 2048, .inl ff)), (ob 8, .inl (cI, 2048, .inl fa)), (ob 9, .inl (cI, 2048, .inl fs)), (ob 10, .inl (cI, 160, .inl fj)), (ob 11, .inl (cI, 160, .inl fr)), (ob 12, .inl (cI, 160, .inl fo)), (ob 13, .inl (cI, 2048, .inl fx))]) [13, 0, 1, 2, 3, 14, 4, 15, 5, 6, 7, 8, 9, 10] (by decide) rfl
            have hFc := va_free (wc := [(ob 0, .inr (9, gT ob tb ts tg tl tc w12 tu tv tw)), (ob 1, .inr (0, [.long sd, .int (nI da), .int (nI db), .int pr])), (ob 2, .inr (2, [.int (nI cn), .ref (ob 3), .ref (ob 4)])), (ob 3, .inl (cI, 160, .inl fk)), (ob 4, .inl (cI, 160, .inl fv)), (ob 5, .inr (3, gY ob (nI nb) (nI ka) (nI kb) sm (nI ln))), (ob 6, .inl (cI, 2048, .inl fh)), (ob 7, .inl (cI, 2048, .inl ff)), (ob 8, .inl (cI, 2048, .inl fa)), (ob 9, .inl (cI, 2048, .inl fs)), (ob 10, .inl (cI, 160, .inl fj)), (ob 11, .inl (cI, 160, .inl fr)), (ob 12, .inl (cI, 160, .inl fo)), (ob 13, .inl (cI, 2048, .inl fx))]) hD hS hA [13, 0, 1, 2, 3, 14, 4, 15, 5, 6, 7, 8, 9, 10] rfl
            refine va_calli (va_runV (As := [.int (nI kx)]) (rest := []) ⟨hx, hb, hml, hown, hts⟩ (k_take l D _ ob cI tb ts tg tl tc w12 tu tv tw sd da db pr cn fk fv nb ka kb sm ln fh ff fa fs fj fr fo fx (nI kx) hTb) (cwV 1 hts g_k_act_k_take_101 rfl rfl rfl (by decide +kernel) ⟨(Nat.le_of_ble_eq_true rfl), (Nat.le_of_ble_eq_true rfl)⟩) (PcWC_V (q0 := 0) hPc hKc hDc hN rfl rfl) rfl rfl hl.1 rfl (lv_room (Nat.le_of_ble_eq_true rfl)) dX4_act_118 ⟨(Nat.le_of_ble_eq_true rfl), (Nat.le_of_ble_eq_true rfl)⟩) hS (fun q _ h => hFc q h) hFc (fun r13 uu tt H locs htt hvm hw hB hz1 hk1 hS => ?_)
            obtain ⟨w14, w15, w16, w17, w18, w19, w20, w21, w22, w23, w24, w25, w26, w27, w28, w29, w30, w31, w32, w33, w34, w35, w36, w37, w38⟩ := uu
            obtain ⟨hP1, hK1, hD1⟩ := hB
            rw [htt] at hP1
            have hK1 := va_K.moved hvm.symm hK1
            have hP1 : va_P D vwCl [(ob 0, .inr (9, gT ob tb ts tg w14 w15 w12 w16 w17 w18)), (ob 1, .inr (0, [.long w19, .int (nI w20), .int (nI w21), .int w22])), (ob 2, .inr (2, [.int (nI w23), .ref (ob 3), .ref (ob 4)])), (ob 3, .inl (cI, 160, .inl w24)), (ob 4, .inl (cI, 160, .inl w25)), (ob 5, .inr (3, gY ob (nI w26) (nI w27) (nI w28) w29 (nI w30))), (ob 6, .inl (cI, 2048, .inl w31)), (ob 7, .inl (cI, 2048, .inl w32)), (ob 8, .inl (cI, 2048, .inl w33)), (ob 9, .inl (cI, 2048, .inl w34)), (ob 10, .inl (cI, 160, .inl w35)), (ob 11, .inl (cI, 160, .inl w36)), (ob 12, .inl (cI, 160, .inl w37)), (ob 13, .inl (cI, 2048, .inl w38))] H := hP1
            obtain ⟨hP, hD⟩ := va_join (wr := [(ow 0, .inr (4, gMa ow (nI w2) rf lt w3 (nI lo) (nI w6))), (ow 2, .inl (cI, 64, .inl fP))]) (w1 := [(ob 0, .inr (9, gT ob tb ts tg w14 w15 w12 w16 w17 w18)), (ob 1, .inr (0, [.long w19, .int (nI w20), .int (nI w21), .int w22])), (ob 2, .inr (2, [.int (nI w23), .ref (ob 3), .ref (ob 4)])), (ob 3, .inl (cI, 160, .inl w24)), (ob 4, .inl (cI, 160, .inl w25)), (ob 5, .inr (3, gY ob (nI w26) (nI w27) (nI w28) w29 (nI w30))), (ob 6, .inl (cI, 2048, .inl w31)), (ob 7, .inl (cI, 2048, .inl w32)), (ob 8, .inl (cI, 2048, .inl w33)), (ob 9, .inl (cI, 2048, .inl w34)), (ob 10, .inl (cI, 160, .inl w35)), (ob 11, .inl (cI, 160, .inl w36)), (ob 12, .inl (cI, 160, .inl w37)), (ob 13, .inl (cI, 2048, .inl w38))]) hP hD [13, 0, 1, 2, 3, 14, 4, 15, 5, 6, 7, 8, 9, 10] [11, 12] rfl rfl (by decide) (by decide) hk1 hFc hP1 hD1
            have hP : va_P D vwCl [(ow 0, .inr (4, gMa ow (nI w2) rf lt w3 (nI lo) (nI w6))), (ow 2, .inl (cI, 64, .inl fP)), (ob 0, .inr (9, gT ob tb ts tg w14 w15 w12 w16 w17 w18)), (ob 1, .inr (0, [.long w19, .int (nI w20), .int (nI w21), .int w22])), (ob 2, .inr (2, [.int (nI w23), .ref (ob 3), .ref (ob 4)])), (ob 3, .inl (cI, 160, .inl w24)), (ob 4, .inl (cI, 160, .inl w25)), (ob 5, .inr (3, gY ob (nI w26) (nI w27) (nI w28) w29 (nI w30))), (ob 6, .inl (cI, 2048, .inl w31)), (ob 7, .inl (cI, 2048, .inl w32)), (ob 8, .inl (cI, 2048, .inl w33)), (ob 9, .inl (cI, 2048, .inl w34)), (ob 10, .inl (cI, 160, .inl w35)), (ob 11, .inl (cI, 160, .inl w36)), (ob 12, .inl (cI, 160, .inl w37)), (ob 13, .inl (cI, 2048, .inl w38))] H := hP
            have hD : va_D A [(ow 0, .inr (4, gMa ow (nI w2) rf lt w3 (nI lo) (nI w6))), (ow 2, .inl (cI, 64, .inl fP)), (ob 0, .inr (9, gT ob tb ts tg w14 w15 w12 w16 w17 w18)), (ob 1, .inr (0, [.long w19, .int (nI w20), .int (nI w21), .int w22])), (ob 2, .inr (2, [.int (nI w23), .ref (ob 3), .ref (ob 4)])), (ob 3, .inl (cI, 160, .inl w24)), (ob 4, .inl (cI, 160, .inl w25)), (ob 5, .inr (3, gY ob (nI w26) (nI w27) (nI w28) w29 (nI w30))), (ob 6, .inl (cI, 2048, .inl w31)), (ob 7, .inl (cI, 2048, .inl w32)), (ob 8, .inl (cI, 2048, .inl w33)), (ob 9, .inl (cI, 2048, .inl w34)), (ob 10, .inl (cI, 160, .inl w35)), (ob 11, .inl (cI, 160, .inl w36)), (ob 12, .inl (cI, 160, .inl w37)), (ob 13, .inl (cI, 2048, .inl w38))] := hD
            try dsimp only at hw
            clear hz1 hk1 hFc hPc hKc hDc
            obtain ⟨hTb39, hTb39_v⟩ := hw
            obtain ⟨hky39, hL39, hO39, hn139, hka39, hkb39, hda39, hdb39⟩ := id hTb39
            have hnb39 := hL39.1
            have hln39 := hL39.2.1
            have hc39 := hky39.1
            refine lv_istore (lv' := [(5, .int r13), (4, .int (nI kx)), (3, .int 0), (0, .ref (ow 0)), (1, .int z1), (2, .ref (ob 0))]) hx hb dX4_act_121 hl (by decide) rfl (fun ls hl => ?_)
            refine lv_iload hx hb dX4_act_123 (lv_at hl 0 rfl) ?_
            refine lv_iconst (v := (-1)) hx hb dX4_act_125 (by decide) ?_
            refine lv_icmp_ne (tgt := 139) hx hb dX4_act_126 (by decide) (fun hc40 => ?_) (fun hc40 => ?_)
            ·
              exact W.vret hx hb hr (fun t ht hW => ⟨⟨(w2, rf, lt, w3, w6, w12, w14, w15, w16, w17, w18, w19, w20, w21, w22, w23, w24, w25, w26, w27, w28, w29, w30, w31, w32, w33, w34, w35, w36, w37, w38), rfl, (by (try dsimp only); first | done | exact ⟨by omega, by omega, hTb39, fun L os kc hz hk hL e h => by
                  have hk3 : ¬ kc = 3 := fun q => hc4 (hz.trans (congrArg nI q))
                  obtain ⟨b1, b2, b3⟩ := hm7_v os e h
                  have hk7 : ¬ kc = 7 := fun q => hc8 (hz.trans (congrArg nI q))
                  have hk6 : ¬ kc = 6 := fun q => hc9 (hz.trans (congrArg nI q))
                  obtain rfl : kc = 5 := by omega
                  refine Or.inl ⟨hA_r1_2, hA_r1_3, hA_r1_4, _, _, _, Or.inr ⟨hk3, rfl, rfl, rfl⟩, b2, b3, by rw [act_drop hkx b1], by rw [act_drop hkx b1]; exact hTb39_v L kx hL rfl hkx⟩⟩), by rw [ht]; exact hP.sub [0, 1, 2, 3, 4, 5, 6, 7, 8, 9, 10, 11, 12, 13, 14, 15] rfl, va_K.moved hW.alike (hK.sub [0] rfl), hD.sub [0, 1, 2, 3, 4, 5, 6, 7, 8, 9, 10, 11, 12, 13, 14, 15] (by decide) rfl⟩, hS.F ht⟩) hS.2.2 dX4_act_139
            ·
              refine lv_aload_n hx hb dX4_act_129 rfl (lv_at hl 3 rfl) ?_
              refine lv_dup hx hb dX4_act_130 rfl ?_
              refine va_get (D := D) (ci := 4) (v := .int rf) (C := RX4) (T := TX4) (N := 8) hx hb hts hin_X4 hown hK hP 0 rfl rfl 1 (by decide) (hts (.fieldLink RX4 22 "ClashFree$Machine" "refused" "I") (List.mem_of_getElem? (i := 17) rfl)) (fun _ h9 => h9) rfl dX4_act_131 ?_
              refine lv_iconst (v := 1) hx hb dX4_act_134 (by decide) ?_
              refine lv_iadd hx hb dX4_act_135 ?_
              refine lv_topi (fun v41 ev41 => ?_)
              refine va_put (D := D) (ci := 4) (v := .int v41) (ty := .int) (C := RX4) (T := TX4) (N := 8) hx hb hts hin_X4 tyX4 tyX4_ok nmX4 hown hK hP hD hS 0 rfl rfl 1 (by decide) (hts (.fieldLink RX4 22 "ClashFree$Machine" "refused" "I") (List.mem_of_getElem? (i := 17) rfl)) (fun _ h9 => h9) rfl (by decide +kernel) rfl rfl (Nat.le_of_ble_eq_true rfl) dX4_act_136 (fun H locs hP hD hS => ?_)
              have hP : va_P D vwCl [(ow 0, .inr (4, gMa ow (nI w2) v41 lt w3 (nI lo) (nI w6))), (ow 2, .inl (cI, 64, .inl fP)), (ob 0, .inr (9, gT ob tb ts tg w14 w15 w12 w16 w17 w18)), (ob 1, .inr (0, [.long w19, .int (nI w20), .int (nI w21), .int w22])), (ob 2, .inr (2, [.int (nI w23), .ref (ob 3), .ref (ob 4)])), (ob 3, .inl (cI, 160, .inl w24)), (ob 4, .inl (cI, 160, .inl w25)), (ob 5, .inr (3, gY ob (nI w26) (nI w27) (nI w28) w29 (nI w30))), (ob 6, .inl (cI, 2048, .inl w31)), (ob 7, .inl (cI, 2048, .inl w32)), (ob 8, .inl (cI, 2048, .inl w33)), (ob 9, .inl (cI, 2048, .inl w34)), (ob 10, .inl (cI, 160, .inl w35)), (ob 11, .inl (cI, 160, .inl w36)), (ob 12, .inl (cI, 160, .inl w37)), (ob 13, .inl (cI, 2048, .inl w38))] H := hP
              have hD : va_D A [(ow 0, .inr (4, gMa ow (nI w2) v41 lt w3 (nI lo) (nI w6))), (ow 2, .inl (cI, 64, .inl fP)), (ob 0, .inr (9, gT ob tb ts tg w14 w15 w12 w16 w17 w18)), (ob 1, .inr (0, [.long w19, .int (nI w20), .int (nI w21), .int w22])), (ob 2, .inr (2, [.int (nI w23), .ref (ob 3), .ref (ob 4)])), (ob 3, .inl (cI, 160, .inl w24)), (ob 4, .inl (cI, 160, .inl w25)), (ob 5, .inr (3, gY ob (nI w26) (nI w27) (nI w28) w29 (nI w30))), (ob 6, .inl (cI, 2048, .inl w31)), (ob 7, .inl (cI, 2048, .inl w32)), (ob 8, .inl (cI, 2048, .inl w33)), (ob 9, .inl (cI, 2048, .inl w34)), (ob 10, .inl (cI, 160, .inl w35)), (ob 11, .inl (cI, 160, .inl w36)), (ob 12, .inl (cI, 160, .inl w37)), (ob 13, .inl (cI, 2048, .inl w38))] := hD
              exact W.vret hx hb hr (fun t ht hW => ⟨⟨(w2, v41, lt, w3, w6, w12, w14, w15, w16, w17, w18, w19, w20, w21, w22, w23, w24, w25, w26, w27, w28, w29, w30, w31, w32, w33, w34, w35, w36, w37, w38), rfl, (by (try dsimp only); first | done | exact ⟨by omega, by omega, hTb39, fun L os kc hz hk hL e h => by
                  have hk3 : ¬ kc = 3 := fun q => hc4 (hz.trans (congrArg nI q))
                  obtain ⟨b1, b2, b3⟩ := hm7_v os e h
                  have hk7 : ¬ kc = 7 := fun q => hc8 (hz.trans (congrArg nI q))
                  have hk6 : ¬ kc = 6 := fun q => hc9 (hz.trans (congrArg nI q))
                  obtain rfl : kc = 5 := by omega
                  refine Or.inl ⟨hA_r1_2, hA_r1_3, hA_r1_4, _, _, _, Or.inr ⟨hk3, rfl, rfl, rfl⟩, b2, b3, by rw [act_drop hkx b1], by rw [act_drop hkx b1]; exact hTb39_v L kx hL rfl hkx⟩⟩), by rw [ht]; exact hP.sub [0, 1, 2, 3, 4, 5, 6, 7, 8, 9, 10, 11, 12, 13, 14, 15] rfl, va_K.moved hW.alike (hK.sub [0] rfl), hD.sub [0, 1, 2, 3, 4, 5, 6, 7, 8, 9, 10, 11, 12, 13, 14, 15] (by decide) rfl⟩, hS.F ht⟩) hS.2.2 dX4_act_139
          ·
            refine lv_if_eq (tgt := 81) hx hb dX4_act_64 (by decide) (fun hc => ?_) (fun hc => absurd (by decide) hc)
            refine lv_aload_n hx hb dX4_act_81 rfl (lv_at hl 2 rfl) ?_
            refine lv_dup hx hb dX4_act_82 rfl ?_
            refine va_get (D := D) (ci := 4) (v := .int rf) (C := RX4) (T := TX4) (N := 8) hx hb hts hin_X4 hown hK hP 14 rfl rfl 1 (by decide) (hts (.fieldLink RX4 22 "ClashFree$Machine" "refused" "I") (List.mem_of_getElem? (i := 17) rfl)) (fun _ h9 => h9) rfl dX4_act_83 ?_
            refine lv_iconst (v := 1) hx hb dX4_act_86 (by decide) ?_
            refine lv_iadd hx hb dX4_act_87 ?_
            refine lv_topi (fun v42 ev42 => ?_)
            refine va_put (D := D) (ci := 4) (v := .int v42) (ty := .int) (C := RX4) (T := TX4) (N := 8) hx hb hts hin_X4 tyX4 tyX4_ok nmX4 hown hK hP hD hS 14 rfl rfl 1 (by decide) (hts (.fieldLink RX4 22 "ClashFree$Machine" "refused" "I") (List.mem_of_getElem? (i := 17) rfl)) (fun _ h9 => h9) rfl (by decide +kernel) rfl rfl (Nat.le_of_ble_eq_true rfl) dX4_act_88 (fun H locs hP hD hS => ?_)
            have hP : va_P D vwCl [(ob 0, .inr (9, gT ob tb ts tg tl tc tr tu tv tw)), (ob 1, .inr (0, [.long sd, .int (nI da), .int (nI db), .int pr])), (ob 2, .inr (2, [.int (nI cn), .ref (ob 3), .ref (ob 4)])), (ob 3, .inl (cI, 160, .inl fk)), (ob 4, .inl (cI, 160, .inl fv)), (ob 5, .inr (3, gY ob (nI nb) (nI ka) (nI kb) sm (nI ln))), (ob 6, .inl (cI, 2048, .inl fh)), (ob 7, .inl (cI, 2048, .inl ff)), (ob 8, .inl (cI, 2048, .inl fa)), (ob 9, .inl (cI, 2048, .inl fs)), (ob 10, .inl (cI, 160, .inl fj)), (ob 11, .inl (cI, 160, .inl fr)), (ob 12, .inl (cI, 160, .inl fo)), (ob 13, .inl (cI, 2048, .inl fx)), (ow 0, .inr (4, gMa ow (nI w2) v42 lt w3 (nI lo) (nI w6))), (ow 2, .inl (cI, 64, .inl fP))] H := hP
            have hD : va_D A [(ob 0, .inr (9, gT ob tb ts tg tl tc tr tu tv tw)), (ob 1, .inr (0, [.long sd, .int (nI da), .int (nI db), .int pr])), (ob 2, .inr (2, [.int (nI cn), .ref (ob 3), .ref (ob 4)])), (ob 3, .inl (cI, 160, .inl fk)), (ob 4, .inl (cI, 160, .inl fv)), (ob 5, .inr (3, gY ob (nI nb) (nI ka) (nI kb) sm (nI ln))), (ob 6, .inl (cI, 2048, .inl fh)), (ob 7, .inl (cI, 2048, .inl ff)), (ob 8, .inl (cI, 2048, .inl fa)), (ob 9, .inl (cI, 2048, .inl fs)), (ob 10, .inl (cI, 160, .inl fj)), (ob 11, .inl (cI, 160, .inl fr)), (ob 12, .inl (cI, 160, .inl fo)), (ob 13, .inl (cI, 2048, .inl fx)), (ow 0, .inr (4, gMa ow (nI w2) v42 lt w3 (nI lo) (nI w6))), (ow 2, .inl (cI, 64, .inl fP))] := hD
            refine lv_goto (tgt := 139) hx hb dX4_act_91 (by decide) ?_
            exact W.vret hx hb hr (fun t ht hW => ⟨⟨(w2, v42, lt, w3, w6, tr, tl, tc, tu, tv, tw, sd, da, db, pr, cn, fk, fv, nb, ka, kb, sm, ln, fh, ff, fa, fs, fj, fr, fo, fx), rfl, (by (try dsimp only); first | done | exact ⟨by omega, by omega, hTb, fun L os kc hz hk hL e h => by
                have hk3 : ¬ kc = 3 := fun q => hc4 (hz.trans (congrArg nI q))
                obtain ⟨b1, b2, b3⟩ := hm7_v os e h
                have hk7 : ¬ kc = 7 := fun q => hc8 (hz.trans (congrArg nI q))
                have hk6 : ¬ kc = 6 := fun q => hc9 (hz.trans (congrArg nI q))
                obtain rfl : kc = 5 := by omega
                refine Or.inl ⟨hA_r1_2, hA_r1_3, hA_r1_4, _, _, _, Or.inr ⟨hk3, rfl, rfl, rfl⟩, b2, b3, by rw [act_nk (Or.inr rfl) hA_r10 b1], by rw [act_nk (Or.inr rfl) hA_r10 b1]; exact hL⟩⟩), by rw [ht]; exact hP.sub [14, 15, 0, 1, 2, 3, 4, 5, 6, 7, 8, 9, 10, 11, 12, 13] rfl, va_K.moved hW.alike (hK.sub [0] rfl), hD.sub [14, 15, 0, 1, 2, 3, 4, 5, 6, 7, 8, 9, 10, 11, 12, 13] (by decide) rfl⟩, hS.F ht⟩) hS.2.2 dX4_act_139
        ·
          refine lv_aload_n hx hb dX4_act_49 rfl (lv_at hl 2 rfl) ?_
          refine lv_iload hx hb dX4_act_50 (lv_at hl 0 rfl) ?_
          refine lv_aload_n hx hb dX4_act_52 rfl (lv_at hl 4 rfl) ?_
          have hPc := hP.sub (ws' := [(ow 0, .inr (4, gMa ow (nI w2) rf lt w3 (nI lo) (nI w6))), (ob 0, .inr (9, gT ob tb ts tg tl tc tr tu tv tw)), (ob 2, .inr (2, [.int (nI cn), .ref (ob 3), .ref (ob 4)])), (ob 3, .inl (cI, 160, .inl fk)), (ob 4, .inl (cI, 160, .inl fv)), (ob 5, .inr (3, gY ob (nI nb) (nI ka) (nI kb) sm (nI ln))), (ob 7, .inl (cI, 2048, .inl ff))]) [14, 0, 2, 3, 4, 5, 7] rfl
          have hKc := hK.sub (tys' := [(cI, .int)]) [0] rfl
          have hDc := hD.sub (ws' := [(ow 0, .inr (4, gMa ow (nI w2) rf lt w3 (nI lo) (nI w6))), (ob 0, .inr (9, gT ob tb ts tg tl tc tr tu tv tw)), (ob 2, .inr (2, [.int (nI cn), .ref (ob 3), .ref (ob 4)])), (ob 3, .inl (cI, 160, .inl fk)), (ob 4, .inl (cI, 160, .inl fv)), (ob 5, .inr (3, gY ob (nI nb) (nI ka) (nI kb) sm (nI ln))), (ob 7, .inl (cI, 2048, .inl ff))]) [14, 0, 2, 3, 4, 5, 7] (by decide) rfl
          have hFc := va_free (wc := [(ow 0, .inr (4, gMa ow (nI w2) rf lt w3 (nI lo) (nI w6))), (ob 0, .inr (9, gT ob tb ts tg tl tc tr tu tv tw)), (ob 2, .inr (2, [.int (nI cn), .ref (ob 3), .ref (ob 4)])), (ob 3, .inl (cI, 160, .inl fk)), (ob 4, .inl (cI, 160, .inl fv)), (ob 5, .inr (3, gY ob (nI nb) (nI ka) (nI kb) sm (nI ln))), (ob 7, .inl (cI, 2048, .inl ff))]) hD hS hA [14, 0, 2, 3, 4, 5, 7] rfl
          refine va_callv (va_runV (As := [.int r5, .ref (ob 0)]) (rest := []) ⟨hx, hb, hml, hown, hts⟩ (k_look l D _ ow ob cI w2 rf lt w3 lo w6 tb ts tg tl tc tr tu tv tw cn fk fv nb ka kb sm ln ff r5 hcz hnb hn1 hka hkb) (cwV 2 hts g_k_act_k_look_83 rfl rfl rfl (by decide +kernel) ⟨(Nat.le_of_ble_eq_true rfl), (Nat.le_of_ble_eq_true rfl)⟩) (PcWC_V (q0 := 0) hPc hKc hDc hN rfl rfl) rfl rfl hl.1 rfl (lv_room (Nat.le_of_ble_eq_true rfl)) dX4_act_53 ⟨(Nat.le_of_ble_eq_true rfl), (Nat.le_of_ble_eq_true rfl)⟩) hS (fun q _ h => hFc q h) hFc (fun uu tt H locs htt hvm hw hB hz1 hk1 hS => ?_)
          obtain ⟨w44, w45, w46⟩ := uu
          obtain ⟨hP1, hK1, hD1⟩ := hB
          rw [htt] at hP1
          have hK1 := va_K.moved hvm.symm hK1
          have hP1 : va_P D vwCl [(ow 0, .inr (4, gMa ow (nI w2) w44 w45 w3 (nI lo) (nI w6))), (ob 0, .inr (9, gT ob tb ts tg tl tc w46 tu tv tw)), (ob 2, .inr (2, [.int (nI cn), .ref (ob 3), .ref (ob 4)])), (ob 3, .inl (cI, 160, .inl fk)), (ob 4, .inl (cI, 160, .inl fv)), (ob 5, .inr (3, gY ob (nI nb) (nI ka) (nI kb) sm (nI ln))), (ob 7, .inl (cI, 2048, .inl ff))] H := hP1
          obtain ⟨hP, hD⟩ := va_join (wr := [(ob 1, .inr (0, [.long sd, .int (nI da), .int (nI db), .int pr])), (ob 6, .inl (cI, 2048, .inl fh)), (ob 8, .inl (cI, 2048, .inl fa)), (ob 9, .inl (cI, 2048, .inl fs)), (ob 10, .inl (cI, 160, .inl fj)), (ob 11, .inl (cI, 160, .inl fr)), (ob 12, .inl (cI, 160, .inl fo)), (ob 13, .inl (cI, 2048, .inl fx)), (ow 2, .inl (cI, 64, .inl fP))]) (w1 := [(ow 0, .inr (4, gMa ow (nI w2) w44 w45 w3 (nI lo) (nI w6))), (ob 0, .inr (9, gT ob tb ts tg tl tc w46 tu tv tw)), (ob 2, .inr (2, [.int (nI cn), .ref (ob 3), .ref (ob 4)])), (ob 3, .inl (cI, 160, .inl fk)), (ob 4, .inl (cI, 160, .inl fv)), (ob 5, .inr (3, gY ob (nI nb) (nI ka) (nI kb) sm (nI ln))), (ob 7, .inl (cI, 2048, .inl ff))]) hP hD [14, 0, 2, 3, 4, 5, 7] [1, 6, 8, 9, 10, 11, 12, 13, 15] rfl rfl (by decide) (by decide) hk1 hFc hP1 hD1
          have hP : va_P D vwCl [(ob 1, .inr (0, [.long sd, .int (nI da), .int (nI db), .int pr])), (ob 6, .inl (cI, 2048, .inl fh)), (ob 8, .inl (cI, 2048, .inl fa)), (ob 9, .inl (cI, 2048, .inl fs)), (ob 10, .inl (cI, 160, .inl fj)), (ob 11, .inl (cI, 160, .inl fr)), (ob 12, .inl (cI, 160, .inl fo)), (ob 13, .inl (cI, 2048, .inl fx)), (ow 2, .inl (cI, 64, .inl fP)), (ow 0, .inr (4, gMa ow (nI w2) w44 w45 w3 (nI lo) (nI w6))), (ob 0, .inr (9, gT ob tb ts tg tl tc w46 tu tv tw)), (ob 2, .inr (2, [.int (nI cn), .ref (ob 3), .ref (ob 4)])), (ob 3, .inl (cI, 160, .inl fk)), (ob 4, .inl (cI, 160, .inl fv)), (ob 5, .inr (3, gY ob (nI nb) (nI ka) (nI kb) sm (nI ln))), (ob 7, .inl (cI, 2048, .inl ff))] H := hP
          have hD : va_D A [(ob 1, .inr (0, [.long sd, .int (nI da), .int (nI db), .int pr])), (ob 6, .inl (cI, 2048, .inl fh)), (ob 8, .inl (cI, 2048, .inl fa)), (ob 9, .inl (cI, 2048, .inl fs)), (ob 10, .inl (cI, 160, .inl fj)), (ob 11, .inl (cI, 160, .inl fr)), (ob 12, .inl (cI, 160, .inl fo)), (ob 13, .inl (cI, 2048, .inl fx)), (ow 2, .inl (cI, 64, .inl fP)), (ow 0, .inr (4, gMa ow (nI w2) w44 w45 w3 (nI lo) (nI w6))), (ob 0, .inr (9, gT ob tb ts tg tl tc w46 tu tv tw)), (ob 2, .inr (2, [.int (nI cn), .ref (ob 3), .ref (ob 4)])), (ob 3, .inl (cI, 160, .inl fk)), (ob 4, .inl (cI, 160, .inl fv)), (ob 5, .inr (3, gY ob (nI nb) (nI ka) (nI kb) sm (nI ln))), (ob 7, .inl (cI, 2048, .inl ff))] := hD
          try dsimp only at hw
          clear hz1 hk1 hFc hPc hKc hDc
          have hlk47 := hw
          refine lv_goto (tgt := 139) hx hb dX4_act_56 (by decide) ?_
          exact W.vret hx hb hr (fun t ht hW => ⟨⟨(w2, w44, w45, w3, w6, w46, tl, tc, tu, tv, tw, sd, da, db, pr, cn, fk, fv, nb, ka, kb, sm, ln, fh, ff, fa, fs, fj, fr, fo, fx), rfl, (by (try dsimp only); first | done | exact ⟨by omega, by omega, hTb, fun L os kc hz hk hL e h => by
              have hk3 : ¬ kc = 3 := fun q => hc4 (hz.trans (congrArg nI q))
              obtain ⟨b1, b2, b3⟩ := hm7_v os e h
              have hk7 : ¬ kc = 7 := fun q => hc8 (hz.trans (congrArg nI q))
              obtain rfl : kc = 6 := (nI_eq (b := 6) (by omega) (by decide)).mp (hz.symm.trans hc9)
              refine Or.inl ⟨hA_r1_2, hA_r1_3, hA_r1_4, _, _, _, Or.inr ⟨hk3, rfl, rfl, rfl⟩, b2, b3, by rw [act_get b1]; exact hlk47 L hL, by rw [act_get b1]; exact hL⟩⟩), by rw [ht]; exact hP.sub [9, 8, 10, 0, 11, 12, 13, 14, 1, 15, 2, 3, 4, 5, 6, 7] rfl, va_K.moved hW.alike (hK.sub [0] rfl), hD.sub [9, 8, 10, 0, 11, 12, 13, 14, 1, 15, 2, 3, 4, 5, 6, 7] (by decide) rfl⟩, hS.F ht⟩) hS.2.2 dX4_act_139
      ·
        refine lv_aload_n hx hb dX4_act_34 rfl (lv_at hl 2 rfl) ?_
        refine lv_iload hx hb dX4_act_35 (lv_at hl 0 rfl) ?_
        refine va_put (D := D) (ci := 4) (v := .int r5) (ty := .int) (C := RX4) (T := TX4) (N := 8) hx hb hts hin_X4 tyX4 tyX4_ok nmX4 hown hK hP hD hS 14 rfl rfl 2 (by decide) (hts (.fieldLink RX4 25 "ClashFree$Machine" "latest" "I") (List.mem_of_getElem? (i := 21) rfl)) (fun _ h9 => h9) rfl (by decide +kernel) rfl rfl (Nat.le_of_ble_eq_true rfl) dX4_act_37 (fun H locs hP hD hS => ?_)
        have hP : va_P D vwCl [(ob 0, .inr (9, gT ob tb ts tg tl tc tr tu tv tw)), (ob 1, .inr (0, [.long sd, .int (nI da), .int (nI db), .int pr])), (ob 2, .inr (2, [.int (nI cn), .ref (ob 3), .ref (ob 4)])), (ob 3, .inl (cI, 160, .inl fk)), (ob 4, .inl (cI, 160, .inl fv)), (ob 5, .inr (3, gY ob (nI nb) (nI ka) (nI kb) sm (nI ln))), (ob 6, .inl (cI, 2048, .inl fh)), (ob 7, .inl (cI, 2048, .inl ff)), (ob 8, .inl (cI, 2048, .inl fa)), (ob 9, .inl (cI, 2048, .inl fs)), (ob 10, .inl (cI, 160, .inl fj)), (ob 11, .inl (cI, 160, .inl fr)), (ob 12, .inl (cI, 160, .inl fo)), (ob 13, .inl (cI, 2048, .inl fx)), (ow 0, .inr (4, gMa ow (nI w2) rf r5 w3 (nI lo) (nI w6))), (ow 2, .inl (cI, 64, .inl fP))] H := hP
        have hD : va_D A [(ob 0, .inr (9, gT ob tb ts tg tl tc tr tu tv tw)), (ob 1, .inr (0, [.long sd, .int (nI da), .int (nI db), .int pr])), (ob 2, .inr (2, [.int (nI cn), .ref (ob 3), .ref (ob 4)])), (ob 3, .inl (cI, 160, .inl fk)), (ob 4, .inl (cI, 160, .inl fv)), (ob 5, .inr (3, gY ob (nI nb) (nI ka) (nI kb) sm (nI ln))), (ob 6, .inl (cI, 2048, .inl fh)), (ob 7, .inl (cI, 2048, .inl ff)), (ob 8, .inl (cI, 2048, .inl fa)), (ob 9, .inl (cI, 2048, .inl fs)), (ob 10, .inl (cI, 160, .inl fj)), (ob 11, .inl (cI, 160, .inl fr)), (ob 12, .inl (cI, 160, .inl fo)), (ob 13, .inl (cI, 2048, .inl fx)), (ow 0, .inr (4, gMa ow (nI w2) rf r5 w3 (nI lo) (nI w6))), (ow 2, .inl (cI, 64, .inl fP))] := hD
        refine lv_goto (tgt := 139) hx hb dX4_act_40 (by decide) ?_
        exact W.vret hx hb hr (fun t ht hW => ⟨⟨(w2, rf, r5, w3, w6, tr, tl, tc, tu, tv, tw, sd, da, db, pr, cn, fk, fv, nb, ka, kb, sm, ln, fh, ff, fa, fs, fj, fr, fo, fx), rfl, (by (try dsimp only); first | done | exact ⟨by omega, by omega, hTb, fun L os kc hz hk hL e h => by
            have hk3 : ¬ kc = 3 := fun q => hc4 (hz.trans (congrArg nI q))
            obtain ⟨b1, b2, b3⟩ := hm7_v os e h
            obtain rfl : kc = 7 := (nI_eq (b := 7) (by omega) (by decide)).mp (hz.symm.trans hc8)
            refine Or.inl ⟨hA_r1_2, hA_r1_3, hA_r1_4, _, _, _, Or.inr ⟨hk3, rfl, rfl, rfl⟩, b2, b3, b1, hL⟩⟩), by rw [ht]; exact hP.sub [14, 15, 0, 1, 2, 3, 4, 5, 6, 7, 8, 9, 10, 11, 12, 13] rfl, va_K.moved hW.alike (hK.sub [0] rfl), hD.sub [14, 15, 0, 1, 2, 3, 4, 5, 6, 7, 8, 9, 10, 11, 12, 13] (by decide) rfl⟩, hS.F ht⟩) hS.2.2 dX4_act_139
    ·
      subst hc4
      refine lv_aload_n hx hb dX4_act_13 rfl (lv_at hl 0 rfl) ?_
      have hPc := hP.sub (ws' := [(ow 0, .inr (4, gMa ow (nI w2) rf lt w3 (nI lo) (nI oz))), (ow 2, .inl (cI, 64, .inl fP))]) [15, 0] rfl
      have hKc := hK.sub (tys' := [(cI, .int)]) [0] rfl
      have hDc := hD.sub (ws' := [(ow 0, .inr (4, gMa ow (nI w2) rf lt w3 (nI lo) (nI oz))), (ow 2, .inl (cI, 64, .inl fP))]) [15, 0] (by decide) rfl
      have hFc := va_free (wc := [(ow 0, .inr (4, gMa ow (nI w2) rf lt w3 (nI lo) (nI oz))), (ow 2, .inl (cI, 64, .inl fP))]) hD hS hA [15, 0] rfl
      refine va_calli (va_runV (As := []) (rest := []) ⟨hx, hb, hml, hown, hts⟩ (k_pop l D _ ow cI w2 rf lt w3 lo oz fP hoz) (cwV 0 hts g_k_act_k_pop_54 rfl rfl rfl (by decide +kernel) ⟨(Nat.le_of_ble_eq_true rfl), (Nat.le_of_ble_eq_true rfl)⟩) (PcWC_V (q0 := 0) hPc hKc hDc hN rfl rfl) rfl rfl hl.1 rfl (lv_room (Nat.le_of_ble_eq_true rfl)) dX4_act_14 ⟨(Nat.le_of_ble_eq_true rfl), (Nat.le_of_ble_eq_true rfl)⟩) hS (fun q _ h => hFc q h) hFc (fun r48 uu tt H locs htt hvm hw hB hz1 hk1 hS => ?_)
      obtain ⟨w49, rfl⟩ : ∃ z, z = uu := ⟨_, rfl⟩
      obtain ⟨hP1, hK1, hD1⟩ := hB
      rw [htt] at hP1
      have hK1 := va_K.moved hvm.symm hK1
      have hP1 : va_P D vwCl [(ow 0, .inr (4, gMa ow (nI w2) rf lt w3 (nI lo) (nI w49))), (ow 2, .inl (cI, 64, .inl fP))] H := hP1
      obtain ⟨hP, hD⟩ := va_join (wr := [(ob 0, .inr (9, gT ob tb ts tg tl tc tr tu tv tw)), (ob 1, .inr (0, [.long sd, .int (nI da), .int (nI db), .int pr])), (ob 2, .inr (2, [.int (nI cn), .ref (ob 3), .ref (ob 4)])), (ob 3, .inl (cI, 160, .inl fk)), (ob 4, .inl (cI, 160, .inl fv)), (ob 5, .inr (3, gY ob (nI nb) (nI ka) (nI kb) sm (nI ln))), (ob 6, .inl (cI, 2048, .inl fh)), (ob 7, .inl (cI, 2048, .inl ff)), (ob 8, .inl (cI, 2048, .inl fa)), (ob 9, .inl (cI, 2048, .inl fs)), (ob 10, .inl (cI, 160, .inl fj)), (ob 11, .inl (cI, 160, .inl fr)), (ob 12, .inl (cI, 160, .inl fo)), (ob 13, .inl (cI, 2048, .inl fx))]) (w1 := [(ow 0, .inr (4, gMa ow (nI w2) rf lt w3 (nI lo) (nI w49))), (ow 2, .inl (cI, 64, .inl fP))]) hP hD [15, 0] [1, 2, 3, 4, 5, 6, 7, 8, 9, 10, 11, 12, 13, 14] rfl rfl (by decide) (by decide) hk1 hFc hP1 hD1
      have hP : va_P D vwCl [(ob 0, .inr (9, gT ob tb ts tg tl tc tr tu tv tw)), (ob 1, .inr (0, [.long sd, .int (nI da), .int (nI db), .int pr])), (ob 2, .inr (2, [.int (nI cn), .ref (ob 3), .ref (ob 4)])), (ob 3, .inl (cI, 160, .inl fk)), (ob 4, .inl (cI, 160, .inl fv)), (ob 5, .inr (3, gY ob (nI nb) (nI ka) (nI kb) sm (nI ln))), (ob 6, .inl (cI, 2048, .inl fh)), (ob 7, .inl (cI, 2048, .inl ff)), (ob 8, .inl (cI, 2048, .inl fa)), (ob 9, .inl (cI, 2048, .inl fs)), (ob 10, .inl (cI, 160, .inl fj)), (ob 11, .inl (cI, 160, .inl fr)), (ob 12, .inl (cI, 160, .inl fo)), (ob 13, .inl (cI, 2048, .inl fx)), (ow 0, .inr (4, gMa ow (nI w2) rf lt w3 (nI lo) (nI w49))), (ow 2, .inl (cI, 64, .inl fP))] H := hP
      have hD : va_D A [(ob 0, .inr (9, gT ob tb ts tg tl tc tr tu tv tw)), (ob 1, .inr (0, [.long sd, .int (nI da), .int (nI db), .int pr])), (ob 2, .inr (2, [.int (nI cn), .ref (ob 3), .ref (ob 4)])), (ob 3, .inl (cI, 160, .inl fk)), (ob 4, .inl (cI, 160, .inl fv)), (ob 5, .inr (3, gY ob (nI nb) (nI ka) (nI kb) sm (nI ln))), (ob 6, .inl (cI, 2048, .inl fh)), (ob 7, .inl (cI, 2048, .inl ff)), (ob 8, .inl (cI, 2048, .inl fa)), (ob 9, .inl (cI, 2048, .inl fs)), (ob 10, .inl (cI, 160, .inl fj)), (ob 11, .inl (cI, 160, .inl fr)), (ob 12, .inl (cI, 160, .inl fo)), (ob 13, .inl (cI, 2048, .inl fx)), (ow 0, .inr (4, gMa ow (nI w2) rf lt w3 (nI lo) (nI w49))), (ow 2, .inl (cI, 64, .inl fP))] := hD
      try dsimp only at hw
      clear hz1 hk1 hFc hPc hKc hDc
      obtain ⟨hm50_hoz, hm50_v⟩ := hw
      refine lv_goto (tgt := 21) hx hb dX4_act_17 (by decide) ?_
      refine lv_istore_n (lv' := [(3, .int r48), (0, .ref (ow 0)), (1, .int 3), (2, .ref (ob 0))]) hx hb dX4_act_21 rfl hl (by decide) rfl (fun ls hl => ?_)
      refine lv_aload_n hx hb dX4_act_22 rfl (lv_at hl 1 rfl) ?_
      have hPc := hP.sub (ws' := [(ow 0, .inr (4, gMa ow (nI w2) rf lt w3 (nI lo) (nI w49))), (ow 2, .inl (cI, 64, .inl fP))]) [14, 15] rfl
      have hKc := hK.sub (tys' := [(cI, .int)]) [0] rfl
      have hDc := hD.sub (ws' := [(ow 0, .inr (4, gMa ow (nI w2) rf lt w3 (nI lo) (nI w49))), (ow 2, .inl (cI, 64, .inl fP))]) [14, 15] (by decide) rfl
      have hFc := va_free (wc := [(ow 0, .inr (4, gMa ow (nI w2) rf lt w3 (nI lo) (nI w49))), (ow 2, .inl (cI, 64, .inl fP))]) hD hS hA [14, 15] rfl
      refine va_calli (va_runV (As := []) (rest := []) ⟨hx, hb, hml, hown, hts⟩ (k_pop l D _ ow cI w2 rf lt w3 lo w49 fP hm50_hoz) (cwV 0 hts g_k_act_k_pop_54 rfl rfl rfl (by decide +kernel) ⟨(Nat.le_of_ble_eq_true rfl), (Nat.le_of_ble_eq_true rfl)⟩) (PcWC_V (q0 := 0) hPc hKc hDc hN rfl rfl) rfl rfl hl.1 rfl (lv_room (Nat.le_of_ble_eq_true rfl)) dX4_act_23 ⟨(Nat.le_of_ble_eq_true rfl), (Nat.le_of_ble_eq_true rfl)⟩) hS (fun q _ h => hFc q h) hFc (fun r51 uu tt H locs htt hvm hw hB hz1 hk1 hS => ?_)
      obtain ⟨w52, rfl⟩ : ∃ z, z = uu := ⟨_, rfl⟩
      obtain ⟨hP1, hK1, hD1⟩ := hB
      rw [htt] at hP1
      have hK1 := va_K.moved hvm.symm hK1
      have hP1 : va_P D vwCl [(ow 0, .inr (4, gMa ow (nI w2) rf lt w3 (nI lo) (nI w52))), (ow 2, .inl (cI, 64, .inl fP))] H := hP1
      obtain ⟨hP, hD⟩ := va_join (wr := [(ob 0, .inr (9, gT ob tb ts tg tl tc tr tu tv tw)), (ob 1, .inr (0, [.long sd, .int (nI da), .int (nI db), .int pr])), (ob 2, .inr (2, [.int (nI cn), .ref (ob 3), .ref (ob 4)])), (ob 3, .inl (cI, 160, .inl fk)), (ob 4, .inl (cI, 160, .inl fv)), (ob 5, .inr (3, gY ob (nI nb) (nI ka) (nI kb) sm (nI ln))), (ob 6, .inl (cI, 2048, .inl fh)), (ob 7, .inl (cI, 2048, .inl ff)), (ob 8, .inl (cI, 2048, .inl fa)), (ob 9, .inl (cI, 2048, .inl fs)), (ob 10, .inl (cI, 160, .inl fj)), (ob 11, .inl (cI, 160, .inl fr)), (ob 12, .inl (cI, 160, .inl fo)), (ob 13, .inl (cI, 2048, .inl fx))]) (w1 := [(ow 0, .inr (4, gMa ow (nI w2) rf lt w3 (nI lo) (nI w52))), (ow 2, .inl (cI, 64, .inl fP))]) hP hD [14, 15] [0, 1, 2, 3, 4, 5, 6, 7, 8, 9, 10, 11, 12, 13] rfl rfl (by decide) (by decide) hk1 hFc hP1 hD1
      have hP : va_P D vwCl [(ob 0, .inr (9, gT ob tb ts tg tl tc tr tu tv tw)), (ob 1, .inr (0, [.long sd, .int (nI da), .int (nI db), .int pr])), (ob 2, .inr (2, [.int (nI cn), .ref (ob 3), .ref (ob 4)])), (ob 3, .inl (cI, 160, .inl fk)), (ob 4, .inl (cI, 160, .inl fv)), (ob 5, .inr (3, gY ob (nI nb) (nI ka) (nI kb) sm (nI ln))), (ob 6, .inl (cI, 2048, .inl fh)), (ob 7, .inl (cI, 2048, .inl ff)), (ob 8, .inl (cI, 2048, .inl fa)), (ob 9, .inl (cI, 2048, .inl fs)), (ob 10, .inl (cI, 160, .inl fj)), (ob 11, .inl (cI, 160, .inl fr)), (ob 12, .inl (cI, 160, .inl fo)), (ob 13, .inl (cI, 2048, .inl fx)), (ow 0, .inr (4, gMa ow (nI w2) rf lt w3 (nI lo) (nI w52))), (ow 2, .inl (cI, 64, .inl fP))] H := hP
      have hD : va_D A [(ob 0, .inr (9, gT ob tb ts tg tl tc tr tu tv tw)), (ob 1, .inr (0, [.long sd, .int (nI da), .int (nI db), .int pr])), (ob 2, .inr (2, [.int (nI cn), .ref (ob 3), .ref (ob 4)])), (ob 3, .inl (cI, 160, .inl fk)), (ob 4, .inl (cI, 160, .inl fv)), (ob 5, .inr (3, gY ob (nI nb) (nI ka) (nI kb) sm (nI ln))), (ob 6, .inl (cI, 2048, .inl fh)), (ob 7, .inl (cI, 2048, .inl ff)), (ob 8, .inl (cI, 2048, .inl fa)), (ob 9, .inl (cI, 2048, .inl fs)), (ob 10, .inl (cI, 160, .inl fj)), (ob 11, .inl (cI, 160, .inl fr)), (ob 12, .inl (cI, 160, .inl fo)), (ob 13, .inl (cI, 2048, .inl fx)), (ow 0, .inr (4, gMa ow (nI w2) rf lt w3 (nI lo) (nI w52))), (ow 2, .inl (cI, 64, .inl fP))] := hD
      try dsimp only at hw
      clear hz1 hk1 hFc hPc hKc hDc
      obtain ⟨hm53_hoz, hm53_v⟩ := hw
      refine lv_istore (lv' := [(4, .int r51), (3, .int r48), (0, .ref (ow 0)), (1, .int 3), (2, .ref (ob 0))]) hx hb dX4_act_26 hl (by decide) rfl (fun ls hl => ?_)
      refine lv_iload_n hx hb dX4_act_28 rfl (lv_at hl 3 rfl) ?_
      refine lv_bipush (v := 7) hx hb dX4_act_29 (by decide) ?_
      refine lv_icmp_ne (tgt := 43) hx hb dX4_act_31 (by decide) (fun hc => ?_) (fun hc => absurd hc (by decide))
      refine lv_iload_n hx hb dX4_act_43 rfl (lv_at hl 3 rfl) ?_
      refine lv_bipush (v := 6) hx hb dX4_act_44 (by decide) ?_
      refine lv_icmp_ne (tgt := 59) hx hb dX4_act_46 (by decide) (fun hc => ?_) (fun hc => absurd hc (by decide))
      refine lv_iload hx hb dX4_act_59 (lv_at hl 0 rfl) ?_
      have hPc := hP.sub (ws' := []) [] rfl
      have hKc := hK.sub (tys' := []) [] rfl
      have hFc := va_free0 hS hA
      refine va_calli (va_runSN (As := [.int r51]) (rest := []) ⟨hx, hb, hml, hown, hts⟩ (k_isKey l D _ cI r51) ⟨va_cnB 1 hts g_k_act_k_isKey_86 rfl rfl rfl hN.2.2.2.1 (hts (.initialized RX10) (List.mem_of_getElem? (i := 8) rfl)) (by decide +kernel) ⟨(Nat.le_of_ble_eq_true rfl), (Nat.le_of_ble_eq_true rfl)⟩, (hts (.static yX10_isKey) (List.mem_of_getElem? (i := 9) rfl)), trivial⟩ (PcRC_S hPc hKc hN) rfl rfl hl.1 rfl (lv_room (Nat.le_of_ble_eq_true rfl)) dX4_act_61 ⟨(Nat.le_of_ble_eq_true rfl), (Nat.le_of_ble_eq_true rfl)⟩) hS (fun q _ h => hFc q h) hFc (fun r54 uu tt H locs htt hvm hw hB hz1 hk1 hS => ?_)
      have hP := va_keep hP hk1
      try dsimp only at hw
      clear hB hz1 hk1 hFc hPc hKc
      rcases hw with ⟨rfl, hA_r54⟩ | ⟨rfl, hA_r54⟩
      ·
        obtain ⟨kx, hkx, rfl⟩ := hA_r54
        refine lv_if_eq (tgt := 81) hx hb dX4_act_64 (by decide) (fun hc => absurd hc (by decide)) (fun hc => ?_)
        refine lv_iload_n hx hb dX4_act_67 rfl (lv_at hl 3 rfl) ?_
        refine lv_iconst (v := 3) hx hb dX4_act_68 (by decide) ?_
        refine lv_icmp_ne (tgt := 94) hx hb dX4_act_69 (by decide) (fun hc => absurd (by decide) hc) (fun hc => ?_)
        refine lv_aload_n hx hb dX4_act_72 rfl (lv_at hl 4 rfl) ?_
        refine lv_iload hx hb dX4_act_73 (lv_at hl 0 rfl) ?_
        have hPc := hP.sub (ws' := [(ob 0, .inr (9, gT ob tb ts tg tl tc tr tu tv tw)), (ob 2, .inr (2, [.int (nI cn), .ref (ob 3), .ref (ob 4)])), (ob 3, .inl (cI, 160, .inl fk))]) [0, 2, 3] rfl
        have hKc := hK.sub (tys' := [(cI, .int)]) [0] rfl
        have hFc := va_free0 hS hA
        refine va_calli (va_runV (As := [.int (nI kx)]) (rest := []) ⟨hx, hb, hml, hown, hts⟩ (k_isFullFor l D _ ob cI tb ts tg tl tc tr tu tv tw cn fk kx hcz) (cwV 1 hts g_k_act_k_isFullFor_89 rfl rfl rfl (by decide +kernel) ⟨(Nat.le_of_ble_eq_true rfl), (Nat.le_of_ble_eq_true rfl)⟩) (PcRC_V (q0 := 0) hPc hKc hN rfl rfl) rfl rfl hl.1 rfl (lv_room (Nat.le_of_ble_eq_true rfl)) dX4_act_75 ⟨(Nat.le_of_ble_eq_true rfl), (Nat.le_of_ble_eq_true rfl)⟩) hS (fun q _ h => hFc q h) hFc (fun r55 uu tt H locs htt hvm hw hB hz1 hk1 hS => ?_)
        have hP := va_keep hP hk1
        try dsimp only at hw
        clear hB hz1 hk1 hFc hPc hKc
        rcases hw with ⟨rfl, hA_r55⟩ | ⟨rfl, hA_r55⟩
        ·
          refine lv_if_eq (tgt := 94) hx hb dX4_act_78 (by decide) (fun hc => absurd hc (by decide)) (fun hc => ?_)
          refine lv_aload_n hx hb dX4_act_81 rfl (lv_at hl 2 rfl) ?_
          refine lv_dup hx hb dX4_act_82 rfl ?_
          refine va_get (D := D) (ci := 4) (v := .int rf) (C := RX4) (T := TX4) (N := 8) hx hb hts hin_X4 hown hK hP 14 rfl rfl 1 (by decide) (hts (.fieldLink RX4 22 "ClashFree$Machine" "refused" "I") (List.mem_of_getElem? (i := 17) rfl)) (fun _ h9 => h9) rfl dX4_act_83 ?_
          refine lv_iconst (v := 1) hx hb dX4_act_86 (by decide) ?_
          refine lv_iadd hx hb dX4_act_87 ?_
          refine lv_topi (fun v56 ev56 => ?_)
          refine va_put (D := D) (ci := 4) (v := .int v56) (ty := .int) (C := RX4) (T := TX4) (N := 8) hx hb hts hin_X4 tyX4 tyX4_ok nmX4 hown hK hP hD hS 14 rfl rfl 1 (by decide) (hts (.fieldLink RX4 22 "ClashFree$Machine" "refused" "I") (List.mem_of_getElem? (i := 17) rfl)) (fun _ h9 => h9) rfl (by decide +kernel) rfl rfl (Nat.le_of_ble_eq_true rfl) dX4_act_88 (fun H locs hP hD hS => ?_)
          have hP : va_P D vwCl [(ob 0, .inr (9, gT ob tb ts tg tl tc tr tu tv tw)), (ob 1, .inr (0, [.long sd, .int (nI da), .int (nI db), .int pr])), (ob 2, .inr (2, [.int (nI cn), .ref (ob 3), .ref (ob 4)])), (ob 3, .inl (cI, 160, .inl fk)), (ob 4, .inl (cI, 160, .inl fv)), (ob 5, .inr (3, gY ob (nI nb) (nI ka) (nI kb) sm (nI ln))), (ob 6, .inl (cI, 2048, .inl fh)), (ob 7, .inl (cI, 2048, .inl ff)), (ob 8, .inl (cI, 2048, .inl fa)), (ob 9, .inl (cI, 2048, .inl fs)), (ob 10, .inl (cI, 160, .inl fj)), (ob 11, .inl (cI, 160, .inl fr)), (ob 12, .inl (cI, 160, .inl fo)), (ob 13, .inl (cI, 2048, .inl fx)), (ow 0, .inr (4, gMa ow (nI w2) v56 lt w3 (nI lo) (nI w52))), (ow 2, .inl (cI, 64, .inl fP))] H := hP
          have hD : va_D A [(ob 0, .inr (9, gT ob tb ts tg tl tc tr tu tv tw)), (ob 1, .inr (0, [.long sd, .int (nI da), .int (nI db), .int pr])), (ob 2, .inr (2, [.int (nI cn), .ref (ob 3), .ref (ob 4)])), (ob 3, .inl (cI, 160, .inl fk)), (ob 4, .inl (cI, 160, .inl fv)), (ob 5, .inr (3, gY ob (nI nb) (nI ka) (nI kb) sm (nI ln))), (ob 6, .inl (cI, 2048, .inl fh)), (ob 7, .inl (cI, 2048, .inl ff)), (ob 8, .inl (cI, 2048, .inl fa)), (ob 9, .inl (cI, 2048, .inl fs)), (ob 10, .inl (cI, 160, .inl fj)), (ob 11, .inl (cI, 160, .inl fr)), (ob 12, .inl (cI, 160, .inl fo)), (ob 13, .inl (cI, 2048, .inl fx)), (ow 0, .inr (4, gMa ow (nI w2) v56 lt w3 (nI lo) (nI w52))), (ow 2, .inl (cI, 64, .inl fP))] := hD
          refine lv_goto (tgt := 139) hx hb dX4_act_91 (by decide) ?_
          exact W.vret hx hb hr (fun t ht hW => ⟨⟨(w2, v56, lt, w3, w52, tr, tl, tc, tu, tv, tw, sd, da, db, pr, cn, fk, fv, nb, ka, kb, sm, ln, fh, ff, fa, fs, fj, fr, fo, fx), rfl, (by (try dsimp only); first | done | exact ⟨by omega, by omega, hTb, fun L os kc hz hk hL e h => by
              obtain rfl : kc = 3 := (nI_eq (b := 3) (by omega) (by decide)).mp hz.symm
              obtain ⟨a1, a2, a3⟩ := hm50_v os e h
              obtain ⟨b1, b2, b3⟩ := hm53_v os.tail a2 a3
              refine Or.inl ⟨hA_r1_2, hA_r1_3, hA_r1_4, _, _, _, Or.inl ⟨rfl, rfl, rfl, rfl⟩, b2, b3, by rw [act_full hkx b1 (fulK_t hL hkx hA_r55.1 hA_r55.2)], by rw [act_full hkx b1 (fulK_t hL hkx hA_r55.1 hA_r55.2)]; exact hL⟩⟩), by rw [ht]; exact hP.sub [14, 15, 0, 1, 2, 3, 4, 5, 6, 7, 8, 9, 10, 11, 12, 13] rfl, va_K.moved hW.alike (hK.sub [0] rfl), hD.sub [14, 15, 0, 1, 2, 3, 4, 5, 6, 7, 8, 9, 10, 11, 12, 13] (by decide) rfl⟩, hS.F ht⟩) hS.2.2 dX4_act_139
        ·
          refine lv_if_eq (tgt := 94) hx hb dX4_act_78 (by decide) (fun hc => ?_) (fun hc => absurd (by decide) hc)
          refine lv_aload_n hx hb dX4_act_94 rfl (lv_at hl 4 rfl) ?_
          refine lv_iload hx hb dX4_act_95 (lv_at hl 0 rfl) ?_
          have hPc := hP.sub (ws' := [(ob 0, .inr (9, gT ob tb ts tg tl tc tr tu tv tw)), (ob 5, .inr (3, gY ob (nI nb) (nI ka) (nI kb) sm (nI ln))), (ob 7, .inl (cI, 2048, .inl ff))]) [0, 5, 7] rfl
          have hKc := hK.sub (tys' := [(cI, .int)]) [0] rfl
          have hDc := hD.sub (ws' := [(ob 0, .inr (9, gT ob tb ts tg tl tc tr tu tv tw)), (ob 5, .inr (3, gY ob (nI nb) (nI ka) (nI kb) sm (nI ln))), (ob 7, .inl (cI, 2048, .inl ff))]) [0, 5, 7] (by decide) rfl
          have hFc := va_free (wc := [(ob 0, .inr (9, gT ob tb ts tg tl tc tr tu tv tw)), (ob 5, .inr (3, gY ob (nI nb) (nI ka) (nI kb) sm (nI ln))), (ob 7, .inl (cI, 2048, .inl ff))]) hD hS hA [0, 5, 7] rfl
          refine va_callv (va_runV (As := [.int (nI kx)]) (rest := []) ⟨hx, hb, hml, hown, hts⟩ (k_countReads l D _ ob cI tb ts tg tl tc tr tu tv tw nb ka kb sm ln ff kx hnb hn1 hka hkb hkx) (cwV 1 hts g_k_act_k_countReads_94 rfl rfl rfl (by decide +kernel) ⟨(Nat.le_of_ble_eq_true rfl), (Nat.le_of_ble_eq_true rfl)⟩) (PcWC_V (q0 := 0) hPc hKc hDc hN rfl rfl) rfl rfl hl.1 rfl (lv_room (Nat.le_of_ble_eq_true rfl)) dX4_act_97 ⟨(Nat.le_of_ble_eq_true rfl), (Nat.le_of_ble_eq_true rfl)⟩) hS (fun q _ h => hFc q h) hFc (fun uu tt H locs htt hvm hw hB hz1 hk1 hS => ?_)
          obtain ⟨w58, rfl⟩ : ∃ z, z = uu := ⟨_, rfl⟩
          obtain ⟨hP1, hK1, hD1⟩ := hB
          rw [htt] at hP1
          have hK1 := va_K.moved hvm.symm hK1
          have hP1 : va_P D vwCl [(ob 0, .inr (9, gT ob tb ts tg tl tc w58 tu tv tw)), (ob 5, .inr (3, gY ob (nI nb) (nI ka) (nI kb) sm (nI ln))), (ob 7, .inl (cI, 2048, .inl ff))] H := hP1
          obtain ⟨hP, hD⟩ := va_join (wr := [(ob 1, .inr (0, [.long sd, .int (nI da), .int (nI db), .int pr])), (ob 2, .inr (2, [.int (nI cn), .ref (ob 3), .ref (ob 4)])), (ob 3, .inl (cI, 160, .inl fk)), (ob 4, .inl (cI, 160, .inl fv)), (ob 6, .inl (cI, 2048, .inl fh)), (ob 8, .inl (cI, 2048, .inl fa)), (ob 9, .inl (cI, 2048, .inl fs)), (ob 10, .inl (cI, 160, .inl fj)), (ob 11, .inl (cI, 160, .inl fr)), (ob 12, .inl (cI, 160, .inl fo)), (ob 13, .inl (cI, 2048, .inl fx)), (ow 0, .inr (4, gMa ow (nI w2) rf lt w3 (nI lo) (nI w52))), (ow 2, .inl (cI, 64, .inl fP))]) (w1 := [(ob 0, .inr (9, gT ob tb ts tg tl tc w58 tu tv tw)), (ob 5, .inr (3, gY ob (nI nb) (nI ka) (nI kb) sm (nI ln))), (ob 7, .inl (cI, 2048, .inl ff))]) hP hD [0, 5, 7] [1, 2, 3, 4, 6, 8, 9, 10, 11, 12, 13, 14, 15] rfl rfl (by decide) (by decide) hk1 hFc hP1 hD1
          have hP : va_P D vwCl [(ob 1, .inr (0, [.long sd, .int (nI da), .int (nI db), .int pr])), (ob 2, .inr (2, [.int (nI cn), .ref (ob 3), .ref (ob 4)])), (ob 3, .inl (cI, 160, .inl fk)), (ob 4, .inl (cI, 160, .inl fv)), (ob 6, .inl (cI, 2048, .inl fh)), (ob 8, .inl (cI, 2048, .inl fa)), (ob 9, .inl (cI, 2048, .inl fs)), (ob 10, .inl (cI, 160, .inl fj)), (ob 11, .inl (cI, 160, .inl fr)), (ob 12, .inl (cI, 160, .inl fo)), (ob 13, .inl (cI, 2048, .inl fx)), (ow 0, .inr (4, gMa ow (nI w2) rf lt w3 (nI lo) (nI w52))), (ow 2, .inl (cI, 64, .inl fP)), (ob 0, .inr (9, gT ob tb ts tg tl tc w58 tu tv tw)), (ob 5, .inr (3, gY ob (nI nb) (nI ka) (nI kb) sm (nI ln))), (ob 7, .inl (cI, 2048, .inl ff))] H := hP
          have hD : va_D A [(ob 1, .inr (0, [.long sd, .int (nI da), .int (nI db), .int pr])), (ob 2, .inr (2, [.int (nI cn), .ref (ob 3), .ref (ob 4)])), (ob 3, .inl (cI, 160, .inl fk)), (ob 4, .inl (cI, 160, .inl fv)), (ob 6, .inl (cI, 2048, .inl fh)), (ob 8, .inl (cI, 2048, .inl fa)), (ob 9, .inl (cI, 2048, .inl fs)), (ob 10, .inl (cI, 160, .inl fj)), (ob 11, .inl (cI, 160, .inl fr)), (ob 12, .inl (cI, 160, .inl fo)), (ob 13, .inl (cI, 2048, .inl fx)), (ow 0, .inr (4, gMa ow (nI w2) rf lt w3 (nI lo) (nI w52))), (ow 2, .inl (cI, 64, .inl fP)), (ob 0, .inr (9, gT ob tb ts tg tl tc w58 tu tv tw)), (ob 5, .inr (3, gY ob (nI nb) (nI ka) (nI kb) sm (nI ln))), (ob 7, .inl (cI, 2048, .inl ff))] := hD
          try dsimp only at hw
          clear hz1 hk1 hFc hPc hKc hDc
          refine lv_iload_n hx hb dX4_act_100 rfl (lv_at hl 3 rfl) ?_
          refine lv_iconst (v := 3) hx hb dX4_act_101 (by decide) ?_
          refine lv_icmp_ne (tgt := 115) hx hb dX4_act_102 (by decide) (fun hc => absurd (by decide) hc) (fun hc => ?_)
          refine lv_aload_n hx hb dX4_act_105 rfl (lv_at hl 4 rfl) ?_
          refine lv_iload hx hb dX4_act_106 (lv_at hl 0 rfl) ?_
          refine lv_iload_n hx hb dX4_act_108 rfl (lv_at hl 1 rfl) ?_
          have hPc := hP.sub (ws' := [(ob 0, .inr (9, gT ob tb ts tg tl tc w58 tu tv tw)), (ob 1, .inr (0, [.long sd, .int (nI da), .int (nI db), .int pr])), (ob 2, .inr (2, [.int (nI cn), .ref (ob 3), .ref (ob 4)])), (ob 3, .inl (cI, 160, .inl fk)), (ob 4, .inl (cI, 160, .inl fv)), (ob 5, .inr (3, gY ob (nI nb) (nI ka) (nI kb) sm (nI ln))), (ob 6, .inl (cI, 2048, .inl fh)), (ob 7, .inl (cI, 2048, .inl ff)), (ob 8, .inl (cI, 2048, .inl fa)), (ob 9, .inl (cI, 2048, .inl fs)), (ob 10, .inl (cI, 160, .inl fj)), (ob 11, .inl (cI, 160, .inl fr)), (ob 12, .inl (cI, 160, .inl fo)), (ob 13, .inl (cI, 2048, .inl fx))]) [13, 0, 1, 2, 3, 14, 4, 15, 5, 6, 7, 8, 9, 10] rfl
          have hKc := hK.sub (tys' := [(cI, .int)]) [0] rfl
          have hDc := hD.sub (ws' := [(ob 0, .inr (9, gT ob tb ts tg tl tc w58 tu tv tw)), (ob 1, .inr (0, [.long sd, .int (nI da), .int (nI db), .int pr])), (ob 2, .inr (2, [.int (nI cn), .ref (ob 3), .ref (ob 4)])), (ob 3, .inl (cI, 160, .inl fk)), (ob 4, .inl (cI, 160, .inl fv)), (ob 5, .inr (3, gY ob (nI nb) (nI ka) (nI kb) sm (nI ln))), (ob 6, .inl (cI, 2048, .inl fh)), (ob 7, .inl (cI, 2048, .inl ff)), (ob 8, .inl (cI, 2048, .inl fa)), (ob 9, .inl (cI, 2048, .inl fs)), (ob 10, .inl (cI, 160, .inl fj)), (ob 11, .inl (cI, 160, .inl fr)), (ob 12, .inl (cI, 160, .inl fo)), (ob 13, .inl (cI, 2048, .inl fx))]) [13, 0, 1, 2, 3, 14, 4, 15, 5, 6, 7, 8, 9, 10] (by decide) rfl
          have hFc := va_free (wc := [(ob 0, .inr (9, gT ob tb ts tg tl tc w58 tu tv tw)), (ob 1, .inr (0, [.long sd, .int (nI da), .int (nI db), .int pr])), (ob 2, .inr (2, [.int (nI cn), .ref (ob 3), .ref (ob 4)])), (ob 3, .inl (cI, 160, .inl fk)), (ob 4, .inl (cI, 160, .inl fv)), (ob 5, .inr (3, gY ob (nI nb) (nI ka) (nI kb) sm (nI ln))), (ob 6, .inl (cI, 2048, .inl fh)), (ob 7, .inl (cI, 2048, .inl ff)), (ob 8, .inl (cI, 2048, .inl fa)), (ob 9, .inl (cI, 2048, .inl fs)), (ob 10, .inl (cI, 160, .inl fj)), (ob 11, .inl (cI, 160, .inl fr)), (ob 12, .inl (cI, 160, .inl fo)), (ob 13, .inl (cI, 2048, .inl fx))]) hD hS hA [13, 0, 1, 2, 3, 14, 4, 15, 5, 6, 7, 8, 9, 10] rfl
          refine va_calli (va_runV (As := [.int (nI kx), .int r48]) (rest := []) ⟨hx, hb, hml, hown, hts⟩ (k_lay l D _ ob cI tb ts tg tl tc w58 tu tv tw sd da db pr cn fk fv nb ka kb sm ln fh ff fa fs fj fr fo fx kx r48 hTb hkx hA_r55) (cwV 2 hts g_k_act_k_lay_97 rfl rfl rfl (by decide +kernel) ⟨(Nat.le_of_ble_eq_true rfl), (Nat.le_of_ble_eq_true rfl)⟩) (PcWC_V (q0 := 0) hPc hKc hDc hN rfl rfl) rfl rfl hl.1 rfl (lv_room (Nat.le_of_ble_eq_true rfl)) dX4_act_109 ⟨(Nat.le_of_ble_eq_true rfl), (Nat.le_of_ble_eq_true rfl)⟩) hS (fun q _ h => hFc q h) hFc (fun r59 uu tt H locs htt hvm hw hB hz1 hk1 hS => ?_)
          obtain ⟨w60, w61, w62, w63, w64, w65, w66, w67, w68, w69, w70, w71, w72, w73, w74, w75, w76, w77, w78, w79, w80, w81, w82, w83, w84⟩ := uu
          obtain ⟨hP1, hK1, hD1⟩ := hB
          rw [htt] at hP1
          have hK1 := va_K.moved hvm.symm hK1
          have hP1 : va_P D vwCl [(ob 0, .inr (9, gT ob tb ts tg w60 w61 w58 w62 w63 w64)), (ob 1, .inr (0, [.long w65, .int (nI w66), .int (nI w67), .int w68])), (ob 2, .inr (2, [.int (nI w69), .ref (ob 3), .ref (ob 4)])), (ob 3, .inl (cI, 160, .inl w70)), (ob 4, .inl (cI, 160, .inl w71)), (ob 5, .inr (3, gY ob (nI w72) (nI w73) (nI w74) w75 (nI w76))), (ob 6, .inl (cI, 2048, .inl w77)), (ob 7, .inl (cI, 2048, .inl w78)), (ob 8, .inl (cI, 2048, .inl w79)), (ob 9, .inl (cI, 2048, .inl w80)), (ob 10, .inl (cI, 160, .inl w81)), (ob 11, .inl (cI, 160, .inl w82)), (ob 12, .inl (cI, 160, .inl w83)), (ob 13, .inl (cI, 2048, .inl w84))] H := hP1
          obtain ⟨hP, hD⟩ := va_join (wr := [(ow 0, .inr (4, gMa ow (nI w2) rf lt w3 (nI lo) (nI w52))), (ow 2, .inl (cI, 64, .inl fP))]) (w1 := [(ob 0, .inr (9, gT ob tb ts tg w60 w61 w58 w62 w63 w64)), (ob 1, .inr (0, [.long w65, .int (nI w66), .int (nI w67), .int w68])), (ob 2, .inr (2, [.int (nI w69), .ref (ob 3), .ref (ob 4)])), (ob 3, .inl (cI, 160, .inl w70)), (ob 4, .inl (cI, 160, .inl w71)), (ob 5, .inr (3, gY ob (nI w72) (nI w73) (nI w74) w75 (nI w76))), (ob 6, .inl (cI, 2048, .inl w77)), (ob 7, .inl (cI, 2048, .inl w78)), (ob 8, .inl (cI, 2048, .inl w79)), (ob 9, .inl (cI, 2048, .inl w80)), (ob 10, .inl (cI, 160, .inl w81)), (ob 11, .inl (cI, 160, .inl w82)), (ob 12, .inl (cI, 160, .inl w83)), (ob 13, .inl (cI, 2048, .inl w84))]) hP hD [13, 0, 1, 2, 3, 14, 4, 15, 5, 6, 7, 8, 9, 10] [11, 12] rfl rfl (by decide) (by decide) hk1 hFc hP1 hD1
          have hP : va_P D vwCl [(ow 0, .inr (4, gMa ow (nI w2) rf lt w3 (nI lo) (nI w52))), (ow 2, .inl (cI, 64, .inl fP)), (ob 0, .inr (9, gT ob tb ts tg w60 w61 w58 w62 w63 w64)), (ob 1, .inr (0, [.long w65, .int (nI w66), .int (nI w67), .int w68])), (ob 2, .inr (2, [.int (nI w69), .ref (ob 3), .ref (ob 4)])), (ob 3, .inl (cI, 160, .inl w70)), (ob 4, .inl (cI, 160, .inl w71)), (ob 5, .inr (3, gY ob (nI w72) (nI w73) (nI w74) w75 (nI w76))), (ob 6, .inl (cI, 2048, .inl w77)), (ob 7, .inl (cI, 2048, .inl w78)), (ob 8, .inl (cI, 2048, .inl w79)), (ob 9, .inl (cI, 2048, .inl w80)), (ob 10, .inl (cI, 160, .inl w81)), (ob 11, .inl (cI, 160, .inl w82)), (ob 12, .inl (cI, 160, .inl w83)), (ob 13, .inl (cI, 2048, .inl w84))] H := hP
          have hD : va_D A [(ow 0, .inr (4, gMa ow (nI w2) rf lt w3 (nI lo) (nI w52))), (ow 2, .inl (cI, 64, .inl fP)), (ob 0, .inr (9, gT ob tb ts tg w60 w61 w58 w62 w63 w64)), (ob 1, .inr (0, [.long w65, .int (nI w66), .int (nI w67), .int w68])), (ob 2, .inr (2, [.int (nI w69), .ref (ob 3), .ref (ob 4)])), (ob 3, .inl (cI, 160, .inl w70)), (ob 4, .inl (cI, 160, .inl w71)), (ob 5, .inr (3, gY ob (nI w72) (nI w73) (nI w74) w75 (nI w76))), (ob 6, .inl (cI, 2048, .inl w77)), (ob 7, .inl (cI, 2048, .inl w78)), (ob 8, .inl (cI, 2048, .inl w79)), (ob 9, .inl (cI, 2048, .inl w80)), (ob 10, .inl (cI, 160, .inl w81)), (ob 11, .inl (cI, 160, .inl w82)), (ob 12, .inl (cI, 160, .inl w83)), (ob 13, .inl (cI, 2048, .inl w84))] := hD
          try dsimp only at hw
          clear hz1 hk1 hFc hPc hKc hDc
          obtain ⟨hLy85_1, hLy85_2, hLy85_q⟩ := hw
          have hw := And.intro hLy85_1 hLy85_2
          obtain ⟨hTb86, hTb86_v⟩ := hw
          obtain ⟨hky86, hL86, hO86, hn186, hka86, hkb86, hda86, hdb86⟩ := id hTb86
          have hnb86 := hL86.1
          have hln86 := hL86.2.1
          have hc86 := hky86.1
          refine lv_goto (tgt := 121) hx hb dX4_act_112 (by decide) ?_
          refine lv_istore (lv' := [(5, .int r59), (4, .int (nI kx)), (3, .int r48), (0, .ref (ow 0)), (1, .int 3), (2, .ref (ob 0))]) hx hb dX4_act_121 hl (by decide) rfl (fun ls hl => ?_)
          refine lv_iload hx hb dX4_act_123 (lv_at hl 0 rfl) ?_
          refine lv_iconst (v := (-1)) hx hb dX4_act_125 (by decide) ?_
          refine lv_icmp_ne (tgt := 139) hx hb dX4_act_126 (by decide) (fun hc87 => ?_) (fun hc87 => ?_)
          ·
            exact W.vret hx hb hr (fun t ht hW => ⟨⟨(w2, rf, lt, w3, w52, w58, w60, w61, w62, w63, w64, w65, w66, w67, w68, w69, w70, w71, w72, w73, w74, w75, w76, w77, w78, w79, w80, w81, w82, w83, w84), rfl, (by (try dsimp only); first | done | exact ⟨by omega, by omega, hTb86, fun L os kc hz hk hL e h => by
                obtain rfl : kc = 3 := (nI_eq (b := 3) (by omega) (by decide)).mp hz.symm
                obtain ⟨a1, a2, a3⟩ := hm50_v os e h
                obtain ⟨b1, b2, b3⟩ := hm53_v os.tail a2 a3
                refine Or.inl ⟨hA_r1_2, hA_r1_3, hA_r1_4, _, _, _, Or.inl ⟨rfl, rfl, rfl, rfl⟩, b2, b3, by rw [act_put hkx b1 (fulK_f hL hkx hA_r55)], by rw [act_put hkx b1 (fulK_f hL hkx hA_r55)]; exact (by rw [← a1]; exact hTb86_v L hL)⟩⟩), by rw [ht]; exact hP.sub [0, 1, 2, 3, 4, 5, 6, 7, 8, 9, 10, 11, 12, 13, 14, 15] rfl, va_K.moved hW.alike (hK.sub [0] rfl), hD.sub [0, 1, 2, 3, 4, 5, 6, 7, 8, 9, 10, 11, 12, 13, 14, 15] (by decide) rfl⟩, hS.F ht⟩) hS.2.2 dX4_act_139
          ·
            refine lv_aload_n hx hb dX4_act_129 rfl (lv_at hl 3 rfl) ?_
            refine lv_dup hx hb dX4_act_130 rfl ?_
            refine va_get (D := D) (ci := 4) (v := .int rf) (C := RX4) (T := TX4) (N := 8) hx hb hts hin_X4 hown hK hP 0 rfl rfl 1 (by decide) (hts (.fieldLink RX4 22 "ClashFree$Machine" "refused" "I") (List.mem_of_getElem? (i := 17) rfl)) (fun _ h9 => h9) rfl dX4_act_131 ?_
            refine lv_iconst (v := 1) hx hb dX4_act_134 (by decide) ?_
            refine lv_iadd hx hb dX4_act_135 ?_
            refine lv_topi (fun v88 ev88 => ?_)
            refine va_put (D := D) (ci := 4) (v := .int v88) (ty := .int) (C := RX4) (T := TX4) (N := 8) hx hb hts hin_X4 tyX4 tyX4_ok nmX4 hown hK hP hD hS 0 rfl rfl 1 (by decide) (hts (.fieldLink RX4 22 "ClashFree$Machine" "refused" "I") (List.mem_of_getElem? (i := 17) rfl)) (fun _ h9 => h9) rfl (by decide +kernel) rfl rfl (Nat.le_of_ble_eq_true rfl) dX4_act_136 (fun H locs hP hD hS => ?_)
            have hP : va_P D vwCl [(ow 0, .inr (4, gMa ow (nI w2) v88 lt w3 (nI lo) (nI w52))), (ow 2, .inl (cI, 64, .inl fP)), (ob 0, .inr (9, gT ob tb ts tg w60 w61 w58 w62 w63 w64)), (ob 1, .inr (0, [.long w65, .int (nI w66), .int (nI w67), .int w68])), (ob 2, .inr (2, [.int (nI w69), .ref (ob 3), .ref (ob 4)])), (ob 3, .inl (cI, 160, .inl w70)), (ob 4, .inl (cI, 160, .inl w71)), (ob 5, .inr (3, gY ob (nI w72) (nI w73) (nI w74) w75 (nI w76))), (ob 6, .inl (cI, 2048, .inl w77)), (ob 7, .inl (cI, 2048, .inl w78)), (ob 8, .inl (cI, 2048, .inl w79)), (ob 9, .inl (cI, 2048, .inl w80)), (ob 10, .inl (cI, 160, .inl w81)), (ob 11, .inl (cI, 160, .inl w82)), (ob 12, .inl (cI, 160, .inl w83)), (ob 13, .inl (cI, 2048, .inl w84))] H := hP
            have hD : va_D A [(ow 0, .inr (4, gMa ow (nI w2) v88 lt w3 (nI lo) (nI w52))), (ow 2, .inl (cI, 64, .inl fP)), (ob 0, .inr (9, gT ob tb ts tg w60 w61 w58 w62 w63 w64)), (ob 1, .inr (0, [.long w65, .int (nI w66), .int (nI w67), .int w68])), (ob 2, .inr (2, [.int (nI w69), .ref (ob 3), .ref (ob 4)])), (ob 3, .inl (cI, 160, .inl w70)), (ob 4, .inl (cI, 160, .inl w71)), (ob 5, .inr (3, gY ob (nI w72) (nI w73) (nI w74) w75 (nI w76))), (ob 6, .inl (cI, 2048, .inl w77)), (ob 7, .inl (cI, 2048, .inl w78)), (ob 8, .inl (cI, 2048, .inl w79)), (ob 9, .inl (cI, 2048, .inl w80)), (ob 10, .inl (cI, 160, .inl w81)), (ob 11, .inl (cI, 160, .inl w82)), (ob 12, .inl (cI, 160, .inl w83)), (ob 13, .inl (cI, 2048, .inl w84))] := hD
            exact W.vret hx hb hr (fun t ht hW => ⟨⟨(w2, v88, lt, w3, w52, w58, w60, w61, w62, w63, w64, w65, w66, w67, w68, w69, w70, w71, w72, w73, w74, w75, w76, w77, w78, w79, w80, w81, w82, w83, w84), rfl, (by (try dsimp only); first | done | exact ⟨by omega, by omega, hTb86, fun L os kc hz hk hL e h => by
                obtain rfl : kc = 3 := (nI_eq (b := 3) (by omega) (by decide)).mp hz.symm
                obtain ⟨a1, a2, a3⟩ := hm50_v os e h
                obtain ⟨b1, b2, b3⟩ := hm53_v os.tail a2 a3
                refine Or.inl ⟨hA_r1_2, hA_r1_3, hA_r1_4, _, _, _, Or.inl ⟨rfl, rfl, rfl, rfl⟩, b2, b3, by rw [act_put hkx b1 (fulK_f hL hkx hA_r55)], by rw [act_put hkx b1 (fulK_f hL hkx hA_r55)]; exact (by rw [← a1]; exact hTb86_v L hL)⟩⟩), by rw [ht]; exact hP.sub [0, 1, 2, 3, 4, 5, 6, 7, 8, 9, 10, 11, 12, 13, 14, 15] rfl, va_K.moved hW.alike (hK.sub [0] rfl), hD.sub [0, 1, 2, 3, 4, 5, 6, 7, 8, 9, 10, 11, 12, 13, 14, 15] (by decide) rfl⟩, hS.F ht⟩) hS.2.2 dX4_act_139
      ·
        refine lv_if_eq (tgt := 81) hx hb dX4_act_64 (by decide) (fun hc => ?_) (fun hc => absurd (by decide) hc)
        refine lv_aload_n hx hb dX4_act_81 rfl (lv_at hl 2 rfl) ?_
        refine lv_dup hx hb dX4_act_82 rfl ?_
        refine va_get (D := D) (ci := 4) (v := .int rf) (C := RX4) (T := TX4) (N := 8) hx hb hts hin_X4 hown hK hP 14 rfl rfl 1 (by decide) (hts (.fieldLink RX4 22 "ClashFree$Machine" "refused" "I") (List.mem_of_getElem? (i := 17) rfl)) (fun _ h9 => h9) rfl dX4_act_83 ?_
        refine lv_iconst (v := 1) hx hb dX4_act_86 (by decide) ?_
        refine lv_iadd hx hb dX4_act_87 ?_
        refine lv_topi (fun v89 ev89 => ?_)
        refine va_put (D := D) (ci := 4) (v := .int v89) (ty := .int) (C := RX4) (T := TX4) (N := 8) hx hb hts hin_X4 tyX4 tyX4_ok nmX4 hown hK hP hD hS 14 rfl rfl 1 (by decide) (hts (.fieldLink RX4 22 "ClashFree$Machine" "refused" "I") (List.mem_of_getElem? (i := 17) rfl)) (fun _ h9 => h9) rfl (by decide +kernel) rfl rfl (Nat.le_of_ble_eq_true rfl) dX4_act_88 (fun H locs hP hD hS => ?_)
        have hP : va_P D vwCl [(ob 0, .inr (9, gT ob tb ts tg tl tc tr tu tv tw)), (ob 1, .inr (0, [.long sd, .int (nI da), .int (nI db), .int pr])), (ob 2, .inr (2, [.int (nI cn), .ref (ob 3), .ref (ob 4)])), (ob 3, .inl (cI, 160, .inl fk)), (ob 4, .inl (cI, 160, .inl fv)), (ob 5, .inr (3, gY ob (nI nb) (nI ka) (nI kb) sm (nI ln))), (ob 6, .inl (cI, 2048, .inl fh)), (ob 7, .inl (cI, 2048, .inl ff)), (ob 8, .inl (cI, 2048, .inl fa)), (ob 9, .inl (cI, 2048, .inl fs)), (ob 10, .inl (cI, 160, .inl fj)), (ob 11, .inl (cI, 160, .inl fr)), (ob 12, .inl (cI, 160, .inl fo)), (ob 13, .inl (cI, 2048, .inl fx)), (ow 0, .inr (4, gMa ow (nI w2) v89 lt w3 (nI lo) (nI w52))), (ow 2, .inl (cI, 64, .inl fP))] H := hP
        have hD : va_D A [(ob 0, .inr (9, gT ob tb ts tg tl tc tr tu tv tw)), (ob 1, .inr (0, [.long sd, .int (nI da), .int (nI db), .int pr])), (ob 2, .inr (2, [.int (nI cn), .ref (ob 3), .ref (ob 4)])), (ob 3, .inl (cI, 160, .inl fk)), (ob 4, .inl (cI, 160, .inl fv)), (ob 5, .inr (3, gY ob (nI nb) (nI ka) (nI kb) sm (nI ln))), (ob 6, .inl (cI, 2048, .inl fh)), (ob 7, .inl (cI, 2048, .inl ff)), (ob 8, .inl (cI, 2048, .inl fa)), (ob 9, .inl (cI, 2048, .inl fs)), (ob 10, .inl (cI, 160, .inl fj)), (ob 11, .inl (cI, 160, .inl fr)), (ob 12, .inl (cI, 160, .inl fo)), (ob 13, .inl (cI, 2048, .inl fx)), (ow 0, .inr (4, gMa ow (nI w2) v89 lt w3 (nI lo) (nI w52))), (ow 2, .inl (cI, 64, .inl fP))] := hD
        refine lv_goto (tgt := 139) hx hb dX4_act_91 (by decide) ?_
        exact W.vret hx hb hr (fun t ht hW => ⟨⟨(w2, v89, lt, w3, w52, tr, tl, tc, tu, tv, tw, sd, da, db, pr, cn, fk, fv, nb, ka, kb, sm, ln, fh, ff, fa, fs, fj, fr, fo, fx), rfl, (by (try dsimp only); first | done | exact ⟨by omega, by omega, hTb, fun L os kc hz hk hL e h => by
            obtain rfl : kc = 3 := (nI_eq (b := 3) (by omega) (by decide)).mp hz.symm
            obtain ⟨a1, a2, a3⟩ := hm50_v os e h
            obtain ⟨b1, b2, b3⟩ := hm53_v os.tail a2 a3
            refine Or.inl ⟨hA_r1_2, hA_r1_3, hA_r1_4, _, _, _, Or.inl ⟨rfl, rfl, rfl, rfl⟩, b2, b3, by rw [act_nk (Or.inl rfl) hA_r54 b1], by rw [act_nk (Or.inl rfl) hA_r54 b1]; exact hL⟩⟩), by rw [ht]; exact hP.sub [14, 15, 0, 1, 2, 3, 4, 5, 6, 7, 8, 9, 10, 11, 12, 13] rfl, va_K.moved hW.alike (hK.sub [0] rfl), hD.sub [14, 15, 0, 1, 2, 3, 4, 5, 6, 7, 8, 9, 10, 11, 12, 13] (by decide) rfl⟩, hS.F ht⟩) hS.2.2 dX4_act_139
  ·
    obtain ⟨hA_r1_1, hA_r1_2, hA_r1_3, hA_r1_4⟩ := hA_r1
    refine lv_if_ne (tgt := 8) hx hb dX4_act_4 (by decide) (fun hc => absurd (by decide) hc) (fun hc => ?_)
    exact W.vret hx hb hr (fun t ht hW => ⟨⟨(w2, rf, lt, w3, oz, tr, tl, tc, tu, tv, tw, sd, da, db, pr, cn, fk, fv, nb, ka, kb, sm, ln, fh, ff, fa, fs, fj, fr, fo, fx), rfl, (by (try dsimp only); first | done | exact ⟨by omega, by omega, hTb, fun L os kc hz hk hL e h => Or.inr ⟨hA_r1_2, hA_r1_3, hA_r1_4, rfl, rfl, hL⟩⟩), by rw [ht]; exact hP.sub [15, 0, 1, 2, 3, 4, 5, 6, 7, 8, 9, 10, 11, 12, 13, 14] rfl, va_K.moved hW.alike (hK.sub [0] rfl), hD.sub [15, 0, 1, 2, 3, 4, 5, 6, 7, 8, 9, 10, 11, 12, 13, 14] (by decide) rfl⟩, hS.F ht⟩) hS.2.2 dX4_act_7

