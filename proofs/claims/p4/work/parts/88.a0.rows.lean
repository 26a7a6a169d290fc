theorem dX4_begin_0 : decode cX4_begin 0 = .ok (.aload_n 0, 1) := by decide +kernel
theorem dX4_begin_1 : decode cX4_begin 1 = .ok (.iconst 0, 1) := by decide +kernel
theorem dX4_begin_2 : decode cX4_begin 2 = .ok (.putfield 18, 3) := by decide +kernel
theorem dX4_begin_5 : decode cX4_begin 5 = .ok (.aload_n 0, 1) := by decide +kernel
theorem dX4_begin_6 : decode cX4_begin 6 = .ok (.iconst 0, 1) := by decide +kernel
theorem dX4_begin_7 : decode cX4_begin 7 = .ok (.putfield 22, 3) := by decide +kernel
theorem dX4_begin_10 : decode cX4_begin 10 = .ok (.aload_n 0, 1) := by decide +kernel
theorem dX4_begin_11 : decode cX4_begin 11 = .ok (.iconst 0, 1) := by decide +kernel
theorem dX4_begin_12 : decode cX4_begin 12 = .ok (.putfield 25, 3) := by decide +kernel
theorem dX4_begin_15 : decode cX4_begin 15 = .ok (.aload_n 0, 1) := by decide +kernel
theorem dX4_begin_16 : decode cX4_begin 16 = .ok (.iconst 0, 1) := by decide +kernel
theorem dX4_begin_17 : decode cX4_begin 17 = .ok (.putfield 28, 3) := by decide +kernel
theorem dX4_begin_20 : decode cX4_begin 20 = .ok (.aload_n 0, 1) := by decide +kernel
theorem dX4_begin_21 : decode cX4_begin 21 = .ok (.iconst 0, 1) := by decide +kernel
theorem dX4_begin_22 : decode cX4_begin 22 = .ok (.putfield 32, 3) := by decide +kernel
theorem dX4_begin_25 : decode cX4_begin 25 = .ok (.aload_n 0, 1) := by decide +kernel
theorem dX4_begin_26 : decode cX4_begin 26 = .ok (.iconst 0, 1) := by decide +kernel
theorem dX4_begin_27 : decode cX4_begin 27 = .ok (.putfield 35, 3) := by decide +kernel
theorem dX4_begin_30 : decode cX4_begin 30 = .ok (.return_, 1) := by decide +kernel
theorem dX4_push_0 : decode cX4_push 0 = .ok (.aload_n 0, 1) := by decide +kernel
theorem dX4_push_1 : decode cX4_push 1 = .ok (.getfield 35, 3) := by decide +kernel
theorem dX4_push_4 : decode cX4_push 4 = .ok (.bipush 64, 2) := by decide +kernel
theorem dX4_push_6 : decode cX4_push 6 = .ok (.if_icmp .ge 23, 3) := by decide +kernel
theorem dX4_push_9 : decode cX4_push 9 = .ok (.aload_n 0, 1) := by decide +kernel
theorem dX4_push_10 : decode cX4_push 10 = .ok (.getfield 15, 3) := by decide +kernel
theorem dX4_push_13 : decode cX4_push 13 = .ok (.aload_n 0, 1) := by decide +kernel
theorem dX4_push_14 : decode cX4_push 14 = .ok (.getfield 35, 3) := by decide +kernel
theorem dX4_push_17 : decode cX4_push 17 = .ok (.iload_n 1, 1) := by decide +kernel
theorem dX4_push_18 : decode cX4_push 18 = .ok (.iastore, 1) := by decide +kernel
theorem dX4_push_19 : decode cX4_push 19 = .ok (.aload_n 0, 1) := by decide +kernel
theorem dX4_push_20 : decode cX4_push 20 = .ok (.dup, 1) := by decide +kernel
theorem dX4_push_21 : decode cX4_push 21 = .ok (.getfield 35, 3) := by decide +kernel
theorem dX4_push_24 : decode cX4_push 24 = .ok (.iconst 1, 1) := by decide +kernel
theorem dX4_push_25 : decode cX4_push 25 = .ok (.iadd, 1) := by decide +kernel
theorem dX4_push_26 : decode cX4_push 26 = .ok (.putfield 35, 3) := by decide +kernel
theorem dX4_push_29 : decode cX4_push 29 = .ok (.return_, 1) := by decide +kernel
theorem dX4_pop_0 : decode cX4_pop 0 = .ok (.aload_n 0, 1) := by decide +kernel
theorem dX4_pop_1 : decode cX4_pop 1 = .ok (.getfield 35, 3) := by decide +kernel
theorem dX4_pop_4 : decode cX4_pop 4 = .ok (.ifCond .ne 5, 3) := by decide +kernel
theorem dX4_pop_7 : decode cX4_pop 7 = .ok (.iconst 0, 1) := by decide +kernel
theorem dX4_pop_8 : decode cX4_pop 8 = .ok (.ireturn, 1) := by decide +kernel
theorem dX4_pop_9 : decode cX4_pop 9 = .ok (.aload_n 0, 1) := by decide +kernel
theorem dX4_pop_10 : decode cX4_pop 10 = .ok (.dup, 1) := by decide +kernel
theorem dX4_pop_11 : decode cX4_pop 11 = .ok (.getfield 35, 3) := by decide +kernel
theorem dX4_pop_14 : decode cX4_pop 14 = .ok (.iconst 1, 1) := by decide +kernel
theorem dX4_pop_15 : decode cX4_pop 15 = .ok (.isub, 1) := by decide +kernel
theorem dX4_pop_16 : decode cX4_pop 16 = .ok (.putfield 35, 3) := by decide +kernel
theorem dX4_pop_19 : decode cX4_pop 19 = .ok (.aload_n 0, 1) := by decide +kernel
theorem dX4_pop_20 : decode cX4_pop 20 = .ok (.getfield 15, 3) := by decide +kernel
theorem dX4_pop_23 : decode cX4_pop 23 = .ok (.aload_n 0, 1) := by decide +kernel
theorem dX4_pop_24 : decode cX4_pop 24 = .ok (.getfield 35, 3) := by decide +kernel
theorem dX4_pop_27 : decode cX4_pop 27 = .ok (.iaload, 1) := by decide +kernel
theorem dX4_pop_28 : decode cX4_pop 28 = .ok (.ireturn, 1) := by decide +kernel
theorem dX4_step_0 : decode cX4_step 0 = .ok (.aload_n 0, 1) := by decide +kernel
theorem dX4_step_1 : decode cX4_step 1 = .ok (.getfield 18, 3) := by decide +kernel
theorem dX4_step_4 : decode cX4_step 4 = .ok (.sipush 300, 3) := by decide +kernel
theorem dX4_step_7 : decode cX4_step 7 = .ok (.if_icmp .lt 10, 3) := by decide +kernel
theorem dX4_step_10 : decode cX4_step 10 = .ok (.aload_n 0, 1) := by decide +kernel
theorem dX4_step_11 : decode cX4_step 11 = .ok (.iconst 1, 1) := by decide +kernel
theorem dX4_step_12 : decode cX4_step 12 = .ok (.putfield 28, 3) := by decide +kernel
theorem dX4_step_15 : decode cX4_step 15 = .ok (.iconst 0, 1) := by decide +kernel
theorem dX4_step_16 : decode cX4_step 16 = .ok (.ireturn, 1) := by decide +kernel
theorem dX4_step_17 : decode cX4_step 17 = .ok (.aload_n 0, 1) := by decide +kernel
theorem dX4_step_18 : decode cX4_step 18 = .ok (.dup, 1) := by decide +kernel
theorem dX4_step_19 : decode cX4_step 19 = .ok (.getfield 18, 3) := by decide +kernel
theorem dX4_step_22 : decode cX4_step 22 = .ok (.iconst 1, 1) := by decide +kernel
theorem dX4_step_23 : decode cX4_step 23 = .ok (.iadd, 1) := by decide +kernel
theorem dX4_step_24 : decode cX4_step 24 = .ok (.putfield 18, 3) := by decide +kernel
theorem dX4_step_27 : decode cX4_step 27 = .ok (.iconst 1, 1) := by decide +kernel
theorem dX4_step_28 : decode cX4_step 28 = .ok (.ireturn, 1) := by decide +kernel
theorem dX4_beginRounds_0 : decode cX4_beginRounds 0 = .ok (.aload_n 1, 1) := by decide +kernel
theorem dX4_beginRounds_1 : decode cX4_beginRounds 1 = .ok (.getfield 47, 3) := by decide +kernel
theorem dX4_beginRounds_4 : decode cX4_beginRounds 4 = .ok (.iload_n 2, 1) := by decide +kernel
theorem dX4_beginRounds_5 : decode cX4_beginRounds 5 = .ok (.iaload, 1) := by decide +kernel
theorem dX4_beginRounds_6 : decode cX4_beginRounds 6 = .ok (.ifCond .ne 12, 3) := by decide +kernel
theorem dX4_beginRounds_9 : decode cX4_beginRounds 9 = .ok (.aload_n 1, 1) := by decide +kernel
theorem dX4_beginRounds_10 : decode cX4_beginRounds 10 = .ok (.getfield 58, 3) := by decide +kernel
theorem dX4_beginRounds_13 : decode cX4_beginRounds 13 = .ok (.iload_n 2, 1) := by decide +kernel
theorem dX4_beginRounds_14 : decode cX4_beginRounds 14 = .ok (.iaload, 1) := by decide +kernel
theorem dX4_beginRounds_15 : decode cX4_beginRounds 15 = .ok (.iconst 1, 1) := by decide +kernel
theorem dX4_beginRounds_16 : decode cX4_beginRounds 16 = .ok (.iadd, 1) := by decide +kernel
theorem dX4_beginRounds_17 : decode cX4_beginRounds 17 = .ok (.ireturn, 1) := by decide +kernel
theorem dX4_beginRounds_18 : decode cX4_beginRounds 18 = .ok (.aload_n 0, 1) := by decide +kernel
theorem dX4_beginRounds_19 : decode cX4_beginRounds 19 = .ok (.getfield 32, 3) := by decide +kernel
theorem dX4_beginRounds_22 : decode cX4_beginRounds 22 = .ok (.iconst 5, 1) := by decide +kernel
theorem dX4_beginRounds_23 : decode cX4_beginRounds 23 = .ok (.if_icmp .ge 30, 3) := by decide +kernel
theorem dX4_beginRounds_26 : decode cX4_beginRounds 26 = .ok (.aload_n 0, 1) := by decide +kernel
theorem dX4_beginRounds_27 : decode cX4_beginRounds 27 = .ok (.invokevirtual 75, 3) := by decide +kernel
theorem dX4_beginRounds_30 : decode cX4_beginRounds 30 = .ok (.ifCond .eq 23, 3) := by decide +kernel
theorem dX4_beginRounds_33 : decode cX4_beginRounds 33 = .ok (.aload_n 0, 1) := by decide +kernel
theorem dX4_beginRounds_34 : decode cX4_beginRounds 34 = .ok (.getfield 9, 3) := by decide +kernel
theorem dX4_beginRounds_37 : decode cX4_beginRounds 37 = .ok (.aload_n 0, 1) := by decide +kernel
theorem dX4_beginRounds_38 : decode cX4_beginRounds 38 = .ok (.getfield 32, 3) := by decide +kernel
theorem dX4_beginRounds_41 : decode cX4_beginRounds 41 = .ok (.iconst 0, 1) := by decide +kernel
theorem dX4_beginRounds_42 : decode cX4_beginRounds 42 = .ok (.iastore, 1) := by decide +kernel
theorem dX4_beginRounds_43 : decode cX4_beginRounds 43 = .ok (.aload_n 0, 1) := by decide +kernel
theorem dX4_beginRounds_44 : decode cX4_beginRounds 44 = .ok (.dup, 1) := by decide +kernel
theorem dX4_beginRounds_45 : decode cX4_beginRounds 45 = .ok (.getfield 32, 3) := by decide +kernel
theorem dX4_beginRounds_48 : decode cX4_beginRounds 48 = .ok (.iconst 1, 1) := by decide +kernel
theorem dX4_beginRounds_49 : decode cX4_beginRounds 49 = .ok (.iadd, 1) := by decide +kernel
theorem dX4_beginRounds_50 : decode cX4_beginRounds 50 = .ok (.putfield 32, 3) := by decide +kernel
theorem dX4_beginRounds_53 : decode cX4_beginRounds 53 = .ok (.iload_n 2, 1) := by decide +kernel
theorem dX4_beginRounds_54 : decode cX4_beginRounds 54 = .ok (.iconst 1, 1) := by decide +kernel
theorem dX4_beginRounds_55 : decode cX4_beginRounds 55 = .ok (.iadd, 1) := by decide +kernel
theorem dX4_beginRounds_56 : decode cX4_beginRounds 56 = .ok (.ireturn, 1) := by decide +kernel
theorem dX4_goRound_0 : decode cX4_goRound 0 = .ok (.aload_n 1, 1) := by decide +kernel
theorem dX4_goRound_1 : decode cX4_goRound 1 = .ok (.getfield 58, 3) := by decide +kernel
theorem dX4_goRound_4 : decode cX4_goRound 4 = .ok (.iload_n 2, 1) := by decide +kernel
theorem dX4_goRound_5 : decode cX4_goRound 5 = .ok (.iaload, 1) := by decide +kernel
theorem dX4_goRound_6 : decode cX4_goRound 6 = .ok (.istore_n 3, 1) := by decide +kernel
theorem dX4_goRound_7 : decode cX4_goRound 7 = .ok (.aload_n 0, 1) := by decide +kernel
theorem dX4_goRound_8 : decode cX4_goRound 8 = .ok (.getfield 32, 3) := by decide +kernel
theorem dX4_goRound_11 : decode cX4_goRound 11 = .ok (.ifCond .eq 11, 3) := by decide +kernel
theorem dX4_goRound_14 : decode cX4_goRound 14 = .ok (.aload_n 1, 1) := by decide +kernel
theorem dX4_goRound_15 : decode cX4_goRound 15 = .ok (.iload_n 3, 1) := by decide +kernel
theorem dX4_goRound_16 : decode cX4_goRound 16 = .ok (.invokevirtual 79, 3) := by decide +kernel
theorem dX4_goRound_19 : decode cX4_goRound 19 = .ok (.ifCond .ne 7, 3) := by decide +kernel
theorem dX4_goRound_22 : decode cX4_goRound 22 = .ok (.iload_n 2, 1) := by decide +kernel
theorem dX4_goRound_23 : decode cX4_goRound 23 = .ok (.iconst 1, 1) := by decide +kernel
theorem dX4_goRound_24 : decode cX4_goRound 24 = .ok (.iadd, 1) := by decide +kernel
theorem dX4_goRound_25 : decode cX4_goRound 25 = .ok (.ireturn, 1) := by decide +kernel
theorem dX4_goRound_26 : decode cX4_goRound 26 = .ok (.aload_n 0, 1) := by decide +kernel
theorem dX4_goRound_27 : decode cX4_goRound 27 = .ok (.getfield 9, 3) := by decide +kernel
theorem dX4_goRound_30 : decode cX4_goRound 30 = .ok (.aload_n 0, 1) := by decide +kernel
theorem dX4_goRound_31 : decode cX4_goRound 31 = .ok (.getfield 32, 3) := by decide +kernel
theorem dX4_goRound_34 : decode cX4_goRound 34 = .ok (.iconst 1, 1) := by decide +kernel
theorem dX4_goRound_35 : decode cX4_goRound 35 = .ok (.isub, 1) := by decide +kernel
theorem dX4_goRound_36 : decode cX4_goRound 36 = .ok (.iaload, 1) := by decide +kernel
theorem dX4_goRound_37 : decode cX4_goRound 37 = .ok (.iconst 1, 1) := by decide +kernel
theorem dX4_goRound_38 : decode cX4_goRound 38 = .ok (.iadd, 1) := by decide +kernel
theorem dX4_goRound_39 : decode cX4_goRound 39 = .ok (.aload_n 1, 1) := by decide +kernel
theorem dX4_goRound_40 : decode cX4_goRound 40 = .ok (.getfield 47, 3) := by decide +kernel
theorem dX4_goRound_43 : decode cX4_goRound 43 = .ok (.iload_n 3, 1) := by decide +kernel
theorem dX4_goRound_44 : decode cX4_goRound 44 = .ok (.iaload, 1) := by decide +kernel
theorem dX4_goRound_45 : decode cX4_goRound 45 = .ok (.if_icmp .lt 17, 3) := by decide +kernel
theorem dX4_goRound_48 : decode cX4_goRound 48 = .ok (.aload_n 0, 1) := by decide +kernel
theorem dX4_goRound_49 : decode cX4_goRound 49 = .ok (.dup, 1) := by decide +kernel
theorem dX4_goRound_50 : decode cX4_goRound 50 = .ok (.getfield 32, 3) := by decide +kernel
theorem dX4_goRound_53 : decode cX4_goRound 53 = .ok (.iconst 1, 1) := by decide +kernel
theorem dX4_goRound_54 : decode cX4_goRound 54 = .ok (.isub, 1) := by decide +kernel
theorem dX4_goRound_55 : decode cX4_goRound 55 = .ok (.putfield 32, 3) := by decide +kernel
theorem dX4_goRound_58 : decode cX4_goRound 58 = .ok (.iload_n 2, 1) := by decide +kernel
theorem dX4_goRound_59 : decode cX4_goRound 59 = .ok (.iconst 1, 1) := by decide +kernel
theorem dX4_goRound_60 : decode cX4_goRound 60 = .ok (.iadd, 1) := by decide +kernel
theorem dX4_goRound_61 : decode cX4_goRound 61 = .ok (.ireturn, 1) := by decide +kernel
theorem dX4_goRound_62 : decode cX4_goRound 62 = .ok (.aload_n 0, 1) := by decide +kernel
theorem dX4_goRound_63 : decode cX4_goRound 63 = .ok (.invokevirtual 75, 3) := by decide +kernel
theorem dX4_goRound_66 : decode cX4_goRound 66 = .ok (.ifCond .eq 18, 3) := by decide +kernel
theorem dX4_goRound_69 : decode cX4_goRound 69 = .ok (.aload_n 0, 1) := by decide +kernel
theorem dX4_goRound_70 : decode cX4_goRound 70 = .ok (.getfield 9, 3) := by decide +kernel
theorem dX4_goRound_73 : decode cX4_goRound 73 = .ok (.aload_n 0, 1) := by decide +kernel
theorem dX4_goRound_74 : decode cX4_goRound 74 = .ok (.getfield 32, 3) := by decide +kernel
theorem dX4_goRound_77 : decode cX4_goRound 77 = .ok (.iconst 1, 1) := by decide +kernel
theorem dX4_goRound_78 : decode cX4_goRound 78 = .ok (.isub, 1) := by decide +kernel
theorem dX4_goRound_79 : decode cX4_goRound 79 = .ok (.dup2, 1) := by decide +kernel
theorem dX4_goRound_80 : decode cX4_goRound 80 = .ok (.iaload, 1) := by decide +kernel
theorem dX4_goRound_81 : decode cX4_goRound 81 = .ok (.iconst 1, 1) := by decide +kernel
theorem dX4_goRound_82 : decode cX4_goRound 82 = .ok (.iadd, 1) := by decide +kernel
theorem dX4_goRound_83 : decode cX4_goRound 83 = .ok (.iastore, 1) := by decide +kernel
theorem dX4_goRound_84 : decode cX4_goRound 84 = .ok (.iload_n 3, 1) := by decide +kernel
theorem dX4_goRound_85 : decode cX4_goRound 85 = .ok (.iconst 1, 1) := by decide +kernel
theorem dX4_goRound_86 : decode cX4_goRound 86 = .ok (.iadd, 1) := by decide +kernel
theorem dX4_goRound_87 : decode cX4_goRound 87 = .ok (.ireturn, 1) := by decide +kernel
theorem dX4_calculate_0 : decode cX4_calculate 0 = .ok (.aload_n 0, 1) := by decide +kernel
theorem dX4_calculate_1 : decode cX4_calculate 1 = .ok (.invokevirtual 54, 3) := by decide +kernel
theorem dX4_calculate_4 : decode cX4_calculate 4 = .ok (.istore_n 2, 1) := by decide +kernel
theorem dX4_calculate_5 : decode cX4_calculate 5 = .ok (.aload_n 0, 1) := by decide +kernel
theorem dX4_calculate_6 : decode cX4_calculate 6 = .ok (.invokevirtual 54, 3) := by decide +kernel
theorem dX4_calculate_9 : decode cX4_calculate 9 = .ok (.istore_n 3, 1) := by decide +kernel
theorem dX4_calculate_10 : decode cX4_calculate 10 = .ok (.iload_n 1, 1) := by decide +kernel
theorem dX4_calculate_11 : decode cX4_calculate 11 = .ok (.tableswitch 85 42 47 #[57, 37, 85, 47, 85, 67], 37) := by decide +kernel
theorem dX4_calculate_48 : decode cX4_calculate 48 = .ok (.aload_n 0, 1) := by decide +kernel
theorem dX4_calculate_49 : decode cX4_calculate 49 = .ok (.iload_n 3, 1) := by decide +kernel
theorem dX4_calculate_50 : decode cX4_calculate 50 = .ok (.iload_n 2, 1) := by decide +kernel
theorem dX4_calculate_51 : decode cX4_calculate 51 = .ok (.iadd, 1) := by decide +kernel
theorem dX4_calculate_52 : decode cX4_calculate 52 = .ok (.invokevirtual 50, 3) := by decide +kernel
theorem dX4_calculate_55 : decode cX4_calculate 55 = .ok (.goto 56, 3) := by decide +kernel
theorem dX4_calculate_58 : decode cX4_calculate 58 = .ok (.aload_n 0, 1) := by decide +kernel
theorem dX4_calculate_59 : decode cX4_calculate 59 = .ok (.iload_n 3, 1) := by decide +kernel
theorem dX4_calculate_60 : decode cX4_calculate 60 = .ok (.iload_n 2, 1) := by decide +kernel
theorem dX4_calculate_61 : decode cX4_calculate 61 = .ok (.isub, 1) := by decide +kernel
theorem dX4_calculate_62 : decode cX4_calculate 62 = .ok (.invokevirtual 50, 3) := by decide +kernel
theorem dX4_calculate_65 : decode cX4_calculate 65 = .ok (.goto 46, 3) := by decide +kernel
theorem dX4_calculate_68 : decode cX4_calculate 68 = .ok (.aload_n 0, 1) := by decide +kernel
theorem dX4_calculate_69 : decode cX4_calculate 69 = .ok (.iload_n 3, 1) := by decide +kernel
theorem dX4_calculate_70 : decode cX4_calculate 70 = .ok (.iload_n 2, 1) := by decide +kernel
theorem dX4_calculate_71 : decode cX4_calculate 71 = .ok (.imul, 1) := by decide +kernel
theorem dX4_calculate_72 : decode cX4_calculate 72 = .ok (.invokevirtual 50, 3) := by decide +kernel
theorem dX4_calculate_75 : decode cX4_calculate 75 = .ok (.goto 36, 3) := by decide +kernel
theorem dX4_calculate_78 : decode cX4_calculate 78 = .ok (.aload_n 0, 1) := by decide +kernel
theorem dX4_calculate_79 : decode cX4_calculate 79 = .ok (.iload_n 2, 1) := by decide +kernel
theorem dX4_calculate_80 : decode cX4_calculate 80 = .ok (.ifCond .ne 7, 3) := by decide +kernel
theorem dX4_calculate_83 : decode cX4_calculate 83 = .ok (.iconst 0, 1) := by decide +kernel
theorem dX4_calculate_84 : decode cX4_calculate 84 = .ok (.goto 6, 3) := by decide +kernel
theorem dX4_calculate_87 : decode cX4_calculate 87 = .ok (.iload_n 3, 1) := by decide +kernel
theorem dX4_calculate_88 : decode cX4_calculate 88 = .ok (.iload_n 2, 1) := by decide +kernel
theorem dX4_calculate_89 : decode cX4_calculate 89 = .ok (.idiv, 1) := by decide +kernel
theorem dX4_calculate_90 : decode cX4_calculate 90 = .ok (.invokevirtual 50, 3) := by decide +kernel
theorem dX4_calculate_93 : decode cX4_calculate 93 = .ok (.goto 18, 3) := by decide +kernel
theorem dX4_calculate_96 : decode cX4_calculate 96 = .ok (.aload_n 0, 1) := by decide +kernel
theorem dX4_calculate_97 : decode cX4_calculate 97 = .ok (.iload_n 2, 1) := by decide +kernel
theorem dX4_calculate_98 : decode cX4_calculate 98 = .ok (.ifCond .ne 7, 3) := by decide +kernel
theorem dX4_calculate_101 : decode cX4_calculate 101 = .ok (.iconst 0, 1) := by decide +kernel
theorem dX4_calculate_102 : decode cX4_calculate 102 = .ok (.goto 6, 3) := by decide +kernel
theorem dX4_calculate_105 : decode cX4_calculate 105 = .ok (.iload_n 3, 1) := by decide +kernel
theorem dX4_calculate_106 : decode cX4_calculate 106 = .ok (.iload_n 2, 1) := by decide +kernel
theorem dX4_calculate_107 : decode cX4_calculate 107 = .ok (.irem, 1) := by decide +kernel
theorem dX4_calculate_108 : decode cX4_calculate 108 = .ok (.invokevirtual 50, 3) := by decide +kernel
theorem dX4_calculate_111 : decode cX4_calculate 111 = .ok (.return_, 1) := by decide +kernel
theorem dX4_act_0 : decode cX4_act 0 = .ok (.aload_n 0, 1) := by decide +kernel
theorem dX4_act_1 : decode cX4_act 1 = .ok (.invokevirtual 75, 3) := by decide +kernel
theorem dX4_act_4 : decode cX4_act 4 = .ok (.ifCond .ne 4, 3) := by decide +kernel
theorem dX4_act_7 : decode cX4_act 7 = .ok (.return_, 1) := by decide +kernel
theorem dX4_act_8 : decode cX4_act 8 = .ok (.iload_n 1, 1) := by decide +kernel
theorem dX4_act_9 : decode cX4_act 9 = .ok (.iconst 3, 1) := by decide +kernel
theorem dX4_act_10 : decode cX4_act 10 = .ok (.if_icmp .ne 10, 3) := by decide +kernel
theorem dX4_act_13 : decode cX4_act 13 = .ok (.aload_n 0, 1) := by decide +kernel
theorem dX4_act_14 : decode cX4_act 14 = .ok (.invokevirtual 54, 3) := by decide +kernel
theorem dX4_act_17 : decode cX4_act 17 = .ok (.goto 4, 3) := by decide +kernel
theorem dX4_act_20 : decode cX4_act 20 = .ok (.iconst 0, 1) := by decide +kernel
theorem dX4_act_21 : decode cX4_act 21 = .ok (.istore_n 3, 1) := by decide +kernel
theorem dX4_act_22 : decode cX4_act 22 = .ok (.aload_n 0, 1) := by decide +kernel
theorem dX4_act_23 : decode cX4_act 23 = .ok (.invokevirtual 54, 3) := by decide +kernel
theorem dX4_act_26 : decode cX4_act 26 = .ok (.istore 4, 2) := by decide +kernel
theorem dX4_act_28 : decode cX4_act 28 = .ok (.iload_n 1, 1) := by decide +kernel
theorem dX4_act_29 : decode cX4_act 29 = .ok (.bipush 7, 2) := by decide +kernel
theorem dX4_act_31 : decode cX4_act 31 = .ok (.if_icmp .ne 12, 3) := by decide +kernel
theorem dX4_act_34 : decode cX4_act 34 = .ok (.aload_n 0, 1) := by decide +kernel
theorem dX4_act_35 : decode cX4_act 35 = .ok (.iload 4, 2) := by decide +kernel
theorem dX4_act_37 : decode cX4_act 37 = .ok (.putfield 25, 3) := by decide +kernel
theorem dX4_act_40 : decode cX4_act 40 = .ok (.goto 99, 3) := by decide +kernel
theorem dX4_act_43 : decode cX4_act 43 = .ok (.iload_n 1, 1) := by decide +kernel
theorem dX4_act_44 : decode cX4_act 44 = .ok (.bipush 6, 2) := by decide +kernel
theorem dX4_act_46 : decode cX4_act 46 = .ok (.if_icmp .ne 13, 3) := by decide +kernel
theorem dX4_act_49 : decode cX4_act 49 = .ok (.aload_n 0, 1) := by decide +kernel
theorem dX4_act_50 : decode cX4_act 50 = .ok (.iload 4, 2) := by decide +kernel
theorem dX4_act_52 : decode cX4_act 52 = .ok (.aload_n 2, 1) := by decide +kernel
theorem dX4_act_53 : decode cX4_act 53 = .ok (.invokevirtual 83, 3) := by decide +kernel
theorem dX4_act_56 : decode cX4_act 56 = .ok (.goto 83, 3) := by decide +kernel
theorem dX4_act_59 : decode cX4_act 59 = .ok (.iload 4, 2) := by decide +kernel
theorem dX4_act_61 : decode cX4_act 61 = .ok (.invokestatic 86, 3) := by decide +kernel
theorem dX4_act_64 : decode cX4_act 64 = .ok (.ifCond .eq 17, 3) := by decide +kernel
theorem dX4_act_67 : decode cX4_act 67 = .ok (.iload_n 1, 1) := by decide +kernel
theorem dX4_act_68 : decode cX4_act 68 = .ok (.iconst 3, 1) := by decide +kernel
theorem dX4_act_69 : decode cX4_act 69 = .ok (.if_icmp .ne 25, 3) := by decide +kernel
theorem dX4_act_72 : decode cX4_act 72 = .ok (.aload_n 2, 1) := by decide +kernel
theorem dX4_act_73 : decode cX4_act 73 = .ok (.iload 4, 2) := by decide +kernel
theorem dX4_act_75 : decode cX4_act 75 = .ok (.invokevirtual 89, 3) := by decide +kernel
theorem dX4_act_78 : decode cX4_act 78 = .ok (.ifCond .eq 16, 3) := by decide +kernel
theorem dX4_act_81 : decode cX4_act 81 = .ok (.aload_n 0, 1) := by decide +kernel
theorem dX4_act_82 : decode cX4_act 82 = .ok (.dup, 1) := by decide +kernel
theorem dX4_act_83 : decode cX4_act 83 = .ok (.getfield 22, 3) := by decide +kernel
theorem dX4_act_86 : decode cX4_act 86 = .ok (.iconst 1, 1) := by decide +kernel
theorem dX4_act_87 : decode cX4_act 87 = .ok (.iadd, 1) := by decide +kernel
theorem dX4_act_88 : decode cX4_act 88 = .ok (.putfield 22, 3) := by decide +kernel
theorem dX4_act_91 : decode cX4_act 91 = .ok (.goto 48, 3) := by decide +kernel
theorem dX4_act_94 : decode cX4_act 94 = .ok (.aload_n 2, 1) := by decide +kernel
theorem dX4_act_95 : decode cX4_act 95 = .ok (.iload 4, 2) := by decide +kernel
theorem dX4_act_97 : decode cX4_act 97 = .ok (.invokevirtual 94, 3) := by decide +kernel
theorem dX4_act_100 : decode cX4_act 100 = .ok (.iload_n 1, 1) := by decide +kernel
theorem dX4_act_101 : decode cX4_act 101 = .ok (.iconst 3, 1) := by decide +kernel
theorem dX4_act_102 : decode cX4_act 102 = .ok (.if_icmp .ne 13, 3) := by decide +kernel
theorem dX4_act_105 : decode cX4_act 105 = .ok (.aload_n 2, 1) := by decide +kernel
theorem dX4_act_106 : decode cX4_act 106 = .ok (.iload 4, 2) := by decide +kernel
theorem dX4_act_108 : decode cX4_act 108 = .ok (.iload_n 3, 1) := by decide +kernel
theorem dX4_act_109 : decode cX4_act 109 = .ok (.invokevirtual 97, 3) := by decide +kernel
theorem dX4_act_112 : decode cX4_act 112 = .ok (.goto 9, 3) := by decide +kernel
theorem dX4_act_115 : decode cX4_act 115 = .ok (.aload_n 2, 1) := by decide +kernel
theorem dX4_act_116 : decode cX4_act 116 = .ok (.iload 4, 2) := by decide +kernel
theorem dX4_act_118 : decode cX4_act 118 = .ok (.invokevirtual 101, 3) := by decide +kernel
theorem dX4_act_121 : decode cX4_act 121 = .ok (.istore 5, 2) := by decide +kernel
theorem dX4_act_123 : decode cX4_act 123 = .ok (.iload 5, 2) := by decide +kernel
theorem dX4_act_125 : decode cX4_act 125 = .ok (.iconst (-1), 1) := by decide +kernel
theorem dX4_act_126 : decode cX4_act 126 = .ok (.if_icmp .ne 13, 3) := by decide +kernel
theorem dX4_act_129 : decode cX4_act 129 = .ok (.aload_n 0, 1) := by decide +kernel
theorem dX4_act_130 : decode cX4_act 130 = .ok (.dup, 1) := by decide +kernel
theorem dX4_act_131 : decode cX4_act 131 = .ok (.getfield 22, 3) := by decide +kernel
theorem dX4_act_134 : decode cX4_act 134 = .ok (.iconst 1, 1) := by decide +kernel
theorem dX4_act_135 : decode cX4_act 135 = .ok (.iadd, 1) := by decide +kernel
theorem dX4_act_136 : decode cX4_act 136 = .ok (.putfield 22, 3) := by decide +kernel
theorem dX4_act_139 : decode cX4_act 139 = .ok (.return_, 1) := by decide +kernel
theorem dX4_look_0 : decode cX4_look 0 = .ok (.aload_n 0, 1) := by decide +kernel
theorem dX4_look_1 : decode cX4_look 1 = .ok (.iconst (-1), 1) := by decide +kernel
theorem dX4_look_2 : decode cX4_look 2 = .ok (.putfield 25, 3) := by decide +kernel
theorem dX4_look_5 : decode cX4_look 5 = .ok (.iload_n 1, 1) := by decide +kernel
theorem dX4_look_6 : decode cX4_look 6 = .ok (.invokestatic 86, 3) := by decide +kernel
theorem dX4_look_9 : decode cX4_look 9 = .ok (.ifCond .ne 14, 3) := by decide +kernel
theorem dX4_look_12 : decode cX4_look 12 = .ok (.aload_n 0, 1) := by decide +kernel
theorem dX4_look_13 : decode cX4_look 13 = .ok (.dup, 1) := by decide +kernel
theorem dX4_look_14 : decode cX4_look 14 = .ok (.getfield 22, 3) := by decide +kernel
theorem dX4_look_17 : decode cX4_look 17 = .ok (.iconst 1, 1) := by decide +kernel
theorem dX4_look_18 : decode cX4_look 18 = .ok (.iadd, 1) := by decide +kernel
theorem dX4_look_19 : decode cX4_look 19 = .ok (.putfield 22, 3) := by decide +kernel
theorem dX4_look_22 : decode cX4_look 22 = .ok (.return_, 1) := by decide +kernel
theorem dX4_look_23 : decode cX4_look 23 = .ok (.aload_n 2, 1) := by decide +kernel
theorem dX4_look_24 : decode cX4_look 24 = .ok (.iload_n 1, 1) := by decide +kernel
theorem dX4_look_25 : decode cX4_look 25 = .ok (.invokevirtual 94, 3) := by decide +kernel
theorem dX4_look_28 : decode cX4_look 28 = .ok (.aload_n 2, 1) := by decide +kernel
theorem dX4_look_29 : decode cX4_look 29 = .ok (.getfield 105, 3) := by decide +kernel
theorem dX4_look_32 : decode cX4_look 32 = .ok (.iload_n 1, 1) := by decide +kernel
theorem dX4_look_33 : decode cX4_look 33 = .ok (.invokevirtual 109, 3) := by decide +kernel
theorem dX4_look_36 : decode cX4_look 36 = .ok (.istore_n 3, 1) := by decide +kernel
theorem dX4_look_37 : decode cX4_look 37 = .ok (.iload_n 3, 1) := by decide +kernel
theorem dX4_look_38 : decode cX4_look 38 = .ok (.ifCond .lt 15, 3) := by decide +kernel
theorem dX4_look_41 : decode cX4_look 41 = .ok (.aload_n 0, 1) := by decide +kernel
theorem dX4_look_42 : decode cX4_look 42 = .ok (.aload_n 2, 1) := by decide +kernel
theorem dX4_look_43 : decode cX4_look 43 = .ok (.getfield 105, 3) := by decide +kernel
theorem dX4_look_46 : decode cX4_look 46 = .ok (.iload_n 3, 1) := by decide +kernel
theorem dX4_look_47 : decode cX4_look 47 = .ok (.invokevirtual 114, 3) := by decide +kernel
theorem dX4_look_50 : decode cX4_look 50 = .ok (.putfield 25, 3) := by decide +kernel
theorem dX4_look_53 : decode cX4_look 53 = .ok (.return_, 1) := by decide +kernel
