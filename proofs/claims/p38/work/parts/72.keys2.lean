theorem dX2_insert_0 : decode cX2_insert 0 = .ok (.iload_n 1, 1) := by decide +kernel
theorem dX2_insert_1 : decode cX2_insert 1 = .ok (.ifCond .lt 21, 3) := by decide +kernel
theorem dX2_insert_4 : decode cX2_insert 4 = .ok (.iload_n 1, 1) := by decide +kernel
theorem dX2_insert_5 : decode cX2_insert 5 = .ok (.aload_n 0, 1) := by decide +kernel
theorem dX2_insert_6 : decode cX2_insert 6 = .ok (.getfield 18, 3) := by decide +kernel
theorem dX2_insert_9 : decode cX2_insert 9 = .ok (.if_icmp .gt 13, 3) := by decide +kernel
theorem dX2_insert_12 : decode cX2_insert 12 = .ok (.aload_n 0, 1) := by decide +kernel
theorem dX2_insert_13 : decode cX2_insert 13 = .ok (.getfield 18, 3) := by decide +kernel
theorem dX2_insert_16 : decode cX2_insert 16 = .ok (.sipush 160, 3) := by decide +kernel
theorem dX2_insert_19 : decode cX2_insert 19 = .ok (.if_icmp .lt 4, 3) := by decide +kernel
theorem dX2_insert_22 : decode cX2_insert 22 = .ok (.return_, 1) := by decide +kernel
theorem dX2_insert_23 : decode cX2_insert 23 = .ok (.aload_n 0, 1) := by decide +kernel
theorem dX2_insert_24 : decode cX2_insert 24 = .ok (.getfield 9, 3) := by decide +kernel
theorem dX2_insert_27 : decode cX2_insert 27 = .ok (.iload_n 1, 1) := by decide +kernel
theorem dX2_insert_28 : decode cX2_insert 28 = .ok (.aload_n 0, 1) := by decide +kernel
theorem dX2_insert_29 : decode cX2_insert 29 = .ok (.getfield 9, 3) := by decide +kernel
theorem dX2_insert_32 : decode cX2_insert 32 = .ok (.iload_n 1, 1) := by decide +kernel
theorem dX2_insert_33 : decode cX2_insert 33 = .ok (.iconst 1, 1) := by decide +kernel
theorem dX2_insert_34 : decode cX2_insert 34 = .ok (.iadd, 1) := by decide +kernel
theorem dX2_insert_35 : decode cX2_insert 35 = .ok (.aload_n 0, 1) := by decide +kernel
theorem dX2_insert_36 : decode cX2_insert 36 = .ok (.getfield 18, 3) := by decide +kernel
theorem dX2_insert_39 : decode cX2_insert 39 = .ok (.iload_n 1, 1) := by decide +kernel
theorem dX2_insert_40 : decode cX2_insert 40 = .ok (.isub, 1) := by decide +kernel
theorem dX2_insert_41 : decode cX2_insert 41 = .ok (.invokestatic 29, 3) := by decide +kernel
theorem dX2_insert_44 : decode cX2_insert 44 = .ok (.aload_n 0, 1) := by decide +kernel
theorem dX2_insert_45 : decode cX2_insert 45 = .ok (.getfield 15, 3) := by decide +kernel
theorem dX2_insert_48 : decode cX2_insert 48 = .ok (.iload_n 1, 1) := by decide +kernel
theorem dX2_insert_49 : decode cX2_insert 49 = .ok (.aload_n 0, 1) := by decide +kernel
theorem dX2_insert_50 : decode cX2_insert 50 = .ok (.getfield 15, 3) := by decide +kernel
theorem dX2_insert_53 : decode cX2_insert 53 = .ok (.iload_n 1, 1) := by decide +kernel
theorem dX2_insert_54 : decode cX2_insert 54 = .ok (.iconst 1, 1) := by decide +kernel
theorem dX2_insert_55 : decode cX2_insert 55 = .ok (.iadd, 1) := by decide +kernel
theorem dX2_insert_56 : decode cX2_insert 56 = .ok (.aload_n 0, 1) := by decide +kernel
theorem dX2_insert_57 : decode cX2_insert 57 = .ok (.getfield 18, 3) := by decide +kernel
theorem dX2_insert_60 : decode cX2_insert 60 = .ok (.iload_n 1, 1) := by decide +kernel
theorem dX2_insert_61 : decode cX2_insert 61 = .ok (.isub, 1) := by decide +kernel
theorem dX2_insert_62 : decode cX2_insert 62 = .ok (.invokestatic 29, 3) := by decide +kernel
theorem dX2_insert_65 : decode cX2_insert 65 = .ok (.aload_n 0, 1) := by decide +kernel
theorem dX2_insert_66 : decode cX2_insert 66 = .ok (.getfield 9, 3) := by decide +kernel
theorem dX2_insert_69 : decode cX2_insert 69 = .ok (.iload_n 1, 1) := by decide +kernel
theorem dX2_insert_70 : decode cX2_insert 70 = .ok (.iload_n 2, 1) := by decide +kernel
theorem dX2_insert_71 : decode cX2_insert 71 = .ok (.iastore, 1) := by decide +kernel
theorem dX2_insert_72 : decode cX2_insert 72 = .ok (.aload_n 0, 1) := by decide +kernel
theorem dX2_insert_73 : decode cX2_insert 73 = .ok (.getfield 15, 3) := by decide +kernel
theorem dX2_insert_76 : decode cX2_insert 76 = .ok (.iload_n 1, 1) := by decide +kernel
theorem dX2_insert_77 : decode cX2_insert 77 = .ok (.iload_n 3, 1) := by decide +kernel
theorem dX2_insert_78 : decode cX2_insert 78 = .ok (.iastore, 1) := by decide +kernel
theorem dX2_insert_79 : decode cX2_insert 79 = .ok (.aload_n 0, 1) := by decide +kernel
theorem dX2_insert_80 : decode cX2_insert 80 = .ok (.dup, 1) := by decide +kernel
theorem dX2_insert_81 : decode cX2_insert 81 = .ok (.getfield 18, 3) := by decide +kernel
theorem dX2_insert_84 : decode cX2_insert 84 = .ok (.iconst 1, 1) := by decide +kernel
theorem dX2_insert_85 : decode cX2_insert 85 = .ok (.iadd, 1) := by decide +kernel
theorem dX2_insert_86 : decode cX2_insert 86 = .ok (.putfield 18, 3) := by decide +kernel
theorem dX2_insert_89 : decode cX2_insert 89 = .ok (.return_, 1) := by decide +kernel
theorem dX2_remove_0 : decode cX2_remove 0 = .ok (.iload_n 1, 1) := by decide +kernel
theorem dX2_remove_1 : decode cX2_remove 1 = .ok (.ifCond .lt 11, 3) := by decide +kernel
theorem dX2_remove_4 : decode cX2_remove 4 = .ok (.iload_n 1, 1) := by decide +kernel
theorem dX2_remove_5 : decode cX2_remove 5 = .ok (.aload_n 0, 1) := by decide +kernel
theorem dX2_remove_6 : decode cX2_remove 6 = .ok (.getfield 18, 3) := by decide +kernel
theorem dX2_remove_9 : decode cX2_remove 9 = .ok (.if_icmp .lt 4, 3) := by decide +kernel
theorem dX2_remove_12 : decode cX2_remove 12 = .ok (.return_, 1) := by decide +kernel
theorem dX2_remove_13 : decode cX2_remove 13 = .ok (.aload_n 0, 1) := by decide +kernel
theorem dX2_remove_14 : decode cX2_remove 14 = .ok (.getfield 9, 3) := by decide +kernel
theorem dX2_remove_17 : decode cX2_remove 17 = .ok (.iload_n 1, 1) := by decide +kernel
theorem dX2_remove_18 : decode cX2_remove 18 = .ok (.iconst 1, 1) := by decide +kernel
theorem dX2_remove_19 : decode cX2_remove 19 = .ok (.iadd, 1) := by decide +kernel
theorem dX2_remove_20 : decode cX2_remove 20 = .ok (.aload_n 0, 1) := by decide +kernel
theorem dX2_remove_21 : decode cX2_remove 21 = .ok (.getfield 9, 3) := by decide +kernel
theorem dX2_remove_24 : decode cX2_remove 24 = .ok (.iload_n 1, 1) := by decide +kernel
theorem dX2_remove_25 : decode cX2_remove 25 = .ok (.aload_n 0, 1) := by decide +kernel
theorem dX2_remove_26 : decode cX2_remove 26 = .ok (.getfield 18, 3) := by decide +kernel
theorem dX2_remove_29 : decode cX2_remove 29 = .ok (.iload_n 1, 1) := by decide +kernel
theorem dX2_remove_30 : decode cX2_remove 30 = .ok (.isub, 1) := by decide +kernel
theorem dX2_remove_31 : decode cX2_remove 31 = .ok (.iconst 1, 1) := by decide +kernel
theorem dX2_remove_32 : decode cX2_remove 32 = .ok (.isub, 1) := by decide +kernel
theorem dX2_remove_33 : decode cX2_remove 33 = .ok (.invokestatic 29, 3) := by decide +kernel
theorem dX2_remove_36 : decode cX2_remove 36 = .ok (.aload_n 0, 1) := by decide +kernel
theorem dX2_remove_37 : decode cX2_remove 37 = .ok (.getfield 15, 3) := by decide +kernel
theorem dX2_remove_40 : decode cX2_remove 40 = .ok (.iload_n 1, 1) := by decide +kernel
theorem dX2_remove_41 : decode cX2_remove 41 = .ok (.iconst 1, 1) := by decide +kernel
theorem dX2_remove_42 : decode cX2_remove 42 = .ok (.iadd, 1) := by decide +kernel
theorem dX2_remove_43 : decode cX2_remove 43 = .ok (.aload_n 0, 1) := by decide +kernel
theorem dX2_remove_44 : decode cX2_remove 44 = .ok (.getfield 15, 3) := by decide +kernel
theorem dX2_remove_47 : decode cX2_remove 47 = .ok (.iload_n 1, 1) := by decide +kernel
theorem dX2_remove_48 : decode cX2_remove 48 = .ok (.aload_n 0, 1) := by decide +kernel
theorem dX2_remove_49 : decode cX2_remove 49 = .ok (.getfield 18, 3) := by decide +kernel
theorem dX2_remove_52 : decode cX2_remove 52 = .ok (.iload_n 1, 1) := by decide +kernel
theorem dX2_remove_53 : decode cX2_remove 53 = .ok (.isub, 1) := by decide +kernel
theorem dX2_remove_54 : decode cX2_remove 54 = .ok (.iconst 1, 1) := by decide +kernel
theorem dX2_remove_55 : decode cX2_remove 55 = .ok (.isub, 1) := by decide +kernel
theorem dX2_remove_56 : decode cX2_remove 56 = .ok (.invokestatic 29, 3) := by decide +kernel
theorem dX2_remove_59 : decode cX2_remove 59 = .ok (.aload_n 0, 1) := by decide +kernel
theorem dX2_remove_60 : decode cX2_remove 60 = .ok (.dup, 1) := by decide +kernel
theorem dX2_remove_61 : decode cX2_remove 61 = .ok (.getfield 18, 3) := by decide +kernel
theorem dX2_remove_64 : decode cX2_remove 64 = .ok (.iconst 1, 1) := by decide +kernel
theorem dX2_remove_65 : decode cX2_remove 65 = .ok (.isub, 1) := by decide +kernel
theorem dX2_remove_66 : decode cX2_remove 66 = .ok (.putfield 18, 3) := by decide +kernel
theorem dX2_remove_69 : decode cX2_remove 69 = .ok (.return_, 1) := by decide +kernel
theorem dX2_sharedWith_0 : decode cX2_sharedWith 0 = .ok (.iconst 0, 1) := by decide +kernel
theorem dX2_sharedWith_1 : decode cX2_sharedWith 1 = .ok (.istore_n 3, 1) := by decide +kernel
theorem dX2_sharedWith_2 : decode cX2_sharedWith 2 = .ok (.iconst 0, 1) := by decide +kernel
theorem dX2_sharedWith_3 : decode cX2_sharedWith 3 = .ok (.istore 4, 2) := by decide +kernel
theorem dX2_sharedWith_5 : decode cX2_sharedWith 5 = .ok (.iload 4, 2) := by decide +kernel
theorem dX2_sharedWith_7 : decode cX2_sharedWith 7 = .ok (.aload_n 0, 1) := by decide +kernel
theorem dX2_sharedWith_8 : decode cX2_sharedWith 8 = .ok (.getfield 18, 3) := by decide +kernel
theorem dX2_sharedWith_11 : decode cX2_sharedWith 11 = .ok (.if_icmp .ge 51, 3) := by decide +kernel
theorem dX2_sharedWith_14 : decode cX2_sharedWith 14 = .ok (.aload_n 1, 1) := by decide +kernel
theorem dX2_sharedWith_15 : decode cX2_sharedWith 15 = .ok (.aload_n 0, 1) := by decide +kernel
theorem dX2_sharedWith_16 : decode cX2_sharedWith 16 = .ok (.getfield 9, 3) := by decide +kernel
theorem dX2_sharedWith_19 : decode cX2_sharedWith 19 = .ok (.iload 4, 2) := by decide +kernel
theorem dX2_sharedWith_21 : decode cX2_sharedWith 21 = .ok (.iaload, 1) := by decide +kernel
theorem dX2_sharedWith_22 : decode cX2_sharedWith 22 = .ok (.invokevirtual 35, 3) := by decide +kernel
theorem dX2_sharedWith_25 : decode cX2_sharedWith 25 = .ok (.istore 5, 2) := by decide +kernel
theorem dX2_sharedWith_27 : decode cX2_sharedWith 27 = .ok (.iload 5, 2) := by decide +kernel
theorem dX2_sharedWith_29 : decode cX2_sharedWith 29 = .ok (.ifCond .lt 27, 3) := by decide +kernel
theorem dX2_sharedWith_32 : decode cX2_sharedWith 32 = .ok (.iload_n 2, 1) := by decide +kernel
theorem dX2_sharedWith_33 : decode cX2_sharedWith 33 = .ok (.ifCond .eq 20, 3) := by decide +kernel
theorem dX2_sharedWith_36 : decode cX2_sharedWith 36 = .ok (.aload_n 1, 1) := by decide +kernel
theorem dX2_sharedWith_37 : decode cX2_sharedWith 37 = .ok (.getfield 15, 3) := by decide +kernel
theorem dX2_sharedWith_40 : decode cX2_sharedWith 40 = .ok (.iload 5, 2) := by decide +kernel
theorem dX2_sharedWith_42 : decode cX2_sharedWith 42 = .ok (.iaload, 1) := by decide +kernel
theorem dX2_sharedWith_43 : decode cX2_sharedWith 43 = .ok (.aload_n 0, 1) := by decide +kernel
theorem dX2_sharedWith_44 : decode cX2_sharedWith 44 = .ok (.getfield 15, 3) := by decide +kernel
theorem dX2_sharedWith_47 : decode cX2_sharedWith 47 = .ok (.iload 4, 2) := by decide +kernel
theorem dX2_sharedWith_49 : decode cX2_sharedWith 49 = .ok (.iaload, 1) := by decide +kernel
theorem dX2_sharedWith_50 : decode cX2_sharedWith 50 = .ok (.if_icmp .ne 6, 3) := by decide +kernel
theorem dX2_sharedWith_53 : decode cX2_sharedWith 53 = .ok (.iinc 3 1, 3) := by decide +kernel
theorem dX2_sharedWith_56 : decode cX2_sharedWith 56 = .ok (.iinc 4 1, 3) := by decide +kernel
theorem dX2_sharedWith_59 : decode cX2_sharedWith 59 = .ok (.goto (-54), 3) := by decide +kernel
theorem dX2_sharedWith_62 : decode cX2_sharedWith 62 = .ok (.iload_n 3, 1) := by decide +kernel
theorem dX2_sharedWith_63 : decode cX2_sharedWith 63 = .ok (.ireturn, 1) := by decide +kernel
theorem dX2_greatest_0 : decode cX2_greatest 0 = .ok (.iconst (-1), 1) := by decide +kernel
theorem dX2_greatest_1 : decode cX2_greatest 1 = .ok (.istore_n 1, 1) := by decide +kernel
theorem dX2_greatest_2 : decode cX2_greatest 2 = .ok (.iconst 0, 1) := by decide +kernel
theorem dX2_greatest_3 : decode cX2_greatest 3 = .ok (.istore_n 2, 1) := by decide +kernel
theorem dX2_greatest_4 : decode cX2_greatest 4 = .ok (.iload_n 2, 1) := by decide +kernel
theorem dX2_greatest_5 : decode cX2_greatest 5 = .ok (.aload_n 0, 1) := by decide +kernel
theorem dX2_greatest_6 : decode cX2_greatest 6 = .ok (.getfield 18, 3) := by decide +kernel
theorem dX2_greatest_9 : decode cX2_greatest 9 = .ok (.if_icmp .ge 30, 3) := by decide +kernel
theorem dX2_greatest_12 : decode cX2_greatest 12 = .ok (.iload_n 1, 1) := by decide +kernel
theorem dX2_greatest_13 : decode cX2_greatest 13 = .ok (.ifCond .lt 18, 3) := by decide +kernel
theorem dX2_greatest_16 : decode cX2_greatest 16 = .ok (.aload_n 0, 1) := by decide +kernel
theorem dX2_greatest_17 : decode cX2_greatest 17 = .ok (.getfield 15, 3) := by decide +kernel
theorem dX2_greatest_20 : decode cX2_greatest 20 = .ok (.iload_n 2, 1) := by decide +kernel
theorem dX2_greatest_21 : decode cX2_greatest 21 = .ok (.iaload, 1) := by decide +kernel
theorem dX2_greatest_22 : decode cX2_greatest 22 = .ok (.aload_n 0, 1) := by decide +kernel
theorem dX2_greatest_23 : decode cX2_greatest 23 = .ok (.getfield 15, 3) := by decide +kernel
theorem dX2_greatest_26 : decode cX2_greatest 26 = .ok (.iload_n 1, 1) := by decide +kernel
theorem dX2_greatest_27 : decode cX2_greatest 27 = .ok (.iaload, 1) := by decide +kernel
theorem dX2_greatest_28 : decode cX2_greatest 28 = .ok (.if_icmp .le 5, 3) := by decide +kernel
theorem dX2_greatest_31 : decode cX2_greatest 31 = .ok (.iload_n 2, 1) := by decide +kernel
theorem dX2_greatest_32 : decode cX2_greatest 32 = .ok (.istore_n 1, 1) := by decide +kernel
theorem dX2_greatest_33 : decode cX2_greatest 33 = .ok (.iinc 2 1, 3) := by decide +kernel
theorem dX2_greatest_36 : decode cX2_greatest 36 = .ok (.goto (-32), 3) := by decide +kernel
theorem dX2_greatest_39 : decode cX2_greatest 39 = .ok (.iload_n 1, 1) := by decide +kernel
theorem dX2_greatest_40 : decode cX2_greatest 40 = .ok (.ireturn, 1) := by decide +kernel
theorem dX2_valueSum_0 : decode cX2_valueSum 0 = .ok (.lconst 0, 1) := by decide +kernel
theorem dX2_valueSum_1 : decode cX2_valueSum 1 = .ok (.lstore_n 1, 1) := by decide +kernel
theorem dX2_valueSum_2 : decode cX2_valueSum 2 = .ok (.iconst 0, 1) := by decide +kernel
theorem dX2_valueSum_3 : decode cX2_valueSum 3 = .ok (.istore_n 3, 1) := by decide +kernel
theorem dX2_valueSum_4 : decode cX2_valueSum 4 = .ok (.iload_n 3, 1) := by decide +kernel
theorem dX2_valueSum_5 : decode cX2_valueSum 5 = .ok (.aload_n 0, 1) := by decide +kernel
theorem dX2_valueSum_6 : decode cX2_valueSum 6 = .ok (.getfield 18, 3) := by decide +kernel
theorem dX2_valueSum_9 : decode cX2_valueSum 9 = .ok (.if_icmp .ge 19, 3) := by decide +kernel
theorem dX2_valueSum_12 : decode cX2_valueSum 12 = .ok (.lload_n 1, 1) := by decide +kernel
theorem dX2_valueSum_13 : decode cX2_valueSum 13 = .ok (.aload_n 0, 1) := by decide +kernel
theorem dX2_valueSum_14 : decode cX2_valueSum 14 = .ok (.getfield 15, 3) := by decide +kernel
theorem dX2_valueSum_17 : decode cX2_valueSum 17 = .ok (.iload_n 3, 1) := by decide +kernel
theorem dX2_valueSum_18 : decode cX2_valueSum 18 = .ok (.iaload, 1) := by decide +kernel
theorem dX2_valueSum_19 : decode cX2_valueSum 19 = .ok (.i2l, 1) := by decide +kernel
theorem dX2_valueSum_20 : decode cX2_valueSum 20 = .ok (.ladd, 1) := by decide +kernel
theorem dX2_valueSum_21 : decode cX2_valueSum 21 = .ok (.lstore_n 1, 1) := by decide +kernel
theorem dX2_valueSum_22 : decode cX2_valueSum 22 = .ok (.iinc 3 1, 3) := by decide +kernel
theorem dX2_valueSum_25 : decode cX2_valueSum 25 = .ok (.goto (-21), 3) := by decide +kernel
theorem dX2_valueSum_28 : decode cX2_valueSum 28 = .ok (.lload_n 1, 1) := by decide +kernel
theorem dX2_valueSum_29 : decode cX2_valueSum 29 = .ok (.lreturn, 1) := by decide +kernel
theorem dX2_become_0 : decode cX2_become 0 = .ok (.aload_n 0, 1) := by decide +kernel
theorem dX2_become_1 : decode cX2_become 1 = .ok (.aload_n 1, 1) := by decide +kernel
theorem dX2_become_2 : decode cX2_become 2 = .ok (.getfield 18, 3) := by decide +kernel
theorem dX2_become_5 : decode cX2_become 5 = .ok (.putfield 18, 3) := by decide +kernel
theorem dX2_become_8 : decode cX2_become 8 = .ok (.aload_n 1, 1) := by decide +kernel
theorem dX2_become_9 : decode cX2_become 9 = .ok (.getfield 9, 3) := by decide +kernel
theorem dX2_become_12 : decode cX2_become 12 = .ok (.iconst 0, 1) := by decide +kernel
theorem dX2_become_13 : decode cX2_become 13 = .ok (.aload_n 0, 1) := by decide +kernel
theorem dX2_become_14 : decode cX2_become 14 = .ok (.getfield 9, 3) := by decide +kernel
theorem dX2_become_17 : decode cX2_become 17 = .ok (.iconst 0, 1) := by decide +kernel
theorem dX2_become_18 : decode cX2_become 18 = .ok (.aload_n 0, 1) := by decide +kernel
theorem dX2_become_19 : decode cX2_become 19 = .ok (.getfield 18, 3) := by decide +kernel
theorem dX2_become_22 : decode cX2_become 22 = .ok (.invokestatic 29, 3) := by decide +kernel
theorem dX2_become_25 : decode cX2_become 25 = .ok (.aload_n 1, 1) := by decide +kernel
theorem dX2_become_26 : decode cX2_become 26 = .ok (.getfield 15, 3) := by decide +kernel
theorem dX2_become_29 : decode cX2_become 29 = .ok (.iconst 0, 1) := by decide +kernel
theorem dX2_become_30 : decode cX2_become 30 = .ok (.aload_n 0, 1) := by decide +kernel
theorem dX2_become_31 : decode cX2_become 31 = .ok (.getfield 15, 3) := by decide +kernel
theorem dX2_become_34 : decode cX2_become 34 = .ok (.iconst 0, 1) := by decide +kernel
theorem dX2_become_35 : decode cX2_become 35 = .ok (.aload_n 0, 1) := by decide +kernel
theorem dX2_become_36 : decode cX2_become 36 = .ok (.getfield 18, 3) := by decide +kernel
theorem dX2_become_39 : decode cX2_become 39 = .ok (.invokestatic 29, 3) := by decide +kernel
theorem dX2_become_42 : decode cX2_become 42 = .ok (.return_, 1) := by decide +kernel
theorem ins_cpy {f : Nat → Int32} {j cn : Nat} {v : Int32} (hj : j ≤ cn) : ∀ k, k ≤ cn → upd (va_cpy f f j (j + 1) (cn - j)) j v k = if k < j then f k else if k = j then v else f (k - 1) := by
  intro k hk
  by_cases h1 : k < j
  · rw [if_pos h1, pk_un (by omega), cpy_out (by omega)]
  · rw [if_neg h1]
    by_cases h2 : k = j
    · rw [if_pos h2, h2, pk_us]
    · rw [if_neg h2, pk_un h2, cpy_in (by omega) (by omega)]
      exact congrArg f (by omega)
theorem rem_cpy {f : Nat → Int32} {j cn : Nat} (hj : j < cn) : ∀ k, k < cn - 1 → va_cpy f f (j + 1) j (cn - j - 1) k = if k < j then f k else f (k + 1) := by
  intro k hk
  by_cases h1 : k < j
  · rw [if_pos h1, cpy_out (by omega)]
  · rw [if_neg h1, cpy_in (by omega) (by omega)]
    exact congrArg f (by omega)
def own_k_kinsert : List Cond := [.fieldLink RX2 18 "ClashFree$Keys" "size" "I", .fieldLink RX2 9 "ClashFree$Keys" "keys" "[I", .methodLink RX2 29 arraycopyName, .native arraycopyName, .static arraycopyName, .initialized "java/lang/System", .fieldLink RX2 15 "ClashFree$Keys" "values" "[I"]
def wp_k_kinsert : List Cond := .code yX2_insert cX2_insert 4 none :: (own_k_kinsert ++ (wsX20 ++ ([] : List Cond)))
set_option maxRecDepth 20000 in
theorem inown_k_kinsert : ∀ w ∈ own_k_kinsert, w ∈ lw_tbl := mem_places [472, 478, 676, 671, 670, 119, 480] (by decide +kernel)
set_option maxRecDepth 20000 in
theorem in_k_kinsert : ∀ w ∈ wp_k_kinsert, w ∈ lw_tbl := List.forall_mem_cons.mpr ⟨List.mem_of_getElem? (i := 675) (by decide +kernel), List.forall_mem_append.mpr ⟨inown_k_kinsert, List.forall_mem_append.mpr ⟨lwb_X2, fun _ h => absurd h List.not_mem_nil⟩⟩⟩
set_option maxRecDepth 20000 in
theorem good_k_kinsert : wp_k_kinsert.all goodWord = true := by decide +kernel
set_option maxHeartbeats 4000000 in
set_option maxRecDepth 100000 in
theorem k_kinsert (l : Launch) (D : va_G) (sz : Nat) (oc : Nat → Nat) (cI : ClassId) (cn : Nat) (fk : Nat → Int32) (fv : Nat → Int32) (z1 : Int32) (kx : Nat) (z3 : Int32) (hKc : KyC fk cn) (hkx : kx < 2147483647) : Met l yX2_insert wp_k_kinsert ({ frames := 1, cells := 0, slots := 0, locals := 40 }) (PcWC D [.ref (oc 2), .int z1, .int (nI kx), .int z3] sz [(oc 2, .inr (2, [.int (nI cn), .ref (oc 3), .ref (oc 4)])), (oc 3, .inl (cI, 160, .inl fk)), (oc 4, .inl (cI, 160, .inl fv))] [(cI, .int)]) (va_Qv (fun (u : (Nat) × (Nat → Int32) × (Nat → Int32)) => KyC u.2.1 u.1 ∧ ∀ q, z1 = nI q → q ≤ cn → cn < 160 → u.1 = cn + 1 ∧ (∀ k, k ≤ cn → u.2.1 k = if k < q then fk k else if k = q then nI kx else fk (k - 1)) ∧ (∀ k, k ≤ cn → u.2.2 k = if k < q then fv k else if k = q then z3 else fv (k - 1))) (fun (u : (Nat) × (Nat → Int32) × (Nat → Int32)) t => va_P D vwCl [(oc 2, .inr (2, [.int (nI u.1), .ref (oc 3), .ref (oc 4)])), (oc 3, .inl (cI, 160, .inl u.2.1)), (oc 4, .inl (cI, 160, .inl u.2.2))] t.heap ∧ va_K D vwCl [(cI, .int)] t ∧ va_D (va_A [(oc 2, .inr (2, [.int (nI cn), .ref (oc 3), .ref (oc 4)])), (oc 3, .inl (cI, 160, .inl fk)), (oc 4, .inl (cI, 160, .inl fv))] sz) [(oc 2, .inr (2, [.int (nI u.1), .ref (oc 3), .ref (oc 4)])), (oc 3, .inl (cI, 160, .inl u.2.1)), (oc 4, .inl (cI, 160, .inl u.2.2))]) (va_A [(oc 2, .inr (2, [.int (nI cn), .ref (oc 3), .ref (oc 4)])), (oc 3, .inl (cI, 160, .inl fk)), (oc 4, .inl (cI, 160, .inl fv))] sz)) 0 0 (va_A [(oc 2, .inr (2, [.int (nI cn), .ref (oc 3), .ref (oc 4)])), (oc 3, .inl (cI, 160, .inl fk)), (oc 4, .inl (cI, 160, .inl fv))] sz) := by
  refine Met.ofW (cc := cX2_insert) (maxL := 4) (ret := none) (by decide) rfl ?_
  intro p e s m args below meth c s₁ B hml hv
  obtain ⟨rfl, hsz, hP, hK, hD0, hN⟩ := hv
  have hx := B.exec
  have hb := B.bytes
  have hr := B.returns
  have hts := atoms_spec (ws := wp_k_kinsert) B.pre
  have hin_X2 : ∀ w ∈ wsX20, w ∈ wp_k_kinsert := fun _ h => (List.mem_cons_of_mem _ (List.mem_append_right _ (List.mem_append_left _ h)))
  have hown : s.vm.findClass RX2 = some m.cls := findClass_of_methodNamed B.named
  have hlocks := B.notSynchronized
  subst hsz
  have hD := hD0.self (sz := s.heap.size)
  generalize hAe : va_A [(oc 2, .inr (2, [.int (nI cn), .ref (oc 3), .ref (oc 4)])), (oc 3, .inl (cI, 160, .inl fk)), (oc 4, .inl (cI, 160, .inl fv))] s.heap.size = A at hD ⊢
  have hA : ∀ q : Nat, s.heap.size ≤ q → A q := fun q h => by rw [← hAe]; exact Or.inr h
  have hS : va_S A s.heap s.heap [] := va_S.rf
  have hP : va_P D vwCl [(oc 2, .inr (2, [.int (nI cn), .ref (oc 3), .ref (oc 4)])), (oc 3, .inl (cI, 160, .inl fk)), (oc 4, .inl (cI, 160, .inl fv))] s.heap := hP
  have hl := lv_entry ([.ref (oc 2), .int z1, .int (nI kx), .int z3]) (n := 4) (Nat.le_of_ble_eq_true rfl)
  rw [lg_entry_eq]
  generalize (lg_sl ([.ref (oc 2), .int z1, .int (nI kx), .int z3]) ++ List.replicate (4 - (lg_sl ([.ref (oc 2), .int z1, .int (nI kx), .int z3])).length) Slot.unset).toArray = ls at hl ⊢
  have hl : lv_has ls 4 [(0, .ref (oc 2)), (1, .int z1), (2, .int (nI kx)), (3, .int z3)] := hl
  have hcn := hKc.1
  refine lv_iload_n hx hb dX2_insert_0 rfl (lv_at hl 1 rfl) ?_
  refine lv_if_lt (tgt := 22) hx hb dX2_insert_1 (by decide) (fun hc1 => ?_) (fun hc1 => ?_)
  ·
    exact W.vret hx hb hr (fun t ht hW => ⟨⟨(cn, fk, fv), rfl, (by (try dsimp only); first | done | exact ⟨hKc, fun q e hq hc9 => absurd hc1 (by rw [e]; exact Int32.not_lt.mpr (nI_pos' (by omega)))⟩), by rw [ht]; exact hP.sub [0, 1, 2] rfl, va_K.moved hW.alike (hK.sub [0] rfl), hD.sub [0, 1, 2] (by decide) rfl⟩, hS.F ht⟩) hS.2.2 dX2_insert_22
  ·
    refine lv_iload_n hx hb dX2_insert_4 rfl (lv_at hl 1 rfl) ?_
    refine lv_aload_n hx hb dX2_insert_5 rfl (lv_at hl 0 rfl) ?_
    refine va_get (D := D) (ci := 2) (v := .int (nI cn)) (C := RX2) (T := TX2) (N := 3) hx hb hts hin_X2 hown hK hP 0 rfl rfl 0 (by decide) (hts (.fieldLink RX2 18 "ClashFree$Keys" "size" "I") (List.mem_of_getElem? (i := 1) rfl)) (fun _ h9 => h9) rfl dX2_insert_6 ?_
    refine lv_icmp_gt (tgt := 22) hx hb dX2_insert_9 (by decide) (fun hc2 => ?_) (fun hc2 => ?_)
    ·
      exact W.vret hx hb hr (fun t ht hW => ⟨⟨(cn, fk, fv), rfl, (by (try dsimp only); first | done | exact ⟨hKc, fun q e hq hc9 => absurd hc2 (by rw [e]; exact Int32.not_lt.mpr (nI_le hq (by omega)))⟩), by rw [ht]; exact hP.sub [0, 1, 2] rfl, va_K.moved hW.alike (hK.sub [0] rfl), hD.sub [0, 1, 2] (by decide) rfl⟩, hS.F ht⟩) hS.2.2 dX2_insert_22
    ·
      obtain ⟨j, hj, rfl⟩ := inz_le (by omega) hc1 (Int32.not_lt.mp hc2)
      refine lv_aload_n hx hb dX2_insert_12 rfl (lv_at hl 0 rfl) ?_
      refine va_get (D := D) (ci := 2) (v := .int (nI cn)) (C := RX2) (T := TX2) (N := 3) hx hb hts hin_X2 hown hK hP 0 rfl rfl 0 (by decide) (hts (.fieldLink RX2 18 "ClashFree$Keys" "size" "I") (List.mem_of_getElem? (i := 1) rfl)) (fun _ h9 => h9) rfl dX2_insert_13 ?_
      refine lv_sipush (v := 160) hx hb dX2_insert_16 (by decide) ?_
      refine lv_icmp_lt (tgt := 23) hx hb dX2_insert_19 (by decide) (fun hc3 => ?_) (fun hc3 => ?_)
      ·
        have hlt : cn < 160 := by
          rcases Nat.lt_or_ge cn 160 with z | z
          · exact z
          · exact absurd hc3 (Int32.not_lt.mpr (nI_le (a := 160) z (by omega)))
        refine lv_aload_n hx hb dX2_insert_23 rfl (lv_at hl 0 rfl) ?_
        refine va_get (D := D) (ci := 2) (v := .ref (oc 3)) (C := RX2) (T := TX2) (N := 3) hx hb hts hin_X2 hown hK hP 0 rfl rfl 1 (by decide) (hts (.fieldLink RX2 9 "ClashFree$Keys" "keys" "[I") (List.mem_of_getElem? (i := 2) rfl)) (fun _ h9 => h9) rfl dX2_insert_24 ?_
        refine lv_iload_n hx hb dX2_insert_27 rfl (lv_at hl 1 rfl) ?_
        refine lv_aload_n hx hb dX2_insert_28 rfl (lv_at hl 0 rfl) ?_
        refine va_get (D := D) (ci := 2) (v := .ref (oc 3)) (C := RX2) (T := TX2) (N := 3) hx hb hts hin_X2 hown hK hP 0 rfl rfl 1 (by decide) (hts (.fieldLink RX2 9 "ClashFree$Keys" "keys" "[I") (List.mem_of_getElem? (i := 2) rfl)) (fun _ h9 => h9) rfl dX2_insert_29 ?_
        refine lv_iload_n hx hb dX2_insert_32 rfl (lv_at hl 1 rfl) ?_
        refine lv_iconst (v := 1) hx hb dX2_insert_33 (by decide) ?_
        refine lv_iadd hx hb dX2_insert_34 ?_
        refine lv_topi (fun v4 ev4 => ?_)
        obtain rfl : v4 = nI (j + 1) := ev4.trans (nI_1 _)
        refine lv_aload_n hx hb dX2_insert_35 rfl (lv_at hl 0 rfl) ?_
        refine va_get (D := D) (ci := 2) (v := .int (nI cn)) (C := RX2) (T := TX2) (N := 3) hx hb hts hin_X2 hown hK hP 0 rfl rfl 0 (by decide) (hts (.fieldLink RX2 18 "ClashFree$Keys" "size" "I") (List.mem_of_getElem? (i := 1) rfl)) (fun _ h9 => h9) rfl dX2_insert_36 ?_
        refine lv_iload_n hx hb dX2_insert_39 rfl (lv_at hl 1 rfl) ?_
        refine lv_isub hx hb dX2_insert_40 ?_
        refine lv_topi (fun v5 ev5 => ?_)
        obtain rfl : v5 = nI (cn - j) := ev5.trans (pk_sub (by omega))
        refine va_copyi (ty := .int) hx hb (hml.trans hl.1.symm) hown (hts (.methodLink RX2 29 arraycopyName) (List.mem_of_getElem? (i := 3) rfl)) (hts (.native arraycopyName) (List.mem_of_getElem? (i := 4) rfl)) (hts (.static arraycopyName) (List.mem_of_getElem? (i := 5) rfl)) (hts (.initialized "java/lang/System") (List.mem_of_getElem? (i := 6) rfl)) hK hP hD hS 1 1 0 0 rfl rfl rfl rfl rfl (Int32.not_lt.mpr (nI_pos' (by omega))) (Int32.not_lt.mpr (nI_pos' (by omega))) (Int32.not_lt.mpr (nI_pos' (by omega))) (by rw [nI_clamp (n := j) (by omega), nI_clamp (n := (cn - j)) (by omega)]; omega) (by rw [nI_clamp (n := (j + 1)) (by omega), nI_clamp (n := (cn - j)) (by omega)]; omega) (fun _ _ => rfl) (Nat.le_of_ble_eq_true rfl) (Nat.le_of_ble_eq_true rfl) dX2_insert_41 (fun H locs hP hD hS => ?_)
        have hP : va_P D vwCl [(oc 2, .inr (2, [.int (nI cn), .ref (oc 3), .ref (oc 4)])), (oc 3, .inl (cI, 160, .inl (va_cpy fk fk (Int32.toNatClampNeg (nI j)) (Int32.toNatClampNeg (nI (j + 1))) (Int32.toNatClampNeg (nI (cn - j)))))), (oc 4, .inl (cI, 160, .inl fv))] H := hP
        have hD : va_D A [(oc 2, .inr (2, [.int (nI cn), .ref (oc 3), .ref (oc 4)])), (oc 3, .inl (cI, 160, .inl (va_cpy fk fk (Int32.toNatClampNeg (nI j)) (Int32.toNatClampNeg (nI (j + 1))) (Int32.toNatClampNeg (nI (cn - j)))))), (oc 4, .inl (cI, 160, .inl fv))] := hD
        rw [show (va_cpy fk fk (Int32.toNatClampNeg (nI j)) (Int32.toNatClampNeg (nI (j + 1))) (Int32.toNatClampNeg (nI (cn - j)))) = (va_cpy fk fk j (j + 1) (cn - j)) from by rw [nI_clamp (n := j) (by omega), nI_clamp (n := j + 1) (by omega), nI_clamp (n := cn - j) (by omega)]] at hP hD
        refine lv_aload_n hx hb dX2_insert_44 rfl (lv_at hl 0 rfl) ?_
        refine va_get (D := D) (ci := 2) (v := .ref (oc 4)) (C := RX2) (T := TX2) (N := 3) hx hb hts hin_X2 hown hK hP 0 rfl rfl 2 (by decide) (hts (.fieldLink RX2 15 "ClashFree$Keys" "values" "[I") (List.mem_of_getElem? (i := 7) rfl)) (fun _ h9 => h9) rfl dX2_insert_45 ?_
        refine lv_iload_n hx hb dX2_insert_48 rfl (lv_at hl 1 rfl) ?_
        refine lv_aload_n hx hb dX2_insert_49 rfl (lv_at hl 0 rfl) ?_
        refine va_get (D := D) (ci := 2) (v := .ref (oc 4)) (C := RX2) (T := TX2) (N := 3) hx hb hts hin_X2 hown hK hP 0 rfl rfl 2 (by decide) (hts (.fieldLink RX2 15 "ClashFree$Keys" "values" "[I") (List.mem_of_getElem? (i := 7) rfl)) (fun _ h9 => h9) rfl dX2_insert_50 ?_
        refine lv_iload_n hx hb dX2_insert_53 rfl (lv_at hl 1 rfl) ?_
        refine lv_iconst (v := 1) hx hb dX2_insert_54 (by decide) ?_
        refine lv_iadd hx hb dX2_insert_55 ?_
        refine lv_topi (fun v6 ev6 => ?_)
        obtain rfl : v6 = nI (j + 1) := ev6.trans (nI_1 _)
        refine lv_aload_n hx hb dX2_insert_56 rfl (lv_at hl 0 rfl) ?_
        refine va_get (D := D) (ci := 2) (v := .int (nI cn)) (C := RX2) (T := TX2) (N := 3) hx hb hts hin_X2 hown hK hP 0 rfl rfl 0 (by decide) (hts (.fieldLink RX2 18 "ClashFree$Keys" "size" "I") (List.mem_of_getElem? (i := 1) rfl)) (fun _ h9 => h9) rfl dX2_insert_57 ?_
        refine lv_iload_n hx hb dX2_insert_60 rfl (lv_at hl 1 rfl) ?_
        refine lv_isub hx hb dX2_insert_61 ?_
        refine lv_topi (fun v7 ev7 => ?_)
        obtain rfl : v7 = nI (cn - j) := ev7.trans (pk_sub (by omega))
        refine va_copyi (ty := .int) hx hb (hml.trans hl.1.symm) hown (hts (.methodLink RX2 29 arraycopyName) (List.mem_of_getElem? (i := 3) rfl)) (hts (.native arraycopyName) (List.mem_of_getElem? (i := 4) rfl)) (hts (.static arraycopyName) (List.mem_of_getElem? (i := 5) rfl)) (hts (.initialized "java/lang/System") (List.mem_of_getElem? (i := 6) rfl)) hK hP hD hS 2 2 0 0 rfl rfl rfl rfl rfl (Int32.not_lt.mpr (nI_pos' (by omega))) (Int32.not_lt.mpr (nI_pos' (by omega))) (Int32.not_lt.mpr (nI_pos' (by omega))) (by rw [nI_clamp (n := j) (by omega), nI_clamp (n := (cn - j)) (by omega)]; omega) (by rw [nI_clamp (n := (j + 1)) (by omega), nI_clamp (n := (cn - j)) (by omega)]; omega) (fun _ _ => rfl) (Nat.le_of_ble_eq_true rfl) (Nat.le_of_ble_eq_true rfl) dX2_insert_62 (fun H locs hP hD hS => ?_)
        have hP : va_P D vwCl [(oc 2, .inr (2, [.int (nI cn), .ref (oc 3), .ref (oc 4)])), (oc 3, .inl (cI, 160, .inl (va_cpy fk fk j (j + 1) (cn - j)))), (oc 4, .inl (cI, 160, .inl (va_cpy fv fv (Int32.toNatClampNeg (nI j)) (Int32.toNatClampNeg (nI (j + 1))) (Int32.toNatClampNeg (nI (cn - j))))))] H := hP
        have hD : va_D A [(oc 2, .inr (2, [.int (nI cn), .ref (oc 3), .ref (oc 4)])), (oc 3, .inl (cI, 160, .inl (va_cpy fk fk j (j + 1) (cn - j)))), (oc 4, .inl (cI, 160, .inl (va_cpy fv fv (Int32.toNatClampNeg (nI j)) (Int32.toNatClampNeg (nI (j + 1))) (Int32.toNatClampNeg (nI (cn - j))))))] := hD
        rw [show (va_cpy fv fv (Int32.toNatClampNeg (nI j)) (Int32.toNatClampNeg (nI (j + 1))) (Int32.toNatClampNeg (nI (cn - j)))) = (va_cpy fv fv j (j + 1) (cn - j)) from by rw [nI_clamp (n := j) (by omega), nI_clamp (n := j + 1) (by omega), nI_clamp (n := cn - j) (by omega)]] at hP hD
        refine lv_aload_n hx hb dX2_insert_65 rfl (lv_at hl 0 rfl) ?_
        refine va_get (D := D) (ci := 2) (v := .ref (oc 3)) (C := RX2) (T := TX2) (N := 3) hx hb hts hin_X2 hown hK hP 0 rfl rfl 1 (by decide) (hts (.fieldLink RX2 9 "ClashFree$Keys" "keys" "[I") (List.mem_of_getElem? (i := 2) rfl)) (fun _ h9 => h9) rfl dX2_insert_66 ?_
        refine lv_iload_n hx hb dX2_insert_69 rfl (lv_at hl 1 rfl) ?_
        refine lv_iload_n hx hb dX2_insert_70 rfl (lv_at hl 2 rfl) ?_
        refine va_iast hx hb hK hP hD hS 1 0 rfl rfl (vp_in_nI (by omega) (by decide)) dX2_insert_71 (fun H locs hP hD hS => ?_)
        have hP : va_P D vwCl [(oc 2, .inr (2, [.int (nI cn), .ref (oc 3), .ref (oc 4)])), (oc 3, .inl (cI, 160, .inl (upd (va_cpy fk fk j (j + 1) (cn - j)) (Int32.toNatClampNeg (nI j)) (nI kx)))), (oc 4, .inl (cI, 160, .inl (va_cpy fv fv j (j + 1) (cn - j))))] H := hP
        have hD : va_D A [(oc 2, .inr (2, [.int (nI cn), .ref (oc 3), .ref (oc 4)])), (oc 3, .inl (cI, 160, .inl (upd (va_cpy fk fk j (j + 1) (cn - j)) (Int32.toNatClampNeg (nI j)) (nI kx)))), (oc 4, .inl (cI, 160, .inl (va_cpy fv fv j (j + 1) (cn - j))))] := hD
        rw [show (upd (va_cpy fk fk j (j + 1) (cn - j)) (Int32.toNatClampNeg (nI j)) (nI kx)) = (upd (va_cpy fk fk j (j + 1) (cn - j)) j (nI kx)) from by rw [nI_clamp (by omega)]] at hP hD
        refine lv_aload_n hx hb dX2_insert_72 rfl (lv_at hl 0 rfl) ?_
        refine va_get (D := D) (ci := 2) (v := .ref (oc 4)) (C := RX2) (T := TX2) (N := 3) hx hb hts hin_X2 hown hK hP 0 rfl rfl 2 (by decide) (hts (.fieldLink RX2 15 "ClashFree$Keys" "values" "[I") (List.mem_of_getElem? (i := 7) rfl)) (fun _ h9 => h9) rfl dX2_insert_73 ?_
        refine lv_iload_n hx hb dX2_insert_76 rfl (lv_at hl 1 rfl) ?_
        refine lv_iload_n hx hb dX2_insert_77 rfl (lv_at hl 3 rfl) ?_
        refine va_iast hx hb hK hP hD hS 2 0 rfl rfl (vp_in_nI (by omega) (by decide)) dX2_insert_78 (fun H locs hP hD hS => ?_)
        have hP : va_P D vwCl [(oc 2, .inr (2, [.int (nI cn), .ref (oc 3), .ref (oc 4)])), (oc 3, .inl (cI, 160, .inl (upd (va_cpy fk fk j (j + 1) (cn - j)) j (nI kx)))), (oc 4, .inl (cI, 160, .inl (upd (va_cpy fv fv j (j + 1) (cn - j)) (Int32.toNatClampNeg (nI j)) z3)))] H := hP
        have hD : va_D A [(oc 2, .inr (2, [.int (nI cn), .ref (oc 3), .ref (oc 4)])), (oc 3, .inl (cI, 160, .inl (upd (va_cpy fk fk j (j + 1) (cn - j)) j (nI kx)))), (oc 4, .inl (cI, 160, .inl (upd (va_cpy fv fv j (j + 1) (cn - j)) (Int32.toNatClampNeg (nI j)) z3)))] := hD
        rw [show (upd (va_cpy fv fv j (j + 1) (cn - j)) (Int32.toNatClampNeg (nI j)) z3) = (upd (va_cpy fv fv j (j + 1) (cn - j)) j z3) from by rw [nI_clamp (by omega)]] at hP hD
        refine lv_aload_n hx hb dX2_insert_79 rfl (lv_at hl 0 rfl) ?_
        refine lv_dup hx hb dX2_insert_80 rfl ?_
        refine va_get (D := D) (ci := 2) (v := .int (nI cn)) (C := RX2) (T := TX2) (N := 3) hx hb hts hin_X2 hown hK hP 0 rfl rfl 0 (by decide) (hts (.fieldLink RX2 18 "ClashFree$Keys" "size" "I") (List.mem_of_getElem? (i := 1) rfl)) (fun _ h9 => h9) rfl dX2_insert_81 ?_
        refine lv_iconst (v := 1) hx hb dX2_insert_84 (by decide) ?_
        refine lv_iadd hx hb dX2_insert_85 ?_
        refine lv_topi (fun v8 ev8 => ?_)
        obtain rfl : v8 = nI (cn + 1) := ev8.trans (nI_1 _)
        refine va_put (D := D) (ci := 2) (v := .int (nI (cn + 1))) (ty := .int) (C := RX2) (T := TX2) (N := 3) hx hb hts hin_X2 tyX2 tyX2_ok nmX2 hown hK hP hD hS 0 rfl rfl 0 (by decide) (hts (.fieldLink RX2 18 "ClashFree$Keys" "size" "I") (List.mem_of_getElem? (i := 1) rfl)) (fun _ h9 => h9) rfl (by decide +kernel) rfl rfl (Nat.le_of_ble_eq_true rfl) dX2_insert_86 (fun H locs hP hD hS => ?_)
        have hP : va_P D vwCl [(oc 2, .inr (2, [.int (nI (cn + 1)), .ref (oc 3), .ref (oc 4)])), (oc 3, .inl (cI, 160, .inl (upd (va_cpy fk fk j (j + 1) (cn - j)) j (nI kx)))), (oc 4, .inl (cI, 160, .inl (upd (va_cpy fv fv j (j + 1) (cn - j)) j z3)))] H := hP
        have hD : va_D A [(oc 2, .inr (2, [.int (nI (cn + 1)), .ref (oc 3), .ref (oc 4)])), (oc 3, .inl (cI, 160, .inl (upd (va_cpy fk fk j (j + 1) (cn - j)) j (nI kx)))), (oc 4, .inl (cI, 160, .inl (upd (va_cpy fv fv j (j + 1) (cn - j)) j z3)))] := hD
        exact W.vret hx hb hr (fun t ht hW => ⟨⟨((cn + 1), (upd (va_cpy fk fk j (j + 1) (cn - j)) j (nI kx)), (upd (va_cpy fv fv j (j + 1) (cn - j)) j z3)), rfl, (by (try dsimp only); first | done | exact ⟨KyC_ins hKc hlt hj hkx (ins_cpy hj), fun q e hq _ => by
            obtain rfl := (nI_eq (by omega) (by omega)).mp e
            exact ⟨rfl, ins_cpy hj, ins_cpy hj⟩⟩), by rw [ht]; exact hP.sub [0, 1, 2] rfl, va_K.moved hW.alike (hK.sub [0] rfl), hD.sub [0, 1, 2] (by decide) rfl⟩, hS.F ht⟩) hS.2.2 dX2_insert_89
      ·
        exact W.vret hx hb hr (fun t ht hW => ⟨⟨(cn, fk, fv), rfl, (by (try dsimp only); first | done | exact ⟨hKc, fun q e hq hc9 => absurd (nI_lt (b := 160) hc9 (by decide)) hc3⟩), by rw [ht]; exact hP.sub [0, 1, 2] rfl, va_K.moved hW.alike (hK.sub [0] rfl), hD.sub [0, 1, 2] (by decide) rfl⟩, hS.F ht⟩) hS.2.2 dX2_insert_22

def own_k_kremove : List Cond := [.fieldLink RX2 18 "ClashFree$Keys" "size" "I", .fieldLink RX2 9 "ClashFree$Keys" "keys" "[I", .methodLink RX2 29 arraycopyName, .native arraycopyName, .static arraycopyName, .initialized "java/lang/System", .fieldLink RX2 15 "ClashFree$Keys" "values" "[I"]
def wp_k_kremove : List Cond := .code yX2_remove cX2_remove 2 none :: (own_k_kremove ++ (wsX20 ++ ([] : List Cond)))
set_option maxRecDepth 20000 in
theorem inown_k_kremove : ∀ w ∈ own_k_kremove, w ∈ lw_tbl := mem_places [472, 478, 676, 671, 670, 119, 480] (by decide +kernel)
set_option maxRecDepth 20000 in
theorem in_k_kremove : ∀ w ∈ wp_k_kremove, w ∈ lw_tbl := List.forall_mem_cons.mpr ⟨List.mem_of_getElem? (i := 712) (by decide +kernel), List.forall_mem_append.mpr ⟨inown_k_kremove, List.forall_mem_append.mpr ⟨lwb_X2, fun _ h => absurd h List.not_mem_nil⟩⟩⟩
set_option maxRecDepth 20000 in
theorem good_k_kremove : wp_k_kremove.all goodWord = true := by decide +kernel
set_option maxHeartbeats 4000000 in
set_option maxRecDepth 100000 in
theorem k_kremove (l : Launch) (D : va_G) (sz : Nat) (oc : Nat → Nat) (cI : ClassId) (cn : Nat) (fk : Nat → Int32) (fv : Nat → Int32) (z1 : Int32) (hKc : KyC fk cn) : Met l yX2_remove wp_k_kremove ({ frames := 1, cells := 0, slots := 0, locals := 40 }) (PcWC D [.ref (oc 2), .int z1] sz [(oc 2, .inr (2, [.int (nI cn), .ref (oc 3), .ref (oc 4)])), (oc 3, .inl (cI, 160, .inl fk)), (oc 4, .inl (cI, 160, .inl fv))] [(cI, .int)]) (va_Qv (fun (u : (Nat) × (Nat → Int32) × (Nat → Int32)) => KyC u.2.1 u.1 ∧ ∀ q, z1 = nI q → q < cn → u.1 = cn - 1 ∧ (∀ k, k < cn - 1 → u.2.1 k = if k < q then fk k else fk (k + 1)) ∧ (∀ k, k < cn - 1 → u.2.2 k = if k < q then fv k else fv (k + 1))) (fun (u : (Nat) × (Nat → Int32) × (Nat → Int32)) t => va_P D vwCl [(oc 2, .inr (2, [.int (nI u.1), .ref (oc 3), .ref (oc 4)])), (oc 3, .inl (cI, 160, .inl u.2.1)), (oc 4, .inl (cI, 160, .inl u.2.2))] t.heap ∧ va_K D vwCl [(cI, .int)] t ∧ va_D (va_A [(oc 2, .inr (2, [.int (nI cn), .ref (oc 3), .ref (oc 4)])), (oc 3, .inl (cI, 160, .inl fk)), (oc 4, .inl (cI, 160, .inl fv))] sz) [(oc 2, .inr (2, [.int (nI u.1), .ref (oc 3), .ref (oc 4)])), (oc 3, .inl (cI, 160, .inl u.2.1)), (oc 4, .inl (cI, 160, .inl u.2.2))]) (va_A [(oc 2, .inr (2, [.int (nI cn), .ref (oc 3), .ref (oc 4)])), (oc 3, .inl (cI, 160, .inl fk)), (oc 4, .inl (cI, 160, .inl fv))] sz)) 0 0 (va_A [(oc 2, .inr (2, [.int (nI cn), .ref (oc 3), .ref (oc 4)])), (oc 3, .inl (cI, 160, .inl fk)), (oc 4, .inl (cI, 160, .inl fv))] sz) := by
  refine Met.ofW (cc := cX2_remove) (maxL := 2) (ret := none) (by decide) rfl ?_
  intro p e s m args below meth c s₁ B hml hv
  obtain ⟨rfl, hsz, hP, hK, hD0, hN⟩ := hv
  have hx := B.exec
  have hb := B.bytes
  have hr := B.returns
  have hts := atoms_spec (ws := wp_k_kremove) B.pre
  have hin_X2 : ∀ w ∈ wsX20, w ∈ wp_k_kremove := fun _ h => (List.mem_cons_of_mem _ (List.mem_append_right _ (List.mem_append_left _ h)))
  have hown : s.vm.findClass RX2 = some m.cls := findClass_of_methodNamed B.named
  have hlocks := B.notSynchronized
  subst hsz
  have hD := hD0.self (sz := s.heap.size)
  generalize hAe : va_A [(oc 2, .inr (2, [.int (nI cn), .ref (oc 3), .ref (oc 4)])), (oc 3, .inl (cI, 160, .inl fk)), (oc 4, .inl (cI, 160, .inl fv))] s.heap.size = A at hD ⊢
  have hA : ∀ q : Nat, s.heap.size ≤ q → A q := fun q h => by rw [← hAe]; exact Or.inr h
  have hS : va_S A s.heap s.heap [] := va_S.rf
  have hP : va_P D vwCl [(oc 2, .inr (2, [.int (nI cn), .ref (oc 3), .ref (oc 4)])), (oc 3, .inl (cI, 160, .inl fk)), (oc 4, .inl (cI, 160, .inl fv))] s.heap := hP
  have hl := lv_entry ([.ref (oc 2), .int z1]) (n := 2) (Nat.le_of_ble_eq_true rfl)
  rw [lg_entry_eq]
  generalize (lg_sl ([.ref (oc 2), .int z1]) ++ List.replicate (2 - (lg_sl ([.ref (oc 2), .int z1])).length) Slot.unset).toArray = ls at hl ⊢
  have hl : lv_has ls 2 [(0, .ref (oc 2)), (1, .int z1)] := hl
  have hcn := hKc.1
  refine lv_iload_n hx hb dX2_remove_0 rfl (lv_at hl 1 rfl) ?_
  refine lv_if_lt (tgt := 12) hx hb dX2_remove_1 (by decide) (fun hc1 => ?_) (fun hc1 => ?_)
  ·
    exact W.vret hx hb hr (fun t ht hW => ⟨⟨(cn, fk, fv), rfl, (by (try dsimp only); first | done | exact ⟨hKc, fun q e hq => absurd hc1 (by rw [e]; exact Int32.not_lt.mpr (nI_pos' (by omega)))⟩), by rw [ht]; exact hP.sub [0, 1, 2] rfl, va_K.moved hW.alike (hK.sub [0] rfl), hD.sub [0, 1, 2] (by decide) rfl⟩, hS.F ht⟩) hS.2.2 dX2_remove_12
  ·
    refine lv_iload_n hx hb dX2_remove_4 rfl (lv_at hl 1 rfl) ?_
    refine lv_aload_n hx hb dX2_remove_5 rfl (lv_at hl 0 rfl) ?_
    refine va_get (D := D) (ci := 2) (v := .int (nI cn)) (C := RX2) (T := TX2) (N := 3) hx hb hts hin_X2 hown hK hP 0 rfl rfl 0 (by decide) (hts (.fieldLink RX2 18 "ClashFree$Keys" "size" "I") (List.mem_of_getElem? (i := 1) rfl)) (fun _ h9 => h9) rfl dX2_remove_6 ?_
    refine lv_icmp_lt (tgt := 13) hx hb dX2_remove_9 (by decide) (fun hc2 => ?_) (fun hc2 => ?_)
    ·
      obtain ⟨j, hj, rfl⟩ := inz (by omega) hc1 (hc2)
      refine lv_aload_n hx hb dX2_remove_13 rfl (lv_at hl 0 rfl) ?_
      refine va_get (D := D) (ci := 2) (v := .ref (oc 3)) (C := RX2) (T := TX2) (N := 3) hx hb hts hin_X2 hown hK hP 0 rfl rfl 1 (by decide) (hts (.fieldLink RX2 9 "ClashFree$Keys" "keys" "[I") (List.mem_of_getElem? (i := 2) rfl)) (fun _ h9 => h9) rfl dX2_remove_14 ?_
      refine lv_iload_n hx hb dX2_remove_17 rfl (lv_at hl 1 rfl) ?_
      refine lv_iconst (v := 1) hx hb dX2_remove_18 (by decide) ?_
      refine lv_iadd hx hb dX2_remove_19 ?_
      refine lv_topi (fun v3 ev3 => ?_)
      obtain rfl : v3 = nI (j + 1) := ev3.trans (nI_1 _)
      refine lv_aload_n hx hb dX2_remove_20 rfl (lv_at hl 0 rfl) ?_
      refine va_get (D := D) (ci := 2) (v := .ref (oc 3)) (C := RX2) (T := TX2) (N := 3) hx hb hts hin_X2 hown hK hP 0 rfl rfl 1 (by decide) (hts (.fieldLink RX2 9 "ClashFree$Keys" "keys" "[I") (List.mem_of_getElem? (i := 2) rfl)) (fun _ h9 => h9) rfl dX2_remove_21 ?_
      refine lv_iload_n hx hb dX2_remove_24 rfl (lv_at hl 1 rfl) ?_
      refine lv_aload_n hx hb dX2_remove_25 rfl (lv_at hl 0 rfl) ?_
      refine va_get (D := D) (ci := 2) (v := .int (nI cn)) (C := RX2) (T := TX2) (N := 3) hx hb hts hin_X2 hown hK hP 0 rfl rfl 0 (by decide) (hts (.fieldLink RX2 18 "ClashFree$Keys" "size" "I") (List.mem_of_getElem? (i := 1) rfl)) (fun _ h9 => h9) rfl dX2_remove_26 ?_
      refine lv_iload_n hx hb dX2_remove_29 rfl (lv_at hl 1 rfl) ?_
      refine lv_isub hx hb dX2_remove_30 ?_
      refine lv_topi (fun v4 ev4 => ?_)
      obtain rfl : v4 = nI (cn - j) := ev4.trans (pk_sub (by omega))
      refine lv_iconst (v := 1) hx hb dX2_remove_31 (by decide) ?_
      refine lv_isub hx hb dX2_remove_32 ?_
      refine lv_topi (fun v5 ev5 => ?_)
      obtain rfl : v5 = nI (cn - j - 1) := ev5.trans (pk_sub (b := 1) (by omega))
      refine va_copyi (ty := .int) hx hb (hml.trans hl.1.symm) hown (hts (.methodLink RX2 29 arraycopyName) (List.mem_of_getElem? (i := 3) rfl)) (hts (.native arraycopyName) (List.mem_of_getElem? (i := 4) rfl)) (hts (.static arraycopyName) (List.mem_of_getElem? (i := 5) rfl)) (hts (.initialized "java/lang/System") (List.mem_of_getElem? (i := 6) rfl)) hK hP hD hS 1 1 0 0 rfl rfl rfl rfl rfl (Int32.not_lt.mpr (nI_pos' (by omega))) (Int32.not_lt.mpr (nI_pos' (by omega))) (Int32.not_lt.mpr (nI_pos' (by omega))) (by rw [nI_clamp (n := (j + 1)) (by omega), nI_clamp (n := (cn - j - 1)) (by omega)]; omega) (by rw [nI_clamp (n := j) (by omega), nI_clamp (n := (cn - j - 1)) (by omega)]; omega) (fun _ _ => rfl) (Nat.le_of_ble_eq_true rfl) (Nat.le_of_ble_eq_true rfl) dX2_remove_33 (fun H locs hP hD hS => ?_)
      have hP : va_P D vwCl [(oc 2, .inr (2, [.int (nI cn), .ref (oc 3), .ref (oc 4)])), (oc 3, .inl (cI, 160, .inl (va_cpy fk fk (Int32.toNatClampNeg (nI (j + 1))) (Int32.toNatClampNeg (nI j)) (Int32.toNatClampNeg (nI (cn - j - 1)))))), (oc 4, .inl (cI, 160, .inl fv))] H := hP
      have hD : va_D A [(oc 2, .inr (2, [.int (nI cn), .ref (oc 3), .ref (oc 4)])), (oc 3, .inl (cI, 160, .inl (va_cpy fk fk (Int32.toNatClampNeg (nI (j + 1))) (Int32.toNatClampNeg (nI j)) (Int32.toNatClampNeg (nI (cn - j - 1)))))), (oc 4, .inl (cI, 160, .inl fv))] := hD
      rw [show (va_cpy fk fk (Int32.toNatClampNeg (nI (j + 1))) (Int32.toNatClampNeg (nI j)) (Int32.toNatClampNeg (nI (cn - j - 1)))) = (va_cpy fk fk (j + 1) j (cn - j - 1)) from by rw [nI_clamp (n := j) (by omega), nI_clamp (n := j + 1) (by omega), nI_clamp (n := cn - j - 1) (by omega)]] at hP hD
      refine lv_aload_n hx hb dX2_remove_36 rfl (lv_at hl 0 rfl) ?_
      refine va_get (D := D) (ci := 2) (v := .ref (oc 4)) (C := RX2) (T := TX2) (N := 3) hx hb hts hin_X2 hown hK hP 0 rfl rfl 2 (by decide) (hts (.fieldLink RX2 15 "ClashFree$Keys" "values" "[I") (List.mem_of_getElem? (i := 7) rfl)) (fun _ h9 => h9) rfl dX2_remove_37 ?_
      refine lv_iload_n hx hb dX2_remove_40 rfl (lv_at hl 1 rfl) ?_
      refine lv_iconst (v := 1) hx hb dX2_remove_41 (by decide) ?_
      refine lv_iadd hx hb dX2_remove_42 ?_
      refine lv_topi (fun v6 ev6 => ?_)
      obtain rfl : v6 = nI (j + 1) := ev6.trans (nI_1 _)
      refine lv_aload_n hx hb dX2_remove_43 rfl (lv_at hl 0 rfl) ?_
      refine va_get (D := D) (ci := 2) (v := .ref (oc 4)) (C := RX2) (T := TX2) (N := 3) hx hb hts hin_X2 hown hK hP 0 rfl rfl 2 (by decide) (hts (.fieldLink RX2 15 "ClashFree$Keys" "values" "[I") (List.mem_of_getElem? (i := 7) rfl)) (fun _ h9 => h9) rfl dX2_remove_44 ?_
      refine lv_iload_n hx hb dX2_remove_47 rfl (lv_at hl 1 rfl) ?_
      refine lv_aload_n hx hb dX2_remove_48 rfl (lv_at hl 0 rfl) ?_
      refine va_get (D := D) (ci := 2) (v := .int (nI cn)) (C := RX2) (T := TX2) (N := 3) hx hb hts hin_X2 hown hK hP 0 rfl rfl 0 (by decide) (hts (.fieldLink RX2 18 "ClashFree$Keys" "size" "I") (List.mem_of_getElem? (i := 1) rfl)) (fun _ h9 => h9) rfl dX2_remove_49 ?_
      refine lv_iload_n hx hb dX2_remove_52 rfl (lv_at hl 1 rfl) ?_
      refine lv_isub hx hb dX2_remove_53 ?_
      refine lv_topi (fun v7 ev7 => ?_)
      obtain rfl : v7 = nI (cn - j) := ev7.trans (pk_sub (by omega))
      refine lv_iconst (v := 1) hx hb dX2_remove_54 (by decide) ?_
      refine lv_isub hx hb dX2_remove_55 ?_
      refine lv_topi (fun v8 ev8 => ?_)
      obtain rfl : v8 = nI (cn - j - 1) := ev8.trans (pk_sub (b := 1) (by omega))
      refine va_copyi (ty := .int) hx hb (hml.trans hl.1.symm) hown (hts (.methodLink RX2 29 arraycopyName) (List.mem_of_getElem? (i := 3) rfl)) (hts (.native arraycopyName) (List.mem_of_getElem? (i := 4) rfl)) (hts (.static arraycopyName) (List.mem_of_getElem? (i := 5) rfl)) (hts (.initialized "java/lang/System") (List.mem_of_getElem? (i := 6) rfl)) hK hP hD hS 2 2 0 0 rfl rfl rfl rfl rfl (Int32.not_lt.mpr (nI_pos' (by omega))) (Int32.not_lt.mpr (nI_pos' (by omega))) (Int32.not_lt.mpr (nI_pos' (by omega))) (by rw [nI_clamp (n := (j + 1)) (by omega), nI_clamp (n := (cn - j - 1)) (by omega)]; omega) (by rw [nI_clamp (n := j) (by omega), nI_clamp (n := (cn - j - 1)) (by omega)]; omega) (fun _ _ => rfl) (Nat.le_of_ble_eq_true rfl) (Nat.le_of_ble_eq_true rfl) dX2_remove_56 (fun H locs hP hD hS => ?_)
      have hP : va_P D vwCl [(oc 2, .inr (2, [.int (nI cn), .ref (oc 3), .ref (oc 4)])), (oc 3, .inl (cI, 160, .inl (va_cpy fk fk (j + 1) j (cn - j - 1)))), (oc 4, .inl (cI, 160, .inl (va_cpy fv fv (Int32.toNatClampNeg (nI (j + 1))) (Int32.toNatClampNeg (nI j)) (Int32.toNatClampNeg (nI (cn - j - 1))))))] H := hP
      have hD : va_D A [(oc 2, .inr (2, [.int (nI cn), .ref (oc 3), .ref (oc 4)])), (oc 3, .inl (cI, 160, .inl (va_cpy fk fk (j + 1) j (cn - j - 1)))), (oc 4, .inl (cI, 160, .inl (va_cpy fv fv (Int32.toNatClampNeg (nI (j + 1))) (Int32.toNatClampNeg (nI j)) (Int32.toNatClampNeg (nI (cn - j - 1))))))] := hD
      rw [show (va_cpy fv fv (Int32.toNatClampNeg (nI (j + 1))) (Int32.toNatClampNeg (nI j)) (Int32.toNatClampNeg (nI (cn - j - 1)))) = (va_cpy fv fv (j + 1) j (cn - j - 1)) from by rw [nI_clamp (n := j) (by omega), nI_clamp (n := j + 1) (by omega), nI_clamp (n := cn - j - 1) (by omega)]] at hP hD
      refine lv_aload_n hx hb dX2_remove_59 rfl (lv_at hl 0 rfl) ?_
      refine lv_dup hx hb dX2_remove_60 rfl ?_
      refine va_get (D := D) (ci := 2) (v := .int (nI cn)) (C := RX2) (T := TX2) (N := 3) hx hb hts hin_X2 hown hK hP 0 rfl rfl 0 (by decide) (hts (.fieldLink RX2 18 "ClashFree$Keys" "size" "I") (List.mem_of_getElem? (i := 1) rfl)) (fun _ h9 => h9) rfl dX2_remove_61 ?_
      refine lv_iconst (v := 1) hx hb dX2_remove_64 (by decide) ?_
      refine lv_isub hx hb dX2_remove_65 ?_
      refine lv_topi (fun v9 ev9 => ?_)
      obtain rfl : v9 = nI (cn - 1) := ev9.trans (pk_sub (b := 1) (by omega))
      refine va_put (D := D) (ci := 2) (v := .int (nI (cn - 1))) (ty := .int) (C := RX2) (T := TX2) (N := 3) hx hb hts hin_X2 tyX2 tyX2_ok nmX2 hown hK hP hD hS 0 rfl rfl 0 (by decide) (hts (.fieldLink RX2 18 "ClashFree$Keys" "size" "I") (List.mem_of_getElem? (i := 1) rfl)) (fun _ h9 => h9) rfl (by decide +kernel) rfl rfl (Nat.le_of_ble_eq_true rfl) dX2_remove_66 (fun H locs hP hD hS => ?_)
      have hP : va_P D vwCl [(oc 2, .inr (2, [.int (nI (cn - 1)), .ref (oc 3), .ref (oc 4)])), (oc 3, .inl (cI, 160, .inl (va_cpy fk fk (j + 1) j (cn - j - 1)))), (oc 4, .inl (cI, 160, .inl (va_cpy fv fv (j + 1) j (cn - j - 1))))] H := hP
      have hD : va_D A [(oc 2, .inr (2, [.int (nI (cn - 1)), .ref (oc 3), .ref (oc 4)])), (oc 3, .inl (cI, 160, .inl (va_cpy fk fk (j + 1) j (cn - j - 1)))), (oc 4, .inl (cI, 160, .inl (va_cpy fv fv (j + 1) j (cn - j - 1))))] := hD
      exact W.vret hx hb hr (fun t ht hW => ⟨⟨((cn - 1), (va_cpy fk fk (j + 1) j (cn - j - 1)), (va_cpy fv fv (j + 1) j (cn - j - 1))), rfl, (by (try dsimp only); first | done | exact ⟨KyC_rem hKc hj (rem_cpy hj), fun q e hq => by
          obtain rfl := (nI_eq (by omega) (by omega)).mp e
          exact ⟨rfl, rem_cpy hj, rem_cpy hj⟩⟩), by rw [ht]; exact hP.sub [0, 1, 2] rfl, va_K.moved hW.alike (hK.sub [0] rfl), hD.sub [0, 1, 2] (by decide) rfl⟩, hS.F ht⟩) hS.2.2 dX2_remove_69
    ·
      exact W.vret hx hb hr (fun t ht hW => ⟨⟨(cn, fk, fv), rfl, (by (try dsimp only); first | done | exact ⟨hKc, fun q e hq => absurd (by rw [e]; exact nI_lt hq (by omega)) hc2⟩), by rw [ht]; exact hP.sub [0, 1, 2] rfl, va_K.moved hW.alike (hK.sub [0] rfl), hD.sub [0, 1, 2] (by decide) rfl⟩, hS.F ht⟩) hS.2.2 dX2_remove_12

def own_k_kbecome : List Cond := [.fieldLink RX2 18 "ClashFree$Keys" "size" "I", .fieldLink RX2 9 "ClashFree$Keys" "keys" "[I", .methodLink RX2 29 arraycopyName, .native arraycopyName, .static arraycopyName, .initialized "java/lang/System", .fieldLink RX2 15 "ClashFree$Keys" "values" "[I"]
def wp_k_kbecome : List Cond := .code yX2_become cX2_become 2 none :: (own_k_kbecome ++ (wsX20 ++ ([] : List Cond)))
set_option maxRecDepth 20000 in
theorem inown_k_kbecome : ∀ w ∈ own_k_kbecome, w ∈ lw_tbl := mem_places [472, 478, 676, 671, 670, 119, 480] (by decide +kernel)
set_option maxRecDepth 20000 in
theorem in_k_kbecome : ∀ w ∈ wp_k_kbecome, w ∈ lw_tbl := List.forall_mem_cons.mpr ⟨List.mem_of_getElem? (i := 1193) (by decide +kernel), List.forall_mem_append.mpr ⟨inown_k_kbecome, List.forall_mem_append.mpr ⟨lwb_X2, fun _ h => absurd h List.not_mem_nil⟩⟩⟩
set_option maxRecDepth 20000 in
theorem good_k_kbecome : wp_k_kbecome.all goodWord = true := by decide +kernel
set_option maxHeartbeats 4000000 in
set_option maxRecDepth 100000 in
theorem k_kbecome (l : Launch) (D : va_G) (sz : Nat) (oc : Nat → Nat) (oc2 : Nat → Nat) (cI : ClassId) (cn : Nat) (fk : Nat → Int32) (fv : Nat → Int32) (cn2 : Nat) (fk2 : Nat → Int32) (fv2 : Nat → Int32) (hKc2 : KyC fk2 cn2) : Met l yX2_become wp_k_kbecome ({ frames := 1, cells := 0, slots := 0, locals := 40 }) (PcWC D [.ref (oc 2), .ref (oc2 2)] sz [(oc 2, .inr (2, [.int (nI cn), .ref (oc 3), .ref (oc 4)])), (oc 3, .inl (cI, 160, .inl fk)), (oc 4, .inl (cI, 160, .inl fv)), (oc2 2, .inr (2, [.int (nI cn2), .ref (oc2 3), .ref (oc2 4)])), (oc2 3, .inl (cI, 160, .inl fk2)), (oc2 4, .inl (cI, 160, .inl fv2))] [(cI, .int)]) (va_Qv (fun (u : (Nat) × (Nat → Int32) × (Nat → Int32)) => KyC u.2.1 u.1 ∧ u.1 = cn2 ∧ ∀ j, j < cn2 → u.2.1 j = fk2 j ∧ u.2.2 j = fv2 j) (fun (u : (Nat) × (Nat → Int32) × (Nat → Int32)) t => va_P D vwCl [(oc 2, .inr (2, [.int (nI u.1), .ref (oc 3), .ref (oc 4)])), (oc 3, .inl (cI, 160, .inl u.2.1)), (oc 4, .inl (cI, 160, .inl u.2.2)), (oc2 2, .inr (2, [.int (nI cn2), .ref (oc2 3), .ref (oc2 4)])), (oc2 3, .inl (cI, 160, .inl fk2)), (oc2 4, .inl (cI, 160, .inl fv2))] t.heap ∧ va_K D vwCl [(cI, .int)] t ∧ va_D (va_A [(oc 2, .inr (2, [.int (nI cn), .ref (oc 3), .ref (oc 4)])), (oc 3, .inl (cI, 160, .inl fk)), (oc 4, .inl (cI, 160, .inl fv)), (oc2 2, .inr (2, [.int (nI cn2), .ref (oc2 3), .ref (oc2 4)])), (oc2 3, .inl (cI, 160, .inl fk2)), (oc2 4, .inl (cI, 160, .inl fv2))] sz) [(oc 2, .inr (2, [.int (nI u.1), .ref (oc 3), .ref (oc 4)])), (oc 3, .inl (cI, 160, .inl u.2.1)), (oc 4, .inl (cI, 160, .inl u.2.2)), (oc2 2, .inr (2, [.int (nI cn2), .ref (oc2 3), .ref (oc2 4)])), (oc2 3, .inl (cI, 160, .inl fk2)), (oc2 4, .inl (cI, 160, .inl fv2))]) (va_A [(oc 2, .inr (2, [.int (nI cn), .ref (oc 3), .ref (oc 4)])), (oc 3, .inl (cI, 160, .inl fk)), (oc 4, .inl (cI, 160, .inl fv)), (oc2 2, .inr (2, [.int (nI cn2), .ref (oc2 3), .ref (oc2 4)])), (oc2 3, .inl (cI, 160, .inl fk2)), (oc2 4, .inl (cI, 160, .inl fv2))] sz)) 0 0 (va_A [(oc 2, .inr (2, [.int (nI cn), .ref (oc 3), .ref (oc 4)])), (oc 3, .inl (cI, 160, .inl fk)), (oc 4, .inl (cI, 160, .inl fv)), (oc2 2, .inr (2, [.int (nI cn2), .ref (oc2 3), .ref (oc2 4)])), (oc2 3, .inl (cI, 160, .inl fk2)), (oc2 4, .inl (cI, 160, .inl fv2))] sz) := by
  refine Met.ofW (cc := cX2_become) (maxL := 2) (ret := none) (by decide) rfl ?_
  intro p e s m args below meth c s₁ B hml hv
  obtain ⟨rfl, hsz, hP, hK, hD0, hN⟩ := hv
  have hx := B.exec
  have hb := B.bytes
  have hr := B.returns
  have hts := atoms_spec (ws := wp_k_kbecome) B.pre
  have hin_X2 : ∀ w ∈ wsX20, w ∈ wp_k_kbecome := fun _ h => (List.mem_cons_of_mem _ (List.mem_append_right _ (List.mem_append_left _ h)))
  have hown : s.vm.findClass RX2 = some m.cls := findClass_of_methodNamed B.named
  have hlocks := B.notSynchronized
  subst hsz
  have hD := hD0.self (sz := s.heap.size)
  generalize hAe : va_A [(oc 2, .inr (2, [.int (nI cn), .ref (oc 3), .ref (oc 4)])), (oc 3, .inl (cI, 160, .inl fk)), (oc 4, .inl (cI, 160, .inl fv)), (oc2 2, .inr (2, [.int (nI cn2), .ref (oc2 3), .ref (oc2 4)])), (oc2 3, .inl (cI, 160, .inl fk2)), (oc2 4, .inl (cI, 160, .inl fv2))] s.heap.size = A at hD ⊢
  have hA : ∀ q : Nat, s.heap.size ≤ q → A q := fun q h => by rw [← hAe]; exact Or.inr h
  have hS : va_S A s.heap s.heap [] := va_S.rf
  have hP : va_P D vwCl [(oc 2, .inr (2, [.int (nI cn), .ref (oc 3), .ref (oc 4)])), (oc 3, .inl (cI, 160, .inl fk)), (oc 4, .inl (cI, 160, .inl fv)), (oc2 2, .inr (2, [.int (nI cn2), .ref (oc2 3), .ref (oc2 4)])), (oc2 3, .inl (cI, 160, .inl fk2)), (oc2 4, .inl (cI, 160, .inl fv2))] s.heap := hP
  have hl := lv_entry ([.ref (oc 2), .ref (oc2 2)]) (n := 2) (Nat.le_of_ble_eq_true rfl)
  rw [lg_entry_eq]
  generalize (lg_sl ([.ref (oc 2), .ref (oc2 2)]) ++ List.replicate (2 - (lg_sl ([.ref (oc 2), .ref (oc2 2)])).length) Slot.unset).toArray = ls at hl ⊢
  have hl : lv_has ls 2 [(0, .ref (oc 2)), (1, .ref (oc2 2))] := hl
  have hcn := hKc2.1
  refine lv_aload_n hx hb dX2_become_0 rfl (lv_at hl 0 rfl) ?_
  refine lv_aload_n hx hb dX2_become_1 rfl (lv_at hl 1 rfl) ?_
  refine va_get (D := D) (ci := 2) (v := .int (nI cn2)) (C := RX2) (T := TX2) (N := 3) hx hb hts hin_X2 hown hK hP 3 rfl rfl 0 (by decide) (hts (.fieldLink RX2 18 "ClashFree$Keys" "size" "I") (List.mem_of_getElem? (i := 1) rfl)) (fun _ h9 => h9) rfl dX2_become_2 ?_
  refine va_put (D := D) (ci := 2) (v := .int (nI cn2)) (ty := .int) (C := RX2) (T := TX2) (N := 3) hx hb hts hin_X2 tyX2 tyX2_ok nmX2 hown hK hP hD hS 0 rfl rfl 0 (by decide) (hts (.fieldLink RX2 18 "ClashFree$Keys" "size" "I") (List.mem_of_getElem? (i := 1) rfl)) (fun _ h9 => h9) rfl (by decide +kernel) rfl rfl (Nat.le_of_ble_eq_true rfl) dX2_become_5 (fun H locs hP hD hS => ?_)
  have hP : va_P D vwCl [(oc 2, .inr (2, [.int (nI cn2), .ref (oc 3), .ref (oc 4)])), (oc 3, .inl (cI, 160, .inl fk)), (oc 4, .inl (cI, 160, .inl fv)), (oc2 2, .inr (2, [.int (nI cn2), .ref (oc2 3), .ref (oc2 4)])), (oc2 3, .inl (cI, 160, .inl fk2)), (oc2 4, .inl (cI, 160, .inl fv2))] H := hP
  have hD : va_D A [(oc 2, .inr (2, [.int (nI cn2), .ref (oc 3), .ref (oc 4)])), (oc 3, .inl (cI, 160, .inl fk)), (oc 4, .inl (cI, 160, .inl fv)), (oc2 2, .inr (2, [.int (nI cn2), .ref (oc2 3), .ref (oc2 4)])), (oc2 3, .inl (cI, 160, .inl fk2)), (oc2 4, .inl (cI, 160, .inl fv2))] := hD
  refine lv_aload_n hx hb dX2_become_8 rfl (lv_at hl 1 rfl) ?_
  refine va_get (D := D) (ci := 2) (v := .ref (oc2 3)) (C := RX2) (T := TX2) (N := 3) hx hb hts hin_X2 hown hK hP 3 rfl rfl 1 (by decide) (hts (.fieldLink RX2 9 "ClashFree$Keys" "keys" "[I") (List.mem_of_getElem? (i := 2) rfl)) (fun _ h9 => h9) rfl dX2_become_9 ?_
  refine lv_iconst (v := 0) hx hb dX2_become_12 (by decide) ?_
  refine lv_aload_n hx hb dX2_become_13 rfl (lv_at hl 0 rfl) ?_
  refine va_get (D := D) (ci := 2) (v := .ref (oc 3)) (C := RX2) (T := TX2) (N := 3) hx hb hts hin_X2 hown hK hP 0 rfl rfl 1 (by decide) (hts (.fieldLink RX2 9 "ClashFree$Keys" "keys" "[I") (List.mem_of_getElem? (i := 2) rfl)) (fun _ h9 => h9) rfl dX2_become_14 ?_
  refine lv_iconst (v := 0) hx hb dX2_become_17 (by decide) ?_
  refine lv_aload_n hx hb dX2_become_18 rfl (lv_at hl 0 rfl) ?_
  refine va_get (D := D) (ci := 2) (v := .int (nI cn2)) (C := RX2) (T := TX2) (N := 3) hx hb hts hin_X2 hown hK hP 0 rfl rfl 0 (by decide) (hts (.fieldLink RX2 18 "ClashFree$Keys" "size" "I") (List.mem_of_getElem? (i := 1) rfl)) (fun _ h9 => h9) rfl dX2_become_19 ?_
  refine va_copyi (ty := .int) hx hb (hml.trans hl.1.symm) hown (hts (.methodLink RX2 29 arraycopyName) (List.mem_of_getElem? (i := 3) rfl)) (hts (.native arraycopyName) (List.mem_of_getElem? (i := 4) rfl)) (hts (.static arraycopyName) (List.mem_of_getElem? (i := 5) rfl)) (hts (.initialized "java/lang/System") (List.mem_of_getElem? (i := 6) rfl)) hK hP hD hS 4 1 0 0 rfl rfl rfl rfl rfl (by decide) (by decide) (Int32.not_lt.mpr (nI_pos' (by omega))) (by rw [nI_clamp (n := cn2) (by omega)]; show 0 + _ ≤ _; omega) (by rw [nI_clamp (n := cn2) (by omega)]; show 0 + _ ≤ _; omega) (fun _ _ => rfl) (Nat.le_of_ble_eq_true rfl) (Nat.le_of_ble_eq_true rfl) dX2_become_22 (fun H locs hP hD hS => ?_)
  have hP : va_P D vwCl [(oc 2, .inr (2, [.int (nI cn2), .ref (oc 3), .ref (oc 4)])), (oc 3, .inl (cI, 160, .inl (va_cpy fk2 fk (Int32.toNatClampNeg 0) (Int32.toNatClampNeg 0) (Int32.toNatClampNeg (nI cn2))))), (oc 4, .inl (cI, 160, .inl fv)), (oc2 2, .inr (2, [.int (nI cn2), .ref (oc2 3), .ref (oc2 4)])), (oc2 3, .inl (cI, 160, .inl fk2)), (oc2 4, .inl (cI, 160, .inl fv2))] H := hP
  have hD : va_D A [(oc 2, .inr (2, [.int (nI cn2), .ref (oc 3), .ref (oc 4)])), (oc 3, .inl (cI, 160, .inl (va_cpy fk2 fk (Int32.toNatClampNeg 0) (Int32.toNatClampNeg 0) (Int32.toNatClampNeg (nI cn2))))), (oc 4, .inl (cI, 160, .inl fv)), (oc2 2, .inr (2, [.int (nI cn2), .ref (oc2 3), .ref (oc2 4)])), (oc2 3, .inl (cI, 160, .inl fk2)), (oc2 4, .inl (cI, 160, .inl fv2))] := hD
  rw [show (va_cpy fk2 fk (Int32.toNatClampNeg 0) (Int32.toNatClampNeg 0) (Int32.toNatClampNeg (nI cn2))) = (va_cpy fk2 fk 0 0 cn2) from by rw [nI_clamp (n := cn2) (by omega)]; rfl] at hP hD
  refine lv_aload_n hx hb dX2_become_25 rfl (lv_at hl 1 rfl) ?_
  refine va_get (D := D) (ci := 2) (v := .ref (oc2 4)) (C := RX2) (T := TX2) (N := 3) hx hb hts hin_X2 hown hK hP 3 rfl rfl 2 (by decide) (hts (.fieldLink RX2 15 "ClashFree$Keys" "values" "[I") (List.mem_of_getElem? (i := 7) rfl)) (fun _ h9 => h9) rfl dX2_become_26 ?_
  refine lv_iconst (v := 0) hx hb dX2_become_29 (by decide) ?_
  refine lv_aload_n hx hb dX2_become_30 rfl (lv_at hl 0 rfl) ?_
  refine va_get (D := D) (ci := 2) (v := .ref (oc 4)) (C := RX2) (T := TX2) (N := 3) hx hb hts hin_X2 hown hK hP 0 rfl rfl 2 (by decide) (hts (.fieldLink RX2 15 "ClashFree$Keys" "values" "[I") (List.mem_of_getElem? (i := 7) rfl)) (fun _ h9 => h9) rfl dX2_become_31 ?_
  refine lv_iconst (v := 0) hx hb dX2_become_34 (by decide) ?_
  refine lv_aload_n hx hb dX2_become_35 rfl (lv_at hl 0 rfl) ?_
  refine va_get (D := D) (ci := 2) (v := .int (nI cn2)) (C := RX2) (T := TX2) (N := 3) hx hb hts hin_X2 hown hK hP 0 rfl rfl 0 (by decide) (hts (.fieldLink RX2 18 "ClashFree$Keys" "size" "I") (List.mem_of_getElem? (i := 1) rfl)) (fun _ h9 => h9) rfl dX2_become_36 ?_
  refine va_copyi (ty := .int) hx hb (hml.trans hl.1.symm) hown (hts (.methodLink RX2 29 arraycopyName) (List.mem_of_getElem? (i := 3) rfl)) (hts (.native arraycopyName) (List.mem_of_getElem? (i := 4) rfl)) (hts (.static arraycopyName) (List.mem_of_getElem? (i := 5) rfl)) (hts (.initialized "java/lang/System") (List.mem_of_getElem? (i := 6) rfl)) hK hP hD hS 5 2 0 0 rfl rfl rfl rfl rfl (by decide) (by decide) (Int32.not_lt.mpr (nI_pos' (by omega))) (by rw [nI_clamp (n := cn2) (by omega)]; show 0 + _ ≤ _; omega) (by rw [nI_clamp (n := cn2) (by omega)]; show 0 + _ ≤ _; omega) (fun _ _ => rfl) (Nat.le_of_ble_eq_true rfl) (Nat.le_of_ble_eq_true rfl) dX2_become_39 (fun H locs hP hD hS => ?_)
  have hP : va_P D vwCl [(oc 2, .inr (2, [.int (nI cn2), .ref (oc 3), .ref (oc 4)])), (oc 3, .inl (cI, 160, .inl (va_cpy fk2 fk 0 0 cn2))), (oc 4, .inl (cI, 160, .inl (va_cpy fv2 fv (Int32.toNatClampNeg 0) (Int32.toNatClampNeg 0) (Int32.toNatClampNeg (nI cn2))))), (oc2 2, .inr (2, [.int (nI cn2), .ref (oc2 3), .ref (oc2 4)])), (oc2 3, .inl (cI, 160, .inl fk2)), (oc2 4, .inl (cI, 160, .inl fv2))] H := hP
  have hD : va_D A [(oc 2, .inr (2, [.int (nI cn2), .ref (oc 3), .ref (oc 4)])), (oc 3, .inl (cI, 160, .inl (va_cpy fk2 fk 0 0 cn2))), (oc 4, .inl (cI, 160, .inl (va_cpy fv2 fv (Int32.toNatClampNeg 0) (Int32.toNatClampNeg 0) (Int32.toNatClampNeg (nI cn2))))), (oc2 2, .inr (2, [.int (nI cn2), .ref (oc2 3), .ref (oc2 4)])), (oc2 3, .inl (cI, 160, .inl fk2)), (oc2 4, .inl (cI, 160, .inl fv2))] := hD
  rw [show (va_cpy fv2 fv (Int32.toNatClampNeg 0) (Int32.toNatClampNeg 0) (Int32.toNatClampNeg (nI cn2))) = (va_cpy fv2 fv 0 0 cn2) from by rw [nI_clamp (n := cn2) (by omega)]; rfl] at hP hD
  exact W.vret hx hb hr (fun t ht hW => ⟨⟨(cn2, (va_cpy fk2 fk 0 0 cn2), (va_cpy fv2 fv 0 0 cn2)), rfl, (by (try dsimp only); first | done | exact ⟨⟨hKc2.1, fun j hj => by rw [cpy_in (Nat.zero_le _) (by omega), Nat.zero_add, Nat.sub_zero]; exact hKc2.2 j hj⟩, rfl, fun j hj => ⟨by rw [cpy_in (Nat.zero_le _) (by omega), Nat.zero_add, Nat.sub_zero], by rw [cpy_in (Nat.zero_le _) (by omega), Nat.zero_add, Nat.sub_zero]⟩⟩), by rw [ht]; exact hP.sub [0, 1, 2, 3, 4, 5] rfl, va_K.moved hW.alike (hK.sub [0] rfl), hD.sub [0, 1, 2, 3, 4, 5] (by decide) rfl⟩, hS.F ht⟩) hS.2.2 dX2_become_42

def own_k_shared : List Cond := [.fieldLink RX2 18 "ClashFree$Keys" "size" "I", .fieldLink RX2 9 "ClashFree$Keys" "keys" "[I", .methodLink RX2 35 yX2_find, .instanceMethod yX2_find, .selects RX2 yX2_find yX2_find, .initialized RX2, .fieldLink RX2 15 "ClashFree$Keys" "values" "[I"]
def wp_k_shared : List Cond := .code yX2_sharedWith cX2_sharedWith 6 (some .int) :: (own_k_shared ++ (wp_k_find ++ (wsX20 ++ ([] : List Cond))))
set_option maxRecDepth 20000 in
theorem inown_k_shared : ∀ w ∈ own_k_shared, w ∈ lw_tbl := mem_places [472, 478, 886, 623, 624, 117, 480] (by decide +kernel)
set_option maxRecDepth 20000 in
theorem in_k_shared : ∀ w ∈ wp_k_shared, w ∈ lw_tbl := List.forall_mem_cons.mpr ⟨List.mem_of_getElem? (i := 885) (by decide +kernel), List.forall_mem_append.mpr ⟨inown_k_shared, List.forall_mem_append.mpr ⟨in_k_find, List.forall_mem_append.mpr ⟨lwb_X2, fun _ h => absurd h List.not_mem_nil⟩⟩⟩⟩
set_option maxRecDepth 20000 in
theorem good_k_shared : wp_k_shared.all goodWord = true := by decide +kernel
set_option maxRecDepth 20000 in
theorem g_k_shared_k_find_35 : GoodIn wp_k_shared (wsV RX2 35 RX2 yX2_find wp_k_find) := goodIn_sub (List.forall_mem_append.mpr ⟨List.forall_mem_cons.mpr ⟨(List.mem_of_getElem? (i := 3) rfl), List.forall_mem_cons.mpr ⟨(List.mem_of_getElem? (i := 4) rfl), List.forall_mem_cons.mpr ⟨(List.mem_of_getElem? (i := 5) rfl), List.forall_mem_cons.mpr ⟨(List.mem_of_getElem? (i := 6) rfl), fun _ h => absurd h List.not_mem_nil⟩⟩⟩⟩, (fun _ h => (List.mem_cons_of_mem _ (List.mem_append_right _ (List.mem_append_left _ h))))⟩) (by decide +kernel)
set_option maxHeartbeats 4000000 in
set_option maxRecDepth 100000 in
theorem lk_shared (l : Launch) {p : Program} {e : Env} {s : State} {m : MethodId} {args : Array Value} {below : List Frame} {meth : Method} {c : Code} {Q : State → Prop} {A : Nat → Prop} (D : va_G) (oc : Nat → Nat) (oc2 : Nat → Nat) (cI : ClassId) (cn : Nat) (fk : Nat → Int32) (fv : Nat → Int32) (cn2 : Nat) (fk2 : Nat → Int32) (fv2 : Nat → Int32) (z2 : Int32) (K : Nat → Nat) (L2 : List (Nat × Int32)) (hc : cn ≤ 160) (hc2 : cn2 ≤ 160) (hKt : KyT fk cn K) (hLt : KvT fk2 fv2 cn2 L2) (hx : p.tables.exec = Jvm.exec) (hb : c.code = cX2_sharedWith) (hml : c.maxLocals = 6) (hown : s.vm.findClass RX2 = some m.cls) (hts : ∀ w ∈ wp_k_shared, w.before args s = true) (hA : ∀ q, s.heap.size ≤ q → A q) (hK : va_K D vwCl [(cI, .int)] s) (hN : NC s) (kx62 : ∀ (y : Nat), ∀ (sn : Nat), ∀ (bx : Nat), ∀ (lx : Nat), (y ≤ cn) → (shF ((tabl cn K fv).drop y) L2 bx lx = shF (tabl cn K fv) L2 0 0) → (z2 = 0 → sn = bx) → (¬ z2 = 0 → sn = lx) → (shF (tabl cn K fv) L2 0 0 = (bx, lx)) → ∀ (H : Heap) (locs : List Loc) (ls : Array Slot), va_P D vwCl [(oc 2, .inr (2, [.int (nI cn), .ref (oc 3), .ref (oc 4)])), (oc 3, .inl (cI, 160, .inl fk)), (oc 4, .inl (cI, 160, .inl fv)), (oc2 2, .inr (2, [.int (nI cn2), .ref (oc2 3), .ref (oc2 4)])), (oc2 3, .inl (cI, 160, .inl fk2)), (oc2 4, .inl (cI, 160, .inl fv2))] H → va_S A s.heap H locs → lv_has ls 6 [(3, .int (nI sn))] → W p l e ({ frames := 2, cells := 0, slots := 0, locals := 60 }) s m args below meth c H locs 0 0 Q (F0 m 62 ls [])) : ∀ (N : Nat), ∀ (y : Nat), ∀ (sn : Nat), ∀ (bx : Nat), ∀ (lx : Nat), (y ≤ cn) → (shF ((tabl cn K fv).drop y) L2 bx lx = shF (tabl cn K fv) L2 0 0) → (z2 = 0 → sn = bx) → (¬ z2 = 0 → sn = lx) → cn - y < N → ∀ (H : Heap) (locs : List Loc) (ls : Array Slot), va_P D vwCl [(oc 2, .inr (2, [.int (nI cn), .ref (oc 3), .ref (oc 4)])), (oc 3, .inl (cI, 160, .inl fk)), (oc 4, .inl (cI, 160, .inl fv)), (oc2 2, .inr (2, [.int (nI cn2), .ref (oc2 3), .ref (oc2 4)])), (oc2 3, .inl (cI, 160, .inl fk2)), (oc2 4, .inl (cI, 160, .inl fv2))] H → va_S A s.heap H locs → lv_has ls 6 [(4, .int (nI y)), (3, .int (nI sn)), (0, .ref (oc 2)), (1, .ref (oc2 2)), (2, .int z2)] → W p l e ({ frames := 2, cells := 0, slots := 0, locals := 60 }) s m args below meth c H locs 0 0 Q (F0 m 5 ls []) := by
  have hin_X2 : ∀ w ∈ wsX20, w ∈ wp_k_shared := fun _ h => (List.mem_cons_of_mem _ (List.mem_append_right _ (List.mem_append_right _ (List.mem_append_left _ h))))
  intro N
  induction N with
  | zero =>
    intro y sn bx lx hy1 hsh hz0 hz1 hm
    exact absurd hm (Nat.not_lt_zero _)
  | succ N ih =>
    intro y sn bx lx hy1 hsh hz0 hz1 hm H locs ls hP hS hl
    refine lv_iload hx hb dX2_sharedWith_5 (lv_at hl 0 rfl) ?_
    refine lv_aload_n hx hb dX2_sharedWith_7 rfl (lv_at hl 2 rfl) ?_
    refine va_get (D := D) (ci := 2) (v := .int (nI cn)) (C := RX2) (T := TX2) (N := 3) hx hb hts hin_X2 hown hK hP 0 rfl rfl 0 (by decide) (hts (.fieldLink RX2 18 "ClashFree$Keys" "size" "I") (List.mem_of_getElem? (i := 1) rfl)) (fun _ h9 => h9) rfl dX2_sharedWith_8 ?_
    refine lv_icmp_ge (tgt := 62) hx hb dX2_sharedWith_11 (by decide) (fun hc1 => ?_) (fun hc1 => ?_)
    ·
      have hlt : cn ≤ y := (nI_leI (by omega) (by omega)).mp hc1
      exact kx62 y sn bx lx (hy1) (hsh) (hz0) (hz1) (by rw [tabl_dnil _ _ hlt] at hsh; exact hsh.symm) H locs ls (hP.sub [0, 1, 2, 3, 4, 5] rfl) hS (lv_sub hl [1] rfl)
    ·
      have hlt : y < cn := by
        rcases Nat.lt_or_ge y (cn) with z | z
        · exact z
        · exact absurd (nI_le z (by omega)) hc1
      have hky := hKt.2.1 y hlt
      rw [tabl_drop _ _ hlt] at hsh
      refine lv_aload_n hx hb dX2_sharedWith_14 rfl (lv_at hl 3 rfl) ?_
      refine lv_aload_n hx hb dX2_sharedWith_15 rfl (lv_at hl 2 rfl) ?_
      refine va_get (D := D) (ci := 2) (v := .ref (oc 3)) (C := RX2) (T := TX2) (N := 3) hx hb hts hin_X2 hown hK hP 0 rfl rfl 1 (by decide) (hts (.fieldLink RX2 9 "ClashFree$Keys" "keys" "[I") (List.mem_of_getElem? (i := 2) rfl)) (fun _ h9 => h9) rfl dX2_sharedWith_16 ?_
      refine lv_iload hx hb dX2_sharedWith_19 (lv_at hl 0 rfl) ?_
      refine va_iald hx hb hK hP 1 0 rfl rfl (vp_in_nI (by omega) (by decide)) dX2_sharedWith_21 ?_
      refine lv_topi (fun v2 ev2 => ?_)
      obtain rfl : v2 = nI (K y) := ev2.trans (by rw [nI_clamp (by omega)]; exact hky.1)
      have hPc := hP.sub (ws' := [(oc2 2, .inr (2, [.int (nI cn2), .ref (oc2 3), .ref (oc2 4)])), (oc2 3, .inl (cI, 160, .inl fk2))]) [3, 4] rfl
      have hKc := hK.sub (tys' := [(cI, .int)]) [0] rfl
      have hFc := va_free0 hS hA
      refine va_calli (va_runV (As := [.int (nI (K y))]) (rest := []) ⟨hx, hb, hml, hown, hts⟩ (k_find l D _ oc2 cI cn2 fk2 (nI (K y)) hc2) (cwV 1 hts g_k_shared_k_find_35 rfl rfl rfl (by decide +kernel) ⟨(Nat.le_of_ble_eq_true rfl), (Nat.le_of_ble_eq_true rfl)⟩) (PcRC_V (q0 := 0) hPc hKc hN rfl rfl) rfl rfl hl.1 rfl (lv_room (Nat.le_of_ble_eq_true rfl)) dX2_sharedWith_22 ⟨(Nat.le_of_ble_eq_true rfl), (Nat.le_of_ble_eq_true rfl)⟩) hS (fun q _ h => hFc q h) hFc (fun r3 uu tt H locs htt hvm hw hB hz1 hk1 hS => ?_)
      have hP := va_keep hP hk1
      try dsimp only at hw
      clear hB hz1 hk1 hFc hPc hKc
      rcases hw with ⟨rfl, hF_rk4⟩ | ⟨erk4_, hF_rk4⟩
      ·
        refine lv_istore (lv' := [(5, .int (-1)), (4, .int (nI y)), (3, .int (nI sn)), (0, .ref (oc 2)), (1, .ref (oc2 2)), (2, .int z2)]) hx hb dX2_sharedWith_25 hl (by decide) rfl (fun ls hl => ?_)
        refine lv_iload hx hb dX2_sharedWith_27 (lv_at hl 0 rfl) ?_
        refine lv_if_lt (tgt := 56) hx hb dX2_sharedWith_29 (by decide) (fun hc => ?_) (fun hc => absurd (by decide) hc)
        refine lv_iinc (v := nI (y + 1)) (lv' := [(4, .int (nI (y + 1))), (5, .int (-1)), (3, .int (nI sn)), (0, .ref (oc 2)), (1, .ref (oc2 2)), (2, .int z2)]) hx hb dX2_sharedWith_56 hl (k := 1) rfl (nI_1 _) (by decide) rfl (fun ls hl => ?_)
        refine lv_goto (tgt := 5) hx hb dX2_sharedWith_59 (by decide) ?_
        exact ih (y + 1) sn bx lx (by omega) ((shF_n (hLt.nf hky.2 hF_rk4).2.1).symm.trans hsh) (hz0) (hz1) (by omega) H locs ls (hP.sub [0, 1, 2, 3, 4, 5] rfl) hS (lv_sub hl [0, 2, 3, 4, 5] rfl)
      ·
        obtain ⟨rk4, erk4, rfl⟩ : ∃ q, q = (rkF fk2 cn2 (nI (K y))) ∧ r3 = nI q := ⟨_, rfl, erk4_⟩
        have hrk4 : rk4 < cn2 := by rw [erk4]; exact hF_rk4.1
        refine lv_istore (lv' := [(5, .int (nI rk4)), (4, .int (nI y)), (3, .int (nI sn)), (0, .ref (oc 2)), (1, .ref (oc2 2)), (2, .int z2)]) hx hb dX2_sharedWith_25 hl (by decide) rfl (fun ls hl => ?_)
        refine lv_iload hx hb dX2_sharedWith_27 (lv_at hl 0 rfl) ?_
        refine lv_if_lt (tgt := 56) hx hb dX2_sharedWith_29 (by decide) (fun hc => absurd hc (Int32.not_lt.mpr (nI_pos' (by omega)))) (fun hc => ?_)
        refine lv_iload_n hx hb dX2_sharedWith_32 rfl (lv_at hl 5 rfl) ?_
        refine lv_if_eq (tgt := 53) hx hb dX2_sharedWith_33 (by decide) (fun hc5 => ?_) (fun hc5 => ?_)
        ·
          refine lv_iinc (v := nI (sn + 1)) (lv' := [(3, .int (nI (sn + 1))), (5, .int (nI rk4)), (4, .int (nI y)), (0, .ref (oc 2)), (1, .ref (oc2 2)), (2, .int z2)]) hx hb dX2_sharedWith_53 hl (k := 2) rfl (nI_1 _) (by decide) rfl (fun ls hl => ?_)
          refine lv_iinc (v := nI (y + 1)) (lv' := [(4, .int (nI (y + 1))), (3, .int (nI (sn + 1))), (5, .int (nI rk4)), (0, .ref (oc 2)), (1, .ref (oc2 2)), (2, .int z2)]) hx hb dX2_sharedWith_56 hl (k := 2) rfl (nI_1 _) (by decide) rfl (fun ls hl => ?_)
          refine lv_goto (tgt := 5) hx hb dX2_sharedWith_59 (by decide) ?_
          have hs2 := (shF_s (hLt.fd hky.2 hF_rk4).2.1).symm.trans hsh
          rw [← erk4] at hs2
          exact ih (y + 1) (sn + 1) (bx + 1) (if fv2 rk4 = fv y then lx + 1 else lx) (by omega) (hs2) (fun _ => by have := hz0 hc5; omega) (fun q => absurd hc5 q) (by omega) H locs ls (hP.sub [0, 1, 2, 3, 4, 5] rfl) hS (lv_sub hl [0, 1, 3, 4, 5] rfl)
        ·
          refine lv_aload_n hx hb dX2_sharedWith_36 rfl (lv_at hl 4 rfl) ?_
          refine va_get (D := D) (ci := 2) (v := .ref (oc2 4)) (C := RX2) (T := TX2) (N := 3) hx hb hts hin_X2 hown hK hP 3 rfl rfl 2 (by decide) (hts (.fieldLink RX2 15 "ClashFree$Keys" "values" "[I") (List.mem_of_getElem? (i := 7) rfl)) (fun _ h9 => h9) rfl dX2_sharedWith_37 ?_
          refine lv_iload hx hb dX2_sharedWith_40 (lv_at hl 0 rfl) ?_
          refine va_iald hx hb hK hP 5 0 rfl rfl (vp_in_nI (by omega) (by decide)) dX2_sharedWith_42 ?_
          refine lv_topi (fun v6 ev6 => ?_)
          obtain rfl : v6 = fv2 rk4 := ev6.trans (by rw [nI_clamp (by omega)])
          refine lv_aload_n hx hb dX2_sharedWith_43 rfl (lv_at hl 3 rfl) ?_
          refine va_get (D := D) (ci := 2) (v := .ref (oc 4)) (C := RX2) (T := TX2) (N := 3) hx hb hts hin_X2 hown hK hP 0 rfl rfl 2 (by decide) (hts (.fieldLink RX2 15 "ClashFree$Keys" "values" "[I") (List.mem_of_getElem? (i := 7) rfl)) (fun _ h9 => h9) rfl dX2_sharedWith_44 ?_
          refine lv_iload hx hb dX2_sharedWith_47 (lv_at hl 1 rfl) ?_
          refine va_iald hx hb hK hP 2 0 rfl rfl (vp_in_nI (by omega) (by decide)) dX2_sharedWith_49 ?_
          refine lv_topi (fun v7 ev7 => ?_)
          obtain rfl : v7 = fv y := ev7.trans (by rw [nI_clamp (by omega)])
          refine lv_icmp_ne (tgt := 56) hx hb dX2_sharedWith_50 (by decide) (fun hc8 => ?_) (fun hc8 => ?_)
          ·
            refine lv_iinc (v := nI (y + 1)) (lv' := [(4, .int (nI (y + 1))), (5, .int (nI rk4)), (3, .int (nI sn)), (0, .ref (oc 2)), (1, .ref (oc2 2)), (2, .int z2)]) hx hb dX2_sharedWith_56 hl (k := 1) rfl (nI_1 _) (by decide) rfl (fun ls hl => ?_)
            refine lv_goto (tgt := 5) hx hb dX2_sharedWith_59 (by decide) ?_
            have hs2 := (shF_s (hLt.fd hky.2 hF_rk4).2.1).symm.trans hsh
            rw [← erk4] at hs2
            exact ih (y + 1) sn (bx + 1) (if fv2 rk4 = fv y then lx + 1 else lx) (by omega) (hs2) (fun q => absurd q hc5) (fun q => by rw [if_neg hc8]; exact hz1 q) (by omega) H locs ls (hP.sub [0, 1, 2, 3, 4, 5] rfl) hS (lv_sub hl [0, 2, 3, 4, 5] rfl)
          ·
            refine lv_iinc (v := nI (sn + 1)) (lv' := [(3, .int (nI (sn + 1))), (5, .int (nI rk4)), (4, .int (nI y)), (0, .ref (oc 2)), (1, .ref (oc2 2)), (2, .int z2)]) hx hb dX2_sharedWith_53 hl (k := 2) rfl (nI_1 _) (by decide) rfl (fun ls hl => ?_)
            refine lv_iinc (v := nI (y + 1)) (lv' := [(4, .int (nI (y + 1))), (3, .int (nI (sn + 1))), (5, .int (nI rk4)), (0, .ref (oc 2)), (1, .ref (oc2 2)), (2, .int z2)]) hx hb dX2_sharedWith_56 hl (k := 2) rfl (nI_1 _) (by decide) rfl (fun ls hl => ?_)
            refine lv_goto (tgt := 5) hx hb dX2_sharedWith_59 (by decide) ?_
            have hs2 := (shF_s (hLt.fd hky.2 hF_rk4).2.1).symm.trans hsh
            rw [← erk4] at hs2
            exact ih (y + 1) (sn + 1) (bx + 1) (if fv2 rk4 = fv y then lx + 1 else lx) (by omega) (hs2) (fun q => absurd q hc5) (fun q => by rw [if_pos hc8]; have := hz1 q; omega) (by omega) H locs ls (hP.sub [0, 1, 2, 3, 4, 5] rfl) hS (lv_sub hl [0, 1, 3, 4, 5] rfl)
set_option maxHeartbeats 4000000 in
set_option maxRecDepth 100000 in
theorem k_shared (l : Launch) (D : va_G) (sz : Nat) (oc : Nat → Nat) (oc2 : Nat → Nat) (cI : ClassId) (cn : Nat) (fk : Nat → Int32) (fv : Nat → Int32) (cn2 : Nat) (fk2 : Nat → Int32) (fv2 : Nat → Int32) (z2 : Int32) (K : Nat → Nat) (L2 : List (Nat × Int32)) (hc : cn ≤ 160) (hc2 : cn2 ≤ 160) (hKt : KyT fk cn K) (hLt : KvT fk2 fv2 cn2 L2) : Met l yX2_sharedWith wp_k_shared ({ frames := 2, cells := 0, slots := 0, locals := 60 }) (PcRC D [.ref (oc 2), .ref (oc2 2), .int z2] sz [(oc 2, .inr (2, [.int (nI cn), .ref (oc 3), .ref (oc 4)])), (oc 3, .inl (cI, 160, .inl fk)), (oc 4, .inl (cI, 160, .inl fv)), (oc2 2, .inr (2, [.int (nI cn2), .ref (oc2 3), .ref (oc2 4)])), (oc2 3, .inl (cI, 160, .inl fk2)), (oc2 4, .inl (cI, 160, .inl fv2))] [(cI, .int)]) (va_Qi (fun (r : Int32) (u : Unit) => (z2 = 0 → r = nI (shF (tabl cn K fv) L2 0 0).1) ∧ (¬ z2 = 0 → r = nI (shF (tabl cn K fv) L2 0 0).2)) (fun (_ : Unit) _ => True) (va_A [] sz)) 0 0 (va_A [] sz) := by
  refine Met.ofW (cc := cX2_sharedWith) (maxL := 6) (ret := (some .int)) (by decide) rfl ?_
  intro p e s m args below meth c s₁ B hml hv
  obtain ⟨rfl, hsz, hP, hK, hN⟩ := hv
  have hx := B.exec
  have hb := B.bytes
  have hr := B.returns
  have hts := atoms_spec (ws := wp_k_shared) B.pre
  have hin_X2 : ∀ w ∈ wsX20, w ∈ wp_k_shared := fun _ h => (List.mem_cons_of_mem _ (List.mem_append_right _ (List.mem_append_right _ (List.mem_append_left _ h))))
  have hown : s.vm.findClass RX2 = some m.cls := findClass_of_methodNamed B.named
  have hlocks := B.notSynchronized
  subst hsz
  generalize hAe : va_A [] s.heap.size = A at ⊢
  have hA : ∀ q : Nat, s.heap.size ≤ q → A q := fun q h => by rw [← hAe]; exact Or.inr h
  have hS : va_S A s.heap s.heap [] := va_S.rf
  have hP : va_P D vwCl [(oc 2, .inr (2, [.int (nI cn), .ref (oc 3), .ref (oc 4)])), (oc 3, .inl (cI, 160, .inl fk)), (oc 4, .inl (cI, 160, .inl fv)), (oc2 2, .inr (2, [.int (nI cn2), .ref (oc2 3), .ref (oc2 4)])), (oc2 3, .inl (cI, 160, .inl fk2)), (oc2 4, .inl (cI, 160, .inl fv2))] s.heap := hP
  have hl := lv_entry ([.ref (oc 2), .ref (oc2 2), .int z2]) (n := 6) (Nat.le_of_ble_eq_true rfl)
  rw [lg_entry_eq]
  generalize (lg_sl ([.ref (oc 2), .ref (oc2 2), .int z2]) ++ List.replicate (6 - (lg_sl ([.ref (oc 2), .ref (oc2 2), .int z2])).length) Slot.unset).toArray = ls at hl ⊢
  have hl : lv_has ls 6 [(0, .ref (oc 2)), (1, .ref (oc2 2)), (2, .int z2)] := hl
  refine lv_iconst (v := 0) hx hb dX2_sharedWith_0 (by decide) ?_
  refine lv_istore_n (lv' := [(3, .int 0), (0, .ref (oc 2)), (1, .ref (oc2 2)), (2, .int z2)]) hx hb dX2_sharedWith_1 rfl hl (by decide) rfl (fun ls hl => ?_)
  refine lv_iconst (v := 0) hx hb dX2_sharedWith_2 (by decide) ?_
  refine lv_istore (lv' := [(4, .int 0), (3, .int 0), (0, .ref (oc 2)), (1, .ref (oc2 2)), (2, .int z2)]) hx hb dX2_sharedWith_3 hl (by decide) rfl (fun ls hl => ?_)
  refine lk_shared l D oc oc2 cI cn fk fv cn2 fk2 fv2 z2 K L2 (hc) (hc2) (hKt) (hLt) hx hb hml hown hts hA (hK.sub [0] rfl) hN ?_ (cn + 1) 0 0 0 0 (Nat.zero_le _) (rfl) (fun _ => rfl) (fun _ => rfl) (by omega) _ _ _ (hP.sub [0, 1, 2, 3, 4, 5] rfl) hS (lv_sub hl [0, 1, 2, 3, 4] rfl)
  intro y_1 sn_2 bx_3 lx_4 hy1_5 hsh_6 hz0_7 hz1_8 hx9 H locs ls hP hS hl
  refine lv_iload_n hx hb dX2_sharedWith_62 rfl (lv_at hl 0 rfl) ?_
  exact W.iret (v := nI sn_2) hx hb hr (fun t ht hW => ⟨⟨nI sn_2, (), rfl, ⟨fun q => by rw [hx9, hz0_7 q], fun q => by rw [hx9, hz1_8 q]⟩, trivial⟩, hS.F ht⟩) hS.2.2 dX2_sharedWith_63

def own_k_greatest : List Cond := [.fieldLink RX2 18 "ClashFree$Keys" "size" "I", .fieldLink RX2 15 "ClashFree$Keys" "values" "[I"]
def wp_k_greatest : List Cond := .code yX2_greatest cX2_greatest 3 (some .int) :: (own_k_greatest ++ (wsX20 ++ ([] : List Cond)))
set_option maxRecDepth 20000 in
theorem inown_k_greatest : ∀ w ∈ own_k_greatest, w ∈ lw_tbl := mem_places [472, 480] (by decide +kernel)
set_option maxRecDepth 20000 in
theorem in_k_greatest : ∀ w ∈ wp_k_greatest, w ∈ lw_tbl := List.forall_mem_cons.mpr ⟨List.mem_of_getElem? (i := 902) (by decide +kernel), List.forall_mem_append.mpr ⟨inown_k_greatest, List.forall_mem_append.mpr ⟨lwb_X2, fun _ h => absurd h List.not_mem_nil⟩⟩⟩
set_option maxRecDepth 20000 in
theorem good_k_greatest : wp_k_greatest.all goodWord = true := by decide +kernel
set_option maxHeartbeats 4000000 in
set_option maxRecDepth 100000 in
theorem lk_greatest (l : Launch) {p : Program} {e : Env} {s : State} {m : MethodId} {args : Array Value} {below : List Frame} {meth : Method} {c : Code} {Q : State → Prop} {A : Nat → Prop} (D : va_G) (oc : Nat → Nat) (cI : ClassId) (cn : Nat) (fv : Nat → Int32) (K : Nat → Nat) (hc : cn ≤ 160) (hx : p.tables.exec = Jvm.exec) (hb : c.code = cX2_greatest) (hml : c.maxLocals = 3) (hown : s.vm.findClass RX2 = some m.cls) (hts : ∀ w ∈ wp_k_greatest, w.before args s = true) (hA : ∀ q, s.heap.size ≤ q → A q) (hK : va_K D vwCl [(cI, .int)] s) (hN : NC s) (kx39 : ∀ (y : Nat), ∀ (su : Int32), ∀ (mb : Option (Nat × Int32)), (y ≤ cn) → ((su = -1 ∧ mb = none) ∨ ∃ x, x < cn ∧ su = nI x ∧ mb = some (K x, fv x)) → (mxF ((tabl cn K fv).drop y) mb = mxF (tabl cn K fv) none) → (mxF (tabl cn K fv) none = mb) → ∀ (H : Heap) (locs : List Loc) (ls : Array Slot), va_P D vwCl [(oc 2, .inr (2, [.int (nI cn), .ref (oc 3), .ref (oc 4)])), (oc 4, .inl (cI, 160, .inl fv))] H → va_S A s.heap H locs → lv_has ls 3 [(1, .int su)] → W p l e ({ frames := 0, cells := 0, slots := 0, locals := 0 }) s m args below meth c H locs 0 0 Q (F0 m 39 ls [])) : ∀ (N : Nat), ∀ (y : Nat), ∀ (su : Int32), ∀ (mb : Option (Nat × Int32)), (y ≤ cn) → ((su = -1 ∧ mb = none) ∨ ∃ x, x < cn ∧ su = nI x ∧ mb = some (K x, fv x)) → (mxF ((tabl cn K fv).drop y) mb = mxF (tabl cn K fv) none) → cn - y < N → ∀ (H : Heap) (locs : List Loc) (ls : Array Slot), va_P D vwCl [(oc 2, .inr (2, [.int (nI cn), .ref (oc 3), .ref (oc 4)])), (oc 4, .inl (cI, 160, .inl fv))] H → va_S A s.heap H locs → lv_has ls 3 [(2, .int (nI y)), (1, .int su), (0, .ref (oc 2))] → W p l e ({ frames := 0, cells := 0, slots := 0, locals := 0 }) s m args below meth c H locs 0 0 Q (F0 m 4 ls []) := by
  have hin_X2 : ∀ w ∈ wsX20, w ∈ wp_k_greatest := fun _ h => (List.mem_cons_of_mem _ (List.mem_append_right _ (List.mem_append_left _ h)))
  intro N
  induction N with
  | zero =>
    intro y su mb hy1 hsu hmx hm
    exact absurd hm (Nat.not_lt_zero _)
  | succ N ih =>
    intro y su mb hy1 hsu hmx hm H locs ls hP hS hl
    refine lv_iload_n hx hb dX2_greatest_4 rfl (lv_at hl 0 rfl) ?_
    refine lv_aload_n hx hb dX2_greatest_5 rfl (lv_at hl 2 rfl) ?_
    refine va_get (D := D) (ci := 2) (v := .int (nI cn)) (C := RX2) (T := TX2) (N := 3) hx hb hts hin_X2 hown hK hP 0 rfl rfl 0 (by decide) (hts (.fieldLink RX2 18 "ClashFree$Keys" "size" "I") (List.mem_of_getElem? (i := 1) rfl)) (fun _ h9 => h9) rfl dX2_greatest_6 ?_
    refine lv_icmp_ge (tgt := 39) hx hb dX2_greatest_9 (by decide) (fun hc1 => ?_) (fun hc1 => ?_)
    ·
      have hlt : cn ≤ y := (nI_leI (by omega) (by omega)).mp hc1
      exact kx39 y su mb (hy1) (hsu) (hmx) (by rw [tabl_dnil _ _ hlt] at hmx; exact hmx.symm) H locs ls (hP.sub [0, 1] rfl) hS (lv_sub hl [1] rfl)
    ·
      have hlt : y < cn := by
        rcases Nat.lt_or_ge y (cn) with z | z
        · exact z
        · exact absurd (nI_le z (by omega)) hc1
      rw [tabl_drop _ _ hlt] at hmx
      refine lv_iload_n hx hb dX2_greatest_12 rfl (lv_at hl 1 rfl) ?_
      refine lv_if_lt (tgt := 31) hx hb dX2_greatest_13 (by decide) (fun hc2 => ?_) (fun hc2 => ?_)
      ·
        obtain rfl : mb = none := by
          rcases hsu with ⟨-, e⟩ | ⟨x, hx9, e, -⟩
          · exact e
          · exact absurd hc2 (by rw [e]; exact Int32.not_lt.mpr (nI_pos' (by omega)))
        refine lv_iload_n hx hb dX2_greatest_31 rfl (lv_at hl 0 rfl) ?_
        refine lv_istore_n (lv' := [(1, .int (nI y)), (2, .int (nI y)), (0, .ref (oc 2))]) hx hb dX2_greatest_32 rfl hl (by decide) rfl (fun ls hl => ?_)
        refine lv_iinc (v := nI (y + 1)) (lv' := [(2, .int (nI (y + 1))), (1, .int (nI y)), (0, .ref (oc 2))]) hx hb dX2_greatest_33 hl (k := 1) rfl (nI_1 _) (by decide) rfl (fun ls hl => ?_)
        refine lv_goto (tgt := 4) hx hb dX2_greatest_36 (by decide) ?_
        exact ih (y + 1) (nI y) (some (K y, fv y)) (by omega) (Or.inr ⟨y, hlt, rfl, rfl⟩) (mxF_0.symm.trans hmx) (by omega) H locs ls (hP.sub [0, 1] rfl) hS (lv_sub hl [0, 1, 2] rfl)
      ·
        rcases hsu with ⟨e, -⟩ | ⟨x, hx9, rfl, rfl⟩
        · exact absurd (by rw [e]; decide) hc2
        refine lv_aload_n hx hb dX2_greatest_16 rfl (lv_at hl 2 rfl) ?_
        refine va_get (D := D) (ci := 2) (v := .ref (oc 4)) (C := RX2) (T := TX2) (N := 3) hx hb hts hin_X2 hown hK hP 0 rfl rfl 2 (by decide) (hts (.fieldLink RX2 15 "ClashFree$Keys" "values" "[I") (List.mem_of_getElem? (i := 2) rfl)) (fun _ h9 => h9) rfl dX2_greatest_17 ?_
        refine lv_iload_n hx hb dX2_greatest_20 rfl (lv_at hl 0 rfl) ?_
        refine va_iald hx hb hK hP 1 0 rfl rfl (vp_in_nI (by omega) (by decide)) dX2_greatest_21 ?_
        refine lv_topi (fun v3 ev3 => ?_)
        obtain rfl : v3 = fv y := ev3.trans (by rw [nI_clamp (by omega)])
        refine lv_aload_n hx hb dX2_greatest_22 rfl (lv_at hl 2 rfl) ?_
        refine va_get (D := D) (ci := 2) (v := .ref (oc 4)) (C := RX2) (T := TX2) (N := 3) hx hb hts hin_X2 hown hK hP 0 rfl rfl 2 (by decide) (hts (.fieldLink RX2 15 "ClashFree$Keys" "values" "[I") (List.mem_of_getElem? (i := 2) rfl)) (fun _ h9 => h9) rfl dX2_greatest_23 ?_
        refine lv_iload_n hx hb dX2_greatest_26 rfl (lv_at hl 1 rfl) ?_
        refine va_iald hx hb hK hP 1 0 rfl rfl (vp_in_nI (by omega) (by decide)) dX2_greatest_27 ?_
        refine lv_topi (fun v4 ev4 => ?_)
        obtain rfl : v4 = fv x := ev4.trans (by rw [nI_clamp (by omega)])
        refine lv_icmp_le (tgt := 33) hx hb dX2_greatest_28 (by decide) (fun hc5 => ?_) (fun hc5 => ?_)
        ·
          refine lv_iinc (v := nI (y + 1)) (lv' := [(2, .int (nI (y + 1))), (1, .int (nI x)), (0, .ref (oc 2))]) hx hb dX2_greatest_33 hl (k := 0) rfl (nI_1 _) (by decide) rfl (fun ls hl => ?_)
          refine lv_goto (tgt := 4) hx hb dX2_greatest_36 (by decide) ?_
          exact ih (y + 1) (nI x) (some (K x, fv x)) (by omega) (Or.inr ⟨x, hx9, rfl, rfl⟩) ((mxF_2 (Int32.not_lt.mpr hc5)).symm.trans hmx) (by omega) H locs ls (hP.sub [0, 1] rfl) hS (lv_sub hl [0, 1, 2] rfl)
        ·
          refine lv_iload_n hx hb dX2_greatest_31 rfl (lv_at hl 0 rfl) ?_
          refine lv_istore_n (lv' := [(1, .int (nI y)), (2, .int (nI y)), (0, .ref (oc 2))]) hx hb dX2_greatest_32 rfl hl (by decide) rfl (fun ls hl => ?_)
          refine lv_iinc (v := nI (y + 1)) (lv' := [(2, .int (nI (y + 1))), (1, .int (nI y)), (0, .ref (oc 2))]) hx hb dX2_greatest_33 hl (k := 1) rfl (nI_1 _) (by decide) rfl (fun ls hl => ?_)
          refine lv_goto (tgt := 4) hx hb dX2_greatest_36 (by decide) ?_
          exact ih (y + 1) (nI y) (some (K y, fv y)) (by omega) (Or.inr ⟨y, hlt, rfl, rfl⟩) ((mxF_1 (Int32.not_le.mp hc5)).symm.trans hmx) (by omega) H locs ls (hP.sub [0, 1] rfl) hS (lv_sub hl [0, 1, 2] rfl)
set_option maxHeartbeats 4000000 in
set_option maxRecDepth 100000 in
theorem k_greatest (l : Launch) (D : va_G) (sz : Nat) (oc : Nat → Nat) (cI : ClassId) (cn : Nat) (fv : Nat → Int32) (K : Nat → Nat) (hc : cn ≤ 160) : Met l yX2_greatest wp_k_greatest ({ frames := 0, cells := 0, slots := 0, locals := 0 }) (PcRC D [.ref (oc 2)] sz [(oc 2, .inr (2, [.int (nI cn), .ref (oc 3), .ref (oc 4)])), (oc 4, .inl (cI, 160, .inl fv))] [(cI, .int)]) (va_Qi (fun (r : Int32) (u : Unit) => (r = -1 ∧ mxF (tabl cn K fv) none = none) ∨ (∃ y, y < cn ∧ r = nI y ∧ mxF (tabl cn K fv) none = some (K y, fv y))) (fun (_ : Unit) _ => True) (va_A [] sz)) 0 0 (va_A [] sz) := by
  refine Met.ofW (cc := cX2_greatest) (maxL := 3) (ret := (some .int)) (by decide) rfl ?_
  intro p e s m args below meth c s₁ B hml hv
  obtain ⟨rfl, hsz, hP, hK, hN⟩ := hv
  have hx := B.exec
  have hb := B.bytes
  have hr := B.returns
  have hts := atoms_spec (ws := wp_k_greatest) B.pre
  have hin_X2 : ∀ w ∈ wsX20, w ∈ wp_k_greatest := fun _ h => (List.mem_cons_of_mem _ (List.mem_append_right _ (List.mem_append_left _ h)))
  have hown : s.vm.findClass RX2 = some m.cls := findClass_of_methodNamed B.named
  have hlocks := B.notSynchronized
  subst hsz
  generalize hAe : va_A [] s.heap.size = A at ⊢
  have hA : ∀ q : Nat, s.heap.size ≤ q → A q := fun q h => by rw [← hAe]; exact Or.inr h
  have hS : va_S A s.heap s.heap [] := va_S.rf
  have hP : va_P D vwCl [(oc 2, .inr (2, [.int (nI cn), .ref (oc 3), .ref (oc 4)])), (oc 4, .inl (cI, 160, .inl fv))] s.heap := hP
  have hl := lv_entry ([.ref (oc 2)]) (n := 3) (Nat.le_of_ble_eq_true rfl)
  rw [lg_entry_eq]
  generalize (lg_sl ([.ref (oc 2)]) ++ List.replicate (3 - (lg_sl ([.ref (oc 2)])).length) Slot.unset).toArray = ls at hl ⊢
  have hl : lv_has ls 3 [(0, .ref (oc 2))] := hl
  refine lv_iconst (v := (-1)) hx hb dX2_greatest_0 (by decide) ?_
  refine lv_istore_n (lv' := [(1, .int (-1)), (0, .ref (oc 2))]) hx hb dX2_greatest_1 rfl hl (by decide) rfl (fun ls hl => ?_)
  refine lv_iconst (v := 0) hx hb dX2_greatest_2 (by decide) ?_
  refine lv_istore_n (lv' := [(2, .int 0), (1, .int (-1)), (0, .ref (oc 2))]) hx hb dX2_greatest_3 rfl hl (by decide) rfl (fun ls hl => ?_)
  refine lk_greatest l D oc cI cn fv K (hc) hx hb hml hown hts hA (hK.sub [0] rfl) hN ?_ (cn + 1) 0 (-1) none (Nat.zero_le _) (Or.inl ⟨rfl, rfl⟩) (rfl) (by omega) _ _ _ (hP.sub [0, 1] rfl) hS (lv_sub hl [0, 1, 2] rfl)
  intro y_1 su_2 mb_3 hy1_4 hsu_5 hmx_6 hx7 H locs ls hP hS hl
  refine lv_iload_n hx hb dX2_greatest_39 rfl (lv_at hl 0 rfl) ?_
  exact W.iret (v := su_2) hx hb hr (fun t ht hW => ⟨⟨su_2, (), rfl, by rw [hx7]; exact hsu_5, trivial⟩, hS.F ht⟩) hS.2.2 dX2_greatest_40

def own_k_valueSum : List Cond := [.fieldLink RX2 18 "ClashFree$Keys" "size" "I", .fieldLink RX2 15 "ClashFree$Keys" "values" "[I"]
def wp_k_valueSum : List Cond := .code yX2_valueSum cX2_valueSum 4 (some .long) :: (own_k_valueSum ++ (wsX20 ++ ([] : List Cond)))
set_option maxRecDepth 20000 in
theorem inown_k_valueSum : ∀ w ∈ own_k_valueSum, w ∈ lw_tbl := mem_places [472, 480] (by decide +kernel)
set_option maxRecDepth 20000 in
theorem in_k_valueSum : ∀ w ∈ wp_k_valueSum, w ∈ lw_tbl := List.forall_mem_cons.mpr ⟨List.mem_of_getElem? (i := 906) (by decide +kernel), List.forall_mem_append.mpr ⟨inown_k_valueSum, List.forall_mem_append.mpr ⟨lwb_X2, fun _ h => absurd h List.not_mem_nil⟩⟩⟩
set_option maxRecDepth 20000 in
theorem good_k_valueSum : wp_k_valueSum.all goodWord = true := by decide +kernel
set_option maxHeartbeats 4000000 in
set_option maxRecDepth 100000 in
theorem lk_valueSum (l : Launch) {p : Program} {e : Env} {s : State} {m : MethodId} {args : Array Value} {below : List Frame} {meth : Method} {c : Code} {Q : State → Prop} {A : Nat → Prop} (D : va_G) (oc : Nat → Nat) (cI : ClassId) (cn : Nat) (fv : Nat → Int32) (K : Nat → Nat) (hc : cn ≤ 160) (hx : p.tables.exec = Jvm.exec) (hb : c.code = cX2_valueSum) (hml : c.maxLocals = 4) (hown : s.vm.findClass RX2 = some m.cls) (hts : ∀ w ∈ wp_k_valueSum, w.before args s = true) (hA : ∀ q, s.heap.size ≤ q → A q) (hK : va_K D vwCl [(cI, .int)] s) (hN : NC s) (kx28 : ∀ (y : Nat), ∀ (su : Int64), (y ≤ cn) → (smF ((tabl cn K fv).drop y) su = smF (tabl cn K fv) 0) → (smF (tabl cn K fv) 0 = su) → ∀ (H : Heap) (locs : List Loc) (ls : Array Slot), va_P D vwCl [(oc 2, .inr (2, [.int (nI cn), .ref (oc 3), .ref (oc 4)])), (oc 4, .inl (cI, 160, .inl fv))] H → va_S A s.heap H locs → lv_has ls 4 [(1, .long su)] → W p l e ({ frames := 0, cells := 0, slots := 0, locals := 0 }) s m args below meth c H locs 0 0 Q (F0 m 28 ls [])) : ∀ (N : Nat), ∀ (y : Nat), ∀ (su : Int64), (y ≤ cn) → (smF ((tabl cn K fv).drop y) su = smF (tabl cn K fv) 0) → cn - y < N → ∀ (H : Heap) (locs : List Loc) (ls : Array Slot), va_P D vwCl [(oc 2, .inr (2, [.int (nI cn), .ref (oc 3), .ref (oc 4)])), (oc 4, .inl (cI, 160, .inl fv))] H → va_S A s.heap H locs → lv_has ls 4 [(3, .int (nI y)), (1, .long su), (0, .ref (oc 2))] → W p l e ({ frames := 0, cells := 0, slots := 0, locals := 0 }) s m args below meth c H locs 0 0 Q (F0 m 4 ls []) := by
  have hin_X2 : ∀ w ∈ wsX20, w ∈ wp_k_valueSum := fun _ h => (List.mem_cons_of_mem _ (List.mem_append_right _ (List.mem_append_left _ h)))
  intro N
  induction N with
  | zero =>
    intro y su hy1 hsm hm
    exact absurd hm (Nat.not_lt_zero _)
  | succ N ih =>
    intro y su hy1 hsm hm H locs ls hP hS hl
    refine lv_iload_n hx hb dX2_valueSum_4 rfl (lv_at hl 0 rfl) ?_
    refine lv_aload_n hx hb dX2_valueSum_5 rfl (lv_at hl 2 rfl) ?_
    refine va_get (D := D) (ci := 2) (v := .int (nI cn)) (C := RX2) (T := TX2) (N := 3) hx hb hts hin_X2 hown hK hP 0 rfl rfl 0 (by decide) (hts (.fieldLink RX2 18 "ClashFree$Keys" "size" "I") (List.mem_of_getElem? (i := 1) rfl)) (fun _ h9 => h9) rfl dX2_valueSum_6 ?_
    refine lv_icmp_ge (tgt := 28) hx hb dX2_valueSum_9 (by decide) (fun hc1 => ?_) (fun hc1 => ?_)
    ·
      have hlt : cn ≤ y := (nI_leI (by omega) (by omega)).mp hc1
      exact kx28 y su (hy1) (hsm) (by rw [tabl_dnil _ _ hlt] at hsm; exact hsm.symm) H locs ls (hP.sub [0, 1] rfl) hS (lv_sub hl [1] rfl)
    ·
      have hlt : y < cn := by
        rcases Nat.lt_or_ge y (cn) with z | z
        · exact z
        · exact absurd (nI_le z (by omega)) hc1
      rw [tabl_drop _ _ hlt] at hsm
      refine lv_lload_n hx hb dX2_valueSum_12 rfl (lv_at hl 1 rfl) ?_
      refine lv_aload_n hx hb dX2_valueSum_13 rfl (lv_at hl 2 rfl) ?_
      refine va_get (D := D) (ci := 2) (v := .ref (oc 4)) (C := RX2) (T := TX2) (N := 3) hx hb hts hin_X2 hown hK hP 0 rfl rfl 2 (by decide) (hts (.fieldLink RX2 15 "ClashFree$Keys" "values" "[I") (List.mem_of_getElem? (i := 2) rfl)) (fun _ h9 => h9) rfl dX2_valueSum_14 ?_
      refine lv_iload_n hx hb dX2_valueSum_17 rfl (lv_at hl 0 rfl) ?_
      refine va_iald hx hb hK hP 1 0 rfl rfl (vp_in_nI (by omega) (by decide)) dX2_valueSum_18 ?_
      refine lv_topi (fun v2 ev2 => ?_)
      obtain rfl : v2 = fv y := ev2.trans (by rw [nI_clamp (by omega)])
      refine lv_i2l hx hb dX2_valueSum_19 rfl ?_
      refine lv_topl (fun v3 ev3 => ?_)
      obtain rfl : v3 = Int32.toInt64 (fv y) := ev3.trans (rfl)
      refine lv_ladd hx hb dX2_valueSum_20 ?_
      refine lv_topl (fun v4 ev4 => ?_)
      obtain rfl : v4 = su + Int32.toInt64 (fv y) := ev4.trans (rfl)
      refine lv_lstore_n (lv' := [(1, .long (su + Int32.toInt64 (fv y))), (3, .int (nI y)), (0, .ref (oc 2))]) hx hb dX2_valueSum_21 rfl hl (by decide) rfl (fun ls hl => ?_)
      refine lv_iinc (v := nI (y + 1)) (lv' := [(3, .int (nI (y + 1))), (1, .long (su + Int32.toInt64 (fv y))), (0, .ref (oc 2))]) hx hb dX2_valueSum_22 hl (k := 1) rfl (nI_1 _) (by decide) rfl (fun ls hl => ?_)
      refine lv_goto (tgt := 4) hx hb dX2_valueSum_25 (by decide) ?_
      exact ih (y + 1) (su + Int32.toInt64 (fv y)) (by omega) (hsm) (by omega) H locs ls (hP.sub [0, 1] rfl) hS (lv_sub hl [0, 1, 2] rfl)
set_option maxHeartbeats 4000000 in
set_option maxRecDepth 100000 in
theorem k_valueSum (l : Launch) (D : va_G) (sz : Nat) (oc : Nat → Nat) (cI : ClassId) (cn : Nat) (fv : Nat → Int32) (K : Nat → Nat) (hc : cn ≤ 160) : Met l yX2_valueSum wp_k_valueSum ({ frames := 0, cells := 0, slots := 0, locals := 0 }) (PcRC D [.ref (oc 2)] sz [(oc 2, .inr (2, [.int (nI cn), .ref (oc 3), .ref (oc 4)])), (oc 4, .inl (cI, 160, .inl fv))] [(cI, .int)]) (va_Ql (fun (r : Int64) (u : Unit) => r = smF (tabl cn K fv) 0) (fun (_ : Unit) _ => True) (va_A [] sz)) 0 0 (va_A [] sz) := by
  refine Met.ofW (cc := cX2_valueSum) (maxL := 4) (ret := (some .long)) (by decide) rfl ?_
  intro p e s m args below meth c s₁ B hml hv
  obtain ⟨rfl, hsz, hP, hK, hN⟩ := hv
  have hx := B.exec
  have hb := B.bytes
  have hr := B.returns
  have hts := atoms_spec (ws := wp_k_valueSum) B.pre
  have hin_X2 : ∀ w ∈ wsX20, w ∈ wp_k_valueSum := fun _ h => (List.mem_cons_of_mem _ (List.mem_append_right _ (List.mem_append_left _ h)))
  have hown : s.vm.findClass RX2 = some m.cls := findClass_of_methodNamed B.named
  have hlocks := B.notSynchronized
  subst hsz
  generalize hAe : va_A [] s.heap.size = A at ⊢
  have hA : ∀ q : Nat, s.heap.size ≤ q → A q := fun q h => by rw [← hAe]; exact Or.inr h
  have hS : va_S A s.heap s.heap [] := va_S.rf
  have hP : va_P D vwCl [(oc 2, .inr (2, [.int (nI cn), .ref (oc 3), .ref (oc 4)])), (oc 4, .inl (cI, 160, .inl fv))] s.heap := hP
  have hl := lv_entry ([.ref (oc 2)]) (n := 4) (Nat.le_of_ble_eq_true rfl)
  rw [lg_entry_eq]
  generalize (lg_sl ([.ref (oc 2)]) ++ List.replicate (4 - (lg_sl ([.ref (oc 2)])).length) Slot.unset).toArray = ls at hl ⊢
  have hl : lv_has ls 4 [(0, .ref (oc 2))] := hl
  refine lv_lconst (v := 0) hx hb dX2_valueSum_0 (by decide) ?_
  refine lv_lstore_n (lv' := [(1, .long 0), (0, .ref (oc 2))]) hx hb dX2_valueSum_1 rfl hl (by decide) rfl (fun ls hl => ?_)
  refine lv_iconst (v := 0) hx hb dX2_valueSum_2 (by decide) ?_
  refine lv_istore_n (lv' := [(3, .int 0), (1, .long 0), (0, .ref (oc 2))]) hx hb dX2_valueSum_3 rfl hl (by decide) rfl (fun ls hl => ?_)
  refine lk_valueSum l D oc cI cn fv K (hc) hx hb hml hown hts hA (hK.sub [0] rfl) hN ?_ (cn + 1) 0 0 (Nat.zero_le _) (rfl) (by omega) _ _ _ (hP.sub [0, 1] rfl) hS (lv_sub hl [0, 1, 2] rfl)
  intro y_1 su_2 hy1_3 hsm_4 hx5 H locs ls hP hS hl
  refine lv_lload_n hx hb dX2_valueSum_28 rfl (lv_at hl 0 rfl) ?_
  exact W.lret (v := su_2) hx hb hr (fun t ht hW => ⟨⟨su_2, (), rfl, hx5.symm, trivial⟩, hS.F ht⟩) hS.2.2 dX2_valueSum_29

