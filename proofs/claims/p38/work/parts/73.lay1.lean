theorem dX3_isBucket_0 : decode cX3_isBucket 0 = .ok (.iload_n 1, 1) := by decide +kernel
theorem dX3_isBucket_1 : decode cX3_isBucket 1 = .ok (.ifCond .lt 15, 3) := by decide +kernel
theorem dX3_isBucket_4 : decode cX3_isBucket 4 = .ok (.iload_n 1, 1) := by decide +kernel
theorem dX3_isBucket_5 : decode cX3_isBucket 5 = .ok (.aload_n 0, 1) := by decide +kernel
theorem dX3_isBucket_6 : decode cX3_isBucket 6 = .ok (.getfield 36, 3) := by decide +kernel
theorem dX3_isBucket_9 : decode cX3_isBucket 9 = .ok (.if_icmp .ge 7, 3) := by decide +kernel
theorem dX3_isBucket_12 : decode cX3_isBucket 12 = .ok (.iconst 1, 1) := by decide +kernel
theorem dX3_isBucket_13 : decode cX3_isBucket 13 = .ok (.goto 4, 3) := by decide +kernel
theorem dX3_isBucket_16 : decode cX3_isBucket 16 = .ok (.iconst 0, 1) := by decide +kernel
theorem dX3_isBucket_17 : decode cX3_isBucket 17 = .ok (.ireturn, 1) := by decide +kernel
theorem dX3_roomsOf_0 : decode cX3_roomsOf 0 = .ok (.iload_n 1, 1) := by decide +kernel
theorem dX3_roomsOf_1 : decode cX3_roomsOf 1 = .ok (.ifCond .lt 11, 3) := by decide +kernel
theorem dX3_roomsOf_4 : decode cX3_roomsOf 4 = .ok (.iload_n 1, 1) := by decide +kernel
theorem dX3_roomsOf_5 : decode cX3_roomsOf 5 = .ok (.aload_n 0, 1) := by decide +kernel
theorem dX3_roomsOf_6 : decode cX3_roomsOf 6 = .ok (.getfield 36, 3) := by decide +kernel
theorem dX3_roomsOf_9 : decode cX3_roomsOf 9 = .ok (.if_icmp .lt 7, 3) := by decide +kernel
theorem dX3_roomsOf_12 : decode cX3_roomsOf 12 = .ok (.iconst 0, 1) := by decide +kernel
theorem dX3_roomsOf_13 : decode cX3_roomsOf 13 = .ok (.goto 16, 3) := by decide +kernel
theorem dX3_roomsOf_16 : decode cX3_roomsOf 16 = .ok (.aload_n 0, 1) := by decide +kernel
theorem dX3_roomsOf_17 : decode cX3_roomsOf 17 = .ok (.getfield 15, 3) := by decide +kernel
theorem dX3_roomsOf_20 : decode cX3_roomsOf 20 = .ok (.iload_n 1, 1) := by decide +kernel
theorem dX3_roomsOf_21 : decode cX3_roomsOf 21 = .ok (.iaload, 1) := by decide +kernel
theorem dX3_roomsOf_22 : decode cX3_roomsOf 22 = .ok (.aload_n 0, 1) := by decide +kernel
theorem dX3_roomsOf_23 : decode cX3_roomsOf 23 = .ok (.getfield 15, 3) := by decide +kernel
theorem dX3_roomsOf_26 : decode cX3_roomsOf 26 = .ok (.iload_n 1, 1) := by decide +kernel
theorem dX3_roomsOf_27 : decode cX3_roomsOf 27 = .ok (.iaload, 1) := by decide +kernel
theorem dX3_roomsOf_28 : decode cX3_roomsOf 28 = .ok (.imul, 1) := by decide +kernel
theorem dX3_roomsOf_29 : decode cX3_roomsOf 29 = .ok (.ireturn, 1) := by decide +kernel
theorem dX3_homeOf_0 : decode cX3_homeOf 0 = .ok (.aload_n 0, 1) := by decide +kernel
theorem dX3_homeOf_1 : decode cX3_homeOf 1 = .ok (.getfield 40, 3) := by decide +kernel
theorem dX3_homeOf_4 : decode cX3_homeOf 4 = .ok (.aload_n 0, 1) := by decide +kernel
theorem dX3_homeOf_5 : decode cX3_homeOf 5 = .ok (.getfield 43, 3) := by decide +kernel
theorem dX3_homeOf_8 : decode cX3_homeOf 8 = .ok (.iload_n 1, 1) := by decide +kernel
theorem dX3_homeOf_9 : decode cX3_homeOf 9 = .ok (.aload_n 0, 1) := by decide +kernel
theorem dX3_homeOf_10 : decode cX3_homeOf 10 = .ok (.getfield 36, 3) := by decide +kernel
theorem dX3_homeOf_13 : decode cX3_homeOf 13 = .ok (.invokestatic 46, 3) := by decide +kernel
theorem dX3_homeOf_16 : decode cX3_homeOf 16 = .ok (.ireturn, 1) := by decide +kernel
theorem dX3_roomOf_0 : decode cX3_roomOf 0 = .ok (.aload_n 0, 1) := by decide +kernel
theorem dX3_roomOf_1 : decode cX3_roomOf 1 = .ok (.iload_n 2, 1) := by decide +kernel
theorem dX3_roomOf_2 : decode cX3_roomOf 2 = .ok (.invokevirtual 50, 3) := by decide +kernel
theorem dX3_roomOf_5 : decode cX3_roomOf 5 = .ok (.istore_n 3, 1) := by decide +kernel
theorem dX3_roomOf_6 : decode cX3_roomOf 6 = .ok (.iload_n 3, 1) := by decide +kernel
theorem dX3_roomOf_7 : decode cX3_roomOf 7 = .ok (.ifCond .ne 7, 3) := by decide +kernel
theorem dX3_roomOf_10 : decode cX3_roomOf 10 = .ok (.iconst (-1), 1) := by decide +kernel
theorem dX3_roomOf_11 : decode cX3_roomOf 11 = .ok (.goto 20, 3) := by decide +kernel
theorem dX3_roomOf_14 : decode cX3_roomOf 14 = .ok (.aload_n 0, 1) := by decide +kernel
theorem dX3_roomOf_15 : decode cX3_roomOf 15 = .ok (.getfield 18, 3) := by decide +kernel
theorem dX3_roomOf_18 : decode cX3_roomOf 18 = .ok (.iload_n 2, 1) := by decide +kernel
theorem dX3_roomOf_19 : decode cX3_roomOf 19 = .ok (.iaload, 1) := by decide +kernel
theorem dX3_roomOf_20 : decode cX3_roomOf 20 = .ok (.aload_n 0, 1) := by decide +kernel
theorem dX3_roomOf_21 : decode cX3_roomOf 21 = .ok (.getfield 21, 3) := by decide +kernel
theorem dX3_roomOf_24 : decode cX3_roomOf 24 = .ok (.iload_n 2, 1) := by decide +kernel
theorem dX3_roomOf_25 : decode cX3_roomOf 25 = .ok (.iaload, 1) := by decide +kernel
theorem dX3_roomOf_26 : decode cX3_roomOf 26 = .ok (.iload_n 1, 1) := by decide +kernel
theorem dX3_roomOf_27 : decode cX3_roomOf 27 = .ok (.iload_n 3, 1) := by decide +kernel
theorem dX3_roomOf_28 : decode cX3_roomOf 28 = .ok (.invokestatic 46, 3) := by decide +kernel
theorem dX3_roomOf_31 : decode cX3_roomOf 31 = .ok (.ireturn, 1) := by decide +kernel
theorem dX3_tenant_0 : decode cX3_tenant 0 = .ok (.iconst 0, 1) := by decide +kernel
theorem dX3_tenant_1 : decode cX3_tenant 1 = .ok (.istore_n 3, 1) := by decide +kernel
theorem dX3_tenant_2 : decode cX3_tenant 2 = .ok (.iload_n 3, 1) := by decide +kernel
theorem dX3_tenant_3 : decode cX3_tenant 3 = .ok (.aload_n 0, 1) := by decide +kernel
theorem dX3_tenant_4 : decode cX3_tenant 4 = .ok (.getfield 54, 3) := by decide +kernel
theorem dX3_tenant_7 : decode cX3_tenant 7 = .ok (.if_icmp .ge 31, 3) := by decide +kernel
theorem dX3_tenant_10 : decode cX3_tenant 10 = .ok (.aload_n 0, 1) := by decide +kernel
theorem dX3_tenant_11 : decode cX3_tenant 11 = .ok (.getfield 27, 3) := by decide +kernel
theorem dX3_tenant_14 : decode cX3_tenant 14 = .ok (.iload_n 3, 1) := by decide +kernel
theorem dX3_tenant_15 : decode cX3_tenant 15 = .ok (.iaload, 1) := by decide +kernel
theorem dX3_tenant_16 : decode cX3_tenant 16 = .ok (.iload_n 1, 1) := by decide +kernel
theorem dX3_tenant_17 : decode cX3_tenant 17 = .ok (.if_icmp .ne 15, 3) := by decide +kernel
theorem dX3_tenant_20 : decode cX3_tenant 20 = .ok (.aload_n 0, 1) := by decide +kernel
theorem dX3_tenant_21 : decode cX3_tenant 21 = .ok (.getfield 30, 3) := by decide +kernel
theorem dX3_tenant_24 : decode cX3_tenant 24 = .ok (.iload_n 3, 1) := by decide +kernel
theorem dX3_tenant_25 : decode cX3_tenant 25 = .ok (.iaload, 1) := by decide +kernel
theorem dX3_tenant_26 : decode cX3_tenant 26 = .ok (.iload_n 2, 1) := by decide +kernel
theorem dX3_tenant_27 : decode cX3_tenant 27 = .ok (.if_icmp .ne 5, 3) := by decide +kernel
theorem dX3_tenant_30 : decode cX3_tenant 30 = .ok (.iload_n 3, 1) := by decide +kernel
theorem dX3_tenant_31 : decode cX3_tenant 31 = .ok (.ireturn, 1) := by decide +kernel
theorem dX3_tenant_32 : decode cX3_tenant 32 = .ok (.iinc 3 1, 3) := by decide +kernel
theorem dX3_tenant_35 : decode cX3_tenant 35 = .ok (.goto (-33), 3) := by decide +kernel
theorem dX3_tenant_38 : decode cX3_tenant 38 = .ok (.iconst (-1), 1) := by decide +kernel
theorem dX3_tenant_39 : decode cX3_tenant 39 = .ok (.ireturn, 1) := by decide +kernel
theorem dX3_bucketsWith_0 : decode cX3_bucketsWith 0 = .ok (.iconst 0, 1) := by decide +kernel
theorem dX3_bucketsWith_1 : decode cX3_bucketsWith 1 = .ok (.istore_n 2, 1) := by decide +kernel
theorem dX3_bucketsWith_2 : decode cX3_bucketsWith 2 = .ok (.iconst 0, 1) := by decide +kernel
theorem dX3_bucketsWith_3 : decode cX3_bucketsWith 3 = .ok (.istore_n 3, 1) := by decide +kernel
theorem dX3_bucketsWith_4 : decode cX3_bucketsWith 4 = .ok (.iload_n 3, 1) := by decide +kernel
theorem dX3_bucketsWith_5 : decode cX3_bucketsWith 5 = .ok (.aload_n 0, 1) := by decide +kernel
theorem dX3_bucketsWith_6 : decode cX3_bucketsWith 6 = .ok (.getfield 36, 3) := by decide +kernel
theorem dX3_bucketsWith_9 : decode cX3_bucketsWith 9 = .ok (.if_icmp .ge 22, 3) := by decide +kernel
theorem dX3_bucketsWith_12 : decode cX3_bucketsWith 12 = .ok (.aload_n 0, 1) := by decide +kernel
theorem dX3_bucketsWith_13 : decode cX3_bucketsWith 13 = .ok (.getfield 9, 3) := by decide +kernel
theorem dX3_bucketsWith_16 : decode cX3_bucketsWith 16 = .ok (.iload_n 3, 1) := by decide +kernel
theorem dX3_bucketsWith_17 : decode cX3_bucketsWith 17 = .ok (.iaload, 1) := by decide +kernel
theorem dX3_bucketsWith_18 : decode cX3_bucketsWith 18 = .ok (.iload_n 1, 1) := by decide +kernel
theorem dX3_bucketsWith_19 : decode cX3_bucketsWith 19 = .ok (.if_icmp .ne 6, 3) := by decide +kernel
theorem dX3_bucketsWith_22 : decode cX3_bucketsWith 22 = .ok (.iinc 2 1, 3) := by decide +kernel
theorem dX3_bucketsWith_25 : decode cX3_bucketsWith 25 = .ok (.iinc 3 1, 3) := by decide +kernel
theorem dX3_bucketsWith_28 : decode cX3_bucketsWith 28 = .ok (.goto (-24), 3) := by decide +kernel
theorem dX3_bucketsWith_31 : decode cX3_bucketsWith 31 = .ok (.iload_n 2, 1) := by decide +kernel
theorem dX3_bucketsWith_32 : decode cX3_bucketsWith 32 = .ok (.ireturn, 1) := by decide +kernel
theorem dX3_fullest_0 : decode cX3_fullest 0 = .ok (.iconst 0, 1) := by decide +kernel
theorem dX3_fullest_1 : decode cX3_fullest 1 = .ok (.istore_n 1, 1) := by decide +kernel
theorem dX3_fullest_2 : decode cX3_fullest 2 = .ok (.iconst 1, 1) := by decide +kernel
theorem dX3_fullest_3 : decode cX3_fullest 3 = .ok (.istore_n 2, 1) := by decide +kernel
theorem dX3_fullest_4 : decode cX3_fullest 4 = .ok (.iload_n 2, 1) := by decide +kernel
theorem dX3_fullest_5 : decode cX3_fullest 5 = .ok (.aload_n 0, 1) := by decide +kernel
theorem dX3_fullest_6 : decode cX3_fullest 6 = .ok (.getfield 36, 3) := by decide +kernel
theorem dX3_fullest_9 : decode cX3_fullest 9 = .ok (.if_icmp .ge 26, 3) := by decide +kernel
theorem dX3_fullest_12 : decode cX3_fullest 12 = .ok (.aload_n 0, 1) := by decide +kernel
theorem dX3_fullest_13 : decode cX3_fullest 13 = .ok (.getfield 9, 3) := by decide +kernel
theorem dX3_fullest_16 : decode cX3_fullest 16 = .ok (.iload_n 2, 1) := by decide +kernel
theorem dX3_fullest_17 : decode cX3_fullest 17 = .ok (.iaload, 1) := by decide +kernel
theorem dX3_fullest_18 : decode cX3_fullest 18 = .ok (.aload_n 0, 1) := by decide +kernel
theorem dX3_fullest_19 : decode cX3_fullest 19 = .ok (.getfield 9, 3) := by decide +kernel
theorem dX3_fullest_22 : decode cX3_fullest 22 = .ok (.iload_n 1, 1) := by decide +kernel
theorem dX3_fullest_23 : decode cX3_fullest 23 = .ok (.iaload, 1) := by decide +kernel
theorem dX3_fullest_24 : decode cX3_fullest 24 = .ok (.if_icmp .le 5, 3) := by decide +kernel
theorem dX3_fullest_27 : decode cX3_fullest 27 = .ok (.iload_n 2, 1) := by decide +kernel
theorem dX3_fullest_28 : decode cX3_fullest 28 = .ok (.istore_n 1, 1) := by decide +kernel
theorem dX3_fullest_29 : decode cX3_fullest 29 = .ok (.iinc 2 1, 3) := by decide +kernel
theorem dX3_fullest_32 : decode cX3_fullest 32 = .ok (.goto (-28), 3) := by decide +kernel
theorem dX3_fullest_35 : decode cX3_fullest 35 = .ok (.iload_n 1, 1) := by decide +kernel
theorem dX3_fullest_36 : decode cX3_fullest 36 = .ok (.ireturn, 1) := by decide +kernel
theorem dX3_twos_0 : decode cX3_twos 0 = .ok (.iconst 0, 1) := by decide +kernel
theorem dX3_twos_1 : decode cX3_twos 1 = .ok (.istore_n 1, 1) := by decide +kernel
theorem dX3_twos_2 : decode cX3_twos 2 = .ok (.iconst 0, 1) := by decide +kernel
theorem dX3_twos_3 : decode cX3_twos 3 = .ok (.istore_n 2, 1) := by decide +kernel
theorem dX3_twos_4 : decode cX3_twos 4 = .ok (.iload_n 2, 1) := by decide +kernel
theorem dX3_twos_5 : decode cX3_twos 5 = .ok (.aload_n 0, 1) := by decide +kernel
theorem dX3_twos_6 : decode cX3_twos 6 = .ok (.getfield 36, 3) := by decide +kernel
theorem dX3_twos_9 : decode cX3_twos 9 = .ok (.if_icmp .ge 29, 3) := by decide +kernel
theorem dX3_twos_12 : decode cX3_twos 12 = .ok (.iload_n 1, 1) := by decide +kernel
theorem dX3_twos_13 : decode cX3_twos 13 = .ok (.aload_n 0, 1) := by decide +kernel
theorem dX3_twos_14 : decode cX3_twos 14 = .ok (.getfield 9, 3) := by decide +kernel
theorem dX3_twos_17 : decode cX3_twos 17 = .ok (.iload_n 2, 1) := by decide +kernel
theorem dX3_twos_18 : decode cX3_twos 18 = .ok (.iaload, 1) := by decide +kernel
theorem dX3_twos_19 : decode cX3_twos 19 = .ok (.aload_n 0, 1) := by decide +kernel
theorem dX3_twos_20 : decode cX3_twos 20 = .ok (.getfield 9, 3) := by decide +kernel
theorem dX3_twos_23 : decode cX3_twos 23 = .ok (.iload_n 2, 1) := by decide +kernel
theorem dX3_twos_24 : decode cX3_twos 24 = .ok (.iaload, 1) := by decide +kernel
theorem dX3_twos_25 : decode cX3_twos 25 = .ok (.iconst 1, 1) := by decide +kernel
theorem dX3_twos_26 : decode cX3_twos 26 = .ok (.isub, 1) := by decide +kernel
theorem dX3_twos_27 : decode cX3_twos 27 = .ok (.imul, 1) := by decide +kernel
theorem dX3_twos_28 : decode cX3_twos 28 = .ok (.iconst 2, 1) := by decide +kernel
theorem dX3_twos_29 : decode cX3_twos 29 = .ok (.idiv, 1) := by decide +kernel
theorem dX3_twos_30 : decode cX3_twos 30 = .ok (.iadd, 1) := by decide +kernel
theorem dX3_twos_31 : decode cX3_twos 31 = .ok (.istore_n 1, 1) := by decide +kernel
theorem dX3_twos_32 : decode cX3_twos 32 = .ok (.iinc 2 1, 3) := by decide +kernel
theorem dX3_twos_35 : decode cX3_twos 35 = .ok (.goto (-31), 3) := by decide +kernel
theorem dX3_twos_38 : decode cX3_twos 38 = .ok (.iload_n 1, 1) := by decide +kernel
theorem dX3_twos_39 : decode cX3_twos 39 = .ok (.ireturn, 1) := by decide +kernel
theorem dX3_sweep_0 : decode cX3_sweep 0 = .ok (.iconst 0, 1) := by decide +kernel
theorem dX3_sweep_1 : decode cX3_sweep 1 = .ok (.istore_n 1, 1) := by decide +kernel
theorem dX3_sweep_2 : decode cX3_sweep 2 = .ok (.iload_n 1, 1) := by decide +kernel
theorem dX3_sweep_3 : decode cX3_sweep 3 = .ok (.aload_n 0, 1) := by decide +kernel
theorem dX3_sweep_4 : decode cX3_sweep 4 = .ok (.getfield 54, 3) := by decide +kernel
theorem dX3_sweep_7 : decode cX3_sweep 7 = .ok (.if_icmp .ge 21, 3) := by decide +kernel
theorem dX3_sweep_10 : decode cX3_sweep 10 = .ok (.aload_n 0, 1) := by decide +kernel
theorem dX3_sweep_11 : decode cX3_sweep 11 = .ok (.getfield 9, 3) := by decide +kernel
theorem dX3_sweep_14 : decode cX3_sweep 14 = .ok (.aload_n 0, 1) := by decide +kernel
theorem dX3_sweep_15 : decode cX3_sweep 15 = .ok (.getfield 27, 3) := by decide +kernel
theorem dX3_sweep_18 : decode cX3_sweep 18 = .ok (.iload_n 1, 1) := by decide +kernel
theorem dX3_sweep_19 : decode cX3_sweep 19 = .ok (.iaload, 1) := by decide +kernel
theorem dX3_sweep_20 : decode cX3_sweep 20 = .ok (.iconst 0, 1) := by decide +kernel
theorem dX3_sweep_21 : decode cX3_sweep 21 = .ok (.iastore, 1) := by decide +kernel
theorem dX3_sweep_22 : decode cX3_sweep 22 = .ok (.iinc 1 1, 3) := by decide +kernel
theorem dX3_sweep_25 : decode cX3_sweep 25 = .ok (.goto (-23), 3) := by decide +kernel
theorem dX3_sweep_28 : decode cX3_sweep 28 = .ok (.return_, 1) := by decide +kernel
theorem dX3_gather_0 : decode cX3_gather 0 = .ok (.iconst 0, 1) := by decide +kernel
theorem dX3_gather_1 : decode cX3_gather 1 = .ok (.istore_n 2, 1) := by decide +kernel
theorem dX3_gather_2 : decode cX3_gather 2 = .ok (.iconst 0, 1) := by decide +kernel
theorem dX3_gather_3 : decode cX3_gather 3 = .ok (.istore_n 3, 1) := by decide +kernel
theorem dX3_gather_4 : decode cX3_gather 4 = .ok (.iload_n 3, 1) := by decide +kernel
theorem dX3_gather_5 : decode cX3_gather 5 = .ok (.aload_n 0, 1) := by decide +kernel
theorem dX3_gather_6 : decode cX3_gather 6 = .ok (.getfield 54, 3) := by decide +kernel
theorem dX3_gather_9 : decode cX3_gather 9 = .ok (.if_icmp .ge 29, 3) := by decide +kernel
theorem dX3_gather_12 : decode cX3_gather 12 = .ok (.aload_n 0, 1) := by decide +kernel
theorem dX3_gather_13 : decode cX3_gather 13 = .ok (.getfield 27, 3) := by decide +kernel
theorem dX3_gather_16 : decode cX3_gather 16 = .ok (.iload_n 3, 1) := by decide +kernel
theorem dX3_gather_17 : decode cX3_gather 17 = .ok (.iaload, 1) := by decide +kernel
theorem dX3_gather_18 : decode cX3_gather 18 = .ok (.iload_n 1, 1) := by decide +kernel
theorem dX3_gather_19 : decode cX3_gather 19 = .ok (.if_icmp .ne 13, 3) := by decide +kernel
theorem dX3_gather_22 : decode cX3_gather 22 = .ok (.aload_n 0, 1) := by decide +kernel
theorem dX3_gather_23 : decode cX3_gather 23 = .ok (.getfield 33, 3) := by decide +kernel
theorem dX3_gather_26 : decode cX3_gather 26 = .ok (.iload_n 2, 1) := by decide +kernel
theorem dX3_gather_27 : decode cX3_gather 27 = .ok (.iload_n 3, 1) := by decide +kernel
theorem dX3_gather_28 : decode cX3_gather 28 = .ok (.iastore, 1) := by decide +kernel
theorem dX3_gather_29 : decode cX3_gather 29 = .ok (.iinc 2 1, 3) := by decide +kernel
theorem dX3_gather_32 : decode cX3_gather 32 = .ok (.iinc 3 1, 3) := by decide +kernel
theorem dX3_gather_35 : decode cX3_gather 35 = .ok (.goto (-31), 3) := by decide +kernel
theorem dX3_gather_38 : decode cX3_gather 38 = .ok (.iload_n 2, 1) := by decide +kernel
theorem dX3_gather_39 : decode cX3_gather 39 = .ok (.ireturn, 1) := by decide +kernel
def OrC (fo : Nat → Int32) : Prop := ∀ j, j < 160 → ∃ x, fo j = nI x ∧ x < 160
theorem OrC_up {fo : Nat → Int32} {k x : Nat} (h : OrC fo) (hx : x < 160) : OrC (upd fo k (nI x)) := by
  intro j hj
  by_cases e : j = k
  · subst e
    exact ⟨x, pk_us, hx⟩
  · rw [pk_un e]
    exact h j hj
def HmS (fj fh : Nat → Int32) (nb ln : Nat) (J : Nat → Nat) : Prop := (∀ k, k < ln → fj k = nI (J k) ∧ J k < nb) ∧ ∀ j, j < 2048 → fh j = nI (cntJ J ln j)
/-- a layout: where its keys are, how many each bucket has -/
def LyH (fj fh : Nat → Int32) (nb ln : Nat) : Prop := nb ≤ 2048 ∧ ln ≤ 160 ∧ ∃ J, HmS fj fh nb ln J
theorem cnt_no {J : Nat → Nat} {j : Nat} : ∀ n, (∀ k, k < n → J k ≠ j) → cntJ J n j = 0
  | 0, _ => rfl
  | n + 1, h => by rw [cntJ_s, cnt_no n (fun k hk => h k (by omega)), if_neg (h n (by omega))]
theorem sw_step {gh fh : Nat → Int32} {J : Nat → Nat} {y : Nat} (h : ∀ j, j < 2048 → gh j = 0 ∨ (gh j = fh j ∧ ∀ k, k < y → J k ≠ j)) : ∀ j, j < 2048 → upd gh (J y) 0 j = 0 ∨ (upd gh (J y) 0 j = fh j ∧ ∀ k, k < y + 1 → J k ≠ j) := by
  intro j hj
  by_cases e : j = J y
  · subst e
    exact Or.inl pk_us
  · rw [pk_un e]
    rcases h j hj with z | ⟨z1, z2⟩
    · exact Or.inl z
    · refine Or.inr ⟨z1, fun k hk => ?_⟩
      by_cases q : k = y
      · subst q
        exact fun z => e z.symm
      · exact z2 k (by omega)
theorem sw_end {gh fh fj : Nat → Int32} {nb ln : Nat} {J : Nat → Nat} (hm : HmS fj fh nb ln J) (h : ∀ j, j < 2048 → gh j = 0 ∨ (gh j = fh j ∧ ∀ k, k < ln → J k ≠ j)) : ∀ j, j < 2048 → gh j = 0 := by
  intro j hj
  rcases h j hj with z | ⟨z1, z2⟩
  · exact z
  · rw [z1, hm.2 j hj, cnt_no ln z2]
    rfl
def kN (fk : Nat → Int32) (j : Nat) : Nat := (fk j).toInt.toNat
theorem KyC.k {fk : Nat → Int32} {cn j : Nat} (h : KyC fk cn) (hj : j < cn) : fk j = nI (kN fk j) ∧ kN fk j < 2147483647 := by
  obtain ⟨x, e, hx⟩ := h.2 j hj
  have e2 : kN fk j = x := by
    unfold kN
    rw [e, nI_toInt (by omega)]
    omega
  rw [e2]
  exact ⟨e, hx⟩
theorem clampN (z : Int32) : ∃ q, 1 ≤ q ∧ q ≤ 2048 ∧ (if (1 : Int32) < (if z < (2048 : Int32) then z else 2048) then (if z < (2048 : Int32) then z else 2048) else 1) = nI q := by
  by_cases h1 : z < (2048 : Int32)
  · rw [if_pos h1]
    by_cases h2 : (1 : Int32) < z
    · rw [if_pos h2]
      obtain ⟨j, hj, e⟩ := inz (n := 2048) (by omega) (fun h => absurd (Int32.lt_trans h2 h) (by decide)) h1
      subst e
      refine ⟨j, ?_, by omega, rfl⟩
      rcases Nat.eq_zero_or_pos j with y | y
      · subst y
        exact absurd h2 (by decide)
      · exact y
    · rw [if_neg h2]
      exact ⟨1, by omega, by omega, rfl⟩
  · rw [if_neg h1]
    exact ⟨2048, by omega, by omega, by decide⟩
theorem dl_step {gj gh : Nat → Int32} {J : Nat → Nat} {y : Nat} (h1 : ∀ k, k < y → gj k = nI (J k)) (h2 : ∀ j, j < 2048 → gh j = nI (cntJ J y j)) : (∀ k, k < y + 1 → upd gj y (nI (J y)) k = nI (J k)) ∧ ∀ j, j < 2048 → upd gh (J y) (nI (cntJ J y (J y) + 1)) j = nI (cntJ J (y + 1) j) := by
  refine ⟨fun k hk => ?_, fun j hj => ?_⟩
  · by_cases e : k = y
    · subst e
      exact pk_us
    · rw [pk_un e]
      exact h1 k (by omega)
  · rw [cntJ_s]
    by_cases e : j = J y
    · subst e
      rw [pk_us, if_pos rfl]
    · rw [pk_un e, if_neg (fun z => e z.symm), Nat.add_zero]
      exact h2 j hj
def sumC (J : Nat → Nat) (n : Nat) : Nat → Nat
  | 0 => 0
  | j + 1 => sumC J n j + cntJ J n j
def cntLt (J : Nat → Nat) (j : Nat) : Nat → Nat
  | 0 => 0
  | n + 1 => cntLt J j n + (if J n < j then 1 else 0)
theorem cntLt_s (J : Nat → Nat) (j : Nat) : ∀ n, cntLt J (j + 1) n = cntLt J j n + cntJ J n j
  | 0 => rfl
  | n + 1 => by
    show cntLt J (j + 1) n + (if J n < j + 1 then 1 else 0) = cntLt J j n + (if J n < j then 1 else 0) + cntJ J (n + 1) j
    rw [cntJ_s, cntLt_s J j n]
    by_cases h1 : J n < j
    · rw [if_pos (by omega), if_pos h1, if_neg (by omega)]
      omega
    · rw [if_neg h1]
      by_cases h2 : J n = j
      · rw [if_pos (by omega), if_pos h2]
        omega
      · rw [if_neg (by omega), if_neg h2]
        omega
theorem cntLt_0 (J : Nat → Nat) : ∀ n, cntLt J 0 n = 0
  | 0 => rfl
  | n + 1 => by
    show cntLt J 0 n + (if J n < 0 then 1 else 0) = 0
    rw [cntLt_0 J n, if_neg (Nat.not_lt_zero _)]
theorem sumC_eq (J : Nat → Nat) (n : Nat) : ∀ j, sumC J n j = cntLt J j n
  | 0 => (cntLt_0 J n).symm
  | j + 1 => by rw [cntLt_s, ← sumC_eq J n j]; rfl
theorem cntLt_le (J : Nat → Nat) (j : Nat) : ∀ n, cntLt J j n ≤ n
  | 0 => Nat.le_refl _
  | n + 1 => by
    show cntLt J j n + (if J n < j then 1 else 0) ≤ n + 1
    have := cntLt_le J j n
    split <;> omega
theorem sumC_le (J : Nat → Nat) (n j : Nat) : sumC J n j ≤ n := by
  rw [sumC_eq]
  exact cntLt_le J j n
theorem sumC_fit (J : Nat → Nat) (n j : Nat) : sumC J n j + cntJ J n j ≤ n := sumC_le J n (j + 1)
theorem cntJ_mono (J : Nat → Nat) (b : Nat) : ∀ n y, y ≤ n → cntJ J y b ≤ cntJ J n b
  | 0, y, h => by rw [show y = 0 by omega]; exact Nat.le_refl _
  | n + 1, y, h => by
    by_cases e : y = n + 1
    · rw [e]; exact Nat.le_refl _
    · rw [cntJ_s]
      have := cntJ_mono J b n y (by omega)
      omega
theorem next_fit {J : Nat → Nat} {n y : Nat} (hy : y < n) : sumC J n (J y) + cntJ J y (J y) < n := by
  have h1 := sumC_fit J n (J y)
  have h2 := cntJ_mono J (J y) n (y + 1) (by omega)
  rw [cntJ_s, if_pos rfl] at h2
  omega
theorem nx_step {gx : Nat → Int32} {J : Nat → Nat} {n nb y : Nat} (h : ∀ i, i < nb → gx i = nI (sumC J n i + cntJ J y i)) : ∀ i, i < nb → upd gx (J y) (nI (sumC J n (J y) + cntJ J y (J y) + 1)) i = nI (sumC J n i + cntJ J (y + 1) i) := by
  intro i hi
  rw [cntJ_s]
  by_cases e : i = J y
  · subst e
    rw [pk_us, if_pos rfl]
    rfl
  · rw [pk_un e, if_neg (fun z => e z.symm), Nat.add_zero]
    exact h i hi
theorem Hm_ins {fj fh gj : Nat → Int32} {nb ln q b : Nat} {J : Nat → Nat} (h : HmS fj fh nb ln J) (hq : q ≤ ln) (hb : b < nb) (hnb : nb ≤ 2048) (e : ∀ k, k ≤ ln → gj k = if k < q then fj k else if k = q then nI b else fj (k - 1)) : HmS gj (upd fh b (nI (cntJ J ln b + 1))) nb (ln + 1) (insN J q b) := by
  refine ⟨fun k hk => ?_, fun j hj => ?_⟩
  · rw [e k (by omega)]
    rcases Nat.lt_trichotomy k q with z | z | z
    · rw [if_pos z, insN_lt z]
      exact h.1 k (by omega)
    · subst z
      rw [if_neg (by omega), if_pos rfl, insN_eq]
      exact ⟨rfl, hb⟩
    · rw [if_neg (by omega), if_neg (by omega), insN_gt z]
      exact h.1 (k - 1) (by omega)
  · have c := cnt_ins J q b j (ln - q)
    rw [show q + (ln - q) = ln by omega] at c
    rw [c]
    by_cases z : j = b
    · subst z
      rw [pk_us, if_pos rfl]
    · rw [pk_un z, if_neg (fun y => z y.symm), Nat.add_zero]
      exact h.2 j hj
theorem Hm_del {fj fh gj : Nat → Int32} {nb ln q : Nat} {J : Nat → Nat} (h : HmS fj fh nb ln J) (hq : q < ln) (e : ∀ k, k < ln - 1 → gj k = if k < q then fj k else fj (k + 1)) : HmS gj (upd fh (J q) (nI (cntJ J ln (J q) - 1))) nb (ln - 1) (delN J q) := by
  refine ⟨fun k hk => ?_, fun j hj => ?_⟩
  · rw [e k hk]
    rcases Nat.lt_or_ge k q with z | z
    · rw [if_pos z, delN_lt z]
      exact h.1 k (by omega)
    · rw [if_neg (by omega), delN_ge z]
      exact h.1 (k + 1) (by omega)
  · have c := cnt_del J q j (ln - 1 - q)
    rw [show q + (ln - 1 - q) + 1 = ln by omega, show q + (ln - 1 - q) = ln - 1 by omega] at c
    by_cases z : j = J q
    · subst z
      rw [if_pos rfl] at c
      rw [pk_us]
      exact congrArg nI (by omega)
    · rw [if_neg (fun y => z y.symm), Nat.add_zero] at c
      rw [pk_un z, c]
      exact h.2 j hj
theorem Hm_become {fj fh fj2 fh2 gh : Nat → Int32} {nb2 ln2 : Nat} {J : Nat → Nat} (h : HmS fj2 fh2 nb2 ln2 J) (hn : nb2 ≤ 2048) (hz : ∀ j, j < 2048 → gh j = 0) : HmS (va_cpy fj2 fj 0 0 ln2) (va_cpy fh2 gh 0 0 nb2) nb2 ln2 J := by
  refine ⟨fun k hk => ?_, fun j hj => ?_⟩
  · rw [cpy_in (Nat.zero_le _) (by omega), Nat.zero_add, Nat.sub_zero]
    exact h.1 k hk
  · rcases Nat.lt_or_ge j nb2 with z | z
    · rw [cpy_in (Nat.zero_le _) (by omega), Nat.zero_add, Nat.sub_zero]
      exact h.2 j hj
    · rw [cpy_out (by omega), hz j hj, cnt_no ln2 (fun k hk => by have := (h.1 k hk).2; omega)]
      rfl
theorem nneg {z : Int32} (h : ¬ z < 0) : ∃ n, n < 2147483648 ∧ z = nI n := by
  refine ⟨z.toInt.toNat, by have := z.toInt_lt; omega, ?_⟩
  apply Int32.toInt_inj.mp
  rw [Int32.lt_iff_toInt_lt, show (0 : Int32).toInt = 0 from by decide] at h
  rw [nI_toInt (by have := z.toInt_lt; omega)]
  omega
theorem lt_via {z : Int32} {a b : Nat} (ha : a < 2147483648) (hb : b < 2147483648) (h1 : ¬ z ≤ nI a) (h2 : z ≤ nI b) : a < b := by
  rw [Int32.le_iff_toInt_le, nI_toInt (by omega)] at h1 h2
  omega
def own_k_isBucket : List Cond := [.fieldLink RX3 36 "ClashFree$Layout" "buckets" "I"]
def wp_k_isBucket : List Cond := .code yX3_isBucket cX3_isBucket 2 (some .boolean) :: (own_k_isBucket ++ (wsX30 ++ ([] : List Cond)))
set_option maxRecDepth 20000 in
theorem inown_k_isBucket : ∀ w ∈ own_k_isBucket, w ∈ lw_tbl := mem_places [178] (by decide +kernel)
set_option maxRecDepth 20000 in
theorem in_k_isBucket : ∀ w ∈ wp_k_isBucket, w ∈ lw_tbl := List.forall_mem_cons.mpr ⟨List.mem_of_getElem? (i := 650) (by decide +kernel), List.forall_mem_append.mpr ⟨inown_k_isBucket, List.forall_mem_append.mpr ⟨lwb_X3, fun _ h => absurd h List.not_mem_nil⟩⟩⟩
set_option maxRecDepth 20000 in
theorem good_k_isBucket : wp_k_isBucket.all goodWord = true := by decide +kernel
set_option maxHeartbeats 4000000 in
set_option maxRecDepth 100000 in
theorem k_isBucket (l : Launch) (D : va_G) (sz : Nat) (ob : Nat → Nat) (cI : ClassId) (nb : Nat) (ka : Nat) (kb : Nat) (sm : Int32) (ln : Nat) (z1 : Int32) (hnb : nb ≤ 2048) : Met l yX3_isBucket wp_k_isBucket ({ frames := 0, cells := 0, slots := 0, locals := 0 }) (PcRC D [.ref (ob 5), .int z1] sz [(ob 5, .inr (3, gY ob (nI nb) (nI ka) (nI kb) sm (nI ln)))] []) (va_Qi (fun (r : Int32) (u : Unit) => (r = 1 ∧ ∃ x, x < nb ∧ z1 = nI x) ∨ (r = 0 ∧ True)) (fun (_ : Unit) _ => True) (va_A [] sz)) 0 0 (va_A [] sz) := by
  refine Met.ofW (cc := cX3_isBucket) (maxL := 2) (ret := (some .boolean)) (by decide) rfl ?_
  intro p e s m args below meth c s₁ B hml hv
  obtain ⟨rfl, hsz, hP, hK, hN⟩ := hv
  have hx := B.exec
  have hb := B.bytes
  have hr := B.returns
  have hts := atoms_spec (ws := wp_k_isBucket) B.pre
  have hin_X3 : ∀ w ∈ wsX30, w ∈ wp_k_isBucket := fun _ h => (List.mem_cons_of_mem _ (List.mem_append_right _ (List.mem_append_left _ h)))
  have hown : s.vm.findClass RX3 = some m.cls := findClass_of_methodNamed B.named
  have hlocks := B.notSynchronized
  subst hsz
  generalize hAe : va_A [] s.heap.size = A at ⊢
  have hA : ∀ q : Nat, s.heap.size ≤ q → A q := fun q h => by rw [← hAe]; exact Or.inr h
  have hS : va_S A s.heap s.heap [] := va_S.rf
  have hP : va_P D vwCl [(ob 5, .inr (3, gY ob (nI nb) (nI ka) (nI kb) sm (nI ln)))] s.heap := hP
  have hl := lv_entry ([.ref (ob 5), .int z1]) (n := 2) (Nat.le_of_ble_eq_true rfl)
  rw [lg_entry_eq]
  generalize (lg_sl ([.ref (ob 5), .int z1]) ++ List.replicate (2 - (lg_sl ([.ref (ob 5), .int z1])).length) Slot.unset).toArray = ls at hl ⊢
  have hl : lv_has ls 2 [(0, .ref (ob 5)), (1, .int z1)] := hl
  refine lv_iload_n hx hb dX3_isBucket_0 rfl (lv_at hl 1 rfl) ?_
  refine lv_if_lt (tgt := 16) hx hb dX3_isBucket_1 (by decide) (fun hc1 => ?_) (fun hc1 => ?_)
  ·
    refine lv_iconst (v := 0) hx hb dX3_isBucket_16 (by decide) ?_
    exact W.zret (v := 0) hx hb hr rfl (fun t ht hW => ⟨⟨0, (), rfl, Or.inr ⟨rfl, trivial⟩, trivial⟩, hS.F ht⟩) hS.2.2 dX3_isBucket_17
  ·
    refine lv_iload_n hx hb dX3_isBucket_4 rfl (lv_at hl 1 rfl) ?_
    refine lv_aload_n hx hb dX3_isBucket_5 rfl (lv_at hl 0 rfl) ?_
    refine va_get (D := D) (ci := 3) (v := .int (nI nb)) (C := RX3) (T := TX3) (N := 13) hx hb hts hin_X3 hown hK hP 0 rfl rfl 0 (by decide) (hts (.fieldLink RX3 36 "ClashFree$Layout" "buckets" "I") (List.mem_of_getElem? (i := 1) rfl)) (fun _ h9 => h9) rfl dX3_isBucket_6 ?_
    refine lv_icmp_ge (tgt := 16) hx hb dX3_isBucket_9 (by decide) (fun hc2 => ?_) (fun hc2 => ?_)
    ·
      refine lv_iconst (v := 0) hx hb dX3_isBucket_16 (by decide) ?_
      exact W.zret (v := 0) hx hb hr rfl (fun t ht hW => ⟨⟨0, (), rfl, Or.inr ⟨rfl, trivial⟩, trivial⟩, hS.F ht⟩) hS.2.2 dX3_isBucket_17
    ·
      obtain ⟨xj, hxj, rfl⟩ := inz (by omega) hc1 (Int32.not_le.mp hc2)
      refine lv_iconst (v := 1) hx hb dX3_isBucket_12 (by decide) ?_
      refine lv_goto (tgt := 17) hx hb dX3_isBucket_13 (by decide) ?_
      exact W.zret (v := 1) hx hb hr rfl (fun t ht hW => ⟨⟨1, (), rfl, Or.inl ⟨rfl, xj, hxj, rfl⟩, trivial⟩, hS.F ht⟩) hS.2.2 dX3_isBucket_17

def own_k_roomsOf : List Cond := [.fieldLink RX3 36 "ClashFree$Layout" "buckets" "I", .fieldLink RX3 15 "ClashFree$Layout" "roof" "[I"]
def wp_k_roomsOf : List Cond := .code yX3_roomsOf cX3_roomsOf 2 (some .int) :: (own_k_roomsOf ++ (wsX30 ++ ([] : List Cond)))
set_option maxRecDepth 20000 in
theorem inown_k_roomsOf : ∀ w ∈ own_k_roomsOf, w ∈ lw_tbl := mem_places [178, 195] (by decide +kernel)
set_option maxRecDepth 20000 in
theorem in_k_roomsOf : ∀ w ∈ wp_k_roomsOf, w ∈ lw_tbl := List.forall_mem_cons.mpr ⟨List.mem_of_getElem? (i := 603) (by decide +kernel), List.forall_mem_append.mpr ⟨inown_k_roomsOf, List.forall_mem_append.mpr ⟨lwb_X3, fun _ h => absurd h List.not_mem_nil⟩⟩⟩
set_option maxRecDepth 20000 in
theorem good_k_roomsOf : wp_k_roomsOf.all goodWord = true := by decide +kernel
set_option maxHeartbeats 4000000 in
set_option maxRecDepth 100000 in
theorem k_roomsOf (l : Launch) (D : va_G) (sz : Nat) (ob : Nat → Nat) (cI : ClassId) (nb : Nat) (ka : Nat) (kb : Nat) (sm : Int32) (ln : Nat) (ff : Nat → Int32) (z1 : Int32) (hnb : nb ≤ 2048) : Met l yX3_roomsOf wp_k_roomsOf ({ frames := 0, cells := 0, slots := 0, locals := 0 }) (PcRC D [.ref (ob 5), .int z1] sz [(ob 5, .inr (3, gY ob (nI nb) (nI ka) (nI kb) sm (nI ln))), (ob 7, .inl (cI, 2048, .inl ff))] [(cI, .int)]) (va_Qi (fun (r : Int32) (u : Unit) => r = 0 ∨ ∃ x, x < nb ∧ z1 = nI x) (fun (_ : Unit) _ => True) (va_A [] sz)) 0 0 (va_A [] sz) := by
  refine Met.ofW (cc := cX3_roomsOf) (maxL := 2) (ret := (some .int)) (by decide) rfl ?_
  intro p e s m args below meth c s₁ B hml hv
  obtain ⟨rfl, hsz, hP, hK, hN⟩ := hv
  have hx := B.exec
  have hb := B.bytes
  have hr := B.returns
  have hts := atoms_spec (ws := wp_k_roomsOf) B.pre
  have hin_X3 : ∀ w ∈ wsX30, w ∈ wp_k_roomsOf := fun _ h => (List.mem_cons_of_mem _ (List.mem_append_right _ (List.mem_append_left _ h)))
  have hown : s.vm.findClass RX3 = some m.cls := findClass_of_methodNamed B.named
  have hlocks := B.notSynchronized
  subst hsz
  generalize hAe : va_A [] s.heap.size = A at ⊢
  have hA : ∀ q : Nat, s.heap.size ≤ q → A q := fun q h => by rw [← hAe]; exact Or.inr h
  have hS : va_S A s.heap s.heap [] := va_S.rf
  have hP : va_P D vwCl [(ob 5, .inr (3, gY ob (nI nb) (nI ka) (nI kb) sm (nI ln))), (ob 7, .inl (cI, 2048, .inl ff))] s.heap := hP
  have hl := lv_entry ([.ref (ob 5), .int z1]) (n := 2) (Nat.le_of_ble_eq_true rfl)
  rw [lg_entry_eq]
  generalize (lg_sl ([.ref (ob 5), .int z1]) ++ List.replicate (2 - (lg_sl ([.ref (ob 5), .int z1])).length) Slot.unset).toArray = ls at hl ⊢
  have hl : lv_has ls 2 [(0, .ref (ob 5)), (1, .int z1)] := hl
  refine lv_iload_n hx hb dX3_roomsOf_0 rfl (lv_at hl 1 rfl) ?_
  refine lv_if_lt (tgt := 12) hx hb dX3_roomsOf_1 (by decide) (fun hc1 => ?_) (fun hc1 => ?_)
  ·
    refine lv_iconst (v := 0) hx hb dX3_roomsOf_12 (by decide) ?_
    refine lv_goto (tgt := 29) hx hb dX3_roomsOf_13 (by decide) ?_
    exact W.iret (v := 0) hx hb hr (fun t ht hW => ⟨⟨0, (), rfl, Or.inl rfl, trivial⟩, hS.F ht⟩) hS.2.2 dX3_roomsOf_29
  ·
    refine lv_iload_n hx hb dX3_roomsOf_4 rfl (lv_at hl 1 rfl) ?_
    refine lv_aload_n hx hb dX3_roomsOf_5 rfl (lv_at hl 0 rfl) ?_
    refine va_get (D := D) (ci := 3) (v := .int (nI nb)) (C := RX3) (T := TX3) (N := 13) hx hb hts hin_X3 hown hK hP 0 rfl rfl 0 (by decide) (hts (.fieldLink RX3 36 "ClashFree$Layout" "buckets" "I") (List.mem_of_getElem? (i := 1) rfl)) (fun _ h9 => h9) rfl dX3_roomsOf_6 ?_
    refine lv_icmp_lt (tgt := 16) hx hb dX3_roomsOf_9 (by decide) (fun hc2 => ?_) (fun hc2 => ?_)
    ·
      obtain ⟨xj, hxj, rfl⟩ := inz (by omega) hc1 (hc2)
      refine lv_aload_n hx hb dX3_roomsOf_16 rfl (lv_at hl 0 rfl) ?_
      refine va_get (D := D) (ci := 3) (v := .ref (ob 7)) (C := RX3) (T := TX3) (N := 13) hx hb hts hin_X3 hown hK hP 0 rfl rfl 6 (by decide) (hts (.fieldLink RX3 15 "ClashFree$Layout" "roof" "[I") (List.mem_of_getElem? (i := 2) rfl)) (fun _ h9 => h9) rfl dX3_roomsOf_17 ?_
      refine lv_iload_n hx hb dX3_roomsOf_20 rfl (lv_at hl 1 rfl) ?_
      refine va_iald hx hb hK hP 1 0 rfl rfl (vp_in_nI (by omega) (by decide)) dX3_roomsOf_21 ?_
      refine lv_topi (fun v3 ev3 => ?_)
      refine lv_aload_n hx hb dX3_roomsOf_22 rfl (lv_at hl 0 rfl) ?_
      refine va_get (D := D) (ci := 3) (v := .ref (ob 7)) (C := RX3) (T := TX3) (N := 13) hx hb hts hin_X3 hown hK hP 0 rfl rfl 6 (by decide) (hts (.fieldLink RX3 15 "ClashFree$Layout" "roof" "[I") (List.mem_of_getElem? (i := 2) rfl)) (fun _ h9 => h9) rfl dX3_roomsOf_23 ?_
      refine lv_iload_n hx hb dX3_roomsOf_26 rfl (lv_at hl 1 rfl) ?_
      refine va_iald hx hb hK hP 1 0 rfl rfl (vp_in_nI (by omega) (by decide)) dX3_roomsOf_27 ?_
      refine lv_topi (fun v4 ev4 => ?_)
      refine lv_imul hx hb dX3_roomsOf_28 ?_
      refine lv_topi (fun v5 ev5 => ?_)
      exact W.iret (v := v5) hx hb hr (fun t ht hW => ⟨⟨v5, (), rfl, Or.inr ⟨xj, hxj, rfl⟩, trivial⟩, hS.F ht⟩) hS.2.2 dX3_roomsOf_29
    ·
      refine lv_iconst (v := 0) hx hb dX3_roomsOf_12 (by decide) ?_
      refine lv_goto (tgt := 29) hx hb dX3_roomsOf_13 (by decide) ?_
      exact W.iret (v := 0) hx hb hr (fun t ht hW => ⟨⟨0, (), rfl, Or.inl rfl, trivial⟩, hS.F ht⟩) hS.2.2 dX3_roomsOf_29

def own_k_homeOf : List Cond := [.fieldLink RX3 40 "ClashFree$Layout" "a" "I", .fieldLink RX3 43 "ClashFree$Layout" "b" "I", .fieldLink RX3 36 "ClashFree$Layout" "buckets" "I", .initialized RX10, .static yX10_spot]
def wp_k_homeOf : List Cond := .code yX3_homeOf cX3_homeOf 2 (some .int) :: (own_k_homeOf ++ (wp_k_spot ++ (wsX30 ++ ([] : List Cond))))
set_option maxRecDepth 20000 in
theorem inown_k_homeOf : ∀ w ∈ own_k_homeOf, w ∈ lw_tbl := mem_places [182, 184, 178, 106, 584] (by decide +kernel)
set_option maxRecDepth 20000 in
theorem in_k_homeOf : ∀ w ∈ wp_k_homeOf, w ∈ lw_tbl := List.forall_mem_cons.mpr ⟨List.mem_of_getElem? (i := 637) (by decide +kernel), List.forall_mem_append.mpr ⟨inown_k_homeOf, List.forall_mem_append.mpr ⟨in_k_spot, List.forall_mem_append.mpr ⟨lwb_X3, fun _ h => absurd h List.not_mem_nil⟩⟩⟩⟩
set_option maxRecDepth 20000 in
theorem good_k_homeOf : wp_k_homeOf.all goodWord = true := by decide +kernel
set_option maxRecDepth 20000 in
theorem g_k_homeOf_k_spot_46 : GoodIn wp_k_homeOf (wp_k_spot) := goodIn_sub ((fun _ h => (List.mem_cons_of_mem _ (List.mem_append_right _ (List.mem_append_left _ h))))) (by decide +kernel)
set_option maxHeartbeats 4000000 in
set_option maxRecDepth 100000 in
theorem k_homeOf (l : Launch) (D : va_G) (sz : Nat) (ob : Nat → Nat) (cI : ClassId) (nb : Nat) (ka : Nat) (kb : Nat) (sm : Int32) (ln : Nat) (kx : Nat) (hnb : nb ≤ 2048) (hn1 : 1 ≤ nb) (hka : ka < 2147483647) (hkb : kb < 2147483647) (hkx : kx < 2147483647) : Met l yX3_homeOf wp_k_homeOf ({ frames := 1, cells := 0, slots := 0, locals := 23 }) (PcRC D [.ref (ob 5), .int (nI kx)] sz [(ob 5, .inr (3, gY ob (nI nb) (nI ka) (nI kb) sm (nI ln)))] []) (va_Qi (fun (r : Int32) (u : Unit) => r = nI ((ka * kx + kb) % 2147483647 % nb)) (fun (_ : Unit) _ => True) (va_A [] sz)) 0 0 (va_A [] sz) := by
  refine Met.ofW (cc := cX3_homeOf) (maxL := 2) (ret := (some .int)) (by decide) rfl ?_
  intro p e s m args below meth c s₁ B hml hv
  obtain ⟨rfl, hsz, hP, hK, hN⟩ := hv
  have hx := B.exec
  have hb := B.bytes
  have hr := B.returns
  have hts := atoms_spec (ws := wp_k_homeOf) B.pre
  have hin_X3 : ∀ w ∈ wsX30, w ∈ wp_k_homeOf := fun _ h => (List.mem_cons_of_mem _ (List.mem_append_right _ (List.mem_append_right _ (List.mem_append_left _ h))))
  have hown : s.vm.findClass RX3 = some m.cls := findClass_of_methodNamed B.named
  have hlocks := B.notSynchronized
  subst hsz
  generalize hAe : va_A [] s.heap.size = A at ⊢
  have hA : ∀ q : Nat, s.heap.size ≤ q → A q := fun q h => by rw [← hAe]; exact Or.inr h
  have hS : va_S A s.heap s.heap [] := va_S.rf
  have hP : va_P D vwCl [(ob 5, .inr (3, gY ob (nI nb) (nI ka) (nI kb) sm (nI ln)))] s.heap := hP
  have hl := lv_entry ([.ref (ob 5), .int (nI kx)]) (n := 2) (Nat.le_of_ble_eq_true rfl)
  rw [lg_entry_eq]
  generalize (lg_sl ([.ref (ob 5), .int (nI kx)]) ++ List.replicate (2 - (lg_sl ([.ref (ob 5), .int (nI kx)])).length) Slot.unset).toArray = ls at hl ⊢
  have hl : lv_has ls 2 [(0, .ref (ob 5)), (1, .int (nI kx))] := hl
  refine lv_aload_n hx hb dX3_homeOf_0 rfl (lv_at hl 0 rfl) ?_
  refine va_get (D := D) (ci := 3) (v := .int (nI ka)) (C := RX3) (T := TX3) (N := 13) hx hb hts hin_X3 hown hK hP 0 rfl rfl 1 (by decide) (hts (.fieldLink RX3 40 "ClashFree$Layout" "a" "I") (List.mem_of_getElem? (i := 1) rfl)) (fun _ h9 => h9) rfl dX3_homeOf_1 ?_
  refine lv_aload_n hx hb dX3_homeOf_4 rfl (lv_at hl 0 rfl) ?_
  refine va_get (D := D) (ci := 3) (v := .int (nI kb)) (C := RX3) (T := TX3) (N := 13) hx hb hts hin_X3 hown hK hP 0 rfl rfl 2 (by decide) (hts (.fieldLink RX3 43 "ClashFree$Layout" "b" "I") (List.mem_of_getElem? (i := 2) rfl)) (fun _ h9 => h9) rfl dX3_homeOf_5 ?_
  refine lv_iload_n hx hb dX3_homeOf_8 rfl (lv_at hl 1 rfl) ?_
  refine lv_aload_n hx hb dX3_homeOf_9 rfl (lv_at hl 0 rfl) ?_
  refine va_get (D := D) (ci := 3) (v := .int (nI nb)) (C := RX3) (T := TX3) (N := 13) hx hb hts hin_X3 hown hK hP 0 rfl rfl 0 (by decide) (hts (.fieldLink RX3 36 "ClashFree$Layout" "buckets" "I") (List.mem_of_getElem? (i := 3) rfl)) (fun _ h9 => h9) rfl dX3_homeOf_10 ?_
  have hPc := hP.sub (ws' := []) [] rfl
  have hKc := hK.sub (tys' := []) [] rfl
  have hFc := va_free0 hS hA
  refine va_calli (va_runSN (As := [.int (nI ka), .int (nI kb), .int (nI kx), .int (nI nb)]) (rest := []) ⟨hx, hb, hml, hown, hts⟩ (k_spot l D _ cI (nI ka) (nI kb) (nI kx) (nI nb)) ⟨va_cnB 4 hts g_k_homeOf_k_spot_46 rfl rfl rfl hN.2.2.1 (hts (.initialized RX10) (List.mem_of_getElem? (i := 4) rfl)) (by decide +kernel) ⟨(Nat.le_of_ble_eq_true rfl), (Nat.le_of_ble_eq_true rfl)⟩, (hts (.static yX10_spot) (List.mem_of_getElem? (i := 5) rfl)), trivial⟩ (PcRC_S hPc hKc hN) rfl rfl hl.1 rfl (lv_room (Nat.le_of_ble_eq_true rfl)) dX3_homeOf_13 ⟨(Nat.le_of_ble_eq_true rfl), (Nat.le_of_ble_eq_true rfl)⟩) hS (fun q _ h => hFc q h) hFc (fun r1 uu tt H locs htt hvm hw hB hz1 hk1 hS => ?_)
  have hP := va_keep hP hk1
  try dsimp only at hw
  clear hB hz1 hk1 hFc hPc hKc
  have hsp_r1 := hw
  exact W.iret (v := r1) hx hb hr (fun t ht hW => ⟨⟨r1, (), rfl, hsp_r1 _ _ _ _ rfl rfl rfl rfl hka hkb (by omega) (by omega) (by omega), trivial⟩, hS.F ht⟩) hS.2.2 dX3_homeOf_16

def own_k_roomOf : List Cond := [.methodLink RX3 50 yX3_roomsOf, .instanceMethod yX3_roomsOf, .selects RX3 yX3_roomsOf yX3_roomsOf, .initialized RX3, .fieldLink RX3 18 "ClashFree$Layout" "pairA" "[I", .fieldLink RX3 21 "ClashFree$Layout" "pairB" "[I", .initialized RX10, .static yX10_spot]
def wp_k_roomOf : List Cond := .code yX3_roomOf cX3_roomOf 4 (some .int) :: (own_k_roomOf ++ (wp_k_roomsOf ++ (wp_k_spot ++ (wsX30 ++ ([] : List Cond)))))
set_option maxRecDepth 20000 in
theorem inown_k_roomOf : ∀ w ∈ own_k_roomOf, w ∈ lw_tbl := mem_places [600, 601, 602, 109, 198, 200, 106, 584] (by decide +kernel)
set_option maxRecDepth 20000 in
theorem in_k_roomOf : ∀ w ∈ wp_k_roomOf, w ∈ lw_tbl := List.forall_mem_cons.mpr ⟨List.mem_of_getElem? (i := 654) (by decide +kernel), List.forall_mem_append.mpr ⟨inown_k_roomOf, List.forall_mem_append.mpr ⟨in_k_roomsOf, List.forall_mem_append.mpr ⟨in_k_spot, List.forall_mem_append.mpr ⟨lwb_X3, fun _ h => absurd h List.not_mem_nil⟩⟩⟩⟩⟩
set_option maxRecDepth 20000 in
theorem good_k_roomOf : wp_k_roomOf.all goodWord = true := by decide +kernel
set_option maxRecDepth 20000 in
theorem g_k_roomOf_k_roomsOf_50 : GoodIn wp_k_roomOf (wsV RX3 50 RX3 yX3_roomsOf wp_k_roomsOf) := goodIn_sub (List.forall_mem_append.mpr ⟨List.forall_mem_cons.mpr ⟨(List.mem_of_getElem? (i := 1) rfl), List.forall_mem_cons.mpr ⟨(List.mem_of_getElem? (i := 2) rfl), List.forall_mem_cons.mpr ⟨(List.mem_of_getElem? (i := 3) rfl), List.forall_mem_cons.mpr ⟨(List.mem_of_getElem? (i := 4) rfl), fun _ h => absurd h List.not_mem_nil⟩⟩⟩⟩, (fun _ h => (List.mem_cons_of_mem _ (List.mem_append_right _ (List.mem_append_left _ h))))⟩) (by decide +kernel)
set_option maxRecDepth 20000 in
theorem g_k_roomOf_k_spot_46 : GoodIn wp_k_roomOf (wp_k_spot) := goodIn_sub ((fun _ h => (List.mem_cons_of_mem _ (List.mem_append_right _ (List.mem_append_right _ (List.mem_append_left _ h)))))) (by decide +kernel)
set_option maxHeartbeats 4000000 in
set_option maxRecDepth 100000 in
theorem k_roomOf (l : Launch) (D : va_G) (sz : Nat) (ob : Nat → Nat) (cI : ClassId) (nb : Nat) (ka : Nat) (kb : Nat) (sm : Int32) (ln : Nat) (ff : Nat → Int32) (fa : Nat → Int32) (fs : Nat → Int32) (z1 : Int32) (z2 : Int32) (hnb : nb ≤ 2048) : Met l yX3_roomOf wp_k_roomOf ({ frames := 1, cells := 0, slots := 0, locals := 23 }) (PcRC D [.ref (ob 5), .int z1, .int z2] sz [(ob 5, .inr (3, gY ob (nI nb) (nI ka) (nI kb) sm (nI ln))), (ob 7, .inl (cI, 2048, .inl ff)), (ob 8, .inl (cI, 2048, .inl fa)), (ob 9, .inl (cI, 2048, .inl fs))] [(cI, .int)]) (va_Qi (fun (r : Int32) (u : Unit) => True) (fun (_ : Unit) _ => True) (va_A [] sz)) 0 0 (va_A [] sz) := by
  refine Met.ofW (cc := cX3_roomOf) (maxL := 4) (ret := (some .int)) (by decide) rfl ?_
  intro p e s m args below meth c s₁ B hml hv
  obtain ⟨rfl, hsz, hP, hK, hN⟩ := hv
  have hx := B.exec
  have hb := B.bytes
  have hr := B.returns
  have hts := atoms_spec (ws := wp_k_roomOf) B.pre
  have hin_X3 : ∀ w ∈ wsX30, w ∈ wp_k_roomOf := fun _ h => (List.mem_cons_of_mem _ (List.mem_append_right _ (List.mem_append_right _ (List.mem_append_right _ (List.mem_append_left _ h)))))
  have hown : s.vm.findClass RX3 = some m.cls := findClass_of_methodNamed B.named
  have hlocks := B.notSynchronized
  subst hsz
  generalize hAe : va_A [] s.heap.size = A at ⊢
  have hA : ∀ q : Nat, s.heap.size ≤ q → A q := fun q h => by rw [← hAe]; exact Or.inr h
  have hS : va_S A s.heap s.heap [] := va_S.rf
  have hP : va_P D vwCl [(ob 5, .inr (3, gY ob (nI nb) (nI ka) (nI kb) sm (nI ln))), (ob 7, .inl (cI, 2048, .inl ff)), (ob 8, .inl (cI, 2048, .inl fa)), (ob 9, .inl (cI, 2048, .inl fs))] s.heap := hP
  have hl := lv_entry ([.ref (ob 5), .int z1, .int z2]) (n := 4) (Nat.le_of_ble_eq_true rfl)
  rw [lg_entry_eq]
  generalize (lg_sl ([.ref (ob 5), .int z1, .int z2]) ++ List.replicate (4 - (lg_sl ([.ref (ob 5), .int z1, .int z2])).length) Slot.unset).toArray = ls at hl ⊢
  have hl : lv_has ls 4 [(0, .ref (ob 5)), (1, .int z1), (2, .int z2)] := hl
  refine lv_aload_n hx hb dX3_roomOf_0 rfl (lv_at hl 0 rfl) ?_
  refine lv_iload_n hx hb dX3_roomOf_1 rfl (lv_at hl 2 rfl) ?_
  have hPc := hP.sub (ws' := [(ob 5, .inr (3, gY ob (nI nb) (nI ka) (nI kb) sm (nI ln))), (ob 7, .inl (cI, 2048, .inl ff))]) [0, 1] rfl
  have hKc := hK.sub (tys' := [(cI, .int)]) [0] rfl
  have hFc := va_free0 hS hA
  refine va_calli (va_runV (As := [.int z2]) (rest := []) ⟨hx, hb, hml, hown, hts⟩ (k_roomsOf l D _ ob cI nb ka kb sm ln ff z2 (by first | assumption | omega)) (cwV 1 hts g_k_roomOf_k_roomsOf_50 rfl rfl rfl (by decide +kernel) ⟨(Nat.le_of_ble_eq_true rfl), (Nat.le_of_ble_eq_true rfl)⟩) (PcRC_V (q0 := 0) hPc hKc hN rfl rfl) rfl rfl hl.1 rfl (lv_room (Nat.le_of_ble_eq_true rfl)) dX3_roomOf_2 ⟨(Nat.le_of_ble_eq_true rfl), (Nat.le_of_ble_eq_true rfl)⟩) hS (fun q _ h => hFc q h) hFc (fun r1 uu tt H locs htt hvm hw hB hz1 hk1 hS => ?_)
  have hP := va_keep hP hk1
  try dsimp only at hw
  clear hB hz1 hk1 hFc hPc hKc
  have hro_r1 := hw
  refine lv_istore_n (lv' := [(3, .int r1), (0, .ref (ob 5)), (1, .int z1), (2, .int z2)]) hx hb dX3_roomOf_5 rfl hl (by decide) rfl (fun ls hl => ?_)
  refine lv_iload_n hx hb dX3_roomOf_6 rfl (lv_at hl 0 rfl) ?_
  refine lv_if_ne (tgt := 14) hx hb dX3_roomOf_7 (by decide) (fun hc2 => ?_) (fun hc2 => ?_)
  ·
    obtain ⟨x, hx9, rfl⟩ := (hro_r1).resolve_left hc2
    refine lv_aload_n hx hb dX3_roomOf_14 rfl (lv_at hl 1 rfl) ?_
    refine va_get (D := D) (ci := 3) (v := .ref (ob 8)) (C := RX3) (T := TX3) (N := 13) hx hb hts hin_X3 hown hK hP 0 rfl rfl 7 (by decide) (hts (.fieldLink RX3 18 "ClashFree$Layout" "pairA" "[I") (List.mem_of_getElem? (i := 5) rfl)) (fun _ h9 => h9) rfl dX3_roomOf_15 ?_
    refine lv_iload_n hx hb dX3_roomOf_18 rfl (lv_at hl 3 rfl) ?_
    refine va_iald hx hb hK hP 2 0 rfl rfl (vp_in_nI (by omega) (by decide)) dX3_roomOf_19 ?_
    refine lv_topi (fun v3 ev3 => ?_)
    refine lv_aload_n hx hb dX3_roomOf_20 rfl (lv_at hl 1 rfl) ?_
    refine va_get (D := D) (ci := 3) (v := .ref (ob 9)) (C := RX3) (T := TX3) (N := 13) hx hb hts hin_X3 hown hK hP 0 rfl rfl 8 (by decide) (hts (.fieldLink RX3 21 "ClashFree$Layout" "pairB" "[I") (List.mem_of_getElem? (i := 6) rfl)) (fun _ h9 => h9) rfl dX3_roomOf_21 ?_
    refine lv_iload_n hx hb dX3_roomOf_24 rfl (lv_at hl 3 rfl) ?_
    refine va_iald hx hb hK hP 3 0 rfl rfl (vp_in_nI (by omega) (by decide)) dX3_roomOf_25 ?_
    refine lv_topi (fun v4 ev4 => ?_)
    refine lv_iload_n hx hb dX3_roomOf_26 rfl (lv_at hl 2 rfl) ?_
    refine lv_iload_n hx hb dX3_roomOf_27 rfl (lv_at hl 0 rfl) ?_
    have hPc := hP.sub (ws' := []) [] rfl
    have hKc := hK.sub (tys' := []) [] rfl
    have hFc := va_free0 hS hA
    refine va_calli (va_runSN (As := [.int v3, .int v4, .int z1, .int r1]) (rest := []) ⟨hx, hb, hml, hown, hts⟩ (k_spot l D _ cI v3 v4 z1 r1) ⟨va_cnB 4 hts g_k_roomOf_k_spot_46 rfl rfl rfl hN.2.2.1 (hts (.initialized RX10) (List.mem_of_getElem? (i := 7) rfl)) (by decide +kernel) ⟨(Nat.le_of_ble_eq_true rfl), (Nat.le_of_ble_eq_true rfl)⟩, (hts (.static yX10_spot) (List.mem_of_getElem? (i := 8) rfl)), trivial⟩ (PcRC_S hPc hKc hN) rfl rfl hl.1 rfl (lv_room (Nat.le_of_ble_eq_true rfl)) dX3_roomOf_28 ⟨(Nat.le_of_ble_eq_true rfl), (Nat.le_of_ble_eq_true rfl)⟩) hS (fun q _ h => hFc q h) hFc (fun r5 uu tt H locs htt hvm hw hB hz1 hk1 hS => ?_)
    have hP := va_keep hP hk1
    try dsimp only at hw
    clear hB hz1 hk1 hFc hPc hKc
    have hsp_r5 := hw
    exact W.iret (v := r5) hx hb hr (fun t ht hW => ⟨⟨r5, (), rfl, trivial, trivial⟩, hS.F ht⟩) hS.2.2 dX3_roomOf_31
  ·
    refine lv_iconst (v := (-1)) hx hb dX3_roomOf_10 (by decide) ?_
    refine lv_goto (tgt := 31) hx hb dX3_roomOf_11 (by decide) ?_
    exact W.iret (v := (-1)) hx hb hr (fun t ht hW => ⟨⟨(-1), (), rfl, trivial, trivial⟩, hS.F ht⟩) hS.2.2 dX3_roomOf_31

def own_k_tenant : List Cond := [.fieldLink RX3 54 "ClashFree$Layout" "size" "I", .fieldLink RX3 27 "ClashFree$Layout" "home" "[I", .fieldLink RX3 30 "ClashFree$Layout" "lies" "[I"]
def wp_k_tenant : List Cond := .code yX3_tenant cX3_tenant 4 (some .int) :: (own_k_tenant ++ (wsX30 ++ ([] : List Cond)))
set_option maxRecDepth 20000 in
theorem inown_k_tenant : ∀ w ∈ own_k_tenant, w ∈ lw_tbl := mem_places [189, 202, 203] (by decide +kernel)
set_option maxRecDepth 20000 in
theorem in_k_tenant : ∀ w ∈ wp_k_tenant, w ∈ lw_tbl := List.forall_mem_cons.mpr ⟨List.mem_of_getElem? (i := 658) (by decide +kernel), List.forall_mem_append.mpr ⟨inown_k_tenant, List.forall_mem_append.mpr ⟨lwb_X3, fun _ h => absurd h List.not_mem_nil⟩⟩⟩
set_option maxRecDepth 20000 in
theorem good_k_tenant : wp_k_tenant.all goodWord = true := by decide +kernel
set_option maxHeartbeats 4000000 in
set_option maxRecDepth 100000 in
theorem lk_tenant (l : Launch) {p : Program} {e : Env} {s : State} {m : MethodId} {args : Array Value} {below : List Frame} {meth : Method} {c : Code} {Q : State → Prop} {A : Nat → Prop} (D : va_G) (ob : Nat → Nat) (cI : ClassId) (nb : Nat) (ka : Nat) (kb : Nat) (sm : Int32) (ln : Nat) (fj : Nat → Int32) (fr : Nat → Int32) (z1 : Int32) (z2 : Int32) (hln : ln ≤ 160) (hx : p.tables.exec = Jvm.exec) (hb : c.code = cX3_tenant) (hml : c.maxLocals = 4) (hown : s.vm.findClass RX3 = some m.cls) (hts : ∀ w ∈ wp_k_tenant, w.before args s = true) (hA : ∀ q, s.heap.size ≤ q → A q) (hK : va_K D vwCl [(cI, .int)] s) (hN : NC s) (kx38 : ∀ (y : Nat), (y ≤ ln) → ∀ (H : Heap) (locs : List Loc) (ls : Array Slot), va_P D vwCl [(ob 5, .inr (3, gY ob (nI nb) (nI ka) (nI kb) sm (nI ln))), (ob 10, .inl (cI, 160, .inl fj)), (ob 11, .inl (cI, 160, .inl fr))] H → va_S A s.heap H locs → lv_has ls 4 [(0, .ref (ob 5))] → W p l e ({ frames := 0, cells := 0, slots := 0, locals := 0 }) s m args below meth c H locs 0 0 Q (F0 m 38 ls [])) (kx30 : ∀ (y : Nat), (y ≤ ln) → ∀ (H : Heap) (locs : List Loc) (ls : Array Slot), va_P D vwCl [(ob 5, .inr (3, gY ob (nI nb) (nI ka) (nI kb) sm (nI ln))), (ob 10, .inl (cI, 160, .inl fj)), (ob 11, .inl (cI, 160, .inl fr))] H → va_S A s.heap H locs → lv_has ls 4 [(3, .int (nI y))] → W p l e ({ frames := 0, cells := 0, slots := 0, locals := 0 }) s m args below meth c H locs 0 0 Q (F0 m 30 ls [])) : ∀ (N : Nat), ∀ (y : Nat), (y ≤ ln) → ln - y < N → ∀ (H : Heap) (locs : List Loc) (ls : Array Slot), va_P D vwCl [(ob 5, .inr (3, gY ob (nI nb) (nI ka) (nI kb) sm (nI ln))), (ob 10, .inl (cI, 160, .inl fj)), (ob 11, .inl (cI, 160, .inl fr))] H → va_S A s.heap H locs → lv_has ls 4 [(3, .int (nI y)), (0, .ref (ob 5)), (1, .int z1), (2, .int z2)] → W p l e ({ frames := 0, cells := 0, slots := 0, locals := 0 }) s m args below meth c H locs 0 0 Q (F0 m 2 ls []) := by
  have hin_X3 : ∀ w ∈ wsX30, w ∈ wp_k_tenant := fun _ h => (List.mem_cons_of_mem _ (List.mem_append_right _ (List.mem_append_left _ h)))
  intro N
  induction N with
  | zero =>
    intro y hy1 hm
    exact absurd hm (Nat.not_lt_zero _)
  | succ N ih =>
    intro y hy1 hm H locs ls hP hS hl
    refine lv_iload_n hx hb dX3_tenant_2 rfl (lv_at hl 0 rfl) ?_
    refine lv_aload_n hx hb dX3_tenant_3 rfl (lv_at hl 1 rfl) ?_
    refine va_get (D := D) (ci := 3) (v := .int (nI ln)) (C := RX3) (T := TX3) (N := 13) hx hb hts hin_X3 hown hK hP 0 rfl rfl 4 (by decide) (hts (.fieldLink RX3 54 "ClashFree$Layout" "size" "I") (List.mem_of_getElem? (i := 1) rfl)) (fun _ h9 => h9) rfl dX3_tenant_4 ?_
    refine lv_icmp_ge (tgt := 38) hx hb dX3_tenant_7 (by decide) (fun hc1 => ?_) (fun hc1 => ?_)
    ·
      have hlt : ln ≤ y := (nI_leI (by omega) (by omega)).mp hc1
      exact kx38 y (hy1) H locs ls (hP.sub [0, 1, 2] rfl) hS (lv_sub hl [1] rfl)
    ·
      have hlt : y < ln := by
        rcases Nat.lt_or_ge y (ln) with z | z
        · exact z
        · exact absurd (nI_le z (by omega)) hc1
      refine lv_aload_n hx hb dX3_tenant_10 rfl (lv_at hl 1 rfl) ?_
      refine va_get (D := D) (ci := 3) (v := .ref (ob 10)) (C := RX3) (T := TX3) (N := 13) hx hb hts hin_X3 hown hK hP 0 rfl rfl 9 (by decide) (hts (.fieldLink RX3 27 "ClashFree$Layout" "home" "[I") (List.mem_of_getElem? (i := 2) rfl)) (fun _ h9 => h9) rfl dX3_tenant_11 ?_
      refine lv_iload_n hx hb dX3_tenant_14 rfl (lv_at hl 0 rfl) ?_
      refine va_iald hx hb hK hP 1 0 rfl rfl (vp_in_nI (by omega) (by decide)) dX3_tenant_15 ?_
      refine lv_topi (fun v2 ev2 => ?_)
      refine lv_iload_n hx hb dX3_tenant_16 rfl (lv_at hl 2 rfl) ?_
      refine lv_icmp_ne (tgt := 32) hx hb dX3_tenant_17 (by decide) (fun hc3 => ?_) (fun hc3 => ?_)
      ·
        refine lv_iinc (v := nI (y + 1)) (lv' := [(3, .int (nI (y + 1))), (0, .ref (ob 5)), (1, .int z1), (2, .int z2)]) hx hb dX3_tenant_32 hl (k := 0) rfl (nI_1 _) (by decide) rfl (fun ls hl => ?_)
        refine lv_goto (tgt := 2) hx hb dX3_tenant_35 (by decide) ?_
        exact ih (y + 1) (by omega) (by omega) H locs ls (hP.sub [0, 1, 2] rfl) hS (lv_sub hl [0, 1, 2, 3] rfl)
      ·
        refine lv_aload_n hx hb dX3_tenant_20 rfl (lv_at hl 1 rfl) ?_
        refine va_get (D := D) (ci := 3) (v := .ref (ob 11)) (C := RX3) (T := TX3) (N := 13) hx hb hts hin_X3 hown hK hP 0 rfl rfl 10 (by decide) (hts (.fieldLink RX3 30 "ClashFree$Layout" "lies" "[I") (List.mem_of_getElem? (i := 3) rfl)) (fun _ h9 => h9) rfl dX3_tenant_21 ?_
        refine lv_iload_n hx hb dX3_tenant_24 rfl (lv_at hl 0 rfl) ?_
        refine va_iald hx hb hK hP 2 0 rfl rfl (vp_in_nI (by omega) (by decide)) dX3_tenant_25 ?_
        refine lv_topi (fun v4 ev4 => ?_)
        refine lv_iload_n hx hb dX3_tenant_26 rfl (lv_at hl 3 rfl) ?_
        refine lv_icmp_ne (tgt := 32) hx hb dX3_tenant_27 (by decide) (fun hc5 => ?_) (fun hc5 => ?_)
        ·
          refine lv_iinc (v := nI (y + 1)) (lv' := [(3, .int (nI (y + 1))), (0, .ref (ob 5)), (1, .int z1), (2, .int z2)]) hx hb dX3_tenant_32 hl (k := 0) rfl (nI_1 _) (by decide) rfl (fun ls hl => ?_)
          refine lv_goto (tgt := 2) hx hb dX3_tenant_35 (by decide) ?_
          exact ih (y + 1) (by omega) (by omega) H locs ls (hP.sub [0, 1, 2] rfl) hS (lv_sub hl [0, 1, 2, 3] rfl)
        ·
          exact kx30 y (hy1) H locs ls (hP.sub [0, 1, 2] rfl) hS (lv_sub hl [0] rfl)
set_option maxHeartbeats 4000000 in
set_option maxRecDepth 100000 in
theorem k_tenant (l : Launch) (D : va_G) (sz : Nat) (ob : Nat → Nat) (cI : ClassId) (nb : Nat) (ka : Nat) (kb : Nat) (sm : Int32) (ln : Nat) (fj : Nat → Int32) (fr : Nat → Int32) (z1 : Int32) (z2 : Int32) (hln : ln ≤ 160) : Met l yX3_tenant wp_k_tenant ({ frames := 0, cells := 0, slots := 0, locals := 0 }) (PcRC D [.ref (ob 5), .int z1, .int z2] sz [(ob 5, .inr (3, gY ob (nI nb) (nI ka) (nI kb) sm (nI ln))), (ob 10, .inl (cI, 160, .inl fj)), (ob 11, .inl (cI, 160, .inl fr))] [(cI, .int)]) (va_Qi (fun (r : Int32) (u : Unit) => True) (fun (_ : Unit) _ => True) (va_A [] sz)) 0 0 (va_A [] sz) := by
  refine Met.ofW (cc := cX3_tenant) (maxL := 4) (ret := (some .int)) (by decide) rfl ?_
  intro p e s m args below meth c s₁ B hml hv
  obtain ⟨rfl, hsz, hP, hK, hN⟩ := hv
  have hx := B.exec
  have hb := B.bytes
  have hr := B.returns
  have hts := atoms_spec (ws := wp_k_tenant) B.pre
  have hin_X3 : ∀ w ∈ wsX30, w ∈ wp_k_tenant := fun _ h => (List.mem_cons_of_mem _ (List.mem_append_right _ (List.mem_append_left _ h)))
  have hown : s.vm.findClass RX3 = some m.cls := findClass_of_methodNamed B.named
  have hlocks := B.notSynchronized
  subst hsz
  generalize hAe : va_A [] s.heap.size = A at ⊢
  have hA : ∀ q : Nat, s.heap.size ≤ q → A q := fun q h => by rw [← hAe]; exact Or.inr h
  have hS : va_S A s.heap s.heap [] := va_S.rf
  have hP : va_P D vwCl [(ob 5, .inr (3, gY ob (nI nb) (nI ka) (nI kb) sm (nI ln))), (ob 10, .inl (cI, 160, .inl fj)), (ob 11, .inl (cI, 160, .inl fr))] s.heap := hP
  have hl := lv_entry ([.ref (ob 5), .int z1, .int z2]) (n := 4) (Nat.le_of_ble_eq_true rfl)
  rw [lg_entry_eq]
  generalize (lg_sl ([.ref (ob 5), .int z1, .int z2]) ++ List.replicate (4 - (lg_sl ([.ref (ob 5), .int z1, .int z2])).length) Slot.unset).toArray = ls at hl ⊢
  have hl : lv_has ls 4 [(0, .ref (ob 5)), (1, .int z1), (2, .int z2)] := hl
  refine lv_iconst (v := 0) hx hb dX3_tenant_0 (by decide) ?_
  refine lv_istore_n (lv' := [(3, .int 0), (0, .ref (ob 5)), (1, .int z1), (2, .int z2)]) hx hb dX3_tenant_1 rfl hl (by decide) rfl (fun ls hl => ?_)
  refine lk_tenant l D ob cI nb ka kb sm ln fj fr z1 z2 (hln) hx hb hml hown hts hA (hK.sub [0] rfl) hN ?_ ?_ (ln + 1) 0 (Nat.zero_le _) (by omega) _ _ _ (hP.sub [0, 1, 2] rfl) hS (lv_sub hl [0, 1, 2, 3] rfl)
  ·
    intro y_1 hy1_2 H locs ls hP hS hl
    refine lv_iconst (v := (-1)) hx hb dX3_tenant_38 (by decide) ?_
    exact W.iret (v := (-1)) hx hb hr (fun t ht hW => ⟨⟨(-1), (), rfl, trivial, trivial⟩, hS.F ht⟩) hS.2.2 dX3_tenant_39
  ·
    intro y_3 hy1_4 H locs ls hP hS hl
    refine lv_iload_n hx hb dX3_tenant_30 rfl (lv_at hl 0 rfl) ?_
    exact W.iret (v := nI y_3) hx hb hr (fun t ht hW => ⟨⟨nI y_3, (), rfl, trivial, trivial⟩, hS.F ht⟩) hS.2.2 dX3_tenant_31

def own_k_gather : List Cond := [.fieldLink RX3 54 "ClashFree$Layout" "size" "I", .fieldLink RX3 27 "ClashFree$Layout" "home" "[I", .fieldLink RX3 33 "ClashFree$Layout" "order" "[I"]
def wp_k_gather : List Cond := .code yX3_gather cX3_gather 4 (some .int) :: (own_k_gather ++ (wsX30 ++ ([] : List Cond)))
set_option maxRecDepth 20000 in
theorem inown_k_gather : ∀ w ∈ own_k_gather, w ∈ lw_tbl := mem_places [189, 202, 206] (by decide +kernel)
set_option maxRecDepth 20000 in
theorem in_k_gather : ∀ w ∈ wp_k_gather, w ∈ lw_tbl := List.forall_mem_cons.mpr ⟨List.mem_of_getElem? (i := 686) (by decide +kernel), List.forall_mem_append.mpr ⟨inown_k_gather, List.forall_mem_append.mpr ⟨lwb_X3, fun _ h => absurd h List.not_mem_nil⟩⟩⟩
set_option maxRecDepth 20000 in
theorem good_k_gather : wp_k_gather.all goodWord = true := by decide +kernel
set_option maxHeartbeats 4000000 in
set_option maxRecDepth 100000 in
theorem lk_gather (l : Launch) {p : Program} {e : Env} {s : State} {m : MethodId} {args : Array Value} {below : List Frame} {meth : Method} {c : Code} {Q : State → Prop} {A : Nat → Prop} (D : va_G) (ob : Nat → Nat) (cI : ClassId) (nb : Nat) (ka : Nat) (kb : Nat) (sm : Int32) (ln : Nat) (fj : Nat → Int32) (z1 : Int32) (hln : ln ≤ 160) (hx : p.tables.exec = Jvm.exec) (hb : c.code = cX3_gather) (hml : c.maxLocals = 4) (hown : s.vm.findClass RX3 = some m.cls) (hts : ∀ w ∈ wp_k_gather, w.before args s = true) (hA : ∀ q, s.heap.size ≤ q → A q) (hK : va_K D vwCl [(cI, .int)] s) (hN : NC s) (kx38 : ∀ (y : Nat), ∀ (x : Nat), ∀ (go : Nat → Int32), (y ≤ ln) → (x ≤ y) → (OrC go) → ∀ (H : Heap) (locs : List Loc) (ls : Array Slot), va_P D vwCl [(ob 5, .inr (3, gY ob (nI nb) (nI ka) (nI kb) sm (nI ln))), (ob 10, .inl (cI, 160, .inl fj)), (ob 12, .inl (cI, 160, .inl go))] H → va_D A [(ob 5, .inr (3, gY ob (nI nb) (nI ka) (nI kb) sm (nI ln))), (ob 10, .inl (cI, 160, .inl fj)), (ob 12, .inl (cI, 160, .inl go))] → va_S A s.heap H locs → lv_has ls 4 [(2, .int (nI x))] → W p l e ({ frames := 0, cells := 0, slots := 0, locals := 0 }) s m args below meth c H locs 0 0 Q (F0 m 38 ls [])) : ∀ (N : Nat), ∀ (y : Nat), ∀ (x : Nat), ∀ (go : Nat → Int32), (y ≤ ln) → (x ≤ y) → (OrC go) → ln - y < N → ∀ (H : Heap) (locs : List Loc) (ls : Array Slot), va_P D vwCl [(ob 5, .inr (3, gY ob (nI nb) (nI ka) (nI kb) sm (nI ln))), (ob 10, .inl (cI, 160, .inl fj)), (ob 12, .inl (cI, 160, .inl go))] H → va_D A [(ob 5, .inr (3, gY ob (nI nb) (nI ka) (nI kb) sm (nI ln))), (ob 10, .inl (cI, 160, .inl fj)), (ob 12, .inl (cI, 160, .inl go))] → va_S A s.heap H locs → lv_has ls 4 [(3, .int (nI y)), (2, .int (nI x)), (0, .ref (ob 5)), (1, .int z1)] → W p l e ({ frames := 0, cells := 0, slots := 0, locals := 0 }) s m args below meth c H locs 0 0 Q (F0 m 4 ls []) := by
  have hin_X3 : ∀ w ∈ wsX30, w ∈ wp_k_gather := fun _ h => (List.mem_cons_of_mem _ (List.mem_append_right _ (List.mem_append_left _ h)))
  intro N
  induction N with
  | zero =>
    intro y x go hy1 hx1 hO hm
    exact absurd hm (Nat.not_lt_zero _)
  | succ N ih =>
    intro y x go hy1 hx1 hO hm H locs ls hP hD hS hl
    refine lv_iload_n hx hb dX3_gather_4 rfl (lv_at hl 0 rfl) ?_
    refine lv_aload_n hx hb dX3_gather_5 rfl (lv_at hl 2 rfl) ?_
    refine va_get (D := D) (ci := 3) (v := .int (nI ln)) (C := RX3) (T := TX3) (N := 13) hx hb hts hin_X3 hown hK hP 0 rfl rfl 4 (by decide) (hts (.fieldLink RX3 54 "ClashFree$Layout" "size" "I") (List.mem_of_getElem? (i := 1) rfl)) (fun _ h9 => h9) rfl dX3_gather_6 ?_
    refine lv_icmp_ge (tgt := 38) hx hb dX3_gather_9 (by decide) (fun hc1 => ?_) (fun hc1 => ?_)
    ·
      have hlt : ln ≤ y := (nI_leI (by omega) (by omega)).mp hc1
      exact kx38 y x go (hy1) (hx1) (hO) H locs ls (hP.sub [0, 1, 2] rfl) (hD.sub [0, 1, 2] (by decide) rfl) hS (lv_sub hl [1] rfl)
    ·
      have hlt : y < ln := by
        rcases Nat.lt_or_ge y (ln) with z | z
        · exact z
        · exact absurd (nI_le z (by omega)) hc1
      refine lv_aload_n hx hb dX3_gather_12 rfl (lv_at hl 2 rfl) ?_
      refine va_get (D := D) (ci := 3) (v := .ref (ob 10)) (C := RX3) (T := TX3) (N := 13) hx hb hts hin_X3 hown hK hP 0 rfl rfl 9 (by decide) (hts (.fieldLink RX3 27 "ClashFree$Layout" "home" "[I") (List.mem_of_getElem? (i := 2) rfl)) (fun _ h9 => h9) rfl dX3_gather_13 ?_
      refine lv_iload_n hx hb dX3_gather_16 rfl (lv_at hl 0 rfl) ?_
      refine va_iald hx hb hK hP 1 0 rfl rfl (vp_in_nI (by omega) (by decide)) dX3_gather_17 ?_
      refine lv_topi (fun v2 ev2 => ?_)
      refine lv_iload_n hx hb dX3_gather_18 rfl (lv_at hl 3 rfl) ?_
      refine lv_icmp_ne (tgt := 32) hx hb dX3_gather_19 (by decide) (fun hc3 => ?_) (fun hc3 => ?_)
      ·
        refine lv_iinc (v := nI (y + 1)) (lv' := [(3, .int (nI (y + 1))), (2, .int (nI x)), (0, .ref (ob 5)), (1, .int z1)]) hx hb dX3_gather_32 hl (k := 0) rfl (nI_1 _) (by decide) rfl (fun ls hl => ?_)
        refine lv_goto (tgt := 4) hx hb dX3_gather_35 (by decide) ?_
        exact ih (y + 1) x go (by omega) (by omega) (hO) (by omega) H locs ls (hP.sub [0, 1, 2] rfl) (hD.sub [0, 1, 2] (by decide) rfl) hS (lv_sub hl [0, 1, 2, 3] rfl)
      ·
        refine lv_aload_n hx hb dX3_gather_22 rfl (lv_at hl 2 rfl) ?_
        refine va_get (D := D) (ci := 3) (v := .ref (ob 12)) (C := RX3) (T := TX3) (N := 13) hx hb hts hin_X3 hown hK hP 0 rfl rfl 11 (by decide) (hts (.fieldLink RX3 33 "ClashFree$Layout" "order" "[I") (List.mem_of_getElem? (i := 3) rfl)) (fun _ h9 => h9) rfl dX3_gather_23 ?_
        refine lv_iload_n hx hb dX3_gather_26 rfl (lv_at hl 1 rfl) ?_
        refine lv_iload_n hx hb dX3_gather_27 rfl (lv_at hl 0 rfl) ?_
        refine va_iast hx hb hK hP hD hS 2 0 rfl rfl (vp_in_nI (by omega) (by decide)) dX3_gather_28 (fun H locs hP hD hS => ?_)
        have hP : va_P D vwCl [(ob 5, .inr (3, gY ob (nI nb) (nI ka) (nI kb) sm (nI ln))), (ob 10, .inl (cI, 160, .inl fj)), (ob 12, .inl (cI, 160, .inl (upd go (Int32.toNatClampNeg (nI x)) (nI y))))] H := hP
        have hD : va_D A [(ob 5, .inr (3, gY ob (nI nb) (nI ka) (nI kb) sm (nI ln))), (ob 10, .inl (cI, 160, .inl fj)), (ob 12, .inl (cI, 160, .inl (upd go (Int32.toNatClampNeg (nI x)) (nI y))))] := hD
        rw [show (upd go (Int32.toNatClampNeg (nI x)) (nI y)) = (upd go x (nI y)) from by rw [nI_clamp (by omega)]] at hP hD
        refine lv_iinc (v := nI (x + 1)) (lv' := [(2, .int (nI (x + 1))), (3, .int (nI y)), (0, .ref (ob 5)), (1, .int z1)]) hx hb dX3_gather_29 hl (k := 1) rfl (nI_1 _) (by decide) rfl (fun ls hl => ?_)
        refine lv_iinc (v := nI (y + 1)) (lv' := [(3, .int (nI (y + 1))), (2, .int (nI (x + 1))), (0, .ref (ob 5)), (1, .int z1)]) hx hb dX3_gather_32 hl (k := 1) rfl (nI_1 _) (by decide) rfl (fun ls hl => ?_)
        refine lv_goto (tgt := 4) hx hb dX3_gather_35 (by decide) ?_
        exact ih (y + 1) (x + 1) (upd go x (nI y)) (by omega) (by omega) (OrC_up hO (by omega)) (by omega) H locs ls (hP.sub [0, 1, 2] rfl) (hD.sub [0, 1, 2] (by decide) rfl) hS (lv_sub hl [0, 1, 2, 3] rfl)
set_option maxHeartbeats 4000000 in
set_option maxRecDepth 100000 in
theorem k_gather (l : Launch) (D : va_G) (sz : Nat) (ob : Nat → Nat) (cI : ClassId) (nb : Nat) (ka : Nat) (kb : Nat) (sm : Int32) (ln : Nat) (fj : Nat → Int32) (fo : Nat → Int32) (z1 : Int32) (hln : ln ≤ 160) (hO : OrC fo) : Met l yX3_gather wp_k_gather ({ frames := 0, cells := 0, slots := 0, locals := 0 }) (PcWC D [.ref (ob 5), .int z1] sz [(ob 5, .inr (3, gY ob (nI nb) (nI ka) (nI kb) sm (nI ln))), (ob 10, .inl (cI, 160, .inl fj)), (ob 12, .inl (cI, 160, .inl fo))] [(cI, .int)]) (va_Qi (fun (r : Int32) (u : (Nat → Int32)) => OrC u ∧ ∃ q, q ≤ ln ∧ r = nI q) (fun (u : (Nat → Int32)) t => va_P D vwCl [(ob 5, .inr (3, gY ob (nI nb) (nI ka) (nI kb) sm (nI ln))), (ob 10, .inl (cI, 160, .inl fj)), (ob 12, .inl (cI, 160, .inl u))] t.heap ∧ va_K D vwCl [(cI, .int)] t ∧ va_D (va_A [(ob 5, .inr (3, gY ob (nI nb) (nI ka) (nI kb) sm (nI ln))), (ob 10, .inl (cI, 160, .inl fj)), (ob 12, .inl (cI, 160, .inl fo))] sz) [(ob 5, .inr (3, gY ob (nI nb) (nI ka) (nI kb) sm (nI ln))), (ob 10, .inl (cI, 160, .inl fj)), (ob 12, .inl (cI, 160, .inl u))]) (va_A [(ob 5, .inr (3, gY ob (nI nb) (nI ka) (nI kb) sm (nI ln))), (ob 10, .inl (cI, 160, .inl fj)), (ob 12, .inl (cI, 160, .inl fo))] sz)) 0 0 (va_A [(ob 5, .inr (3, gY ob (nI nb) (nI ka) (nI kb) sm (nI ln))), (ob 10, .inl (cI, 160, .inl fj)), (ob 12, .inl (cI, 160, .inl fo))] sz) := by
  refine Met.ofW (cc := cX3_gather) (maxL := 4) (ret := (some .int)) (by decide) rfl ?_
  intro p e s m args below meth c s₁ B hml hv
  obtain ⟨rfl, hsz, hP, hK, hD0, hN⟩ := hv
  have hx := B.exec
  have hb := B.bytes
  have hr := B.returns
  have hts := atoms_spec (ws := wp_k_gather) B.pre
  have hin_X3 : ∀ w ∈ wsX30, w ∈ wp_k_gather := fun _ h => (List.mem_cons_of_mem _ (List.mem_append_right _ (List.mem_append_left _ h)))
  have hown : s.vm.findClass RX3 = some m.cls := findClass_of_methodNamed B.named
  have hlocks := B.notSynchronized
  subst hsz
  have hD := hD0.self (sz := s.heap.size)
  generalize hAe : va_A [(ob 5, .inr (3, gY ob (nI nb) (nI ka) (nI kb) sm (nI ln))), (ob 10, .inl (cI, 160, .inl fj)), (ob 12, .inl (cI, 160, .inl fo))] s.heap.size = A at hD ⊢
  have hA : ∀ q : Nat, s.heap.size ≤ q → A q := fun q h => by rw [← hAe]; exact Or.inr h
  have hS : va_S A s.heap s.heap [] := va_S.rf
  have hP : va_P D vwCl [(ob 5, .inr (3, gY ob (nI nb) (nI ka) (nI kb) sm (nI ln))), (ob 10, .inl (cI, 160, .inl fj)), (ob 12, .inl (cI, 160, .inl fo))] s.heap := hP
  have hl := lv_entry ([.ref (ob 5), .int z1]) (n := 4) (Nat.le_of_ble_eq_true rfl)
  rw [lg_entry_eq]
  generalize (lg_sl ([.ref (ob 5), .int z1]) ++ List.replicate (4 - (lg_sl ([.ref (ob 5), .int z1])).length) Slot.unset).toArray = ls at hl ⊢
  have hl : lv_has ls 4 [(0, .ref (ob 5)), (1, .int z1)] := hl
  refine lv_iconst (v := 0) hx hb dX3_gather_0 (by decide) ?_
  refine lv_istore_n (lv' := [(2, .int 0), (0, .ref (ob 5)), (1, .int z1)]) hx hb dX3_gather_1 rfl hl (by decide) rfl (fun ls hl => ?_)
  refine lv_iconst (v := 0) hx hb dX3_gather_2 (by decide) ?_
  refine lv_istore_n (lv' := [(3, .int 0), (2, .int 0), (0, .ref (ob 5)), (1, .int z1)]) hx hb dX3_gather_3 rfl hl (by decide) rfl (fun ls hl => ?_)
  refine lk_gather l D ob cI nb ka kb sm ln fj z1 (hln) hx hb hml hown hts hA (hK.sub [0] rfl) hN ?_ (ln + 1) 0 0 fo (Nat.zero_le _) (Nat.le_refl _) (hO) (by omega) _ _ _ (hP.sub [0, 1, 2] rfl) (hD.sub [0, 1, 2] (by decide) rfl) hS (lv_sub hl [0, 1, 2, 3] rfl)
  intro y_1 x_2 go_3 hy1_4 hx1_5 hO_6 H locs ls hP hD hS hl
  refine lv_iload_n hx hb dX3_gather_38 rfl (lv_at hl 0 rfl) ?_
  exact W.iret (v := nI x_2) hx hb hr (fun t ht hW => ⟨⟨nI x_2, go_3, rfl, ⟨hO_6, _, by omega, rfl⟩, by rw [ht]; exact hP.sub [0, 1, 2] rfl, va_K.moved hW.alike (hK.sub [0] rfl), hD.sub [0, 1, 2] (by decide) rfl⟩, hS.F ht⟩) hS.2.2 dX3_gather_39

def own_k_bucketsWith : List Cond := [.fieldLink RX3 36 "ClashFree$Layout" "buckets" "I", .fieldLink RX3 9 "ClashFree$Layout" "held" "[I"]
def wp_k_bucketsWith : List Cond := .code yX3_bucketsWith cX3_bucketsWith 4 (some .int) :: (own_k_bucketsWith ++ (wsX30 ++ ([] : List Cond)))
set_option maxRecDepth 20000 in
theorem inown_k_bucketsWith : ∀ w ∈ own_k_bucketsWith, w ∈ lw_tbl := mem_places [178, 191] (by decide +kernel)
set_option maxRecDepth 20000 in
theorem in_k_bucketsWith : ∀ w ∈ wp_k_bucketsWith, w ∈ lw_tbl := List.forall_mem_cons.mpr ⟨List.mem_of_getElem? (i := 778) (by decide +kernel), List.forall_mem_append.mpr ⟨inown_k_bucketsWith, List.forall_mem_append.mpr ⟨lwb_X3, fun _ h => absurd h List.not_mem_nil⟩⟩⟩
set_option maxRecDepth 20000 in
theorem good_k_bucketsWith : wp_k_bucketsWith.all goodWord = true := by decide +kernel
set_option maxHeartbeats 4000000 in
set_option maxRecDepth 100000 in
theorem lk_bw (l : Launch) {p : Program} {e : Env} {s : State} {m : MethodId} {args : Array Value} {below : List Frame} {meth : Method} {c : Code} {Q : State → Prop} {A : Nat → Prop} (D : va_G) (ob : Nat → Nat) (cI : ClassId) (nb : Nat) (ka : Nat) (kb : Nat) (sm : Int32) (ln : Nat) (fh : Nat → Int32) (z1 : Int32) (hnb : nb ≤ 2048) (hx : p.tables.exec = Jvm.exec) (hb : c.code = cX3_bucketsWith) (hml : c.maxLocals = 4) (hown : s.vm.findClass RX3 = some m.cls) (hts : ∀ w ∈ wp_k_bucketsWith, w.before args s = true) (hA : ∀ q, s.heap.size ≤ q → A q) (hK : va_K D vwCl [(cI, .int)] s) (hN : NC s) (kx31 : ∀ (y : Nat), ∀ (su : Int32), (y ≤ nb) → ∀ (H : Heap) (locs : List Loc) (ls : Array Slot), va_P D vwCl [(ob 5, .inr (3, gY ob (nI nb) (nI ka) (nI kb) sm (nI ln))), (ob 6, .inl (cI, 2048, .inl fh))] H → va_S A s.heap H locs → lv_has ls 4 [(2, .int su)] → W p l e ({ frames := 0, cells := 0, slots := 0, locals := 0 }) s m args below meth c H locs 0 0 Q (F0 m 31 ls [])) : ∀ (N : Nat), ∀ (y : Nat), ∀ (su : Int32), (y ≤ nb) → nb - y < N → ∀ (H : Heap) (locs : List Loc) (ls : Array Slot), va_P D vwCl [(ob 5, .inr (3, gY ob (nI nb) (nI ka) (nI kb) sm (nI ln))), (ob 6, .inl (cI, 2048, .inl fh))] H → va_S A s.heap H locs → lv_has ls 4 [(3, .int (nI y)), (2, .int su), (0, .ref (ob 5)), (1, .int z1)] → W p l e ({ frames := 0, cells := 0, slots := 0, locals := 0 }) s m args below meth c H locs 0 0 Q (F0 m 4 ls []) := by
  have hin_X3 : ∀ w ∈ wsX30, w ∈ wp_k_bucketsWith := fun _ h => (List.mem_cons_of_mem _ (List.mem_append_right _ (List.mem_append_left _ h)))
  intro N
  induction N with
  | zero =>
    intro y su hy1 hm
    exact absurd hm (Nat.not_lt_zero _)
  | succ N ih =>
    intro y su hy1 hm H locs ls hP hS hl
    refine lv_iload_n hx hb dX3_bucketsWith_4 rfl (lv_at hl 0 rfl) ?_
    refine lv_aload_n hx hb dX3_bucketsWith_5 rfl (lv_at hl 2 rfl) ?_
    refine va_get (D := D) (ci := 3) (v := .int (nI nb)) (C := RX3) (T := TX3) (N := 13) hx hb hts hin_X3 hown hK hP 0 rfl rfl 0 (by decide) (hts (.fieldLink RX3 36 "ClashFree$Layout" "buckets" "I") (List.mem_of_getElem? (i := 1) rfl)) (fun _ h9 => h9) rfl dX3_bucketsWith_6 ?_
    refine lv_icmp_ge (tgt := 31) hx hb dX3_bucketsWith_9 (by decide) (fun hc1 => ?_) (fun hc1 => ?_)
    ·
      have hlt : nb ≤ y := (nI_leI (by omega) (by omega)).mp hc1
      exact kx31 y su (hy1) H locs ls (hP.sub [0, 1] rfl) hS (lv_sub hl [1] rfl)
    ·
      have hlt : y < nb := by
        rcases Nat.lt_or_ge y (nb) with z | z
        · exact z
        · exact absurd (nI_le z (by omega)) hc1
      refine lv_aload_n hx hb dX3_bucketsWith_12 rfl (lv_at hl 2 rfl) ?_
      refine va_get (D := D) (ci := 3) (v := .ref (ob 6)) (C := RX3) (T := TX3) (N := 13) hx hb hts hin_X3 hown hK hP 0 rfl rfl 5 (by decide) (hts (.fieldLink RX3 9 "ClashFree$Layout" "held" "[I") (List.mem_of_getElem? (i := 2) rfl)) (fun _ h9 => h9) rfl dX3_bucketsWith_13 ?_
      refine lv_iload_n hx hb dX3_bucketsWith_16 rfl (lv_at hl 0 rfl) ?_
      refine va_iald hx hb hK hP 1 0 rfl rfl (vp_in_nI (by omega) (by decide)) dX3_bucketsWith_17 ?_
      refine lv_topi (fun v2 ev2 => ?_)
      refine lv_iload_n hx hb dX3_bucketsWith_18 rfl (lv_at hl 3 rfl) ?_
      refine lv_icmp_ne (tgt := 25) hx hb dX3_bucketsWith_19 (by decide) (fun hc3 => ?_) (fun hc3 => ?_)
      ·
        refine lv_iinc (v := nI (y + 1)) (lv' := [(3, .int (nI (y + 1))), (2, .int su), (0, .ref (ob 5)), (1, .int z1)]) hx hb dX3_bucketsWith_25 hl (k := 0) rfl (nI_1 _) (by decide) rfl (fun ls hl => ?_)
        refine lv_goto (tgt := 4) hx hb dX3_bucketsWith_28 (by decide) ?_
        exact ih (y + 1) su (by omega) (by omega) H locs ls (hP.sub [0, 1] rfl) hS (lv_sub hl [0, 1, 2, 3] rfl)
      ·
        obtain ⟨v4, ev4⟩ : ∃ y : Int32, y = su + 1 := ⟨_, rfl⟩
        refine lv_iinc (v := v4) (lv' := [(2, .int v4), (3, .int (nI y)), (0, .ref (ob 5)), (1, .int z1)]) hx hb dX3_bucketsWith_22 hl (k := 1) rfl (by rw [ev4]; rfl) (by decide) rfl (fun ls hl => ?_)
        refine lv_iinc (v := nI (y + 1)) (lv' := [(3, .int (nI (y + 1))), (2, .int v4), (0, .ref (ob 5)), (1, .int z1)]) hx hb dX3_bucketsWith_25 hl (k := 1) rfl (nI_1 _) (by decide) rfl (fun ls hl => ?_)
        refine lv_goto (tgt := 4) hx hb dX3_bucketsWith_28 (by decide) ?_
        exact ih (y + 1) v4 (by omega) (by omega) H locs ls (hP.sub [0, 1] rfl) hS (lv_sub hl [0, 1, 2, 3] rfl)
set_option maxHeartbeats 4000000 in
set_option maxRecDepth 100000 in
theorem k_bucketsWith (l : Launch) (D : va_G) (sz : Nat) (ob : Nat → Nat) (cI : ClassId) (nb : Nat) (ka : Nat) (kb : Nat) (sm : Int32) (ln : Nat) (fh : Nat → Int32) (z1 : Int32) (hnb : nb ≤ 2048) : Met l yX3_bucketsWith wp_k_bucketsWith ({ frames := 0, cells := 0, slots := 0, locals := 0 }) (PcRC D [.ref (ob 5), .int z1] sz [(ob 5, .inr (3, gY ob (nI nb) (nI ka) (nI kb) sm (nI ln))), (ob 6, .inl (cI, 2048, .inl fh))] [(cI, .int)]) (va_Qi (fun (r : Int32) (u : Unit) => True) (fun (_ : Unit) _ => True) (va_A [] sz)) 0 0 (va_A [] sz) := by
  refine Met.ofW (cc := cX3_bucketsWith) (maxL := 4) (ret := (some .int)) (by decide) rfl ?_
  intro p e s m args below meth c s₁ B hml hv
  obtain ⟨rfl, hsz, hP, hK, hN⟩ := hv
  have hx := B.exec
  have hb := B.bytes
  have hr := B.returns
  have hts := atoms_spec (ws := wp_k_bucketsWith) B.pre
  have hin_X3 : ∀ w ∈ wsX30, w ∈ wp_k_bucketsWith := fun _ h => (List.mem_cons_of_mem _ (List.mem_append_right _ (List.mem_append_left _ h)))
  have hown : s.vm.findClass RX3 = some m.cls := findClass_of_methodNamed B.named
  have hlocks := B.notSynchronized
  subst hsz
  generalize hAe : va_A [] s.heap.size = A at ⊢
  have hA : ∀ q : Nat, s.heap.size ≤ q → A q := fun q h => by rw [← hAe]; exact Or.inr h
  have hS : va_S A s.heap s.heap [] := va_S.rf
  have hP : va_P D vwCl [(ob 5, .inr (3, gY ob (nI nb) (nI ka) (nI kb) sm (nI ln))), (ob 6, .inl (cI, 2048, .inl fh))] s.heap := hP
  have hl := lv_entry ([.ref (ob 5), .int z1]) (n := 4) (Nat.le_of_ble_eq_true rfl)
  rw [lg_entry_eq]
  generalize (lg_sl ([.ref (ob 5), .int z1]) ++ List.replicate (4 - (lg_sl ([.ref (ob 5), .int z1])).length) Slot.unset).toArray = ls at hl ⊢
  have hl : lv_has ls 4 [(0, .ref (ob 5)), (1, .int z1)] := hl
  refine lv_iconst (v := 0) hx hb dX3_bucketsWith_0 (by decide) ?_
  refine lv_istore_n (lv' := [(2, .int 0), (0, .ref (ob 5)), (1, .int z1)]) hx hb dX3_bucketsWith_1 rfl hl (by decide) rfl (fun ls hl => ?_)
  refine lv_iconst (v := 0) hx hb dX3_bucketsWith_2 (by decide) ?_
  refine lv_istore_n (lv' := [(3, .int 0), (2, .int 0), (0, .ref (ob 5)), (1, .int z1)]) hx hb dX3_bucketsWith_3 rfl hl (by decide) rfl (fun ls hl => ?_)
  refine lk_bw l D ob cI nb ka kb sm ln fh z1 (hnb) hx hb hml hown hts hA (hK.sub [0] rfl) hN ?_ (nb + 1) 0 0 (Nat.zero_le _) (by omega) _ _ _ (hP.sub [0, 1] rfl) hS (lv_sub hl [0, 1, 2, 3] rfl)
  intro y_1 su_2 hy1_3 H locs ls hP hS hl
  refine lv_iload_n hx hb dX3_bucketsWith_31 rfl (lv_at hl 0 rfl) ?_
  exact W.iret (v := su_2) hx hb hr (fun t ht hW => ⟨⟨su_2, (), rfl, trivial, trivial⟩, hS.F ht⟩) hS.2.2 dX3_bucketsWith_32

def own_k_fullest : List Cond := [.fieldLink RX3 36 "ClashFree$Layout" "buckets" "I", .fieldLink RX3 9 "ClashFree$Layout" "held" "[I"]
def wp_k_fullest : List Cond := .code yX3_fullest cX3_fullest 3 (some .int) :: (own_k_fullest ++ (wsX30 ++ ([] : List Cond)))
set_option maxRecDepth 20000 in
theorem inown_k_fullest : ∀ w ∈ own_k_fullest, w ∈ lw_tbl := mem_places [178, 191] (by decide +kernel)
set_option maxRecDepth 20000 in
theorem in_k_fullest : ∀ w ∈ wp_k_fullest, w ∈ lw_tbl := List.forall_mem_cons.mpr ⟨List.mem_of_getElem? (i := 786) (by decide +kernel), List.forall_mem_append.mpr ⟨inown_k_fullest, List.forall_mem_append.mpr ⟨lwb_X3, fun _ h => absurd h List.not_mem_nil⟩⟩⟩
set_option maxRecDepth 20000 in
theorem good_k_fullest : wp_k_fullest.all goodWord = true := by decide +kernel
set_option maxHeartbeats 4000000 in
set_option maxRecDepth 100000 in
theorem lk_fullest (l : Launch) {p : Program} {e : Env} {s : State} {m : MethodId} {args : Array Value} {below : List Frame} {meth : Method} {c : Code} {Q : State → Prop} {A : Nat → Prop} (D : va_G) (ob : Nat → Nat) (cI : ClassId) (nb : Nat) (ka : Nat) (kb : Nat) (sm : Int32) (ln : Nat) (fh : Nat → Int32) (hnb : nb ≤ 2048) (hx : p.tables.exec = Jvm.exec) (hb : c.code = cX3_fullest) (hml : c.maxLocals = 3) (hown : s.vm.findClass RX3 = some m.cls) (hts : ∀ w ∈ wp_k_fullest, w.before args s = true) (hA : ∀ q, s.heap.size ≤ q → A q) (hK : va_K D vwCl [(cI, .int)] s) (hN : NC s) (kx35 : ∀ (y : Nat), ∀ (x : Nat), (y ≤ 2049) → (x < 2048) → ∀ (H : Heap) (locs : List Loc) (ls : Array Slot), va_P D vwCl [(ob 5, .inr (3, gY ob (nI nb) (nI ka) (nI kb) sm (nI ln))), (ob 6, .inl (cI, 2048, .inl fh))] H → va_S A s.heap H locs → lv_has ls 3 [(1, .int (nI x))] → W p l e ({ frames := 0, cells := 0, slots := 0, locals := 0 }) s m args below meth c H locs 0 0 Q (F0 m 35 ls [])) : ∀ (N : Nat), ∀ (y : Nat), ∀ (x : Nat), (y ≤ 2049) → (x < 2048) → nb - y < N → ∀ (H : Heap) (locs : List Loc) (ls : Array Slot), va_P D vwCl [(ob 5, .inr (3, gY ob (nI nb) (nI ka) (nI kb) sm (nI ln))), (ob 6, .inl (cI, 2048, .inl fh))] H → va_S A s.heap H locs → lv_has ls 3 [(2, .int (nI y)), (1, .int (nI x)), (0, .ref (ob 5))] → W p l e ({ frames := 0, cells := 0, slots := 0, locals := 0 }) s m args below meth c H locs 0 0 Q (F0 m 4 ls []) := by
  have hin_X3 : ∀ w ∈ wsX30, w ∈ wp_k_fullest := fun _ h => (List.mem_cons_of_mem _ (List.mem_append_right _ (List.mem_append_left _ h)))
  intro N
  induction N with
  | zero =>
    intro y x hy1 hx1 hm
    exact absurd hm (Nat.not_lt_zero _)
  | succ N ih =>
    intro y x hy1 hx1 hm H locs ls hP hS hl
    refine lv_iload_n hx hb dX3_fullest_4 rfl (lv_at hl 0 rfl) ?_
    refine lv_aload_n hx hb dX3_fullest_5 rfl (lv_at hl 2 rfl) ?_
    refine va_get (D := D) (ci := 3) (v := .int (nI nb)) (C := RX3) (T := TX3) (N := 13) hx hb hts hin_X3 hown hK hP 0 rfl rfl 0 (by decide) (hts (.fieldLink RX3 36 "ClashFree$Layout" "buckets" "I") (List.mem_of_getElem? (i := 1) rfl)) (fun _ h9 => h9) rfl dX3_fullest_6 ?_
    refine lv_icmp_ge (tgt := 35) hx hb dX3_fullest_9 (by decide) (fun hc1 => ?_) (fun hc1 => ?_)
    ·
      have hlt : nb ≤ y := (nI_leI (by omega) (by omega)).mp hc1
      exact kx35 y x (hy1) (hx1) H locs ls (hP.sub [0, 1] rfl) hS (lv_sub hl [1] rfl)
    ·
      have hlt : y < nb := by
        rcases Nat.lt_or_ge y (nb) with z | z
        · exact z
        · exact absurd (nI_le z (by omega)) hc1
      refine lv_aload_n hx hb dX3_fullest_12 rfl (lv_at hl 2 rfl) ?_
      refine va_get (D := D) (ci := 3) (v := .ref (ob 6)) (C := RX3) (T := TX3) (N := 13) hx hb hts hin_X3 hown hK hP 0 rfl rfl 5 (by decide) (hts (.fieldLink RX3 9 "ClashFree$Layout" "held" "[I") (List.mem_of_getElem? (i := 2) rfl)) (fun _ h9 => h9) rfl dX3_fullest_13 ?_
      refine lv_iload_n hx hb dX3_fullest_16 rfl (lv_at hl 0 rfl) ?_
      refine va_iald hx hb hK hP 1 0 rfl rfl (vp_in_nI (by omega) (by decide)) dX3_fullest_17 ?_
      refine lv_topi (fun v2 ev2 => ?_)
      refine lv_aload_n hx hb dX3_fullest_18 rfl (lv_at hl 2 rfl) ?_
      refine va_get (D := D) (ci := 3) (v := .ref (ob 6)) (C := RX3) (T := TX3) (N := 13) hx hb hts hin_X3 hown hK hP 0 rfl rfl 5 (by decide) (hts (.fieldLink RX3 9 "ClashFree$Layout" "held" "[I") (List.mem_of_getElem? (i := 2) rfl)) (fun _ h9 => h9) rfl dX3_fullest_19 ?_
      refine lv_iload_n hx hb dX3_fullest_22 rfl (lv_at hl 1 rfl) ?_
      refine va_iald hx hb hK hP 1 0 rfl rfl (vp_in_nI (by omega) (by decide)) dX3_fullest_23 ?_
      refine lv_topi (fun v3 ev3 => ?_)
      refine lv_icmp_le (tgt := 29) hx hb dX3_fullest_24 (by decide) (fun hc4 => ?_) (fun hc4 => ?_)
      ·
        refine lv_iinc (v := nI (y + 1)) (lv' := [(2, .int (nI (y + 1))), (1, .int (nI x)), (0, .ref (ob 5))]) hx hb dX3_fullest_29 hl (k := 0) rfl (nI_1 _) (by decide) rfl (fun ls hl => ?_)
        refine lv_goto (tgt := 4) hx hb dX3_fullest_32 (by decide) ?_
        exact ih (y + 1) x (by omega) (by omega) (by omega) H locs ls (hP.sub [0, 1] rfl) hS (lv_sub hl [0, 1, 2] rfl)
      ·
        refine lv_iload_n hx hb dX3_fullest_27 rfl (lv_at hl 0 rfl) ?_
        refine lv_istore_n (lv' := [(1, .int (nI y)), (2, .int (nI y)), (0, .ref (ob 5))]) hx hb dX3_fullest_28 rfl hl (by decide) rfl (fun ls hl => ?_)
        refine lv_iinc (v := nI (y + 1)) (lv' := [(2, .int (nI (y + 1))), (1, .int (nI y)), (0, .ref (ob 5))]) hx hb dX3_fullest_29 hl (k := 1) rfl (nI_1 _) (by decide) rfl (fun ls hl => ?_)
        refine lv_goto (tgt := 4) hx hb dX3_fullest_32 (by decide) ?_
        exact ih (y + 1) y (by omega) (by omega) (by omega) H locs ls (hP.sub [0, 1] rfl) hS (lv_sub hl [0, 1, 2] rfl)
set_option maxHeartbeats 4000000 in
set_option maxRecDepth 100000 in
theorem k_fullest (l : Launch) (D : va_G) (sz : Nat) (ob : Nat → Nat) (cI : ClassId) (nb : Nat) (ka : Nat) (kb : Nat) (sm : Int32) (ln : Nat) (fh : Nat → Int32) (hnb : nb ≤ 2048) : Met l yX3_fullest wp_k_fullest ({ frames := 0, cells := 0, slots := 0, locals := 0 }) (PcRC D [.ref (ob 5)] sz [(ob 5, .inr (3, gY ob (nI nb) (nI ka) (nI kb) sm (nI ln))), (ob 6, .inl (cI, 2048, .inl fh))] [(cI, .int)]) (va_Qi (fun (r : Int32) (u : Unit) => ∃ q, q < 2048 ∧ r = nI q) (fun (_ : Unit) _ => True) (va_A [] sz)) 0 0 (va_A [] sz) := by
  refine Met.ofW (cc := cX3_fullest) (maxL := 3) (ret := (some .int)) (by decide) rfl ?_
  intro p e s m args below meth c s₁ B hml hv
  obtain ⟨rfl, hsz, hP, hK, hN⟩ := hv
  have hx := B.exec
  have hb := B.bytes
  have hr := B.returns
  have hts := atoms_spec (ws := wp_k_fullest) B.pre
  have hin_X3 : ∀ w ∈ wsX30, w ∈ wp_k_fullest := fun _ h => (List.mem_cons_of_mem _ (List.mem_append_right _ (List.mem_append_left _ h)))
  have hown : s.vm.findClass RX3 = some m.cls := findClass_of_methodNamed B.named
  have hlocks := B.notSynchronized
  subst hsz
  generalize hAe : va_A [] s.heap.size = A at ⊢
  have hA : ∀ q : Nat, s.heap.size ≤ q → A q := fun q h => by rw [← hAe]; exact Or.inr h
  have hS : va_S A s.heap s.heap [] := va_S.rf
  have hP : va_P D vwCl [(ob 5, .inr (3, gY ob (nI nb) (nI ka) (nI kb) sm (nI ln))), (ob 6, .inl (cI, 2048, .inl fh))] s.heap := hP
  have hl := lv_entry ([.ref (ob 5)]) (n := 3) (Nat.le_of_ble_eq_true rfl)
  rw [lg_entry_eq]
  generalize (lg_sl ([.ref (ob 5)]) ++ List.replicate (3 - (lg_sl ([.ref (ob 5)])).length) Slot.unset).toArray = ls at hl ⊢
  have hl : lv_has ls 3 [(0, .ref (ob 5))] := hl
  refine lv_iconst (v := 0) hx hb dX3_fullest_0 (by decide) ?_
  refine lv_istore_n (lv' := [(1, .int 0), (0, .ref (ob 5))]) hx hb dX3_fullest_1 rfl hl (by decide) rfl (fun ls hl => ?_)
  refine lv_iconst (v := 1) hx hb dX3_fullest_2 (by decide) ?_
  refine lv_istore_n (lv' := [(2, .int 1), (1, .int 0), (0, .ref (ob 5))]) hx hb dX3_fullest_3 rfl hl (by decide) rfl (fun ls hl => ?_)
  refine lk_fullest l D ob cI nb ka kb sm ln fh (hnb) hx hb hml hown hts hA (hK.sub [0] rfl) hN ?_ (nb + 1) 1 0 (by omega) (by omega) (by omega) _ _ _ (hP.sub [0, 1] rfl) hS (lv_sub hl [0, 1, 2] rfl)
  intro y_1 x_2 hy1_3 hx1_4 H locs ls hP hS hl
  refine lv_iload_n hx hb dX3_fullest_35 rfl (lv_at hl 0 rfl) ?_
  exact W.iret (v := nI x_2) hx hb hr (fun t ht hW => ⟨⟨nI x_2, (), rfl, ⟨_, hx1_4, rfl⟩, trivial⟩, hS.F ht⟩) hS.2.2 dX3_fullest_36

def own_k_twos : List Cond := [.fieldLink RX3 36 "ClashFree$Layout" "buckets" "I", .fieldLink RX3 9 "ClashFree$Layout" "held" "[I"]
def wp_k_twos : List Cond := .code yX3_twos cX3_twos 3 (some .int) :: (own_k_twos ++ (wsX30 ++ ([] : List Cond)))
set_option maxRecDepth 20000 in
theorem inown_k_twos : ∀ w ∈ own_k_twos, w ∈ lw_tbl := mem_places [178, 191] (by decide +kernel)
set_option maxRecDepth 20000 in
theorem in_k_twos : ∀ w ∈ wp_k_twos, w ∈ lw_tbl := List.forall_mem_cons.mpr ⟨List.mem_of_getElem? (i := 790) (by decide +kernel), List.forall_mem_append.mpr ⟨inown_k_twos, List.forall_mem_append.mpr ⟨lwb_X3, fun _ h => absurd h List.not_mem_nil⟩⟩⟩
set_option maxRecDepth 20000 in
theorem good_k_twos : wp_k_twos.all goodWord = true := by decide +kernel
set_option maxHeartbeats 4000000 in
set_option maxRecDepth 100000 in
theorem lk_twos (l : Launch) {p : Program} {e : Env} {s : State} {m : MethodId} {args : Array Value} {below : List Frame} {meth : Method} {c : Code} {Q : State → Prop} {A : Nat → Prop} (D : va_G) (ob : Nat → Nat) (cI : ClassId) (nb : Nat) (ka : Nat) (kb : Nat) (sm : Int32) (ln : Nat) (fh : Nat → Int32) (hnb : nb ≤ 2048) (hx : p.tables.exec = Jvm.exec) (hb : c.code = cX3_twos) (hml : c.maxLocals = 3) (hown : s.vm.findClass RX3 = some m.cls) (hts : ∀ w ∈ wp_k_twos, w.before args s = true) (hA : ∀ q, s.heap.size ≤ q → A q) (hK : va_K D vwCl [(cI, .int)] s) (hN : NC s) (kx38 : ∀ (y : Nat), ∀ (su : Int32), (y ≤ nb) → ∀ (H : Heap) (locs : List Loc) (ls : Array Slot), va_P D vwCl [(ob 5, .inr (3, gY ob (nI nb) (nI ka) (nI kb) sm (nI ln))), (ob 6, .inl (cI, 2048, .inl fh))] H → va_S A s.heap H locs → lv_has ls 3 [(1, .int su)] → W p l e ({ frames := 0, cells := 0, slots := 0, locals := 0 }) s m args below meth c H locs 0 0 Q (F0 m 38 ls [])) : ∀ (N : Nat), ∀ (y : Nat), ∀ (su : Int32), (y ≤ nb) → nb - y < N → ∀ (H : Heap) (locs : List Loc) (ls : Array Slot), va_P D vwCl [(ob 5, .inr (3, gY ob (nI nb) (nI ka) (nI kb) sm (nI ln))), (ob 6, .inl (cI, 2048, .inl fh))] H → va_S A s.heap H locs → lv_has ls 3 [(2, .int (nI y)), (1, .int su), (0, .ref (ob 5))] → W p l e ({ frames := 0, cells := 0, slots := 0, locals := 0 }) s m args below meth c H locs 0 0 Q (F0 m 4 ls []) := by
  have hin_X3 : ∀ w ∈ wsX30, w ∈ wp_k_twos := fun _ h => (List.mem_cons_of_mem _ (List.mem_append_right _ (List.mem_append_left _ h)))
  intro N
  induction N with
  | zero =>
    intro y su hy1 hm
    exact absurd hm (Nat.not_lt_zero _)
  | succ N ih =>
    intro y su hy1 hm H locs ls hP hS hl
    refine lv_iload_n hx hb dX3_twos_4 rfl (lv_at hl 0 rfl) ?_
    refine lv_aload_n hx hb dX3_twos_5 rfl (lv_at hl 2 rfl) ?_
    refine va_get (D := D) (ci := 3) (v := .int (nI nb)) (C := RX3) (T := TX3) (N := 13) hx hb hts hin_X3 hown hK hP 0 rfl rfl 0 (by decide) (hts (.fieldLink RX3 36 "ClashFree$Layout" "buckets" "I") (List.mem_of_getElem? (i := 1) rfl)) (fun _ h9 => h9) rfl dX3_twos_6 ?_
    refine lv_icmp_ge (tgt := 38) hx hb dX3_twos_9 (by decide) (fun hc1 => ?_) (fun hc1 => ?_)
    ·
      have hlt : nb ≤ y := (nI_leI (by omega) (by omega)).mp hc1
      exact kx38 y su (hy1) H locs ls (hP.sub [0, 1] rfl) hS (lv_sub hl [1] rfl)
    ·
      have hlt : y < nb := by
        rcases Nat.lt_or_ge y (nb) with z | z
        · exact z
        · exact absurd (nI_le z (by omega)) hc1
      refine lv_iload_n hx hb dX3_twos_12 rfl (lv_at hl 1 rfl) ?_
      refine lv_aload_n hx hb dX3_twos_13 rfl (lv_at hl 2 rfl) ?_
      refine va_get (D := D) (ci := 3) (v := .ref (ob 6)) (C := RX3) (T := TX3) (N := 13) hx hb hts hin_X3 hown hK hP 0 rfl rfl 5 (by decide) (hts (.fieldLink RX3 9 "ClashFree$Layout" "held" "[I") (List.mem_of_getElem? (i := 2) rfl)) (fun _ h9 => h9) rfl dX3_twos_14 ?_
      refine lv_iload_n hx hb dX3_twos_17 rfl (lv_at hl 0 rfl) ?_
      refine va_iald hx hb hK hP 1 0 rfl rfl (vp_in_nI (by omega) (by decide)) dX3_twos_18 ?_
      refine lv_topi (fun v2 ev2 => ?_)
      refine lv_aload_n hx hb dX3_twos_19 rfl (lv_at hl 2 rfl) ?_
      refine va_get (D := D) (ci := 3) (v := .ref (ob 6)) (C := RX3) (T := TX3) (N := 13) hx hb hts hin_X3 hown hK hP 0 rfl rfl 5 (by decide) (hts (.fieldLink RX3 9 "ClashFree$Layout" "held" "[I") (List.mem_of_getElem? (i := 2) rfl)) (fun _ h9 => h9) rfl dX3_twos_20 ?_
      refine lv_iload_n hx hb dX3_twos_23 rfl (lv_at hl 0 rfl) ?_
      refine va_iald hx hb hK hP 1 0 rfl rfl (vp_in_nI (by omega) (by decide)) dX3_twos_24 ?_
      refine lv_topi (fun v3 ev3 => ?_)
      refine lv_iconst (v := 1) hx hb dX3_twos_25 (by decide) ?_
      refine lv_isub hx hb dX3_twos_26 ?_
      refine lv_topi (fun v4 ev4 => ?_)
      refine lv_imul hx hb dX3_twos_27 ?_
      refine lv_topi (fun v5 ev5 => ?_)
      refine lv_iconst (v := 2) hx hb dX3_twos_28 (by decide) ?_
      refine lv_idiv hx hb dX3_twos_29 (by decide) ?_
      refine lv_topi (fun v6 ev6 => ?_)
      refine lv_iadd hx hb dX3_twos_30 ?_
      refine lv_topi (fun v7 ev7 => ?_)
      refine lv_istore_n (lv' := [(1, .int v7), (2, .int (nI y)), (0, .ref (ob 5))]) hx hb dX3_twos_31 rfl hl (by decide) rfl (fun ls hl => ?_)
      refine lv_iinc (v := nI (y + 1)) (lv' := [(2, .int (nI (y + 1))), (1, .int v7), (0, .ref (ob 5))]) hx hb dX3_twos_32 hl (k := 1) rfl (nI_1 _) (by decide) rfl (fun ls hl => ?_)
      refine lv_goto (tgt := 4) hx hb dX3_twos_35 (by decide) ?_
      exact ih (y + 1) v7 (by omega) (by omega) H locs ls (hP.sub [0, 1] rfl) hS (lv_sub hl [0, 1, 2] rfl)
set_option maxHeartbeats 4000000 in
set_option maxRecDepth 100000 in
theorem k_twos (l : Launch) (D : va_G) (sz : Nat) (ob : Nat → Nat) (cI : ClassId) (nb : Nat) (ka : Nat) (kb : Nat) (sm : Int32) (ln : Nat) (fh : Nat → Int32) (hnb : nb ≤ 2048) : Met l yX3_twos wp_k_twos ({ frames := 0, cells := 0, slots := 0, locals := 0 }) (PcRC D [.ref (ob 5)] sz [(ob 5, .inr (3, gY ob (nI nb) (nI ka) (nI kb) sm (nI ln))), (ob 6, .inl (cI, 2048, .inl fh))] [(cI, .int)]) (va_Qi (fun (r : Int32) (u : Unit) => True) (fun (_ : Unit) _ => True) (va_A [] sz)) 0 0 (va_A [] sz) := by
  refine Met.ofW (cc := cX3_twos) (maxL := 3) (ret := (some .int)) (by decide) rfl ?_
  intro p e s m args below meth c s₁ B hml hv
  obtain ⟨rfl, hsz, hP, hK, hN⟩ := hv
  have hx := B.exec
  have hb := B.bytes
  have hr := B.returns
  have hts := atoms_spec (ws := wp_k_twos) B.pre
  have hin_X3 : ∀ w ∈ wsX30, w ∈ wp_k_twos := fun _ h => (List.mem_cons_of_mem _ (List.mem_append_right _ (List.mem_append_left _ h)))
  have hown : s.vm.findClass RX3 = some m.cls := findClass_of_methodNamed B.named
  have hlocks := B.notSynchronized
  subst hsz
  generalize hAe : va_A [] s.heap.size = A at ⊢
  have hA : ∀ q : Nat, s.heap.size ≤ q → A q := fun q h => by rw [← hAe]; exact Or.inr h
  have hS : va_S A s.heap s.heap [] := va_S.rf
  have hP : va_P D vwCl [(ob 5, .inr (3, gY ob (nI nb) (nI ka) (nI kb) sm (nI ln))), (ob 6, .inl (cI, 2048, .inl fh))] s.heap := hP
  have hl := lv_entry ([.ref (ob 5)]) (n := 3) (Nat.le_of_ble_eq_true rfl)
  rw [lg_entry_eq]
  generalize (lg_sl ([.ref (ob 5)]) ++ List.replicate (3 - (lg_sl ([.ref (ob 5)])).length) Slot.unset).toArray = ls at hl ⊢
  have hl : lv_has ls 3 [(0, .ref (ob 5))] := hl
  refine lv_iconst (v := 0) hx hb dX3_twos_0 (by decide) ?_
  refine lv_istore_n (lv' := [(1, .int 0), (0, .ref (ob 5))]) hx hb dX3_twos_1 rfl hl (by decide) rfl (fun ls hl => ?_)
  refine lv_iconst (v := 0) hx hb dX3_twos_2 (by decide) ?_
  refine lv_istore_n (lv' := [(2, .int 0), (1, .int 0), (0, .ref (ob 5))]) hx hb dX3_twos_3 rfl hl (by decide) rfl (fun ls hl => ?_)
  refine lk_twos l D ob cI nb ka kb sm ln fh (hnb) hx hb hml hown hts hA (hK.sub [0] rfl) hN ?_ (nb + 1) 0 0 (Nat.zero_le _) (by omega) _ _ _ (hP.sub [0, 1] rfl) hS (lv_sub hl [0, 1, 2] rfl)
  intro y_1 su_2 hy1_3 H locs ls hP hS hl
  refine lv_iload_n hx hb dX3_twos_38 rfl (lv_at hl 0 rfl) ?_
  exact W.iret (v := su_2) hx hb hr (fun t ht hW => ⟨⟨su_2, (), rfl, trivial, trivial⟩, hS.F ht⟩) hS.2.2 dX3_twos_39

def own_k_sweep : List Cond := [.fieldLink RX3 54 "ClashFree$Layout" "size" "I", .fieldLink RX3 9 "ClashFree$Layout" "held" "[I", .fieldLink RX3 27 "ClashFree$Layout" "home" "[I"]
def wp_k_sweep : List Cond := .code yX3_sweep cX3_sweep 2 none :: (own_k_sweep ++ (wsX30 ++ ([] : List Cond)))
set_option maxRecDepth 20000 in
theorem inown_k_sweep : ∀ w ∈ own_k_sweep, w ∈ lw_tbl := mem_places [189, 191, 202] (by decide +kernel)
set_option maxRecDepth 20000 in
theorem in_k_sweep : ∀ w ∈ wp_k_sweep, w ∈ lw_tbl := List.forall_mem_cons.mpr ⟨List.mem_of_getElem? (i := 578) (by decide +kernel), List.forall_mem_append.mpr ⟨inown_k_sweep, List.forall_mem_append.mpr ⟨lwb_X3, fun _ h => absurd h List.not_mem_nil⟩⟩⟩
set_option maxRecDepth 20000 in
theorem good_k_sweep : wp_k_sweep.all goodWord = true := by decide +kernel
set_option maxHeartbeats 4000000 in
set_option maxRecDepth 100000 in
theorem lk_sweep (l : Launch) {p : Program} {e : Env} {s : State} {m : MethodId} {args : Array Value} {below : List Frame} {meth : Method} {c : Code} {Q : State → Prop} {A : Nat → Prop} (D : va_G) (ob : Nat → Nat) (cI : ClassId) (nb : Nat) (ka : Nat) (kb : Nat) (sm : Int32) (ln : Nat) (fh : Nat → Int32) (fj : Nat → Int32) (J : Nat → Nat) (hnb : nb ≤ 2048) (hln : ln ≤ 160) (hm9 : HmS fj fh nb ln J) (hx : p.tables.exec = Jvm.exec) (hb : c.code = cX3_sweep) (hml : c.maxLocals = 2) (hown : s.vm.findClass RX3 = some m.cls) (hts : ∀ w ∈ wp_k_sweep, w.before args s = true) (hA : ∀ q, s.heap.size ≤ q → A q) (hK : va_K D vwCl [(cI, .int)] s) (hN : NC s) (kx28 : ∀ (y : Nat), ∀ (gh : Nat → Int32), (y ≤ ln) → (∀ j, j < 2048 → gh j = 0 ∨ (gh j = fh j ∧ ∀ k, k < y → J k ≠ j)) → (ln ≤ y) → ∀ (H : Heap) (locs : List Loc) (ls : Array Slot), va_P D vwCl [(ob 5, .inr (3, gY ob (nI nb) (nI ka) (nI kb) sm (nI ln))), (ob 6, .inl (cI, 2048, .inl gh)), (ob 10, .inl (cI, 160, .inl fj))] H → va_D A [(ob 5, .inr (3, gY ob (nI nb) (nI ka) (nI kb) sm (nI ln))), (ob 6, .inl (cI, 2048, .inl gh)), (ob 10, .inl (cI, 160, .inl fj))] → va_S A s.heap H locs → lv_has ls 2 [(0, .ref (ob 5))] → W p l e ({ frames := 0, cells := 0, slots := 0, locals := 0 }) s m args below meth c H locs 0 0 Q (F0 m 28 ls [])) : ∀ (N : Nat), ∀ (y : Nat), ∀ (gh : Nat → Int32), (y ≤ ln) → (∀ j, j < 2048 → gh j = 0 ∨ (gh j = fh j ∧ ∀ k, k < y → J k ≠ j)) → ln - y < N → ∀ (H : Heap) (locs : List Loc) (ls : Array Slot), va_P D vwCl [(ob 5, .inr (3, gY ob (nI nb) (nI ka) (nI kb) sm (nI ln))), (ob 6, .inl (cI, 2048, .inl gh)), (ob 10, .inl (cI, 160, .inl fj))] H → va_D A [(ob 5, .inr (3, gY ob (nI nb) (nI ka) (nI kb) sm (nI ln))), (ob 6, .inl (cI, 2048, .inl gh)), (ob 10, .inl (cI, 160, .inl fj))] → va_S A s.heap H locs → lv_has ls 2 [(1, .int (nI y)), (0, .ref (ob 5))] → W p l e ({ frames := 0, cells := 0, slots := 0, locals := 0 }) s m args below meth c H locs 0 0 Q (F0 m 2 ls []) := by
  have hin_X3 : ∀ w ∈ wsX30, w ∈ wp_k_sweep := fun _ h => (List.mem_cons_of_mem _ (List.mem_append_right _ (List.mem_append_left _ h)))
  intro N
  induction N with
  | zero =>
    intro y gh hy1 hs hm
    exact absurd hm (Nat.not_lt_zero _)
  | succ N ih =>
    intro y gh hy1 hs hm H locs ls hP hD hS hl
    refine lv_iload_n hx hb dX3_sweep_2 rfl (lv_at hl 0 rfl) ?_
    refine lv_aload_n hx hb dX3_sweep_3 rfl (lv_at hl 1 rfl) ?_
    refine va_get (D := D) (ci := 3) (v := .int (nI ln)) (C := RX3) (T := TX3) (N := 13) hx hb hts hin_X3 hown hK hP 0 rfl rfl 4 (by decide) (hts (.fieldLink RX3 54 "ClashFree$Layout" "size" "I") (List.mem_of_getElem? (i := 1) rfl)) (fun _ h9 => h9) rfl dX3_sweep_4 ?_
    refine lv_icmp_ge (tgt := 28) hx hb dX3_sweep_7 (by decide) (fun hc1 => ?_) (fun hc1 => ?_)
    ·
      have hlt : ln ≤ y := (nI_leI (by omega) (by omega)).mp hc1
      exact kx28 y gh (hy1) (hs) (by omega) H locs ls (hP.sub [0, 1, 2] rfl) (hD.sub [0, 1, 2] (by decide) rfl) hS (lv_sub hl [1] rfl)
    ·
      have hlt : y < ln := by
        rcases Nat.lt_or_ge y (ln) with z | z
        · exact z
        · exact absurd (nI_le z (by omega)) hc1
      refine lv_aload_n hx hb dX3_sweep_10 rfl (lv_at hl 1 rfl) ?_
      refine va_get (D := D) (ci := 3) (v := .ref (ob 6)) (C := RX3) (T := TX3) (N := 13) hx hb hts hin_X3 hown hK hP 0 rfl rfl 5 (by decide) (hts (.fieldLink RX3 9 "ClashFree$Layout" "held" "[I") (List.mem_of_getElem? (i := 2) rfl)) (fun _ h9 => h9) rfl dX3_sweep_11 ?_
      refine lv_aload_n hx hb dX3_sweep_14 rfl (lv_at hl 1 rfl) ?_
      refine va_get (D := D) (ci := 3) (v := .ref (ob 10)) (C := RX3) (T := TX3) (N := 13) hx hb hts hin_X3 hown hK hP 0 rfl rfl 9 (by decide) (hts (.fieldLink RX3 27 "ClashFree$Layout" "home" "[I") (List.mem_of_getElem? (i := 3) rfl)) (fun _ h9 => h9) rfl dX3_sweep_15 ?_
      refine lv_iload_n hx hb dX3_sweep_18 rfl (lv_at hl 0 rfl) ?_
      refine va_iald hx hb hK hP 2 0 rfl rfl (vp_in_nI (by omega) (by decide)) dX3_sweep_19 ?_
      refine lv_topi (fun v2 ev2 => ?_)
      obtain rfl : v2 = nI (J y) := ev2.trans (by rw [nI_clamp (by omega)]; exact (hm9.1 y hlt).1)
      refine lv_iconst (v := 0) hx hb dX3_sweep_20 (by decide) ?_
      refine va_iast hx hb hK hP hD hS 1 0 rfl rfl (vp_in_nI (by have := (hm9.1 y hlt).2; omega) (by decide)) dX3_sweep_21 (fun H locs hP hD hS => ?_)
      have hP : va_P D vwCl [(ob 5, .inr (3, gY ob (nI nb) (nI ka) (nI kb) sm (nI ln))), (ob 6, .inl (cI, 2048, .inl (upd gh (Int32.toNatClampNeg (nI (J y))) 0))), (ob 10, .inl (cI, 160, .inl fj))] H := hP
      have hD : va_D A [(ob 5, .inr (3, gY ob (nI nb) (nI ka) (nI kb) sm (nI ln))), (ob 6, .inl (cI, 2048, .inl (upd gh (Int32.toNatClampNeg (nI (J y))) 0))), (ob 10, .inl (cI, 160, .inl fj))] := hD
      rw [show (upd gh (Int32.toNatClampNeg (nI (J y))) 0) = (upd gh (J y) 0) from by rw [nI_clamp (by have := (hm9.1 y hlt).2; omega)]] at hP hD
      refine lv_iinc (v := nI (y + 1)) (lv' := [(1, .int (nI (y + 1))), (0, .ref (ob 5))]) hx hb dX3_sweep_22 hl (k := 0) rfl (nI_1 _) (by decide) rfl (fun ls hl => ?_)
      refine lv_goto (tgt := 2) hx hb dX3_sweep_25 (by decide) ?_
      exact ih (y + 1) (upd gh (J y) 0) (by omega) (sw_step hs) (by omega) H locs ls (hP.sub [0, 1, 2] rfl) (hD.sub [0, 1, 2] (by decide) rfl) hS (lv_sub hl [0, 1] rfl)
set_option maxHeartbeats 4000000 in
set_option maxRecDepth 100000 in
theorem k_sweep (l : Launch) (D : va_G) (sz : Nat) (ob : Nat → Nat) (cI : ClassId) (nb : Nat) (ka : Nat) (kb : Nat) (sm : Int32) (ln : Nat) (fh : Nat → Int32) (fj : Nat → Int32) (hL : LyH fj fh nb ln) : Met l yX3_sweep wp_k_sweep ({ frames := 0, cells := 0, slots := 0, locals := 0 }) (PcWC D [.ref (ob 5)] sz [(ob 5, .inr (3, gY ob (nI nb) (nI ka) (nI kb) sm (nI ln))), (ob 6, .inl (cI, 2048, .inl fh)), (ob 10, .inl (cI, 160, .inl fj))] [(cI, .int)]) (va_Qv (fun (u : (Nat → Int32)) => ∀ j, j < 2048 → u j = 0) (fun (u : (Nat → Int32)) t => va_P D vwCl [(ob 5, .inr (3, gY ob (nI nb) (nI ka) (nI kb) sm (nI ln))), (ob 6, .inl (cI, 2048, .inl u)), (ob 10, .inl (cI, 160, .inl fj))] t.heap ∧ va_K D vwCl [(cI, .int)] t ∧ va_D (va_A [(ob 5, .inr (3, gY ob (nI nb) (nI ka) (nI kb) sm (nI ln))), (ob 6, .inl (cI, 2048, .inl fh)), (ob 10, .inl (cI, 160, .inl fj))] sz) [(ob 5, .inr (3, gY ob (nI nb) (nI ka) (nI kb) sm (nI ln))), (ob 6, .inl (cI, 2048, .inl u)), (ob 10, .inl (cI, 160, .inl fj))]) (va_A [(ob 5, .inr (3, gY ob (nI nb) (nI ka) (nI kb) sm (nI ln))), (ob 6, .inl (cI, 2048, .inl fh)), (ob 10, .inl (cI, 160, .inl fj))] sz)) 0 0 (va_A [(ob 5, .inr (3, gY ob (nI nb) (nI ka) (nI kb) sm (nI ln))), (ob 6, .inl (cI, 2048, .inl fh)), (ob 10, .inl (cI, 160, .inl fj))] sz) := by
  refine Met.ofW (cc := cX3_sweep) (maxL := 2) (ret := none) (by decide) rfl ?_
  intro p e s m args below meth c s₁ B hml hv
  obtain ⟨rfl, hsz, hP, hK, hD0, hN⟩ := hv
  have hx := B.exec
  have hb := B.bytes
  have hr := B.returns
  have hts := atoms_spec (ws := wp_k_sweep) B.pre
  have hin_X3 : ∀ w ∈ wsX30, w ∈ wp_k_sweep := fun _ h => (List.mem_cons_of_mem _ (List.mem_append_right _ (List.mem_append_left _ h)))
  have hown : s.vm.findClass RX3 = some m.cls := findClass_of_methodNamed B.named
  have hlocks := B.notSynchronized
  subst hsz
  have hD := hD0.self (sz := s.heap.size)
  generalize hAe : va_A [(ob 5, .inr (3, gY ob (nI nb) (nI ka) (nI kb) sm (nI ln))), (ob 6, .inl (cI, 2048, .inl fh)), (ob 10, .inl (cI, 160, .inl fj))] s.heap.size = A at hD ⊢
  have hA : ∀ q : Nat, s.heap.size ≤ q → A q := fun q h => by rw [← hAe]; exact Or.inr h
  have hS : va_S A s.heap s.heap [] := va_S.rf
  have hP : va_P D vwCl [(ob 5, .inr (3, gY ob (nI nb) (nI ka) (nI kb) sm (nI ln))), (ob 6, .inl (cI, 2048, .inl fh)), (ob 10, .inl (cI, 160, .inl fj))] s.heap := hP
  have hl := lv_entry ([.ref (ob 5)]) (n := 2) (Nat.le_of_ble_eq_true rfl)
  rw [lg_entry_eq]
  generalize (lg_sl ([.ref (ob 5)]) ++ List.replicate (2 - (lg_sl ([.ref (ob 5)])).length) Slot.unset).toArray = ls at hl ⊢
  have hl : lv_has ls 2 [(0, .ref (ob 5))] := hl
  obtain ⟨hnb, hln, J, hm9⟩ := hL
  refine lv_iconst (v := 0) hx hb dX3_sweep_0 (by decide) ?_
  refine lv_istore_n (lv' := [(1, .int 0), (0, .ref (ob 5))]) hx hb dX3_sweep_1 rfl hl (by decide) rfl (fun ls hl => ?_)
  refine lk_sweep l D ob cI nb ka kb sm ln fh fj J (hnb) (hln) (hm9) hx hb hml hown hts hA (hK.sub [0] rfl) hN ?_ (ln + 1) 0 fh (Nat.zero_le _) (fun j _ => Or.inr ⟨rfl, fun k hk => absurd hk (Nat.not_lt_zero _)⟩) (by omega) _ _ _ (hP.sub [0, 1, 2] rfl) (hD.sub [0, 1, 2] (by decide) rfl) hS (lv_sub hl [0, 1] rfl)
  intro y_1 gh_2 hy1_3 hs_4 hx5 H locs ls hP hD hS hl
  exact W.vret hx hb hr (fun t ht hW => ⟨⟨gh_2, rfl, sw_end hm9 ((show y_1 = ln by omega) ▸ hs_4), by rw [ht]; exact hP.sub [0, 1, 2] rfl, va_K.moved hW.alike (hK.sub [0] rfl), hD.sub [0, 1, 2] (by decide) rfl⟩, hS.F ht⟩) hS.2.2 dX3_sweep_28

