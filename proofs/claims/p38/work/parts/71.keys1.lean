theorem dX2_keyAt_0 : decode cX2_keyAt 0 = .ok (.iload_n 1, 1) := by decide +kernel
theorem dX2_keyAt_1 : decode cX2_keyAt 1 = .ok (.ifCond .lt 11, 3) := by decide +kernel
theorem dX2_keyAt_4 : decode cX2_keyAt 4 = .ok (.iload_n 1, 1) := by decide +kernel
theorem dX2_keyAt_5 : decode cX2_keyAt 5 = .ok (.aload_n 0, 1) := by decide +kernel
theorem dX2_keyAt_6 : decode cX2_keyAt 6 = .ok (.getfield 18, 3) := by decide +kernel
theorem dX2_keyAt_9 : decode cX2_keyAt 9 = .ok (.if_icmp .lt 7, 3) := by decide +kernel
theorem dX2_keyAt_12 : decode cX2_keyAt 12 = .ok (.iconst (-1), 1) := by decide +kernel
theorem dX2_keyAt_13 : decode cX2_keyAt 13 = .ok (.goto 9, 3) := by decide +kernel
theorem dX2_keyAt_16 : decode cX2_keyAt 16 = .ok (.aload_n 0, 1) := by decide +kernel
theorem dX2_keyAt_17 : decode cX2_keyAt 17 = .ok (.getfield 9, 3) := by decide +kernel
theorem dX2_keyAt_20 : decode cX2_keyAt 20 = .ok (.iload_n 1, 1) := by decide +kernel
theorem dX2_keyAt_21 : decode cX2_keyAt 21 = .ok (.iaload, 1) := by decide +kernel
theorem dX2_keyAt_22 : decode cX2_keyAt 22 = .ok (.ireturn, 1) := by decide +kernel
theorem dX2_valueAt_0 : decode cX2_valueAt 0 = .ok (.iload_n 1, 1) := by decide +kernel
theorem dX2_valueAt_1 : decode cX2_valueAt 1 = .ok (.ifCond .lt 11, 3) := by decide +kernel
theorem dX2_valueAt_4 : decode cX2_valueAt 4 = .ok (.iload_n 1, 1) := by decide +kernel
theorem dX2_valueAt_5 : decode cX2_valueAt 5 = .ok (.aload_n 0, 1) := by decide +kernel
theorem dX2_valueAt_6 : decode cX2_valueAt 6 = .ok (.getfield 18, 3) := by decide +kernel
theorem dX2_valueAt_9 : decode cX2_valueAt 9 = .ok (.if_icmp .lt 7, 3) := by decide +kernel
theorem dX2_valueAt_12 : decode cX2_valueAt 12 = .ok (.iconst 0, 1) := by decide +kernel
theorem dX2_valueAt_13 : decode cX2_valueAt 13 = .ok (.goto 9, 3) := by decide +kernel
theorem dX2_valueAt_16 : decode cX2_valueAt 16 = .ok (.aload_n 0, 1) := by decide +kernel
theorem dX2_valueAt_17 : decode cX2_valueAt 17 = .ok (.getfield 15, 3) := by decide +kernel
theorem dX2_valueAt_20 : decode cX2_valueAt 20 = .ok (.iload_n 1, 1) := by decide +kernel
theorem dX2_valueAt_21 : decode cX2_valueAt 21 = .ok (.iaload, 1) := by decide +kernel
theorem dX2_valueAt_22 : decode cX2_valueAt 22 = .ok (.ireturn, 1) := by decide +kernel
theorem dX2_rank_0 : decode cX2_rank 0 = .ok (.iconst 0, 1) := by decide +kernel
theorem dX2_rank_1 : decode cX2_rank 1 = .ok (.istore_n 2, 1) := by decide +kernel
theorem dX2_rank_2 : decode cX2_rank 2 = .ok (.sipush 128, 3) := by decide +kernel
theorem dX2_rank_5 : decode cX2_rank 5 = .ok (.istore_n 3, 1) := by decide +kernel
theorem dX2_rank_6 : decode cX2_rank 6 = .ok (.iload_n 3, 1) := by decide +kernel
theorem dX2_rank_7 : decode cX2_rank 7 = .ok (.ifCond .le 38, 3) := by decide +kernel
theorem dX2_rank_10 : decode cX2_rank 10 = .ok (.iload_n 2, 1) := by decide +kernel
theorem dX2_rank_11 : decode cX2_rank 11 = .ok (.iload_n 3, 1) := by decide +kernel
theorem dX2_rank_12 : decode cX2_rank 12 = .ok (.iadd, 1) := by decide +kernel
theorem dX2_rank_13 : decode cX2_rank 13 = .ok (.aload_n 0, 1) := by decide +kernel
theorem dX2_rank_14 : decode cX2_rank 14 = .ok (.getfield 18, 3) := by decide +kernel
theorem dX2_rank_17 : decode cX2_rank 17 = .ok (.if_icmp .gt 21, 3) := by decide +kernel
theorem dX2_rank_20 : decode cX2_rank 20 = .ok (.aload_n 0, 1) := by decide +kernel
theorem dX2_rank_21 : decode cX2_rank 21 = .ok (.getfield 9, 3) := by decide +kernel
theorem dX2_rank_24 : decode cX2_rank 24 = .ok (.iload_n 2, 1) := by decide +kernel
theorem dX2_rank_25 : decode cX2_rank 25 = .ok (.iload_n 3, 1) := by decide +kernel
theorem dX2_rank_26 : decode cX2_rank 26 = .ok (.iadd, 1) := by decide +kernel
theorem dX2_rank_27 : decode cX2_rank 27 = .ok (.iconst 1, 1) := by decide +kernel
theorem dX2_rank_28 : decode cX2_rank 28 = .ok (.isub, 1) := by decide +kernel
theorem dX2_rank_29 : decode cX2_rank 29 = .ok (.iaload, 1) := by decide +kernel
theorem dX2_rank_30 : decode cX2_rank 30 = .ok (.iload_n 1, 1) := by decide +kernel
theorem dX2_rank_31 : decode cX2_rank 31 = .ok (.if_icmp .ge 7, 3) := by decide +kernel
theorem dX2_rank_34 : decode cX2_rank 34 = .ok (.iload_n 2, 1) := by decide +kernel
theorem dX2_rank_35 : decode cX2_rank 35 = .ok (.iload_n 3, 1) := by decide +kernel
theorem dX2_rank_36 : decode cX2_rank 36 = .ok (.iadd, 1) := by decide +kernel
theorem dX2_rank_37 : decode cX2_rank 37 = .ok (.istore_n 2, 1) := by decide +kernel
theorem dX2_rank_38 : decode cX2_rank 38 = .ok (.iload_n 3, 1) := by decide +kernel
theorem dX2_rank_39 : decode cX2_rank 39 = .ok (.iconst 2, 1) := by decide +kernel
theorem dX2_rank_40 : decode cX2_rank 40 = .ok (.idiv, 1) := by decide +kernel
theorem dX2_rank_41 : decode cX2_rank 41 = .ok (.istore_n 3, 1) := by decide +kernel
theorem dX2_rank_42 : decode cX2_rank 42 = .ok (.goto (-36), 3) := by decide +kernel
theorem dX2_rank_45 : decode cX2_rank 45 = .ok (.iload_n 2, 1) := by decide +kernel
theorem dX2_rank_46 : decode cX2_rank 46 = .ok (.ireturn, 1) := by decide +kernel
theorem dX2_find_0 : decode cX2_find 0 = .ok (.aload_n 0, 1) := by decide +kernel
theorem dX2_find_1 : decode cX2_find 1 = .ok (.iload_n 1, 1) := by decide +kernel
theorem dX2_find_2 : decode cX2_find 2 = .ok (.invokevirtual 22, 3) := by decide +kernel
theorem dX2_find_5 : decode cX2_find 5 = .ok (.istore_n 2, 1) := by decide +kernel
theorem dX2_find_6 : decode cX2_find 6 = .ok (.iload_n 2, 1) := by decide +kernel
theorem dX2_find_7 : decode cX2_find 7 = .ok (.aload_n 0, 1) := by decide +kernel
theorem dX2_find_8 : decode cX2_find 8 = .ok (.getfield 18, 3) := by decide +kernel
theorem dX2_find_11 : decode cX2_find 11 = .ok (.if_icmp .ge 17, 3) := by decide +kernel
theorem dX2_find_14 : decode cX2_find 14 = .ok (.aload_n 0, 1) := by decide +kernel
theorem dX2_find_15 : decode cX2_find 15 = .ok (.getfield 9, 3) := by decide +kernel
theorem dX2_find_18 : decode cX2_find 18 = .ok (.iload_n 2, 1) := by decide +kernel
theorem dX2_find_19 : decode cX2_find 19 = .ok (.iaload, 1) := by decide +kernel
theorem dX2_find_20 : decode cX2_find 20 = .ok (.iload_n 1, 1) := by decide +kernel
theorem dX2_find_21 : decode cX2_find 21 = .ok (.if_icmp .ne 7, 3) := by decide +kernel
theorem dX2_find_24 : decode cX2_find 24 = .ok (.iload_n 2, 1) := by decide +kernel
theorem dX2_find_25 : decode cX2_find 25 = .ok (.goto 4, 3) := by decide +kernel
theorem dX2_find_28 : decode cX2_find 28 = .ok (.iconst (-1), 1) := by decide +kernel
theorem dX2_find_29 : decode cX2_find 29 = .ok (.ireturn, 1) := by decide +kernel
theorem dX2_closest_0 : decode cX2_closest 0 = .ok (.aload_n 0, 1) := by decide +kernel
theorem dX2_closest_1 : decode cX2_closest 1 = .ok (.iload_n 1, 1) := by decide +kernel
theorem dX2_closest_2 : decode cX2_closest 2 = .ok (.invokevirtual 22, 3) := by decide +kernel
theorem dX2_closest_5 : decode cX2_closest 5 = .ok (.istore_n 2, 1) := by decide +kernel
theorem dX2_closest_6 : decode cX2_closest 6 = .ok (.iload_n 2, 1) := by decide +kernel
theorem dX2_closest_7 : decode cX2_closest 7 = .ok (.aload_n 0, 1) := by decide +kernel
theorem dX2_closest_8 : decode cX2_closest 8 = .ok (.getfield 18, 3) := by decide +kernel
theorem dX2_closest_11 : decode cX2_closest 11 = .ok (.if_icmp .ne 14, 3) := by decide +kernel
theorem dX2_closest_14 : decode cX2_closest 14 = .ok (.aload_n 0, 1) := by decide +kernel
theorem dX2_closest_15 : decode cX2_closest 15 = .ok (.aload_n 0, 1) := by decide +kernel
theorem dX2_closest_16 : decode cX2_closest 16 = .ok (.getfield 18, 3) := by decide +kernel
theorem dX2_closest_19 : decode cX2_closest 19 = .ok (.iconst 1, 1) := by decide +kernel
theorem dX2_closest_20 : decode cX2_closest 20 = .ok (.isub, 1) := by decide +kernel
theorem dX2_closest_21 : decode cX2_closest 21 = .ok (.invokevirtual 26, 3) := by decide +kernel
theorem dX2_closest_24 : decode cX2_closest 24 = .ok (.ireturn, 1) := by decide +kernel
theorem dX2_closest_25 : decode cX2_closest 25 = .ok (.iload_n 2, 1) := by decide +kernel
theorem dX2_closest_26 : decode cX2_closest 26 = .ok (.ifCond .ne 10, 3) := by decide +kernel
theorem dX2_closest_29 : decode cX2_closest 29 = .ok (.aload_n 0, 1) := by decide +kernel
theorem dX2_closest_30 : decode cX2_closest 30 = .ok (.getfield 9, 3) := by decide +kernel
theorem dX2_closest_33 : decode cX2_closest 33 = .ok (.iconst 0, 1) := by decide +kernel
theorem dX2_closest_34 : decode cX2_closest 34 = .ok (.iaload, 1) := by decide +kernel
theorem dX2_closest_35 : decode cX2_closest 35 = .ok (.ireturn, 1) := by decide +kernel
theorem dX2_closest_36 : decode cX2_closest 36 = .ok (.iload_n 1, 1) := by decide +kernel
theorem dX2_closest_37 : decode cX2_closest 37 = .ok (.aload_n 0, 1) := by decide +kernel
theorem dX2_closest_38 : decode cX2_closest 38 = .ok (.getfield 9, 3) := by decide +kernel
theorem dX2_closest_41 : decode cX2_closest 41 = .ok (.iload_n 2, 1) := by decide +kernel
theorem dX2_closest_42 : decode cX2_closest 42 = .ok (.iconst 1, 1) := by decide +kernel
theorem dX2_closest_43 : decode cX2_closest 43 = .ok (.isub, 1) := by decide +kernel
theorem dX2_closest_44 : decode cX2_closest 44 = .ok (.iaload, 1) := by decide +kernel
theorem dX2_closest_45 : decode cX2_closest 45 = .ok (.isub, 1) := by decide +kernel
theorem dX2_closest_46 : decode cX2_closest 46 = .ok (.aload_n 0, 1) := by decide +kernel
theorem dX2_closest_47 : decode cX2_closest 47 = .ok (.getfield 9, 3) := by decide +kernel
theorem dX2_closest_50 : decode cX2_closest 50 = .ok (.iload_n 2, 1) := by decide +kernel
theorem dX2_closest_51 : decode cX2_closest 51 = .ok (.iaload, 1) := by decide +kernel
theorem dX2_closest_52 : decode cX2_closest 52 = .ok (.iload_n 1, 1) := by decide +kernel
theorem dX2_closest_53 : decode cX2_closest 53 = .ok (.isub, 1) := by decide +kernel
theorem dX2_closest_54 : decode cX2_closest 54 = .ok (.if_icmp .gt 14, 3) := by decide +kernel
theorem dX2_closest_57 : decode cX2_closest 57 = .ok (.aload_n 0, 1) := by decide +kernel
theorem dX2_closest_58 : decode cX2_closest 58 = .ok (.getfield 9, 3) := by decide +kernel
theorem dX2_closest_61 : decode cX2_closest 61 = .ok (.iload_n 2, 1) := by decide +kernel
theorem dX2_closest_62 : decode cX2_closest 62 = .ok (.iconst 1, 1) := by decide +kernel
theorem dX2_closest_63 : decode cX2_closest 63 = .ok (.isub, 1) := by decide +kernel
theorem dX2_closest_64 : decode cX2_closest 64 = .ok (.iaload, 1) := by decide +kernel
theorem dX2_closest_65 : decode cX2_closest 65 = .ok (.goto 9, 3) := by decide +kernel
theorem dX2_closest_68 : decode cX2_closest 68 = .ok (.aload_n 0, 1) := by decide +kernel
theorem dX2_closest_69 : decode cX2_closest 69 = .ok (.getfield 9, 3) := by decide +kernel
theorem dX2_closest_72 : decode cX2_closest 72 = .ok (.iload_n 2, 1) := by decide +kernel
theorem dX2_closest_73 : decode cX2_closest 73 = .ok (.iaload, 1) := by decide +kernel
theorem dX2_closest_74 : decode cX2_closest 74 = .ok (.ireturn, 1) := by decide +kernel
def KyC (fk : Nat → Int32) (cn : Nat) : Prop := cn ≤ 160 ∧ ∀ j, j < cn → ∃ x, fk j = nI x ∧ x < 2147483647
def stp : Nat → Nat
  | 0 => 0
  | e + 1 => 2 ^ e
theorem stp_le {e : Nat} (h : e ≤ 8) : stp e ≤ 128 := by
  rcases (show e = 0 ∨ e = 1 ∨ e = 2 ∨ e = 3 ∨ e = 4 ∨ e = 5 ∨ e = 6 ∨ e = 7 ∨ e = 8 by omega) with rfl | rfl | rfl | rfl | rfl | rfl | rfl | rfl | rfl <;> decide
theorem stp_pos {e : Nat} (h : 0 < stp e) : 1 ≤ e := by
  rcases Nat.eq_zero_or_pos e with z | z
  · subst z
    exact absurd h (by decide)
  · exact z
theorem stp_div {e : Nat} (h : e ≤ 8) (h1 : 1 ≤ e) : nI (stp e) / 2 = nI (stp (e - 1)) := by
  rcases (show e = 1 ∨ e = 2 ∨ e = 3 ∨ e = 4 ∨ e = 5 ∨ e = 6 ∨ e = 7 ∨ e = 8 by omega) with rfl | rfl | rfl | rfl | rfl | rfl | rfl | rfl <;> decide
/-- rank's halving steps: e of them are left -/
def rkG (fk : Nat → Int32) (cn : Nat) (x : Int32) : Nat → Nat → Nat
  | 0, y => y
  | e + 1, y => rkG fk cn x e (if y + 2 ^ e ≤ cn ∧ fk (y + 2 ^ e - 1) < x then y + 2 ^ e else y)
def rkF (fk : Nat → Int32) (cn : Nat) (x : Int32) : Nat := rkG fk cn x 8 0
theorem rkG_le (fk : Nat → Int32) (cn : Nat) (x : Int32) : ∀ e y, y ≤ cn → rkG fk cn x e y ≤ cn
  | 0, y, h => h
  | e + 1, y, h => by
    unfold rkG
    apply rkG_le fk cn x e
    split
    · rename_i q
      exact q.1
    · exact h
theorem rkF_le (fk : Nat → Int32) (cn : Nat) (x : Int32) : rkF fk cn x ≤ cn := rkG_le fk cn x 8 0 (Nat.zero_le _)
theorem rkG_T {fk : Nat → Int32} {cn e y : Nat} {x : Int32} (h1 : 1 ≤ e) (h : y + stp e ≤ cn) (h2 : fk (y + stp e - 1) < x) : rkG fk cn x e y = rkG fk cn x (e - 1) (y + stp e) := by
  obtain ⟨q, rfl⟩ : ∃ q, e = q + 1 := ⟨e - 1, by omega⟩
  show rkG fk cn x q (if y + 2 ^ q ≤ cn ∧ fk (y + 2 ^ q - 1) < x then y + 2 ^ q else y) = rkG fk cn x q (y + 2 ^ q)
  rw [if_pos ⟨h, h2⟩]
theorem rkG_F {fk : Nat → Int32} {cn e y : Nat} {x : Int32} (h1 : 1 ≤ e) (h : ¬ (y + stp e ≤ cn ∧ fk (y + stp e - 1) < x)) : rkG fk cn x e y = rkG fk cn x (e - 1) y := by
  obtain ⟨q, rfl⟩ : ∃ q, e = q + 1 := ⟨e - 1, by omega⟩
  have h : ¬ (y + 2 ^ q ≤ cn ∧ fk (y + 2 ^ q - 1) < x) := h
  show rkG fk cn x q (if y + 2 ^ q ≤ cn ∧ fk (y + 2 ^ q - 1) < x then y + 2 ^ q else y) = rkG fk cn x q y
  rw [if_neg h]
theorem rkG_0 {fk : Nat → Int32} {cn e y : Nat} {x : Int32} (h : stp e = 0) : rkG fk cn x e y = y := by
  cases e with
  | zero => rfl
  | succ q => exact absurd h (Nat.ne_of_gt (Nat.pos_of_ne_zero (fun z => absurd (Nat.pow_eq_zero.mp z).1 (by decide))))
theorem KyC_ins {fk gk : Nat → Int32} {cn j : Nat} {x : Nat} (h : KyC fk cn) (hc : cn < 160) (hj : j ≤ cn) (hx : x < 2147483647) (e : ∀ k, k ≤ cn → gk k = if k < j then fk k else if k = j then nI x else fk (k - 1)) : KyC gk (cn + 1) := by
  refine ⟨by omega, fun k hk => ?_⟩
  rw [e k (by omega)]
  by_cases h1 : k < j
  · rw [if_pos h1]
    exact h.2 k (by omega)
  · rw [if_neg h1]
    by_cases h2 : k = j
    · rw [if_pos h2]
      exact ⟨x, rfl, hx⟩
    · rw [if_neg h2]
      exact h.2 (k - 1) (by omega)
theorem cpy_in {f g : Nat → Int32} {a b n k : Nat} (h1 : b ≤ k) (h2 : k < b + n) : va_cpy f g a b n k = f (a + (k - b)) := if_pos ⟨h1, h2⟩
theorem cpy_out {f g : Nat → Int32} {a b n k : Nat} (h : k < b ∨ b + n ≤ k) : va_cpy f g a b n k = g k := if_neg (by omega)
theorem KyC_rem {fk gk : Nat → Int32} {cn j : Nat} (h : KyC fk cn) (hj : j < cn) (e : ∀ k, k < cn - 1 → gk k = if k < j then fk k else fk (k + 1)) : KyC gk (cn - 1) := by
  refine ⟨by have := h.1; omega, fun k hk => ?_⟩
  rw [e k hk]
  by_cases h1 : k < j
  · rw [if_pos h1]
    exact h.2 k (by omega)
  · rw [if_neg h1]
    exact h.2 (k + 1) (by omega)
theorem rkG_eq {fk : Nat → Int32} {cn r : Nat} {x : Int32} (hs : ∀ j, j < cn → (fk j < x ↔ j < r)) (hr : r ≤ cn) : ∀ e y, y ≤ r → r < y + 2 ^ e → rkG fk cn x e y = r := by
  intro e
  induction e with
  | zero =>
    intro y h1 h2
    show y = r
    simp at h2
    omega
  | succ e ih =>
    intro y h1 h2
    have hp : 0 < 2 ^ e := Nat.pow_pos (by decide)
    rw [Nat.pow_succ] at h2
    show rkG fk cn x e (if y + 2 ^ e ≤ cn ∧ fk (y + 2 ^ e - 1) < x then y + 2 ^ e else y) = r
    by_cases h : y + 2 ^ e ≤ r
    · rw [if_pos ⟨by omega, (hs _ (by omega)).mpr (by omega)⟩]
      exact ih _ h (by omega)
    · rw [if_neg (fun q => h (by have := (hs (y + 2 ^ e - 1) (by omega)).mp q.2; omega))]
      exact ih _ h1 (by omega)
theorem rkF_eq {fk : Nat → Int32} {cn r : Nat} {x : Int32} (hs : ∀ j, j < cn → (fk j < x ↔ j < r)) (hr : r ≤ cn) (hc : cn ≤ 160) : rkF fk cn x = r := rkG_eq hs hr 8 0 (Nat.zero_le _) (by omega)
/-- how many of the first cn are below x -/
def rankN (K : Nat → Nat) (x : Nat) : Nat → Nat
  | 0 => 0
  | n + 1 => if K n < x then n + 1 else rankN K x n
theorem rankN_le (K : Nat → Nat) (x : Nat) : ∀ n, rankN K x n ≤ n := by
  intro n
  induction n with
  | zero => exact Nat.le_refl _
  | succ n ih =>
    show (if K n < x then n + 1 else rankN K x n) ≤ n + 1
    split
    · exact Nat.le_refl _
    · omega
theorem rankN_iff {K : Nat → Nat} {x : Nat} : ∀ n, (∀ i j, i < j → j < n → K i < K j) → ∀ j, j < n → (K j < x ↔ j < rankN K x n) := by
  intro n
  induction n with
  | zero => intro _ j hj; omega
  | succ n ih =>
    intro hs j hj
    show K j < x ↔ j < (if K n < x then n + 1 else rankN K x n)
    by_cases h : K n < x
    · rw [if_pos h]
      refine ⟨fun _ => hj, fun _ => ?_⟩
      by_cases e : j = n
      · subst e
        exact h
      · exact Nat.lt_trans (hs j n (by omega) (by omega)) h
    · rw [if_neg h]
      by_cases e : j = n
      · subst e
        have := rankN_le K x j
        exact ⟨fun q => absurd q h, fun q => by omega⟩
      · exact ih (fun i j a b => hs i j a (by omega)) j (by omega)
theorem rkF_rank {fk : Nat → Int32} {K : Nat → Nat} {cn kx : Nat} (hK : ∀ j, j < cn → fk j = nI (K j) ∧ K j < 2147483647) (hs : ∀ i j, i < j → j < cn → K i < K j) (hc : cn ≤ 160) (hx : kx < 2147483648) : rkF fk cn (nI kx) = rankN K kx cn := by
  refine rkF_eq (fun j hj => ?_) (rankN_le _ _ _) hc
  rw [(hK j hj).1, nI_ltI (by have := (hK j hj).2; omega) (by omega)]
  exact rankN_iff cn hs j hj
def KyT (fk : Nat → Int32) (cn : Nat) (K : Nat → Nat) : Prop := cn ≤ 160 ∧ (∀ j, j < cn → fk j = nI (K j) ∧ K j < 2147483647) ∧ ∀ i j, i < j → j < cn → K i < K j
def nrK (cn : Nat) (K : Nat → Nat) (x q : Nat) : Nat := if q = cn then K (q - 1) else if q = 0 then K 0 else if x - K (q - 1) ≤ K q - x then K (q - 1) else K q
theorem nrK_a {cn x q : Nat} {K : Nat → Nat} (h : q = cn) : nrK cn K x q = K (q - 1) := if_pos h
theorem nrK_b {cn x q : Nat} {K : Nat → Nat} (h : q ≠ cn) (h0 : q = 0) : nrK cn K x q = K 0 := (if_neg h).trans (if_pos h0)
theorem rk_lo {fk : Nat → Int32} {cn x q : Nat} {K : Nat → Nat} (hK : KyT fk cn K) (hx : x < 2147483648) (e : q = rkF fk cn (nI x)) : ∀ j, j < cn → (K j < x ↔ j < q) := by
  subst e
  rw [rkF_rank hK.2.1 hK.2.2 hK.1 hx]
  exact rankN_iff cn hK.2.2
theorem nr_cmp {fk : Nat → Int32} {cn x q : Nat} {K : Nat → Nat} (hK : KyT fk cn K) (hx : x < 2147483647) (hq : q < cn) (h1 : 1 ≤ q) (e : q = rkF fk cn (nI x)) : (nI x - fk (q - 1) ≤ fk q - nI x ↔ x - K (q - 1) ≤ K q - x) := by
  have a := (rk_lo hK (by omega) e (q - 1) (by omega)).mpr (by omega)
  have b : ¬ K q < x := fun z => by have := (rk_lo hK (by omega) e q hq).mp z; omega
  have c := (hK.2.1 q hq).2
  rw [(hK.2.1 (q - 1) (by omega)).1, (hK.2.1 q hq).1, pk_sub (by omega), pk_sub (by omega), nI_leI (by omega) (by omega)]
theorem nrK_c {fk : Nat → Int32} {cn x q : Nat} {K : Nat → Nat} (hK : KyT fk cn K) (hx : x < 2147483647) (hn : q ≠ cn) (hq : q < cn) (h1 : 1 ≤ q) (e : q = rkF fk cn (nI x)) (h : nI x - fk (q - 1) ≤ fk q - nI x) : nrK cn K x q = K (q - 1) := (if_neg hn).trans ((if_neg (by omega)).trans (if_pos ((nr_cmp hK hx hq h1 e).mp h)))
theorem nrK_d {fk : Nat → Int32} {cn x q : Nat} {K : Nat → Nat} (hK : KyT fk cn K) (hx : x < 2147483647) (hn : q ≠ cn) (hq : q < cn) (h1 : 1 ≤ q) (e : q = rkF fk cn (nI x)) (h : fk q - nI x < nI x - fk (q - 1)) : nrK cn K x q = K q := (if_neg hn).trans ((if_neg (by omega)).trans (if_neg (fun z => absurd ((nr_cmp hK hx hq h1 e).mpr z) (Int32.not_le.mpr h))))
theorem KyT.rkl {fk : Nat → Int32} {cn x : Nat} {K : Nat → Nat} (hK : KyT fk cn K) (hx : x < 2147483648) (V : Nat → Int32) : rkL (tabl cn K V) x = rkF fk cn (nI x) := rkL_at cn K V _ x (rkF_le _ _ _) (fun j hj => (rk_lo hK hx rfl j (by have := rkF_le fk cn (nI x); omega)).mpr hj) (fun j a b e => by have := (rk_lo hK hx rfl j b).mp e; omega)
/-! the class's keys and values as a list -/
def KvT (fk fv : Nat → Int32) (cn : Nat) (L : List (Nat × Int32)) : Prop := cn ≤ 160 ∧ ∃ K, (∀ j, j < cn → fk j = nI (K j) ∧ K j < 2147483647) ∧ (∀ i j, i < j → j < cn → K i < K j) ∧ L = tabl cn K fv
theorem KvT_0 (fk fv : Nat → Int32) : KvT fk fv 0 [] := ⟨Nat.zero_le _, fun _ => 0, fun j hj => absurd hj (Nat.not_lt_zero _), fun i j _ hj => absurd hj (Nat.not_lt_zero _), rfl⟩
theorem KvT.len {fk fv : Nat → Int32} {cn : Nat} {L : List (Nat × Int32)} (h : KvT fk fv cn L) : L.length = cn := by
  obtain ⟨_, K, _, _, rfl⟩ := h
  exact tabl_len _ _ _
theorem KvT.cp {fk fv gk gv : Nat → Int32} {cn : Nat} {L : List (Nat × Int32)} (h : KvT fk fv cn L) (e : ∀ j, j < cn → gk j = fk j ∧ gv j = fv j) : KvT gk gv cn L := by
  obtain ⟨h0, K, h1, h2, rfl⟩ := h
  exact ⟨h0, K, fun j hj => ⟨(e j hj).1.trans (h1 j hj).1, (h1 j hj).2⟩, h2, tabl_eq (fun j hj => ⟨rfl, (e j hj).2.symm⟩)⟩
/-- what rank tells -/
theorem KvT.rk {fk fv : Nat → Int32} {cn : Nat} {L : List (Nat × Int32)} {kx : Nat} {K : Nat → Nat} (hc : cn ≤ 160) (h1 : ∀ j, j < cn → fk j = nI (K j) ∧ K j < 2147483647) (h2 : ∀ i j, i < j → j < cn → K i < K j) (hx : kx < 2147483647) : (∀ j, j < cn → (K j < kx ↔ j < rkF fk cn (nI kx))) := by
  rw [rkF_rank h1 h2 hc (by omega)]
  exact rankN_iff cn h2
theorem KvT.fd {fk fv : Nat → Int32} {cn : Nat} {L : List (Nat × Int32)} {kx : Nat} (h : KvT fk fv cn L) (hx : kx < 2147483647) (hF : rkF fk cn (nI kx) < cn ∧ fk (rkF fk cn (nI kx)) = nI kx) : (∀ v, KvT fk (upd fv (rkF fk cn (nI kx)) v) cn (putL L kx v)) ∧ lookL L kx = some (fv (rkF fk cn (nI kx))) ∧ ∀ gk gv, (∀ k, k < cn - 1 → gk k = if k < rkF fk cn (nI kx) then fk k else fk (k + 1)) → (∀ k, k < cn - 1 → gv k = if k < rkF fk cn (nI kx) then fv k else fv (k + 1)) → KvT gk gv (cn - 1) (dropL L kx) := by
  obtain ⟨h0, K, h1, h2, rfl⟩ := h
  have eK : K (rkF fk cn (nI kx)) = kx := by
    have a := h1 _ hF.1
    exact (nI_eq (by omega) (by omega)).mp (a.1.symm.trans hF.2)
  generalize rkF fk cn (nI kx) = q at hF eK ⊢
  refine ⟨fun v => ⟨h0, K, h1, h2, put_rep cn K fv q kx v h2 hF.1 eK⟩, look_at cn K fv q kx h2 hF.1 eK, fun gk gv e1 e2 => ⟨by omega, delN K q, fun j hj => ?_, fun i j hij hj => ?_, ?_⟩⟩
  · rw [e1 j hj]
    unfold delN
    split
    · exact h1 j (by omega)
    · exact h1 (j + 1) (by omega)
  · unfold delN
    split
    · split
      · exact h2 i j hij (by omega)
      · exact h2 i (j + 1) (by omega) (by omega)
    · split
      · omega
      · exact h2 (i + 1) (j + 1) (by omega) (by omega)
  · rw [drop_at cn K fv q kx h2 hF.1 eK]
    exact tabl_eq (fun j hj => ⟨rfl, (e2 j hj).symm⟩)
theorem KvT.nf {fk fv : Nat → Int32} {cn : Nat} {L : List (Nat × Int32)} {kx : Nat} (h : KvT fk fv cn L) (hx : kx < 2147483647) (hF : ¬ (rkF fk cn (nI kx) < cn ∧ fk (rkF fk cn (nI kx)) = nI kx)) : dropL L kx = L ∧ lookL L kx = none ∧ ∀ gk gv v, cn < 160 → (∀ k, k ≤ cn → gk k = if k < rkF fk cn (nI kx) then fk k else if k = rkF fk cn (nI kx) then nI kx else fk (k - 1)) → (∀ k, k ≤ cn → gv k = if k < rkF fk cn (nI kx) then fv k else if k = rkF fk cn (nI kx) then v else fv (k - 1)) → KvT gk gv (cn + 1) (putL L kx v) := by
  obtain ⟨h0, K, h1, h2, rfl⟩ := h
  have hr := KvT.rk (fv := fv) (L := []) h0 h1 h2 hx
  have hq := rkF_le fk cn (nI kx)
  generalize rkF fk cn (nI kx) = q at hF hr hq ⊢
  have hge : ∀ j, q ≤ j → j < cn → kx < K j := by
    intro j a b
    have c1 : ¬ K j < kx := fun z => by have := (hr j b).mp z; omega
    rcases Nat.lt_or_ge kx (K j) with z | z
    · exact z
    · exfalso
      have ej : K j = kx := by omega
      have c2 : ¬ K q < kx := fun z => by have := (hr q (by omega)).mp z; omega
      by_cases e : j = q
      · subst e
        exact hF ⟨b, by rw [(h1 j b).1, ej]⟩
      · have := h2 q j (by omega) b
        omega
  have hno : ∀ j, j < cn → K j ≠ kx := by
    intro j hj e
    rcases Nat.lt_or_ge j q with z | z
    · have := (hr j hj).mpr z
      omega
    · have := hge j z hj
      omega
  refine ⟨drop_no cn K fv kx hno, look_no cn K fv kx hno, fun gk gv v hc e1 e2 => ⟨by omega, insN K q kx, fun j hj => ?_, fun i j hij hj => ?_, ?_⟩⟩
  · rw [e1 j (by omega)]
    unfold insN
    split
    · exact h1 j (by omega)
    · split
      · exact ⟨rfl, hx⟩
      · exact h1 (j - 1) (by omega)
  · unfold insN
    by_cases a : i < q
    · rw [if_pos a]
      by_cases b : j < q
      · rw [if_pos b]
        exact h2 i j hij (by omega)
      · rw [if_neg b]
        have := (hr i (by omega)).mpr a
        by_cases c : j = q
        · rw [if_pos c]
          exact this
        · rw [if_neg c]
          have := hge (j - 1) (by omega) (by omega)
          omega
    · rw [if_neg a, if_neg (show ¬ j < q by omega), if_neg (show ¬ j = q by omega)]
      by_cases c : i = q
      · rw [if_pos c]
        exact hge (j - 1) (by omega) (by omega)
      · rw [if_neg c]
        exact h2 (i - 1) (j - 1) (by omega) (by omega)
  · rw [put_new cn K fv q kx v hq (fun j hj => (hr j (by omega)).mpr hj) hge]
    exact tabl_eq (fun j hj => ⟨rfl, (e2 j (by omega)).symm⟩)
def own_k_keyAt : List Cond := [.fieldLink RX2 18 "ClashFree$Keys" "size" "I", .fieldLink RX2 9 "ClashFree$Keys" "keys" "[I"]
def wp_k_keyAt : List Cond := .code yX2_keyAt cX2_keyAt 2 (some .int) :: (own_k_keyAt ++ (wsX20 ++ ([] : List Cond)))
set_option maxRecDepth 20000 in
theorem inown_k_keyAt : ∀ w ∈ own_k_keyAt, w ∈ lw_tbl := mem_places [472, 478] (by decide +kernel)
set_option maxRecDepth 20000 in
theorem in_k_keyAt : ∀ w ∈ wp_k_keyAt, w ∈ lw_tbl := List.forall_mem_cons.mpr ⟨List.mem_of_getElem? (i := 737) (by decide +kernel), List.forall_mem_append.mpr ⟨inown_k_keyAt, List.forall_mem_append.mpr ⟨lwb_X2, fun _ h => absurd h List.not_mem_nil⟩⟩⟩
set_option maxRecDepth 20000 in
theorem good_k_keyAt : wp_k_keyAt.all goodWord = true := by decide +kernel
set_option maxHeartbeats 4000000 in
set_option maxRecDepth 100000 in
theorem k_keyAt (l : Launch) (D : va_G) (sz : Nat) (oc : Nat → Nat) (cI : ClassId) (cn : Nat) (fk : Nat → Int32) (z1 : Int32) (hc : cn ≤ 160) : Met l yX2_keyAt wp_k_keyAt ({ frames := 0, cells := 0, slots := 0, locals := 0 }) (PcRC D [.ref (oc 2), .int z1] sz [(oc 2, .inr (2, [.int (nI cn), .ref (oc 3), .ref (oc 4)])), (oc 3, .inl (cI, 160, .inl fk))] [(cI, .int)]) (va_Qi (fun (r : Int32) (u : Unit) => (∀ j, j < cn → z1 = nI j → r = fk j) ∧ ((∀ j, j < cn → z1 ≠ nI j) → r = -1)) (fun (_ : Unit) _ => True) (va_A [] sz)) 0 0 (va_A [] sz) := by
  refine Met.ofW (cc := cX2_keyAt) (maxL := 2) (ret := (some .int)) (by decide) rfl ?_
  intro p e s m args below meth c s₁ B hml hv
  obtain ⟨rfl, hsz, hP, hK, hN⟩ := hv
  have hx := B.exec
  have hb := B.bytes
  have hr := B.returns
  have hts := atoms_spec (ws := wp_k_keyAt) B.pre
  have hin_X2 : ∀ w ∈ wsX20, w ∈ wp_k_keyAt := fun _ h => (List.mem_cons_of_mem _ (List.mem_append_right _ (List.mem_append_left _ h)))
  have hown : s.vm.findClass RX2 = some m.cls := findClass_of_methodNamed B.named
  have hlocks := B.notSynchronized
  subst hsz
  generalize hAe : va_A [] s.heap.size = A at ⊢
  have hA : ∀ q : Nat, s.heap.size ≤ q → A q := fun q h => by rw [← hAe]; exact Or.inr h
  have hS : va_S A s.heap s.heap [] := va_S.rf
  have hP : va_P D vwCl [(oc 2, .inr (2, [.int (nI cn), .ref (oc 3), .ref (oc 4)])), (oc 3, .inl (cI, 160, .inl fk))] s.heap := hP
  have hl := lv_entry ([.ref (oc 2), .int z1]) (n := 2) (Nat.le_of_ble_eq_true rfl)
  rw [lg_entry_eq]
  generalize (lg_sl ([.ref (oc 2), .int z1]) ++ List.replicate (2 - (lg_sl ([.ref (oc 2), .int z1])).length) Slot.unset).toArray = ls at hl ⊢
  have hl : lv_has ls 2 [(0, .ref (oc 2)), (1, .int z1)] := hl
  refine lv_iload_n hx hb dX2_keyAt_0 rfl (lv_at hl 1 rfl) ?_
  refine lv_if_lt (tgt := 12) hx hb dX2_keyAt_1 (by decide) (fun hc1 => ?_) (fun hc1 => ?_)
  ·
    refine lv_iconst (v := (-1)) hx hb dX2_keyAt_12 (by decide) ?_
    refine lv_goto (tgt := 22) hx hb dX2_keyAt_13 (by decide) ?_
    exact W.iret (v := (-1)) hx hb hr (fun t ht hW => ⟨⟨(-1), (), rfl, ⟨fun j hj e => absurd hc1 (by rw [e]; exact Int32.not_lt.mpr (nI_pos' (by omega))), fun _ => rfl⟩, trivial⟩, hS.F ht⟩) hS.2.2 dX2_keyAt_22
  ·
    refine lv_iload_n hx hb dX2_keyAt_4 rfl (lv_at hl 1 rfl) ?_
    refine lv_aload_n hx hb dX2_keyAt_5 rfl (lv_at hl 0 rfl) ?_
    refine va_get (D := D) (ci := 2) (v := .int (nI cn)) (C := RX2) (T := TX2) (N := 3) hx hb hts hin_X2 hown hK hP 0 rfl rfl 0 (by decide) (hts (.fieldLink RX2 18 "ClashFree$Keys" "size" "I") (List.mem_of_getElem? (i := 1) rfl)) (fun _ h9 => h9) rfl dX2_keyAt_6 ?_
    refine lv_icmp_lt (tgt := 16) hx hb dX2_keyAt_9 (by decide) (fun hc2 => ?_) (fun hc2 => ?_)
    ·
      obtain ⟨j, hj, rfl⟩ := inz (by omega) hc1 (hc2)
      refine lv_aload_n hx hb dX2_keyAt_16 rfl (lv_at hl 0 rfl) ?_
      refine va_get (D := D) (ci := 2) (v := .ref (oc 3)) (C := RX2) (T := TX2) (N := 3) hx hb hts hin_X2 hown hK hP 0 rfl rfl 1 (by decide) (hts (.fieldLink RX2 9 "ClashFree$Keys" "keys" "[I") (List.mem_of_getElem? (i := 2) rfl)) (fun _ h9 => h9) rfl dX2_keyAt_17 ?_
      refine lv_iload_n hx hb dX2_keyAt_20 rfl (lv_at hl 1 rfl) ?_
      refine va_iald hx hb hK hP 1 0 rfl rfl (vp_in_nI (by omega) (by decide)) dX2_keyAt_21 ?_
      refine lv_topi (fun v3 ev3 => ?_)
      obtain rfl : v3 = fk j := ev3.trans (by rw [nI_clamp (by omega)])
      exact W.iret (v := fk j) hx hb hr (fun t ht hW => ⟨⟨fk j, (), rfl, ⟨fun k hk9 e9 => by rw [(nI_eq (by omega) (by omega)).mp e9], fun q => absurd rfl (q j hj)⟩, trivial⟩, hS.F ht⟩) hS.2.2 dX2_keyAt_22
    ·
      refine lv_iconst (v := (-1)) hx hb dX2_keyAt_12 (by decide) ?_
      refine lv_goto (tgt := 22) hx hb dX2_keyAt_13 (by decide) ?_
      exact W.iret (v := (-1)) hx hb hr (fun t ht hW => ⟨⟨(-1), (), rfl, ⟨fun j hj e => absurd (by rw [e]; exact nI_lt hj (by omega)) hc2, fun _ => rfl⟩, trivial⟩, hS.F ht⟩) hS.2.2 dX2_keyAt_22

def own_k_valueAt : List Cond := [.fieldLink RX2 18 "ClashFree$Keys" "size" "I", .fieldLink RX2 15 "ClashFree$Keys" "values" "[I"]
def wp_k_valueAt : List Cond := .code yX2_valueAt cX2_valueAt 2 (some .int) :: (own_k_valueAt ++ (wsX20 ++ ([] : List Cond)))
set_option maxRecDepth 20000 in
theorem inown_k_valueAt : ∀ w ∈ own_k_valueAt, w ∈ lw_tbl := mem_places [472, 480] (by decide +kernel)
set_option maxRecDepth 20000 in
theorem in_k_valueAt : ∀ w ∈ wp_k_valueAt, w ∈ lw_tbl := List.forall_mem_cons.mpr ⟨List.mem_of_getElem? (i := 696) (by decide +kernel), List.forall_mem_append.mpr ⟨inown_k_valueAt, List.forall_mem_append.mpr ⟨lwb_X2, fun _ h => absurd h List.not_mem_nil⟩⟩⟩
set_option maxRecDepth 20000 in
theorem good_k_valueAt : wp_k_valueAt.all goodWord = true := by decide +kernel
set_option maxHeartbeats 4000000 in
set_option maxRecDepth 100000 in
theorem k_valueAt (l : Launch) (D : va_G) (sz : Nat) (oc : Nat → Nat) (cI : ClassId) (cn : Nat) (fv : Nat → Int32) (z1 : Int32) (hc : cn ≤ 160) : Met l yX2_valueAt wp_k_valueAt ({ frames := 0, cells := 0, slots := 0, locals := 0 }) (PcRC D [.ref (oc 2), .int z1] sz [(oc 2, .inr (2, [.int (nI cn), .ref (oc 3), .ref (oc 4)])), (oc 4, .inl (cI, 160, .inl fv))] [(cI, .int)]) (va_Qi (fun (r : Int32) (u : Unit) => ∀ j, j < cn → z1 = nI j → r = fv j) (fun (_ : Unit) _ => True) (va_A [] sz)) 0 0 (va_A [] sz) := by
  refine Met.ofW (cc := cX2_valueAt) (maxL := 2) (ret := (some .int)) (by decide) rfl ?_
  intro p e s m args below meth c s₁ B hml hv
  obtain ⟨rfl, hsz, hP, hK, hN⟩ := hv
  have hx := B.exec
  have hb := B.bytes
  have hr := B.returns
  have hts := atoms_spec (ws := wp_k_valueAt) B.pre
  have hin_X2 : ∀ w ∈ wsX20, w ∈ wp_k_valueAt := fun _ h => (List.mem_cons_of_mem _ (List.mem_append_right _ (List.mem_append_left _ h)))
  have hown : s.vm.findClass RX2 = some m.cls := findClass_of_methodNamed B.named
  have hlocks := B.notSynchronized
  subst hsz
  generalize hAe : va_A [] s.heap.size = A at ⊢
  have hA : ∀ q : Nat, s.heap.size ≤ q → A q := fun q h => by rw [← hAe]; exact Or.inr h
  have hS : va_S A s.heap s.heap [] := va_S.rf
  have hP : va_P D vwCl [(oc 2, .inr (2, [.int (nI cn), .ref (oc 3), .ref (oc 4)])), (oc 4, .inl (cI, 160, .inl fv))] s.heap := hP
  have hl := lv_entry ([.ref (oc 2), .int z1]) (n := 2) (Nat.le_of_ble_eq_true rfl)
  rw [lg_entry_eq]
  generalize (lg_sl ([.ref (oc 2), .int z1]) ++ List.replicate (2 - (lg_sl ([.ref (oc 2), .int z1])).length) Slot.unset).toArray = ls at hl ⊢
  have hl : lv_has ls 2 [(0, .ref (oc 2)), (1, .int z1)] := hl
  refine lv_iload_n hx hb dX2_valueAt_0 rfl (lv_at hl 1 rfl) ?_
  refine lv_if_lt (tgt := 12) hx hb dX2_valueAt_1 (by decide) (fun hc1 => ?_) (fun hc1 => ?_)
  ·
    refine lv_iconst (v := 0) hx hb dX2_valueAt_12 (by decide) ?_
    refine lv_goto (tgt := 22) hx hb dX2_valueAt_13 (by decide) ?_
    exact W.iret (v := 0) hx hb hr (fun t ht hW => ⟨⟨0, (), rfl, fun j hj e => absurd hc1 (by rw [e]; exact Int32.not_lt.mpr (nI_pos' (by omega))), trivial⟩, hS.F ht⟩) hS.2.2 dX2_valueAt_22
  ·
    refine lv_iload_n hx hb dX2_valueAt_4 rfl (lv_at hl 1 rfl) ?_
    refine lv_aload_n hx hb dX2_valueAt_5 rfl (lv_at hl 0 rfl) ?_
    refine va_get (D := D) (ci := 2) (v := .int (nI cn)) (C := RX2) (T := TX2) (N := 3) hx hb hts hin_X2 hown hK hP 0 rfl rfl 0 (by decide) (hts (.fieldLink RX2 18 "ClashFree$Keys" "size" "I") (List.mem_of_getElem? (i := 1) rfl)) (fun _ h9 => h9) rfl dX2_valueAt_6 ?_
    refine lv_icmp_lt (tgt := 16) hx hb dX2_valueAt_9 (by decide) (fun hc2 => ?_) (fun hc2 => ?_)
    ·
      obtain ⟨j, hj, rfl⟩ := inz (by omega) hc1 (hc2)
      refine lv_aload_n hx hb dX2_valueAt_16 rfl (lv_at hl 0 rfl) ?_
      refine va_get (D := D) (ci := 2) (v := .ref (oc 4)) (C := RX2) (T := TX2) (N := 3) hx hb hts hin_X2 hown hK hP 0 rfl rfl 2 (by decide) (hts (.fieldLink RX2 15 "ClashFree$Keys" "values" "[I") (List.mem_of_getElem? (i := 2) rfl)) (fun _ h9 => h9) rfl dX2_valueAt_17 ?_
      refine lv_iload_n hx hb dX2_valueAt_20 rfl (lv_at hl 1 rfl) ?_
      refine va_iald hx hb hK hP 1 0 rfl rfl (vp_in_nI (by omega) (by decide)) dX2_valueAt_21 ?_
      refine lv_topi (fun v3 ev3 => ?_)
      obtain rfl : v3 = fv j := ev3.trans (by rw [nI_clamp (by omega)])
      exact W.iret (v := fv j) hx hb hr (fun t ht hW => ⟨⟨fv j, (), rfl, fun k hk9 e9 => by rw [(nI_eq (by omega) (by omega)).mp e9], trivial⟩, hS.F ht⟩) hS.2.2 dX2_valueAt_22
    ·
      refine lv_iconst (v := 0) hx hb dX2_valueAt_12 (by decide) ?_
      refine lv_goto (tgt := 22) hx hb dX2_valueAt_13 (by decide) ?_
      exact W.iret (v := 0) hx hb hr (fun t ht hW => ⟨⟨0, (), rfl, fun j hj e => absurd (by rw [e]; exact nI_lt hj (by omega)) hc2, trivial⟩, hS.F ht⟩) hS.2.2 dX2_valueAt_22

def own_k_rank : List Cond := [.fieldLink RX2 18 "ClashFree$Keys" "size" "I", .fieldLink RX2 9 "ClashFree$Keys" "keys" "[I"]
def wp_k_rank : List Cond := .code yX2_rank cX2_rank 4 (some .int) :: (own_k_rank ++ (wsX20 ++ ([] : List Cond)))
set_option maxRecDepth 20000 in
theorem inown_k_rank : ∀ w ∈ own_k_rank, w ∈ lw_tbl := mem_places [472, 478] (by decide +kernel)
set_option maxRecDepth 20000 in
theorem in_k_rank : ∀ w ∈ wp_k_rank, w ∈ lw_tbl := List.forall_mem_cons.mpr ⟨List.mem_of_getElem? (i := 629) (by decide +kernel), List.forall_mem_append.mpr ⟨inown_k_rank, List.forall_mem_append.mpr ⟨lwb_X2, fun _ h => absurd h List.not_mem_nil⟩⟩⟩
set_option maxRecDepth 20000 in
theorem good_k_rank : wp_k_rank.all goodWord = true := by decide +kernel
set_option maxHeartbeats 4000000 in
set_option maxRecDepth 100000 in
theorem lk_rank (l : Launch) {p : Program} {e : Env} {s : State} {m : MethodId} {args : Array Value} {below : List Frame} {meth : Method} {c : Code} {Q : State → Prop} {A : Nat → Prop} (D : va_G) (oc : Nat → Nat) (cI : ClassId) (cn : Nat) (fk : Nat → Int32) (z1 : Int32) (hc : cn ≤ 160) (hx : p.tables.exec = Jvm.exec) (hb : c.code = cX2_rank) (hml : c.maxLocals = 4) (hown : s.vm.findClass RX2 = some m.cls) (hts : ∀ w ∈ wp_k_rank, w.before args s = true) (hA : ∀ q, s.heap.size ≤ q → A q) (hK : va_K D vwCl [(cI, .int)] s) (hN : NC s) (kx45 : ∀ (q : Nat), ∀ (y : Nat), (q ≤ 8) → (y ≤ cn) → (rkF fk cn z1 = rkG fk cn z1 q y) → (stp q = 0) → ∀ (H : Heap) (locs : List Loc) (ls : Array Slot), va_P D vwCl [(oc 2, .inr (2, [.int (nI cn), .ref (oc 3), .ref (oc 4)])), (oc 3, .inl (cI, 160, .inl fk))] H → va_S A s.heap H locs → lv_has ls 4 [(2, .int (nI y))] → W p l e ({ frames := 0, cells := 0, slots := 0, locals := 0 }) s m args below meth c H locs 0 0 Q (F0 m 45 ls [])) : ∀ (N : Nat), ∀ (q : Nat), ∀ (y : Nat), (q ≤ 8) → (y ≤ cn) → (rkF fk cn z1 = rkG fk cn z1 q y) → q < N → ∀ (H : Heap) (locs : List Loc) (ls : Array Slot), va_P D vwCl [(oc 2, .inr (2, [.int (nI cn), .ref (oc 3), .ref (oc 4)])), (oc 3, .inl (cI, 160, .inl fk))] H → va_S A s.heap H locs → lv_has ls 4 [(3, .int (nI (stp q))), (2, .int (nI y)), (0, .ref (oc 2)), (1, .int z1)] → W p l e ({ frames := 0, cells := 0, slots := 0, locals := 0 }) s m args below meth c H locs 0 0 Q (F0 m 6 ls []) := by
  have hin_X2 : ∀ w ∈ wsX20, w ∈ wp_k_rank := fun _ h => (List.mem_cons_of_mem _ (List.mem_append_right _ (List.mem_append_left _ h)))
  intro N
  induction N with
  | zero =>
    intro q y hq8 hyc hrk hm
    exact absurd hm (Nat.not_lt_zero _)
  | succ N ih =>
    intro q y hq8 hyc hrk hm H locs ls hP hS hl
    have hsl := stp_le hq8
    refine lv_iload_n hx hb dX2_rank_6 rfl (lv_at hl 0 rfl) ?_
    refine lv_if_le (tgt := 45) hx hb dX2_rank_7 (by decide) (fun hc1 => ?_) (fun hc1 => ?_)
    ·
      have hs0 : stp q = 0 := by
        have := (nI_leI (b := 0) (by omega) (by decide)).mp hc1
        omega
      exact kx45 q y (hq8) (hyc) (hrk) (hs0) H locs ls (hP.sub [0, 1] rfl) hS (lv_sub hl [1] rfl)
    ·
      have hs1 : 1 ≤ q := stp_pos (by
        rcases Nat.eq_zero_or_pos (stp q) with z | z
        · exact absurd (by rw [z]; decide) hc1
        · exact z)
      have hs2 : 1 ≤ stp q := by
        rcases Nat.eq_zero_or_pos (stp q) with z | z
        · exact absurd (by rw [z]; decide) hc1
        · exact z
      refine lv_iload_n hx hb dX2_rank_10 rfl (lv_at hl 1 rfl) ?_
      refine lv_iload_n hx hb dX2_rank_11 rfl (lv_at hl 0 rfl) ?_
      refine lv_iadd hx hb dX2_rank_12 ?_
      refine lv_topi (fun v2 ev2 => ?_)
      obtain rfl : v2 = nI (y + stp q) := ev2.trans (nI_add _ _)
      refine lv_aload_n hx hb dX2_rank_13 rfl (lv_at hl 2 rfl) ?_
      refine va_get (D := D) (ci := 2) (v := .int (nI cn)) (C := RX2) (T := TX2) (N := 3) hx hb hts hin_X2 hown hK hP 0 rfl rfl 0 (by decide) (hts (.fieldLink RX2 18 "ClashFree$Keys" "size" "I") (List.mem_of_getElem? (i := 1) rfl)) (fun _ h9 => h9) rfl dX2_rank_14 ?_
      refine lv_icmp_gt (tgt := 38) hx hb dX2_rank_17 (by decide) (fun hc3 => ?_) (fun hc3 => ?_)
      ·
        have hgt : cn < y + stp q := by
          rcases Nat.lt_or_ge cn (y + stp q) with z | z
          · exact z
          · exact absurd hc3 (Int32.not_lt.mpr (nI_le z (by omega)))
        refine lv_iload_n hx hb dX2_rank_38 rfl (lv_at hl 0 rfl) ?_
        refine lv_iconst (v := 2) hx hb dX2_rank_39 (by decide) ?_
        refine lv_idiv hx hb dX2_rank_40 (by decide) ?_
        refine lv_topi (fun v4 ev4 => ?_)
        obtain rfl : v4 = nI (stp (q - 1)) := ev4.trans (stp_div hq8 hs1)
        refine lv_istore_n (lv' := [(3, .int (nI (stp (q - 1)))), (2, .int (nI y)), (0, .ref (oc 2)), (1, .int z1)]) hx hb dX2_rank_41 rfl hl (by decide) rfl (fun ls hl => ?_)
        refine lv_goto (tgt := 6) hx hb dX2_rank_42 (by decide) ?_
        exact ih (q - 1) y (by omega) (by omega) (hrk.trans (rkG_F hs1 (fun z => absurd z.1 (by omega)))) (by omega) H locs ls (hP.sub [0, 1] rfl) hS (lv_sub hl [0, 1, 2, 3] rfl)
      ·
        have hle : y + stp q ≤ cn := by
          rcases Nat.lt_or_ge cn (y + stp q) with z | z
          · exact absurd (nI_lt z (by omega)) hc3
          · exact z
        refine lv_aload_n hx hb dX2_rank_20 rfl (lv_at hl 2 rfl) ?_
        refine va_get (D := D) (ci := 2) (v := .ref (oc 3)) (C := RX2) (T := TX2) (N := 3) hx hb hts hin_X2 hown hK hP 0 rfl rfl 1 (by decide) (hts (.fieldLink RX2 9 "ClashFree$Keys" "keys" "[I") (List.mem_of_getElem? (i := 2) rfl)) (fun _ h9 => h9) rfl dX2_rank_21 ?_
        refine lv_iload_n hx hb dX2_rank_24 rfl (lv_at hl 1 rfl) ?_
        refine lv_iload_n hx hb dX2_rank_25 rfl (lv_at hl 0 rfl) ?_
        refine lv_iadd hx hb dX2_rank_26 ?_
        refine lv_topi (fun v5 ev5 => ?_)
        obtain rfl : v5 = nI (y + stp q) := ev5.trans (nI_add _ _)
        refine lv_iconst (v := 1) hx hb dX2_rank_27 (by decide) ?_
        refine lv_isub hx hb dX2_rank_28 ?_
        refine lv_topi (fun v6 ev6 => ?_)
        obtain rfl : v6 = nI (y + stp q - 1) := ev6.trans (pk_sub (b := 1) (by omega))
        refine va_iald hx hb hK hP 1 0 rfl rfl (vp_in_nI (by omega) (by decide)) dX2_rank_29 ?_
        refine lv_topi (fun v7 ev7 => ?_)
        obtain rfl : v7 = fk (y + stp q - 1) := ev7.trans (by rw [nI_clamp (by omega)])
        refine lv_iload_n hx hb dX2_rank_30 rfl (lv_at hl 3 rfl) ?_
        refine lv_icmp_ge (tgt := 38) hx hb dX2_rank_31 (by decide) (fun hc8 => ?_) (fun hc8 => ?_)
        ·
          refine lv_iload_n hx hb dX2_rank_38 rfl (lv_at hl 0 rfl) ?_
          refine lv_iconst (v := 2) hx hb dX2_rank_39 (by decide) ?_
          refine lv_idiv hx hb dX2_rank_40 (by decide) ?_
          refine lv_topi (fun v9 ev9 => ?_)
          obtain rfl : v9 = nI (stp (q - 1)) := ev9.trans (stp_div hq8 hs1)
          refine lv_istore_n (lv' := [(3, .int (nI (stp (q - 1)))), (2, .int (nI y)), (0, .ref (oc 2)), (1, .int z1)]) hx hb dX2_rank_41 rfl hl (by decide) rfl (fun ls hl => ?_)
          refine lv_goto (tgt := 6) hx hb dX2_rank_42 (by decide) ?_
          exact ih (q - 1) y (by omega) (by omega) (hrk.trans (rkG_F hs1 (fun z => absurd hc8 (Int32.not_le.mpr z.2)))) (by omega) H locs ls (hP.sub [0, 1] rfl) hS (lv_sub hl [0, 1, 2, 3] rfl)
        ·
          refine lv_iload_n hx hb dX2_rank_34 rfl (lv_at hl 1 rfl) ?_
          refine lv_iload_n hx hb dX2_rank_35 rfl (lv_at hl 0 rfl) ?_
          refine lv_iadd hx hb dX2_rank_36 ?_
          refine lv_topi (fun v10 ev10 => ?_)
          obtain rfl : v10 = nI (y + stp q) := ev10.trans (nI_add _ _)
          refine lv_istore_n (lv' := [(2, .int (nI (y + stp q))), (3, .int (nI (stp q))), (0, .ref (oc 2)), (1, .int z1)]) hx hb dX2_rank_37 rfl hl (by decide) rfl (fun ls hl => ?_)
          refine lv_iload_n hx hb dX2_rank_38 rfl (lv_at hl 1 rfl) ?_
          refine lv_iconst (v := 2) hx hb dX2_rank_39 (by decide) ?_
          refine lv_idiv hx hb dX2_rank_40 (by decide) ?_
          refine lv_topi (fun v11 ev11 => ?_)
          obtain rfl : v11 = nI (stp (q - 1)) := ev11.trans (stp_div hq8 hs1)
          refine lv_istore_n (lv' := [(3, .int (nI (stp (q - 1)))), (2, .int (nI (y + stp q))), (0, .ref (oc 2)), (1, .int z1)]) hx hb dX2_rank_41 rfl hl (by decide) rfl (fun ls hl => ?_)
          refine lv_goto (tgt := 6) hx hb dX2_rank_42 (by decide) ?_
          exact ih (q - 1) (y + stp q) (by omega) (by omega) (hrk.trans (rkG_T hs1 hle (Int32.not_le.mp hc8))) (by omega) H locs ls (hP.sub [0, 1] rfl) hS (lv_sub hl [0, 1, 2, 3] rfl)
set_option maxHeartbeats 4000000 in
set_option maxRecDepth 100000 in
theorem k_rank (l : Launch) (D : va_G) (sz : Nat) (oc : Nat → Nat) (cI : ClassId) (cn : Nat) (fk : Nat → Int32) (z1 : Int32) (hc : cn ≤ 160) : Met l yX2_rank wp_k_rank ({ frames := 0, cells := 0, slots := 0, locals := 0 }) (PcRC D [.ref (oc 2), .int z1] sz [(oc 2, .inr (2, [.int (nI cn), .ref (oc 3), .ref (oc 4)])), (oc 3, .inl (cI, 160, .inl fk))] [(cI, .int)]) (va_Qi (fun (r : Int32) (u : Unit) => r = nI (rkF fk cn z1)) (fun (_ : Unit) _ => True) (va_A [] sz)) 0 0 (va_A [] sz) := by
  refine Met.ofW (cc := cX2_rank) (maxL := 4) (ret := (some .int)) (by decide) rfl ?_
  intro p e s m args below meth c s₁ B hml hv
  obtain ⟨rfl, hsz, hP, hK, hN⟩ := hv
  have hx := B.exec
  have hb := B.bytes
  have hr := B.returns
  have hts := atoms_spec (ws := wp_k_rank) B.pre
  have hin_X2 : ∀ w ∈ wsX20, w ∈ wp_k_rank := fun _ h => (List.mem_cons_of_mem _ (List.mem_append_right _ (List.mem_append_left _ h)))
  have hown : s.vm.findClass RX2 = some m.cls := findClass_of_methodNamed B.named
  have hlocks := B.notSynchronized
  subst hsz
  generalize hAe : va_A [] s.heap.size = A at ⊢
  have hA : ∀ q : Nat, s.heap.size ≤ q → A q := fun q h => by rw [← hAe]; exact Or.inr h
  have hS : va_S A s.heap s.heap [] := va_S.rf
  have hP : va_P D vwCl [(oc 2, .inr (2, [.int (nI cn), .ref (oc 3), .ref (oc 4)])), (oc 3, .inl (cI, 160, .inl fk))] s.heap := hP
  have hl := lv_entry ([.ref (oc 2), .int z1]) (n := 4) (Nat.le_of_ble_eq_true rfl)
  rw [lg_entry_eq]
  generalize (lg_sl ([.ref (oc 2), .int z1]) ++ List.replicate (4 - (lg_sl ([.ref (oc 2), .int z1])).length) Slot.unset).toArray = ls at hl ⊢
  have hl : lv_has ls 4 [(0, .ref (oc 2)), (1, .int z1)] := hl
  refine lv_iconst (v := 0) hx hb dX2_rank_0 (by decide) ?_
  refine lv_istore_n (lv' := [(2, .int 0), (0, .ref (oc 2)), (1, .int z1)]) hx hb dX2_rank_1 rfl hl (by decide) rfl (fun ls hl => ?_)
  refine lv_sipush (v := 128) hx hb dX2_rank_2 (by decide) ?_
  refine lv_istore_n (lv' := [(3, .int 128), (2, .int 0), (0, .ref (oc 2)), (1, .int z1)]) hx hb dX2_rank_5 rfl hl (by decide) rfl (fun ls hl => ?_)
  refine lk_rank l D oc cI cn fk z1 (hc) hx hb hml hown hts hA (hK.sub [0] rfl) hN ?_ (9) 8 0 (Nat.le_refl _) (Nat.zero_le _) (rfl) (by omega) _ _ _ (hP.sub [0, 1] rfl) hS (lv_sub hl [0, 1, 2, 3] rfl)
  intro q_1 y_2 hq8_3 hyc_4 hrk_5 hx6 H locs ls hP hS hl
  refine lv_iload_n hx hb dX2_rank_45 rfl (lv_at hl 0 rfl) ?_
  exact W.iret (v := nI y_2) hx hb hr (fun t ht hW => ⟨⟨nI y_2, (), rfl, by rw [hrk_5, rkG_0 hx6], trivial⟩, hS.F ht⟩) hS.2.2 dX2_rank_46

def own_k_find : List Cond := [.methodLink RX2 22 yX2_rank, .instanceMethod yX2_rank, .selects RX2 yX2_rank yX2_rank, .initialized RX2, .fieldLink RX2 18 "ClashFree$Keys" "size" "I", .fieldLink RX2 9 "ClashFree$Keys" "keys" "[I"]
def wp_k_find : List Cond := .code yX2_find cX2_find 3 (some .int) :: (own_k_find ++ (wp_k_rank ++ (wsX20 ++ ([] : List Cond))))
set_option maxRecDepth 20000 in
theorem inown_k_find : ∀ w ∈ own_k_find, w ∈ lw_tbl := mem_places [626, 627, 628, 117, 472, 478] (by decide +kernel)
set_option maxRecDepth 20000 in
theorem in_k_find : ∀ w ∈ wp_k_find, w ∈ lw_tbl := List.forall_mem_cons.mpr ⟨List.mem_of_getElem? (i := 625) (by decide +kernel), List.forall_mem_append.mpr ⟨inown_k_find, List.forall_mem_append.mpr ⟨in_k_rank, List.forall_mem_append.mpr ⟨lwb_X2, fun _ h => absurd h List.not_mem_nil⟩⟩⟩⟩
set_option maxRecDepth 20000 in
theorem good_k_find : wp_k_find.all goodWord = true := by decide +kernel
set_option maxRecDepth 20000 in
theorem g_k_find_k_rank_22 : GoodIn wp_k_find (wsV RX2 22 RX2 yX2_rank wp_k_rank) := goodIn_sub (List.forall_mem_append.mpr ⟨List.forall_mem_cons.mpr ⟨(List.mem_of_getElem? (i := 1) rfl), List.forall_mem_cons.mpr ⟨(List.mem_of_getElem? (i := 2) rfl), List.forall_mem_cons.mpr ⟨(List.mem_of_getElem? (i := 3) rfl), List.forall_mem_cons.mpr ⟨(List.mem_of_getElem? (i := 4) rfl), fun _ h => absurd h List.not_mem_nil⟩⟩⟩⟩, (fun _ h => (List.mem_cons_of_mem _ (List.mem_append_right _ (List.mem_append_left _ h))))⟩) (by decide +kernel)
set_option maxHeartbeats 4000000 in
set_option maxRecDepth 100000 in
theorem k_find (l : Launch) (D : va_G) (sz : Nat) (oc : Nat → Nat) (cI : ClassId) (cn : Nat) (fk : Nat → Int32) (z1 : Int32) (hc : cn ≤ 160) : Met l yX2_find wp_k_find ({ frames := 1, cells := 0, slots := 0, locals := 23 }) (PcRC D [.ref (oc 2), .int z1] sz [(oc 2, .inr (2, [.int (nI cn), .ref (oc 3), .ref (oc 4)])), (oc 3, .inl (cI, 160, .inl fk))] [(cI, .int)]) (va_Qi (fun (r : Int32) (u : Unit) => (r = -1 ∧ ¬ (rkF fk cn z1 < cn ∧ fk (rkF fk cn z1) = z1)) ∨ (r = nI (rkF fk cn z1) ∧ (rkF fk cn z1 < cn ∧ fk (rkF fk cn z1) = z1))) (fun (_ : Unit) _ => True) (va_A [] sz)) 0 0 (va_A [] sz) := by
  refine Met.ofW (cc := cX2_find) (maxL := 3) (ret := (some .int)) (by decide) rfl ?_
  intro p e s m args below meth c s₁ B hml hv
  obtain ⟨rfl, hsz, hP, hK, hN⟩ := hv
  have hx := B.exec
  have hb := B.bytes
  have hr := B.returns
  have hts := atoms_spec (ws := wp_k_find) B.pre
  have hin_X2 : ∀ w ∈ wsX20, w ∈ wp_k_find := fun _ h => (List.mem_cons_of_mem _ (List.mem_append_right _ (List.mem_append_right _ (List.mem_append_left _ h))))
  have hown : s.vm.findClass RX2 = some m.cls := findClass_of_methodNamed B.named
  have hlocks := B.notSynchronized
  subst hsz
  generalize hAe : va_A [] s.heap.size = A at ⊢
  have hA : ∀ q : Nat, s.heap.size ≤ q → A q := fun q h => by rw [← hAe]; exact Or.inr h
  have hS : va_S A s.heap s.heap [] := va_S.rf
  have hP : va_P D vwCl [(oc 2, .inr (2, [.int (nI cn), .ref (oc 3), .ref (oc 4)])), (oc 3, .inl (cI, 160, .inl fk))] s.heap := hP
  have hl := lv_entry ([.ref (oc 2), .int z1]) (n := 3) (Nat.le_of_ble_eq_true rfl)
  rw [lg_entry_eq]
  generalize (lg_sl ([.ref (oc 2), .int z1]) ++ List.replicate (3 - (lg_sl ([.ref (oc 2), .int z1])).length) Slot.unset).toArray = ls at hl ⊢
  have hl : lv_has ls 3 [(0, .ref (oc 2)), (1, .int z1)] := hl
  refine lv_aload_n hx hb dX2_find_0 rfl (lv_at hl 0 rfl) ?_
  refine lv_iload_n hx hb dX2_find_1 rfl (lv_at hl 1 rfl) ?_
  have hPc := hP.sub (ws' := [(oc 2, .inr (2, [.int (nI cn), .ref (oc 3), .ref (oc 4)])), (oc 3, .inl (cI, 160, .inl fk))]) [0, 1] rfl
  have hKc := hK.sub (tys' := [(cI, .int)]) [0] rfl
  have hFc := va_free0 hS hA
  refine va_calli (va_runV (As := [.int z1]) (rest := []) ⟨hx, hb, hml, hown, hts⟩ (k_rank l D _ oc cI cn fk z1 (by first | assumption | omega)) (cwV 1 hts g_k_find_k_rank_22 rfl rfl rfl (by decide +kernel) ⟨(Nat.le_of_ble_eq_true rfl), (Nat.le_of_ble_eq_true rfl)⟩) (PcRC_V (q0 := 0) hPc hKc hN rfl rfl) rfl rfl hl.1 rfl (lv_room (Nat.le_of_ble_eq_true rfl)) dX2_find_2 ⟨(Nat.le_of_ble_eq_true rfl), (Nat.le_of_ble_eq_true rfl)⟩) hS (fun q _ h => hFc q h) hFc (fun r1 uu tt H locs htt hvm hw hB hz1 hk1 hS => ?_)
  have hP := va_keep hP hk1
  try dsimp only at hw
  clear hB hz1 hk1 hFc hPc hKc
  obtain ⟨rk2, erk2, rfl⟩ : ∃ q, q = (rkF fk cn z1) ∧ r1 = nI q := ⟨_, rfl, hw⟩
  have hrk2 : rk2 ≤ cn := by rw [erk2]; exact rkF_le _ _ _
  refine lv_istore_n (lv' := [(2, .int (nI rk2)), (0, .ref (oc 2)), (1, .int z1)]) hx hb dX2_find_5 rfl hl (by decide) rfl (fun ls hl => ?_)
  refine lv_iload_n hx hb dX2_find_6 rfl (lv_at hl 0 rfl) ?_
  refine lv_aload_n hx hb dX2_find_7 rfl (lv_at hl 1 rfl) ?_
  refine va_get (D := D) (ci := 2) (v := .int (nI cn)) (C := RX2) (T := TX2) (N := 3) hx hb hts hin_X2 hown hK hP 0 rfl rfl 0 (by decide) (hts (.fieldLink RX2 18 "ClashFree$Keys" "size" "I") (List.mem_of_getElem? (i := 5) rfl)) (fun _ h9 => h9) rfl dX2_find_8 ?_
  refine lv_icmp_ge (tgt := 28) hx hb dX2_find_11 (by decide) (fun hc3 => ?_) (fun hc3 => ?_)
  ·
    have hlt : cn ≤ rk2 := (nI_leI (by omega) (by omega)).mp hc3
    refine lv_iconst (v := (-1)) hx hb dX2_find_28 (by decide) ?_
    exact W.iret (v := (-1)) hx hb hr (fun t ht hW => ⟨⟨(-1), (), rfl, Or.inl ⟨rfl, fun z => absurd z.1 (by rw [← erk2]; omega)⟩, trivial⟩, hS.F ht⟩) hS.2.2 dX2_find_29
  ·
    have hlt : rk2 < cn := by
      rcases Nat.lt_or_ge rk2 (cn) with z | z
      · exact z
      · exact absurd (nI_le z (by omega)) hc3
    refine lv_aload_n hx hb dX2_find_14 rfl (lv_at hl 1 rfl) ?_
    refine va_get (D := D) (ci := 2) (v := .ref (oc 3)) (C := RX2) (T := TX2) (N := 3) hx hb hts hin_X2 hown hK hP 0 rfl rfl 1 (by decide) (hts (.fieldLink RX2 9 "ClashFree$Keys" "keys" "[I") (List.mem_of_getElem? (i := 6) rfl)) (fun _ h9 => h9) rfl dX2_find_15 ?_
    refine lv_iload_n hx hb dX2_find_18 rfl (lv_at hl 0 rfl) ?_
    refine va_iald hx hb hK hP 1 0 rfl rfl (vp_in_nI (by omega) (by decide)) dX2_find_19 ?_
    refine lv_topi (fun v4 ev4 => ?_)
    obtain rfl : v4 = fk rk2 := ev4.trans (by rw [nI_clamp (by omega)])
    refine lv_iload_n hx hb dX2_find_20 rfl (lv_at hl 2 rfl) ?_
    refine lv_icmp_ne (tgt := 28) hx hb dX2_find_21 (by decide) (fun hc5 => ?_) (fun hc5 => ?_)
    ·
      refine lv_iconst (v := (-1)) hx hb dX2_find_28 (by decide) ?_
      exact W.iret (v := (-1)) hx hb hr (fun t ht hW => ⟨⟨(-1), (), rfl, Or.inl ⟨rfl, fun z => hc5 (by rw [erk2]; exact z.2)⟩, trivial⟩, hS.F ht⟩) hS.2.2 dX2_find_29
    ·
      refine lv_iload_n hx hb dX2_find_24 rfl (lv_at hl 0 rfl) ?_
      refine lv_goto (tgt := 29) hx hb dX2_find_25 (by decide) ?_
      exact W.iret (v := nI rk2) hx hb hr (fun t ht hW => ⟨⟨nI rk2, (), rfl, Or.inr ⟨by rw [erk2], by rw [← erk2]; exact hlt, by rw [← erk2]; exact hc5⟩, trivial⟩, hS.F ht⟩) hS.2.2 dX2_find_29

def own_k_closest : List Cond := [.methodLink RX2 22 yX2_rank, .instanceMethod yX2_rank, .selects RX2 yX2_rank yX2_rank, .initialized RX2, .fieldLink RX2 18 "ClashFree$Keys" "size" "I", .fieldLink RX2 9 "ClashFree$Keys" "keys" "[I", .methodLink RX2 26 yX2_keyAt, .instanceMethod yX2_keyAt, .selects RX2 yX2_keyAt yX2_keyAt]
def wp_k_closest : List Cond := .code yX2_closest cX2_closest 3 (some .int) :: (own_k_closest ++ (wp_k_rank ++ (wp_k_keyAt ++ (wsX20 ++ ([] : List Cond)))))
set_option maxRecDepth 20000 in
theorem inown_k_closest : ∀ w ∈ own_k_closest, w ∈ lw_tbl := mem_places [626, 627, 628, 117, 472, 478, 770, 735, 736] (by decide +kernel)
set_option maxRecDepth 20000 in
theorem in_k_closest : ∀ w ∈ wp_k_closest, w ∈ lw_tbl := List.forall_mem_cons.mpr ⟨List.mem_of_getElem? (i := 769) (by decide +kernel), List.forall_mem_append.mpr ⟨inown_k_closest, List.forall_mem_append.mpr ⟨in_k_rank, List.forall_mem_append.mpr ⟨in_k_keyAt, List.forall_mem_append.mpr ⟨lwb_X2, fun _ h => absurd h List.not_mem_nil⟩⟩⟩⟩⟩
set_option maxRecDepth 20000 in
theorem good_k_closest : wp_k_closest.all goodWord = true := by decide +kernel
set_option maxRecDepth 20000 in
theorem g_k_closest_k_rank_22 : GoodIn wp_k_closest (wsV RX2 22 RX2 yX2_rank wp_k_rank) := goodIn_sub (List.forall_mem_append.mpr ⟨List.forall_mem_cons.mpr ⟨(List.mem_of_getElem? (i := 1) rfl), List.forall_mem_cons.mpr ⟨(List.mem_of_getElem? (i := 2) rfl), List.forall_mem_cons.mpr ⟨(List.mem_of_getElem? (i := 3) rfl), List.forall_mem_cons.mpr ⟨(List.mem_of_getElem? (i := 4) rfl), fun _ h => absurd h List.not_mem_nil⟩⟩⟩⟩, (fun _ h => (List.mem_cons_of_mem _ (List.mem_append_right _ (List.mem_append_left _ h))))⟩) (by decide +kernel)
set_option maxRecDepth 20000 in
theorem g_k_closest_k_keyAt_26 : GoodIn wp_k_closest (wsV RX2 26 RX2 yX2_keyAt wp_k_keyAt) := goodIn_sub (List.forall_mem_append.mpr ⟨List.forall_mem_cons.mpr ⟨(List.mem_of_getElem? (i := 7) rfl), List.forall_mem_cons.mpr ⟨(List.mem_of_getElem? (i := 8) rfl), List.forall_mem_cons.mpr ⟨(List.mem_of_getElem? (i := 9) rfl), List.forall_mem_cons.mpr ⟨(List.mem_of_getElem? (i := 4) rfl), fun _ h => absurd h List.not_mem_nil⟩⟩⟩⟩, (fun _ h => (List.mem_cons_of_mem _ (List.mem_append_right _ (List.mem_append_right _ (List.mem_append_left _ h)))))⟩) (by decide +kernel)
set_option maxHeartbeats 4000000 in
set_option maxRecDepth 100000 in
theorem k_closest (l : Launch) (D : va_G) (sz : Nat) (oc : Nat → Nat) (cI : ClassId) (cn : Nat) (fk : Nat → Int32) (z1 : Int32) (hc : cn ≤ 160) : Met l yX2_closest wp_k_closest ({ frames := 1, cells := 0, slots := 0, locals := 23 }) (PcRC D [.ref (oc 2), .int z1] sz [(oc 2, .inr (2, [.int (nI cn), .ref (oc 3), .ref (oc 4)])), (oc 3, .inl (cI, 160, .inl fk))] [(cI, .int)]) (va_Qi (fun (r : Int32) (u : Unit) => (cn = 0 → r = -1) ∧ ∀ K x, KyT fk cn K → 0 < cn → x < 2147483647 → z1 = nI x → r = nI (nrK cn K x (rkF fk cn z1))) (fun (_ : Unit) _ => True) (va_A [] sz)) 0 0 (va_A [] sz) := by
  refine Met.ofW (cc := cX2_closest) (maxL := 3) (ret := (some .int)) (by decide) rfl ?_
  intro p e s m args below meth c s₁ B hml hv
  obtain ⟨rfl, hsz, hP, hK, hN⟩ := hv
  have hx := B.exec
  have hb := B.bytes
  have hr := B.returns
  have hts := atoms_spec (ws := wp_k_closest) B.pre
  have hin_X2 : ∀ w ∈ wsX20, w ∈ wp_k_closest := fun _ h => (List.mem_cons_of_mem _ (List.mem_append_right _ (List.mem_append_right _ (List.mem_append_right _ (List.mem_append_left _ h)))))
  have hown : s.vm.findClass RX2 = some m.cls := findClass_of_methodNamed B.named
  have hlocks := B.notSynchronized
  subst hsz
  generalize hAe : va_A [] s.heap.size = A at ⊢
  have hA : ∀ q : Nat, s.heap.size ≤ q → A q := fun q h => by rw [← hAe]; exact Or.inr h
  have hS : va_S A s.heap s.heap [] := va_S.rf
  have hP : va_P D vwCl [(oc 2, .inr (2, [.int (nI cn), .ref (oc 3), .ref (oc 4)])), (oc 3, .inl (cI, 160, .inl fk))] s.heap := hP
  have hl := lv_entry ([.ref (oc 2), .int z1]) (n := 3) (Nat.le_of_ble_eq_true rfl)
  rw [lg_entry_eq]
  generalize (lg_sl ([.ref (oc 2), .int z1]) ++ List.replicate (3 - (lg_sl ([.ref (oc 2), .int z1])).length) Slot.unset).toArray = ls at hl ⊢
  have hl : lv_has ls 3 [(0, .ref (oc 2)), (1, .int z1)] := hl
  refine lv_aload_n hx hb dX2_closest_0 rfl (lv_at hl 0 rfl) ?_
  refine lv_iload_n hx hb dX2_closest_1 rfl (lv_at hl 1 rfl) ?_
  have hPc := hP.sub (ws' := [(oc 2, .inr (2, [.int (nI cn), .ref (oc 3), .ref (oc 4)])), (oc 3, .inl (cI, 160, .inl fk))]) [0, 1] rfl
  have hKc := hK.sub (tys' := [(cI, .int)]) [0] rfl
  have hFc := va_free0 hS hA
  refine va_calli (va_runV (As := [.int z1]) (rest := []) ⟨hx, hb, hml, hown, hts⟩ (k_rank l D _ oc cI cn fk z1 (by first | assumption | omega)) (cwV 1 hts g_k_closest_k_rank_22 rfl rfl rfl (by decide +kernel) ⟨(Nat.le_of_ble_eq_true rfl), (Nat.le_of_ble_eq_true rfl)⟩) (PcRC_V (q0 := 0) hPc hKc hN rfl rfl) rfl rfl hl.1 rfl (lv_room (Nat.le_of_ble_eq_true rfl)) dX2_closest_2 ⟨(Nat.le_of_ble_eq_true rfl), (Nat.le_of_ble_eq_true rfl)⟩) hS (fun q _ h => hFc q h) hFc (fun r1 uu tt H locs htt hvm hw hB hz1 hk1 hS => ?_)
  have hP := va_keep hP hk1
  try dsimp only at hw
  clear hB hz1 hk1 hFc hPc hKc
  obtain ⟨rk2, erk2, rfl⟩ : ∃ q, q = (rkF fk cn z1) ∧ r1 = nI q := ⟨_, rfl, hw⟩
  have hrk2 : rk2 ≤ cn := by rw [erk2]; exact rkF_le _ _ _
  refine lv_istore_n (lv' := [(2, .int (nI rk2)), (0, .ref (oc 2)), (1, .int z1)]) hx hb dX2_closest_5 rfl hl (by decide) rfl (fun ls hl => ?_)
  refine lv_iload_n hx hb dX2_closest_6 rfl (lv_at hl 0 rfl) ?_
  refine lv_aload_n hx hb dX2_closest_7 rfl (lv_at hl 1 rfl) ?_
  refine va_get (D := D) (ci := 2) (v := .int (nI cn)) (C := RX2) (T := TX2) (N := 3) hx hb hts hin_X2 hown hK hP 0 rfl rfl 0 (by decide) (hts (.fieldLink RX2 18 "ClashFree$Keys" "size" "I") (List.mem_of_getElem? (i := 5) rfl)) (fun _ h9 => h9) rfl dX2_closest_8 ?_
  refine lv_icmp_ne (tgt := 25) hx hb dX2_closest_11 (by decide) (fun hc3 => ?_) (fun hc3 => ?_)
  ·
    have hlt : rk2 < cn := by
      rcases Nat.lt_or_ge rk2 cn with z | z
      · exact z
      · exact absurd (by rw [show rk2 = cn by omega]) hc3
    refine lv_iload_n hx hb dX2_closest_25 rfl (lv_at hl 0 rfl) ?_
    refine lv_if_ne (tgt := 36) hx hb dX2_closest_26 (by decide) (fun hc4 => ?_) (fun hc4 => ?_)
    ·
      have hpos : 1 ≤ rk2 := by
        rcases Nat.eq_zero_or_pos rk2 with z | z
        · exact absurd (by rw [z]; rfl) hc4
        · exact z
      refine lv_iload_n hx hb dX2_closest_36 rfl (lv_at hl 2 rfl) ?_
      refine lv_aload_n hx hb dX2_closest_37 rfl (lv_at hl 1 rfl) ?_
      refine va_get (D := D) (ci := 2) (v := .ref (oc 3)) (C := RX2) (T := TX2) (N := 3) hx hb hts hin_X2 hown hK hP 0 rfl rfl 1 (by decide) (hts (.fieldLink RX2 9 "ClashFree$Keys" "keys" "[I") (List.mem_of_getElem? (i := 6) rfl)) (fun _ h9 => h9) rfl dX2_closest_38 ?_
      refine lv_iload_n hx hb dX2_closest_41 rfl (lv_at hl 0 rfl) ?_
      refine lv_iconst (v := 1) hx hb dX2_closest_42 (by decide) ?_
      refine lv_isub hx hb dX2_closest_43 ?_
      refine lv_topi (fun v5 ev5 => ?_)
      obtain rfl : v5 = nI (rk2 - 1) := ev5.trans (pk_sub (b := 1) (by omega))
      refine va_iald hx hb hK hP 1 0 rfl rfl (vp_in_nI (by omega) (by decide)) dX2_closest_44 ?_
      refine lv_topi (fun v6 ev6 => ?_)
      obtain rfl : v6 = fk (rk2 - 1) := ev6.trans (by rw [nI_clamp (by omega)])
      refine lv_isub hx hb dX2_closest_45 ?_
      refine lv_aload_n hx hb dX2_closest_46 rfl (lv_at hl 1 rfl) ?_
      refine va_get (D := D) (ci := 2) (v := .ref (oc 3)) (C := RX2) (T := TX2) (N := 3) hx hb hts hin_X2 hown hK hP 0 rfl rfl 1 (by decide) (hts (.fieldLink RX2 9 "ClashFree$Keys" "keys" "[I") (List.mem_of_getElem? (i := 6) rfl)) (fun _ h9 => h9) rfl dX2_closest_47 ?_
      refine lv_iload_n hx hb dX2_closest_50 rfl (lv_at hl 0 rfl) ?_
      refine va_iald hx hb hK hP 1 0 rfl rfl (vp_in_nI (by omega) (by decide)) dX2_closest_51 ?_
      refine lv_topi (fun v7 ev7 => ?_)
      obtain rfl : v7 = fk rk2 := ev7.trans (by rw [nI_clamp (by omega)])
      refine lv_iload_n hx hb dX2_closest_52 rfl (lv_at hl 2 rfl) ?_
      refine lv_isub hx hb dX2_closest_53 ?_
      refine lv_icmp_gt (tgt := 68) hx hb dX2_closest_54 (by decide) (fun hc8 => ?_) (fun hc8 => ?_)
      ·
        refine lv_aload_n hx hb dX2_closest_68 rfl (lv_at hl 1 rfl) ?_
        refine va_get (D := D) (ci := 2) (v := .ref (oc 3)) (C := RX2) (T := TX2) (N := 3) hx hb hts hin_X2 hown hK hP 0 rfl rfl 1 (by decide) (hts (.fieldLink RX2 9 "ClashFree$Keys" "keys" "[I") (List.mem_of_getElem? (i := 6) rfl)) (fun _ h9 => h9) rfl dX2_closest_69 ?_
        refine lv_iload_n hx hb dX2_closest_72 rfl (lv_at hl 0 rfl) ?_
        refine va_iald hx hb hK hP 1 0 rfl rfl (vp_in_nI (by omega) (by decide)) dX2_closest_73 ?_
        refine lv_topi (fun v9 ev9 => ?_)
        obtain rfl : v9 = fk rk2 := ev9.trans (by rw [nI_clamp (by omega)])
        exact W.iret (v := fk rk2) hx hb hr (fun t ht hW => ⟨⟨fk rk2, (), rfl, ⟨fun q => absurd q (by omega), fun K x hK h0 hx e => by
            subst e
            rw [← erk2, nrK_d hK hx (by omega) hlt hpos erk2 (hc8)]
            exact (hK.2.1 _ (by omega)).1⟩, trivial⟩, hS.F ht⟩) hS.2.2 dX2_closest_74
      ·
        refine lv_aload_n hx hb dX2_closest_57 rfl (lv_at hl 1 rfl) ?_
        refine va_get (D := D) (ci := 2) (v := .ref (oc 3)) (C := RX2) (T := TX2) (N := 3) hx hb hts hin_X2 hown hK hP 0 rfl rfl 1 (by decide) (hts (.fieldLink RX2 9 "ClashFree$Keys" "keys" "[I") (List.mem_of_getElem? (i := 6) rfl)) (fun _ h9 => h9) rfl dX2_closest_58 ?_
        refine lv_iload_n hx hb dX2_closest_61 rfl (lv_at hl 0 rfl) ?_
        refine lv_iconst (v := 1) hx hb dX2_closest_62 (by decide) ?_
        refine lv_isub hx hb dX2_closest_63 ?_
        refine lv_topi (fun v10 ev10 => ?_)
        obtain rfl : v10 = nI (rk2 - 1) := ev10.trans (pk_sub (b := 1) (by omega))
        refine va_iald hx hb hK hP 1 0 rfl rfl (vp_in_nI (by omega) (by decide)) dX2_closest_64 ?_
        refine lv_topi (fun v11 ev11 => ?_)
        obtain rfl : v11 = fk (rk2 - 1) := ev11.trans (by rw [nI_clamp (by omega)])
        refine lv_goto (tgt := 74) hx hb dX2_closest_65 (by decide) ?_
        exact W.iret (v := fk (rk2 - 1)) hx hb hr (fun t ht hW => ⟨⟨fk (rk2 - 1), (), rfl, ⟨fun q => absurd q (by omega), fun K x hK h0 hx e => by
            subst e
            rw [← erk2, nrK_c hK hx (by omega) hlt hpos erk2 (Int32.not_lt.mp hc8)]
            exact (hK.2.1 _ (by omega)).1⟩, trivial⟩, hS.F ht⟩) hS.2.2 dX2_closest_74
    ·
      have hz0 : rk2 = 0 := (nI_eq (b := 0) (by omega) (by decide)).mp hc4
      refine lv_aload_n hx hb dX2_closest_29 rfl (lv_at hl 1 rfl) ?_
      refine va_get (D := D) (ci := 2) (v := .ref (oc 3)) (C := RX2) (T := TX2) (N := 3) hx hb hts hin_X2 hown hK hP 0 rfl rfl 1 (by decide) (hts (.fieldLink RX2 9 "ClashFree$Keys" "keys" "[I") (List.mem_of_getElem? (i := 6) rfl)) (fun _ h9 => h9) rfl dX2_closest_30 ?_
      refine lv_iconst (v := 0) hx hb dX2_closest_33 (by decide) ?_
      refine va_iald hx hb hK hP 1 0 rfl rfl (show ¬ ((0 : Int32) < 0 ∨ 160 ≤ Int32.toNatClampNeg 0) by decide) dX2_closest_34 ?_
      refine lv_topi (fun v12 ev12 => ?_)
      obtain rfl : v12 = fk 0 := ev12.trans (rfl)
      exact W.iret (v := fk 0) hx hb hr (fun t ht hW => ⟨⟨fk 0, (), rfl, ⟨fun q => absurd q (by omega), fun K x hK h0 hx e => by
          subst e
          rw [← erk2, nrK_b (by omega) hz0]
          exact (hK.2.1 0 h0).1⟩, trivial⟩, hS.F ht⟩) hS.2.2 dX2_closest_35
  ·
    have heq : rk2 = cn := (nI_eq (by omega) (by omega)).mp hc3
    refine lv_aload_n hx hb dX2_closest_14 rfl (lv_at hl 1 rfl) ?_
    refine lv_aload_n hx hb dX2_closest_15 rfl (lv_at hl 1 rfl) ?_
    refine va_get (D := D) (ci := 2) (v := .int (nI cn)) (C := RX2) (T := TX2) (N := 3) hx hb hts hin_X2 hown hK hP 0 rfl rfl 0 (by decide) (hts (.fieldLink RX2 18 "ClashFree$Keys" "size" "I") (List.mem_of_getElem? (i := 5) rfl)) (fun _ h9 => h9) rfl dX2_closest_16 ?_
    refine lv_iconst (v := 1) hx hb dX2_closest_19 (by decide) ?_
    refine lv_isub hx hb dX2_closest_20 ?_
    refine lv_topi (fun v13 ev13 => ?_)
    obtain rfl : v13 = nI cn - 1 := ev13.trans (rfl)
    have hPc := hP.sub (ws' := [(oc 2, .inr (2, [.int (nI cn), .ref (oc 3), .ref (oc 4)])), (oc 3, .inl (cI, 160, .inl fk))]) [0, 1] rfl
    have hKc := hK.sub (tys' := [(cI, .int)]) [0] rfl
    have hFc := va_free0 hS hA
    refine va_calli (va_runV (As := [.int (nI cn - 1)]) (rest := []) ⟨hx, hb, hml, hown, hts⟩ (k_keyAt l D _ oc cI cn fk (nI cn - 1) (by first | assumption | omega)) (cwV 1 hts g_k_closest_k_keyAt_26 rfl rfl rfl (by decide +kernel) ⟨(Nat.le_of_ble_eq_true rfl), (Nat.le_of_ble_eq_true rfl)⟩) (PcRC_V (q0 := 0) hPc hKc hN rfl rfl) rfl rfl hl.1 rfl (lv_room (Nat.le_of_ble_eq_true rfl)) dX2_closest_21 ⟨(Nat.le_of_ble_eq_true rfl), (Nat.le_of_ble_eq_true rfl)⟩) hS (fun q _ h => hFc q h) hFc (fun r14 uu tt H locs htt hvm hw hB hz1 hk1 hS => ?_)
    have hP := va_keep hP hk1
    try dsimp only at hw
    clear hB hz1 hk1 hFc hPc hKc
    obtain ⟨hka_r14, hkb_r14⟩ := hw
    exact W.iret (v := r14) hx hb hr (fun t ht hW => ⟨⟨r14, (), rfl, ⟨fun q => hkb_r14 (fun j hj => absurd hj (by omega)), fun K x hK h0 hx e => by
        subst e
        rw [← erk2, nrK_a heq]
        exact (hka_r14 (cn - 1) (by omega) (pk_sub (b := 1) h0)).trans ((hK.2.1 _ (by omega)).1.trans (by rw [heq]))⟩, trivial⟩, hS.F ht⟩) hS.2.2 dX2_closest_24

