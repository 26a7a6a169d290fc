/-! the same for the keys of one bucket: those of which q holds -/
theorem cnt_filter (q : Nat → Bool) : ∀ n, ((List.range n).filter q).length = cnt q n
  | 0 => rfl
  | n + 1 => by
    rw [List.range_succ, List.filter_append, List.length_append, cnt_filter q n]
    show cnt q n + (List.filter q [n]).length = cnt q n + (if q n = true then 1 else 0)
    congr 1
    by_cases h : q n = true
    · rw [if_pos h, List.filter_cons_of_pos h]
      rfl
    · rw [if_neg h, List.filter_cons_of_neg h]
      rfl
def prq (m : Nat) (K : Nat → Nat) (q : Nat → Bool) : Nat → List (Nat → Bool)
  | 0 => []
  | n + 1 => prq m K q n ++ (if q n = true then ((List.range n).filter q).map (fun i => badA m (K n - K i)) else [])
theorem prq_len (m : Nat) (K : Nat → Nat) (q : Nat → Bool) : ∀ n, 2 * (prq m K q n).length + cnt q n = cnt q n * cnt q n
  | 0 => rfl
  | n + 1 => by
    have h := prq_len m K q n
    show 2 * (prq m K q n ++ (if q n = true then _ else [])).length + (cnt q n + (if q n = true then 1 else 0)) = (cnt q n + (if q n = true then 1 else 0)) * (cnt q n + (if q n = true then 1 else 0))
    by_cases hq : q n = true
    · rw [if_pos hq, if_pos hq, List.length_append, List.length_map, cnt_filter]
      generalize cnt q n = z at h
      have e : (z + 1) * (z + 1) = z * z + 2 * z + 1 := by
        rw [Nat.add_mul, Nat.mul_add]
        omega
      omega
    · rw [if_neg hq, if_neg hq, List.append_nil, Nat.add_zero]
      exact h
theorem prq_mem {m : Nat} {K : Nat → Nat} {q : Nat → Bool} : ∀ {n i j : Nat}, i < j → j < n → q i = true → q j = true → badA m (K j - K i) ∈ prq m K q n
  | 0, _, _, _, h, _, _ => absurd h (Nat.not_lt_zero _)
  | n + 1, i, j, hij, hj, hi, hq => by
    show _ ∈ prq m K q n ++ _
    rcases Nat.lt_or_ge j n with z | z
    · exact List.mem_append_left _ (prq_mem hij z hi hq)
    · have : j = n := by omega
      subst this
      rw [if_pos hq]
      exact List.mem_append_right _ (List.mem_map.mpr ⟨i, List.mem_filter.mpr ⟨List.mem_range.mpr hij, hi⟩, rfl⟩)
theorem prq_cnt {m N : Nat} {K : Nat → Nat} {q : Nat → Bool} (hN : N = 2147483646) (hm : 0 < m) : ∀ n, (∀ i j, i < j → j < n → K i < K j) → (∀ j, j < n → K j < 2147483647) → ∀ p ∈ prq m K q n, cnt p N ≤ 2 * (N / m)
  | 0, _, _, p, h => absurd h List.not_mem_nil
  | n + 1, h1, h2, p, h => by
    rcases List.mem_append.mp h with z | z
    · exact prq_cnt hN hm n (fun i j a b => h1 i j a (by omega)) (fun j a => h2 j (by omega)) p z
    · by_cases hq : q n = true
      · rw [if_pos hq] at z
        obtain ⟨i, hi, rfl⟩ := List.mem_map.mp z
        have hi := List.mem_range.mp (List.mem_filter.mp hi).1
        have a1 := h1 i n hi (by omega)
        have a2 := h2 n (by omega)
        exact badA_cnt hN hm (by omega) (by omega)
      · rw [if_neg hq] at z
        exact absurd z List.not_mem_nil
theorem good_q {m n : Nat} {K : Nat → Nat} {q : Nat → Bool} (hm : 0 < m) (hn : cnt q n * cnt q n ≤ m) (h1 : ∀ i j, i < j → j < n → K i < K j) (h2 : ∀ j, j < n → K j < 2147483647) : ∃ c, c < 2147483646 ∧ ∀ i j, i < j → j < n → q i = true → q j = true → badA m (K j - K i) c = false := by
  obtain ⟨N, hN⟩ : ∃ N, N = 2147483646 := ⟨_, rfl⟩
  have hc := cnt_any (prq m K q n) (2 * (N / m)) N (prq_cnt hN hm n h1 h2)
  have hl := prq_len m K q n
  have hlt : (prq m K q n).length * (2 * (N / m)) < N := by
    rw [← Nat.mul_assoc, Nat.mul_comm _ 2]
    generalize (prq m K q n).length = len at hl
    generalize cnt q n = z at hl hn
    rcases Nat.eq_zero_or_pos z with y0 | y0
    · subst y0
      have : 2 * len = 0 := by omega
      rw [this, Nat.zero_mul]
      omega
    · have e1 : 2 * len < z * z := by omega
      rcases Nat.eq_zero_or_pos (N / m) with y | y
      · rw [y, Nat.mul_zero]
        omega
      · have e2 : 2 * len * (N / m) < (z * z) * (N / m) := Nat.mul_lt_mul_of_pos_right e1 y
        have e3 : (z * z) * (N / m) ≤ m * (N / m) := Nat.mul_le_mul_right _ hn
        have e4 : m * (N / m) ≤ N := Nat.mul_div_le ..
        omega
  obtain ⟨c, hc1, hc2⟩ := cnt_all (p := fun a => (prq m K q n).any (fun p => p a)) N (Nat.lt_of_le_of_lt hc hlt)
  refine ⟨c, by omega, fun i j hi hj hqi hqj => ?_⟩
  have := (List.any_eq_false.mp hc2) _ (prq_mem (m := m) (K := K) hi hj hqi hqj)
  simpa using this
/-! what a table of the reference is, as far as no call throws and all end -/
def KyS (k : Nat) (fk : Nat → Int32) (cn : Nat) (K : Nat → Nat) : Prop := (∀ j, j < cn → fk (160 * k + j) = nI (K j) ∧ K j < 2147483647) ∧ ∀ i j, i < j → j < cn → K i < K j
def BkS (k : Nat) (fb : Nat → Int32) (cn nb : Nat) (J : Nat → Nat) : Prop := ∀ j, j < cn → fb (160 * k + j) = nI (J j) ∧ J j < nb
def cntJ (J : Nat → Nat) (cn b : Nat) : Nat := cnt (fun j => decide (J j = b)) cn
def RngL (f : Nat → Int64) : Prop := ∀ x, ∃ n, n < 2147483647 ∧ f x = lN n
theorem RngL.put {f : Nat → Int64} (h : RngL f) {i n : Nat} (hn : n < 2147483647) : RngL (vp_updL f i (lN n)) := fun x => by
  by_cases e : x = i
  · subst e
    exact ⟨n, hn, pk_uLs⟩
  · obtain ⟨y, h1, h2⟩ := h x
    exact ⟨y, h1, (pk_uLn e).trans h2⟩
theorem ix160 (k w : Nat) : (160 : Int32) * nI k + nI w = nI (160 * k + w) := by
  rw [show (160 : Int32) = nI 160 from rfl, pk_mul, nI_add]
theorem wh_hi {K : Nat → Nat} {cn mid : Nat} {y : Int64} (h1 : ∀ j, j < cn → K j < 2147483647) (h2 : ∀ i j, i < j → j < cn → K i < K j) (hm : mid < cn) (h : ¬ lN (K mid) < y) : ∀ j, mid ≤ j → j < cn → ¬ lN (K j) < y := by
  intro j a b hlt
  have e : lN (K mid) ≤ lN (K j) := by
    rw [lN_le (by have := h1 mid hm; omega) (by have := h1 j b; omega)]
    rcases Nat.lt_or_ge mid j with z | z
    · exact Nat.le_of_lt (h2 mid j z b)
    · have : mid = j := by omega
      subst this
      exact Nat.le_refl _
  exact h (Int64.lt_of_le_of_lt e hlt)
theorem wh_lo {K : Nat → Nat} {cn mid : Nat} {y : Int64} (h1 : ∀ j, j < cn → K j < 2147483647) (h2 : ∀ i j, i < j → j < cn → K i < K j) (hm : mid < cn) (h : lN (K mid) < y) : ∀ j, j < mid + 1 → lN (K j) < y := by
  intro j a
  have e : lN (K j) ≤ lN (K mid) := by
    rw [lN_le (by have := h1 j (by omega); omega) (by have := h1 mid hm; omega)]
    rcases Nat.lt_or_ge j mid with z | z
    · exact Nat.le_of_lt (h2 j mid z hm)
    · have : mid = j := by omega
      subst this
      exact Nat.le_refl _
  exact Int64.lt_of_le_of_lt e h
