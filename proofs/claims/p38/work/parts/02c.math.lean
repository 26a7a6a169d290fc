/-! ===== plain mathematics of the draws: my own rows. The reference draws PAIRS of a BUCKET without a bound; it ends, for the orbit of s goes through all numbers of one parity, and some a clashes nowhere, whatever b is. ===== -/
def it (Q R : Nat) : Nat → Nat → Nat
  | 0, s => s
  | n + 1, s => it Q R n (Q * s + R)
theorem it_add (Q R : Nat) : ∀ (m n s : Nat), it Q R (m + n) s = it Q R n (it Q R m s)
  | 0, n, s => by rw [Nat.zero_add]; rfl
  | m + 1, n, s => by
    rw [show m + 1 + n = (m + n) + 1 by omega]
    show it Q R (m + n) (Q * s + R) = it Q R n (it Q R m (Q * s + R))
    exact it_add Q R m n _
/-- an iterate is affine: it grows by Q ^ n times what s grows by -/
theorem it_aff (Q R : Nat) : ∀ (n s d : Nat), it Q R n (s + d) = it Q R n s + Q ^ n * d
  | 0, s, d => by simp [it]
  | n + 1, s, d => by
    show it Q R n (Q * (s + d) + R) = it Q R n (Q * s + R) + Q ^ (n + 1) * d
    rw [show Q * (s + d) + R = (Q * s + R) + Q * d by rw [Nat.mul_add]; omega, it_aff Q R n, Nat.pow_succ, Nat.mul_assoc]
theorem pow_one4 (z : Nat) : ∀ n : Nat, ∃ y, (4 * z + 1) ^ n = 4 * y + 1
  | 0 => ⟨0, rfl⟩
  | n + 1 => by
    obtain ⟨y, h⟩ := pow_one4 z n
    refine ⟨4 * y * z + y + z, ?_⟩
    rw [Nat.pow_succ, h, Nat.mul_add, Nat.add_mul, Nat.add_mul]
    have e1 : 4 * y * (4 * z) = 4 * (4 * y * z) := by
      rw [Nat.mul_left_comm]
    rw [e1]
    omega
/-- after 2 ^ e steps s has grown by an odd number of times 2 ^ (e + 1) -/
theorem it_two (q r : Nat) : ∀ (e s : Nat), ∃ w, it (8 * q + 1) (4 * r + 2) (2 ^ e) s = s + 2 ^ (e + 1) * (2 * w + 1)
  | 0, s => by
    refine ⟨2 * (q * s) + r, ?_⟩
    show (8 * q + 1) * s + (4 * r + 2) = s + 2 * (2 * (2 * (q * s) + r) + 1)
    rw [Nat.add_mul, Nat.mul_assoc]
    omega
  | e + 1, s => by
    obtain ⟨w, h⟩ := it_two q r e s
    obtain ⟨y, hy⟩ := pow_one4 (2 * q) (2 ^ e)
    rw [show 4 * (2 * q) + 1 = 8 * q + 1 by omega] at hy
    refine ⟨2 * (w * y) + w + y + w * (2 * y) - 2 * (w * y), ?_⟩
    have e1 : 2 ^ (e + 1) = 2 ^ e + 2 ^ e := by rw [Nat.pow_succ]; omega
    rw [e1, it_add, h, it_aff, h, hy]
    have e2 : 2 ^ (e + 1 + 1) = 2 ^ (e + 1) * 2 := Nat.pow_succ ..
    rw [e2]
    generalize 2 ^ (e + 1) = M
    have e3 : 2 * (w * y) + w + y + w * (2 * y) - 2 * (w * y) = w + y + 2 * (w * y) := by
      rw [Nat.mul_left_comm w 2 y]
      omega
    rw [e3]
    have e4 : (4 * y + 1) * (M * (2 * w + 1)) = M * ((4 * y + 1) * (2 * w + 1)) := by rw [Nat.mul_left_comm]
    rw [e4, Nat.mul_assoc M 2, Nat.add_assoc, ← Nat.mul_add]
    congr 2
    rw [Nat.add_mul, Nat.mul_add]
    have e5 : 4 * y * (2 * w) = 8 * (w * y) := by
      rw [Nat.mul_comm w y, Nat.mul_assoc, Nat.mul_left_comm y 2 w]
      omega
    rw [e5]
    omega
theorem mod_two_mul {M a c : Nat} (hc : c < M) : (M * a + c) % (2 * M) = M * (a % 2) + c := by
  have h1 : M * a + c = (2 * M) * (a / 2) + (M * (a % 2) + c) := by
    have h2 : a = 2 * (a / 2) + a % 2 := by omega
    have h3 : M * a = M * (2 * (a / 2)) + M * (a % 2) := by rw [← Nat.mul_add, ← h2]
    rw [h3, ← Nat.mul_assoc M 2, Nat.mul_comm M 2]
    omega
  rw [h1, Nat.mul_add_mod]
  apply Nat.mod_eq_of_lt
  rcases Nat.mod_two_eq_zero_or_one a with h | h <;> rw [h] <;> omega
theorem it_reach (q r : Nat) : ∀ (e s y : Nat), s % 2 = y % 2 → ∃ k, it (8 * q + 1) (4 * r + 2) k s % 2 ^ (e + 1) = y % 2 ^ (e + 1)
  | 0, s, y, h => ⟨0, h⟩
  | e + 1, s, y, h => by
    obtain ⟨k, hk⟩ := it_reach q r e s y h
    have e2 : 2 ^ (e + 1 + 1) = 2 * 2 ^ (e + 1) := by rw [Nat.pow_succ]; omega
    have hM : 0 < 2 ^ (e + 1) := Nat.pow_pos (by decide)
    obtain ⟨w, hw⟩ := it_two q r e (it (8 * q + 1) (4 * r + 2) k s)
    rw [← it_add] at hw
    generalize hu : it (8 * q + 1) (4 * r + 2) k s = u at hk hw
    rw [e2]
    generalize 2 ^ (e + 1) = M at hk hw hM
    have hy : y = M * (y / M) + y % M := (Nat.div_add_mod y M).symm
    have hu2 : u = M * (u / M) + u % M := (Nat.div_add_mod u M).symm
    have hc : u % M < M := Nat.mod_lt _ hM
    by_cases hp : (u / M) % 2 = (y / M) % 2
    · refine ⟨k, ?_⟩
      rw [hu, hu2, hy, mod_two_mul hc, mod_two_mul (by rw [← hk]; exact hc), hp, hk]
    · refine ⟨k + 2 ^ e, ?_⟩
      have e3 : u + M * (2 * w + 1) = M * (u / M + (2 * w + 1)) + u % M := by rw [Nat.mul_add M (u / M) (2 * w + 1)]; omega
      rw [hw, e3, mod_two_mul hc, hy, mod_two_mul (by rw [← hk]; exact hc), hk]
      congr 2
      omega
/-! 2147483647 has no divisor -/
def pchk : Nat → Nat → Bool
  | 0, lo => 2147483647 % lo != 0
  | k + 1, lo => pchk k lo && pchk k (lo + 2 ^ k)
theorem pchk_spec : ∀ (k lo : Nat), pchk k lo = true → ∀ d, lo ≤ d → d < lo + 2 ^ k → 2147483647 % d ≠ 0
  | 0, lo, h, d, h1, h2 => by
    have : d = lo := by
      have : 2 ^ 0 = 1 := rfl
      omega
    subst this
    simpa [pchk] using h
  | k + 1, lo, h, d, h1, h2 => by
    simp only [pchk, Bool.and_eq_true] at h
    have e : 2 ^ (k + 1) = 2 ^ k + 2 ^ k := by rw [Nat.pow_succ]; omega
    by_cases hd : d < lo + 2 ^ k
    · exact pchk_spec k lo h.1 d h1 hd
    · exact pchk_spec k (lo + 2 ^ k) h.2 d (by omega) (by omega)
theorem pchk_all : pchk 16 2 = true := by decide +kernel
theorem cop {z : Nat} (h0 : 0 < z) (h : z < 2147483647) : Nat.Coprime 2147483647 z := by
  have hg1 : Nat.gcd 2147483647 z ∣ 2147483647 := Nat.gcd_dvd_left ..
  have hg2 : Nat.gcd 2147483647 z ∣ z := Nat.gcd_dvd_right ..
  have hle : Nat.gcd 2147483647 z ≤ z := Nat.le_of_dvd h0 hg2
  show Nat.gcd 2147483647 z = 1
  generalize Nat.gcd 2147483647 z = g at hg1 hg2 hle
  obtain ⟨k, hk⟩ := hg1
  have hg0 : g ≠ 0 := by
    intro e
    rw [e, Nat.zero_mul] at hk
    exact absurd hk (by decide)
  have hk0 : k ≠ 0 := by
    intro e
    rw [e, Nat.mul_zero] at hk
    exact absurd hk (by decide)
  have hk1 : k ≠ 1 := by
    intro e
    rw [e, Nat.mul_one] at hk
    omega
  by_cases h1 : g = 1
  · exact h1
  · exfalso
    have small : ∀ d, 2 ≤ d → d < 2 + 2 ^ 16 → 2147483647 % d ≠ 0 := pchk_spec 16 2 pchk_all
    have e16 : 2 ^ 16 = 65536 := by decide
    by_cases hs : g < 65538
    · refine small g (by omega) (by omega) ?_
      rw [hk]
      exact Nat.mul_mod_right g k
    · refine small k (by omega) ?_ ?_
      · rcases Nat.lt_or_ge k (2 + 2 ^ 16) with q | q
        · exact q
        · have : 65538 * 65538 ≤ g * k := Nat.mul_le_mul (by omega) (by omega)
          omega
      · rw [hk]
        exact Nat.mul_mod_left g k
/-- a is told by the rest of a times z -/
theorem inj_mul {z a c : Nat} (h0 : 0 < z) (h : z < 2147483647) (ha : a < 2147483647) (hc : c < 2147483647) (e : a * z % 2147483647 = c * z % 2147483647) : a = c := by
  have key : ∀ a c : Nat, a ≤ c → c < 2147483647 → a * z % 2147483647 = c * z % 2147483647 → a = c := by
    intro a c hac hc e
    have hd : 2147483647 ∣ (c - a) * z := by
      rw [Nat.sub_mul]
      exact Nat.dvd_of_mod_eq_zero (Nat.sub_mod_eq_zero_of_mod_eq e.symm)
    have hd2 : 2147483647 ∣ (c - a) := (cop h0 h).dvd_of_dvd_mul_right hd
    rcases Nat.eq_zero_or_pos (c - a) with q | q
    · omega
    · have := Nat.le_of_dvd q hd2
      omega
  rcases Nat.le_total a c with q | q
  · exact key a c q hc e
  · exact (key c a q ha e.symm).symm
/-! how many numbers below N have a property -/
def cnt (p : Nat → Bool) : Nat → Nat
  | 0 => 0
  | n + 1 => cnt p n + (if p n = true then 1 else 0)
theorem cnt_le (p : Nat → Bool) : ∀ N, cnt p N ≤ N
  | 0 => Nat.le_refl _
  | n + 1 => by
    have := cnt_le p n
    show cnt p n + _ ≤ n + 1
    split <;> omega
theorem cnt_mono {p q : Nat → Bool} : ∀ N, (∀ a, a < N → p a = true → q a = true) → cnt p N ≤ cnt q N
  | 0, _ => Nat.le_refl _
  | n + 1, h => by
    have h1 := cnt_mono n (fun a ha => h a (by omega))
    have h2 := h n (by omega)
    show cnt p n + _ ≤ cnt q n + _
    by_cases hp : p n = true
    · rw [if_pos hp, if_pos (h2 hp)]
      omega
    · rw [if_neg hp]
      omega
theorem cnt_or (p q : Nat → Bool) : ∀ N, cnt (fun a => p a || q a) N ≤ cnt p N + cnt q N
  | 0 => Nat.le_refl _
  | n + 1 => by
    have h := cnt_or p q n
    show cnt (fun a => p a || q a) n + (if (p n || q n) = true then 1 else 0) ≤ (cnt p n + (if p n = true then 1 else 0)) + (cnt q n + (if q n = true then 1 else 0))
    generalize cnt (fun a => p a || q a) n = X at h
    cases p n <;> cases q n <;> simp <;> omega
theorem cnt_zero {p : Nat → Bool} : ∀ N, (∀ a, a < N → p a = true → False) → cnt p N = 0
  | 0, _ => rfl
  | n + 1, h => by
    show cnt p n + _ = 0
    rw [cnt_zero n (fun a ha => h a (by omega)), if_neg (fun e => h n (by omega) e)]
theorem cnt_one {p : Nat → Bool} : ∀ N, (∀ a b, a < N → b < N → p a = true → p b = true → a = b) → cnt p N ≤ 1
  | 0, _ => Nat.zero_le _
  | n + 1, h => by
    show cnt p n + _ ≤ 1
    by_cases hp : p n = true
    · rw [if_pos hp, cnt_zero n (fun a ha hpa => by have := h a n (by omega) (by omega) hpa hp; omega)]
      decide
    · rw [if_neg hp]
      exact cnt_one n (fun a b ha hb => h a b (by omega) (by omega))
/-- numbers that are told apart by something below M are M at most -/
theorem cnt_inj : ∀ (M : Nat) (p : Nat → Bool) (g : Nat → Nat) (N : Nat), (∀ a, a < N → p a = true → g a < M) → (∀ a b, a < N → b < N → p a = true → p b = true → g a = g b → a = b) → cnt p N ≤ M
  | 0, p, g, N, h1, _ => by
    rw [cnt_zero N (fun a ha hp => absurd (h1 a ha hp) (Nat.not_lt_zero _))]
    exact Nat.le_refl _
  | M + 1, p, g, N, h1, h2 => by
    have a1 : cnt (fun a => p a && decide (g a ≠ M)) N ≤ M := by
      refine cnt_inj M _ g N (fun a ha hp => ?_) (fun a b ha hb hpa hpb e => ?_)
      · simp only [Bool.and_eq_true, decide_eq_true_eq] at hp
        have := h1 a ha hp.1
        omega
      · simp only [Bool.and_eq_true, decide_eq_true_eq] at hpa hpb
        exact h2 a b ha hb hpa.1 hpb.1 e
    have a2 : cnt (fun a => p a && decide (g a = M)) N ≤ 1 := by
      refine cnt_one N (fun a b ha hb hpa hpb => ?_)
      simp only [Bool.and_eq_true, decide_eq_true_eq] at hpa hpb
      exact h2 a b ha hb hpa.1 hpb.1 (hpa.2.trans hpb.2.symm)
    have a3 : cnt p N ≤ cnt (fun a => (p a && decide (g a ≠ M)) || (p a && decide (g a = M))) N := by
      refine cnt_mono N (fun a ha hp => ?_)
      by_cases e : g a = M
      · simp [hp, e]
      · simp [hp, e]
    have a4 := cnt_or (fun a => p a && decide (g a ≠ M)) (fun a => p a && decide (g a = M)) N
    omega
theorem cnt_any : ∀ (L : List (Nat → Bool)) (B N : Nat), (∀ p ∈ L, cnt p N ≤ B) → cnt (fun a => L.any (fun p => p a)) N ≤ L.length * B
  | [], B, N, _ => by
    rw [cnt_zero N (fun a _ h => by simp at h)]
    exact Nat.zero_le _
  | p :: L, B, N, h => by
    have h1 := cnt_any L B N (fun q hq => h q (List.mem_cons_of_mem _ hq))
    have h2 := h p List.mem_cons_self
    have h3 := cnt_or p (fun a => L.any (fun p => p a)) N
    have h4 : (fun a => (p :: L).any (fun p => p a)) = (fun a => p a || L.any (fun p => p a)) := by funext a; simp
    rw [h4, List.length_cons, Nat.succ_mul]
    omega
theorem cnt_all {p : Nat → Bool} : ∀ N, cnt p N < N → ∃ a, a < N ∧ p a = false
  | 0, h => absurd h (Nat.lt_irrefl _)
  | n + 1, h => by
    cases hp : p n with
    | false => exact ⟨n, by omega, hp⟩
    | true =>
      have h' : cnt p n + (if p n = true then 1 else 0) < n + 1 := h
      rw [hp, if_pos rfl] at h'
      obtain ⟨a, ha, hf⟩ := cnt_all (p := p) n (by omega)
      exact ⟨a, by omega, hf⟩
/-- the a that a difference z can't bear: by a = 1 + c -/
def badA (m z c : Nat) : Bool := decide (((c + 1) * z % 2147483647) % m = 0) || decide ((2147483647 - (c + 1) * z % 2147483647) % m = 0)
theorem badA_cnt {m z N : Nat} (hN : N = 2147483646) (hm : 0 < m) (h0 : 0 < z) (h : z < 2147483647) : cnt (badA m z) N ≤ 2 * (N / m) := by
  have pos : ∀ c, c < N → 0 < (c + 1) * z % 2147483647 := by
    intro c hc
    rcases Nat.eq_zero_or_pos ((c + 1) * z % 2147483647) with q | q
    · have := inj_mul (a := c + 1) (c := 0) h0 h (by omega) (by decide) (by rw [q, Nat.zero_mul])
      omega
    · exact q
  have lt : ∀ c, (c + 1) * z % 2147483647 < 2147483647 := fun c => Nat.mod_lt _ (by decide)
  have b1 : cnt (fun c => decide (((c + 1) * z % 2147483647) % m = 0)) N ≤ N / m := by
    refine cnt_inj _ _ (fun c => ((c + 1) * z % 2147483647) / m - 1) _ (fun c hc hp => ?_) (fun c d hc hd hp hq e => ?_)
    · have hp : ((c + 1) * z % 2147483647) % m = 0 := of_decide_eq_true hp
      have h1 := pos c hc
      have h2 := lt c
      generalize (c + 1) * z % 2147483647 = D at hp h1 h2
      have h3 : 0 < D / m := Nat.div_pos (Nat.le_of_dvd h1 (Nat.dvd_of_mod_eq_zero hp)) hm
      have h4 : D / m ≤ N / m := Nat.div_le_div_right (by omega)
      show D / m - 1 < _
      omega
    · have hp : ((c + 1) * z % 2147483647) % m = 0 := of_decide_eq_true hp
      have hq : ((d + 1) * z % 2147483647) % m = 0 := of_decide_eq_true hq
      have e : ((c + 1) * z % 2147483647) / m - 1 = ((d + 1) * z % 2147483647) / m - 1 := e
      have h1 := pos c hc
      have h1' := pos d hd
      have hz : (c + 1) * z % 2147483647 = (d + 1) * z % 2147483647 := by
        generalize (c + 1) * z % 2147483647 = D at hp h1 e
        generalize (d + 1) * z % 2147483647 = E at hq h1' e
        have h3 : 0 < D / m := Nat.div_pos (Nat.le_of_dvd h1 (Nat.dvd_of_mod_eq_zero hp)) hm
        have h3' : 0 < E / m := Nat.div_pos (Nat.le_of_dvd h1' (Nat.dvd_of_mod_eq_zero hq)) hm
        have hD := Nat.div_add_mod D m
        have hE := Nat.div_add_mod E m
        have e2 : D / m = E / m := by omega
        rw [hp, e2] at hD
        rw [hq] at hE
        omega
      have := inj_mul h0 h (by omega) (by omega) hz
      omega
  have b2 : cnt (fun c => decide ((2147483647 - (c + 1) * z % 2147483647) % m = 0)) N ≤ N / m := by
    refine cnt_inj _ _ (fun c => (2147483647 - (c + 1) * z % 2147483647) / m - 1) _ (fun c hc hp => ?_) (fun c d hc hd hp hq e => ?_)
    · have hp : (2147483647 - (c + 1) * z % 2147483647) % m = 0 := of_decide_eq_true hp
      have h1 := pos c hc
      have h2 := lt c
      generalize (c + 1) * z % 2147483647 = D at hp h1 h2
      have h5 : 0 < 2147483647 - D := by omega
      have h3 : 0 < (2147483647 - D) / m := Nat.div_pos (Nat.le_of_dvd h5 (Nat.dvd_of_mod_eq_zero hp)) hm
      have h4 : (2147483647 - D) / m ≤ N / m := Nat.div_le_div_right (by omega)
      show (2147483647 - D) / m - 1 < _
      omega
    · have hp : (2147483647 - (c + 1) * z % 2147483647) % m = 0 := of_decide_eq_true hp
      have hq : (2147483647 - (d + 1) * z % 2147483647) % m = 0 := of_decide_eq_true hq
      have e : (2147483647 - (c + 1) * z % 2147483647) / m - 1 = (2147483647 - (d + 1) * z % 2147483647) / m - 1 := e
      have h2 := lt c
      have h2' := lt d
      have hz : (c + 1) * z % 2147483647 = (d + 1) * z % 2147483647 := by
        generalize (c + 1) * z % 2147483647 = D at hp h2 e
        generalize (d + 1) * z % 2147483647 = E at hq h2' e
        have h5 : 0 < 2147483647 - D := by omega
        have h5' : 0 < 2147483647 - E := by omega
        have h3 : 0 < (2147483647 - D) / m := Nat.div_pos (Nat.le_of_dvd h5 (Nat.dvd_of_mod_eq_zero hp)) hm
        have h3' : 0 < (2147483647 - E) / m := Nat.div_pos (Nat.le_of_dvd h5' (Nat.dvd_of_mod_eq_zero hq)) hm
        have hD := Nat.div_add_mod (2147483647 - D) m
        have hE := Nat.div_add_mod (2147483647 - E) m
        have e2 : (2147483647 - D) / m = (2147483647 - E) / m := by omega
        rw [hp, e2] at hD
        rw [hq] at hE
        omega
      have := inj_mul h0 h (by omega) (by omega) hz
      omega
  exact Nat.le_trans (cnt_or (fun c => decide (((c + 1) * z % 2147483647) % m = 0)) (fun c => decide ((2147483647 - (c + 1) * z % 2147483647) % m = 0)) N) (by omega)

/-! keys told apart: some a bears them all -/
def prs (m : Nat) (K : Nat → Nat) : Nat → List (Nat → Bool)
  | 0 => []
  | n + 1 => prs m K n ++ (List.range n).map (fun i => badA m (K n - K i))
theorem prs_len (m : Nat) (K : Nat → Nat) : ∀ n, 2 * (prs m K n).length + n = n * n
  | 0 => rfl
  | n + 1 => by
    have h := prs_len m K n
    show 2 * (prs m K n ++ (List.range n).map _).length + (n + 1) = (n + 1) * (n + 1)
    rw [List.length_append, List.length_map, List.length_range]
    have e : (n + 1) * (n + 1) = n * n + 2 * n + 1 := by
      rw [Nat.add_mul, Nat.mul_add]
      omega
    omega
theorem prs_mem {m : Nat} {K : Nat → Nat} : ∀ {n i j : Nat}, i < j → j < n → badA m (K j - K i) ∈ prs m K n
  | 0, _, _, _, h => absurd h (Nat.not_lt_zero _)
  | n + 1, i, j, hij, hj => by
    show _ ∈ prs m K n ++ (List.range n).map _
    rcases Nat.lt_or_ge j n with q | q
    · exact List.mem_append_left _ (prs_mem hij q)
    · have : j = n := by omega
      subst this
      exact List.mem_append_right _ (List.mem_map.mpr ⟨i, List.mem_range.mpr hij, rfl⟩)
theorem prs_cnt {m N : Nat} {K : Nat → Nat} (hN : N = 2147483646) (hm : 0 < m) : ∀ n, (∀ i j, i < j → j < n → K i < K j) → (∀ j, j < n → K j < 2147483647) → ∀ p ∈ prs m K n, cnt p N ≤ 2 * (N / m)
  | 0, _, _, p, h => absurd h List.not_mem_nil
  | n + 1, h1, h2, p, h => by
    rcases List.mem_append.mp h with q | q
    · exact prs_cnt hN hm n (fun i j a b => h1 i j a (by omega)) (fun j a => h2 j (by omega)) p q
    · obtain ⟨i, hi, rfl⟩ := List.mem_map.mp q
      have hi := List.mem_range.mp hi
      have a1 := h1 i n hi (by omega)
      have a2 := h2 n (by omega)
      exact badA_cnt hN hm (by omega) (by omega)
theorem good_a {m n : Nat} {K : Nat → Nat} (hm : 0 < m) (hn : n * n ≤ m) (h1 : ∀ i j, i < j → j < n → K i < K j) (h2 : ∀ j, j < n → K j < 2147483647) : ∃ c, c < 2147483646 ∧ ∀ i j, i < j → j < n → badA m (K j - K i) c = false := by
  obtain ⟨N, hN⟩ : ∃ N, N = 2147483646 := ⟨_, rfl⟩
  have hc := cnt_any (prs m K n) (2 * (N / m)) N (prs_cnt hN hm n h1 h2)
  have hl := prs_len m K n
  have hlt : (prs m K n).length * (2 * (N / m)) < N := by
    rw [← Nat.mul_assoc, Nat.mul_comm _ 2]
    generalize (prs m K n).length = len at hl
    rcases Nat.eq_zero_or_pos n with z | z
    · subst z
      have : 2 * len = 0 := by omega
      rw [this, Nat.zero_mul]
      omega
    · have e1 : 2 * len < n * n := by omega
      rcases Nat.eq_zero_or_pos (N / m) with y | y
      · rw [y, Nat.mul_zero]
        omega
      · have e2 : 2 * len * (N / m) < (n * n) * (N / m) := Nat.mul_lt_mul_of_pos_right e1 y
        have e3 : (n * n) * (N / m) ≤ m * (N / m) := Nat.mul_le_mul_right _ hn
        have e4 : m * (N / m) ≤ N := Nat.mul_div_le ..
        omega
  obtain ⟨c, hc1, hc2⟩ := cnt_all (p := fun a => (prs m K n).any (fun p => p a)) N (Nat.lt_of_le_of_lt hc hlt)
  refine ⟨c, by omega, fun i j hi hj => ?_⟩
  have := (List.any_eq_false.mp hc2) _ (prs_mem (m := m) (K := K) hi hj)
  simpa using this
theorem mod_add_cancel {m u d : Nat} (h : (u + d) % m = u % m) : d % m = 0 := by
  have h1 := Nat.sub_mod_eq_zero_of_mod_eq h
  rw [Nat.add_sub_cancel_left] at h1
  exact h1
/-- with such an a no two keys have one place, whatever b is -/
theorem no_clash {m c x y b : Nat} (hxy : x < y) (hg : badA m (y - x) c = false) : ((c + 1) * x + b) % 2147483647 % m ≠ ((c + 1) * y + b) % 2147483647 % m := by
  intro e
  unfold badA at hg
  simp only [Bool.or_eq_false_iff, decide_eq_false_iff_not] at hg
  have e1 : (c + 1) * y + b = ((c + 1) * x + b) + (c + 1) * (y - x) := by
    have : (c + 1) * y = (c + 1) * x + (c + 1) * (y - x) := by rw [← Nat.mul_add]; congr 1; omega
    omega
  have e2 : ((c + 1) * y + b) % 2147483647 = (((c + 1) * x + b) % 2147483647 + (c + 1) * (y - x) % 2147483647) % 2147483647 := by rw [e1, Nat.add_mod]
  have hu : ((c + 1) * x + b) % 2147483647 < 2147483647 := Nat.mod_lt _ (by decide)
  have hd : (c + 1) * (y - x) % 2147483647 < 2147483647 := Nat.mod_lt _ (by decide)
  generalize ((c + 1) * y + b) % 2147483647 = v at e e2
  generalize ((c + 1) * x + b) % 2147483647 = u at e e2 hu
  generalize (c + 1) * (y - x) % 2147483647 = d at hg e2 hd
  rcases Nat.lt_or_ge (u + d) 2147483647 with q | q
  · rw [Nat.mod_eq_of_lt q] at e2
    rw [e2] at e
    exact hg.1 (mod_add_cancel e.symm)
  · have e3 : (u + d) % 2147483647 = u + d - 2147483647 := by
      rw [Nat.mod_eq_sub_mod q, Nat.mod_eq_of_lt (by omega)]
    have e4 : u = v + (2147483647 - d) := by omega
    rw [e4] at e
    exact hg.2 (mod_add_cancel e)
/-! Int64 as an unsigned number -/
def uN (x : Int64) : Nat := x.toUInt64.toNat
theorem uN_lt (x : Int64) : uN x < 18446744073709551616 := x.toUInt64.toNat_lt
theorem uN_add (x y : Int64) : uN (x + y) = (uN x + uN y) % 18446744073709551616 := by
  show (x.toUInt64 + y.toUInt64).toNat = _
  exact UInt64.toNat_add _ _
theorem uN_mul (x y : Int64) : uN (x * y) = (uN x * uN y) % 18446744073709551616 := by
  show (x.toUInt64 * y.toUInt64).toNat = _
  exact UInt64.toNat_mul _ _
/-! a step done twice, n times over: its orbit by numbers -/
def itf (f : Int64 → Int64) : Nat → Int64 → Int64
  | 0, x => x
  | n + 1, x => itf f n (f (f x))
theorem itf_comm (f : Int64 → Int64) (n : Nat) : ∀ x, f (itf f n x) = itf f n (f x) := by
  induction n with
  | zero => exact fun _ => rfl
  | succ n ih => exact fun x => ih (f (f x))
theorem it_mod (Q R M n : Nat) : ∀ s, it Q R n (s % M) % M = it Q R n s % M := by
  induction n with
  | zero => exact fun s => Nat.mod_mod _ _
  | succ n ih =>
    intro s
    show it Q R n (Q * (s % M) + R) % M = it Q R n (Q * s + R) % M
    rw [← ih (Q * (s % M) + R), ← ih (Q * s + R)]
    congr 2
    rw [Nat.add_mod, Nat.mul_mod, Nat.mod_mod, ← Nat.mul_mod, ← Nat.add_mod]
theorem step_mod (A C u M : Nat) : (A * ((A * u + C) % M) + C) % M = (A * A * u + (A * C + C)) % M := by
  rw [Nat.add_mod, Nat.mul_mod, Nat.mod_mod, ← Nat.mul_mod, ← Nat.add_mod, Nat.mul_add, ← Nat.mul_assoc, Nat.add_assoc]
theorem itf_uN (f : Int64 → Int64) (A C M n : Nat) (h : ∀ x, uN (f x) = (A * uN x + C) % M) : ∀ x, uN (itf f n x) % M = it (A * A) (A * C + C) n (uN x) % M := by
  induction n with
  | zero => exact fun x => rfl
  | succ n ih =>
    intro x
    show uN (itf f n (f (f x))) % M = it (A * A) (A * C + C) n (A * A * uN x + (A * C + C)) % M
    rw [ih, h, h, step_mod, it_mod]
theorem reach_gen (f : Int64 → Int64) (A C q r : Nat) (h : ∀ x, uN (f x) = (A * uN x + C) % 18446744073709551616) (hQ : A * A = 8 * q + 1) (hR : A * C + C = 4 * r + 2) (x : Int64) {c : Nat} (hc : c < 2147483646) : ∃ k, uN (f (itf f k x)) / 8589934592 = c := by
  obtain ⟨k, hk⟩ := it_reach q r 63 (uN (f x)) (8589934592 * c + uN (f x) % 2) (by omega)
  have e64 : 2 ^ (63 + 1) = 18446744073709551616 := by decide
  rw [e64, ← hQ, ← hR, ← itf_uN f A C _ k h, Nat.mod_eq_of_lt (uN_lt _), Nat.mod_eq_of_lt (by omega)] at hk
  refine ⟨k, ?_⟩
  rw [itf_comm f k x, hk]
  omega
def nxS (x : Int64) : Int64 := x * 6364136223846793005 + 1442695040888963407
theorem uN_nx (x : Int64) : uN (nxS x) = (6364136223846793005 * uN x + 1442695040888963407) % 18446744073709551616 := by
  unfold nxS
  rw [uN_add, uN_mul, show uN 6364136223846793005 = 6364136223846793005 from by decide, show uN 1442695040888963407 = 1442695040888963407 from by decide, Nat.mod_add_mod, Nat.mul_comm]
/-- the draws of PAIRS come to every a -/
theorem draws_reach (x : Int64) {c : Nat} (hc : c < 2147483646) : ∃ k, uN (nxS (itf nxS k x)) / 8589934592 = c := reach_gen nxS 6364136223846793005 1442695040888963407 5062778734459864725340512327914616253 2295376942421395552456462499159382860 uN_nx (by decide +kernel) (by decide +kernel) x hc
