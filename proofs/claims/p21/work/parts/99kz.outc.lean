/-! outer: answers by a count of each bucket -/
def plN (a b n x : Nat) : Nat := (a * x + b) % 2147483647 % n
def sqF (c : Nat → Nat) : Nat → Nat
  | 0 => 0
  | n + 1 => sqF c n + c n * c n
def mxN (c : Nat → Nat) : Nat → Nat
  | 0 => 0
  | n + 1 => if mxN c n < c n then c n else mxN c n
def zeN (c : Nat → Nat) : Nat → Nat
  | 0 => 0
  | n + 1 => if c n = 0 then zeN c n + 1 else zeN c n
theorem mxN_le {c : Nat → Nat} {b : Nat} (h : ∀ j, c j ≤ b) : ∀ n, mxN c n ≤ b
  | 0 => Nat.zero_le _
  | n + 1 => by
    show (if mxN c n < c n then c n else mxN c n) ≤ b
    split
    · exact h n
    · exact mxN_le h n
theorem zeN_le (c : Nat → Nat) : ∀ n, zeN c n ≤ n
  | 0 => Nat.le_refl _
  | n + 1 => by
    have := zeN_le c n
    show (if c n = 0 then zeN c n + 1 else zeN c n) ≤ n + 1
    split <;> omega
def ouR (c : Nat → Nat) (n : Nat) (z : Int32) : Int64 := if z = 0 then lN (4 * sqF c n) else if z = 1 then lN (sqF c n) else if z = 2 then lN (mxN c n) else lN (zeN c n)
def pairC (z2 z3 : Int32) : Prop := (∃ x, 1 ≤ x ∧ x < 2147483647 ∧ z2 = nI x) ∧ isK z3
def bkC (z : Int32) : Prop := ∃ n, 1 ≤ n ∧ n ≤ 2048 ∧ z = nI n
def cntL (L : List (Nat × Int32)) (a b n : Nat) : Nat → Nat := cntJ (fun y => plN a b n (L.getD y (0, 0)).1) L.length
theorem cntL_t {cn : Nat} {K : Nat → Nat} {V : Nat → Int32} {a b n : Nat} : cntL (tabl cn K V) a b n = cntJ (fun y => plN a b n (K y)) cn := by
  unfold cntL
  rw [tabl_len]
  funext j
  exact cntJ_congr cn (fun y hy => by rw [tabl_getD K V hy])
noncomputable def outA (th : Prop) (Ls : Nat → List (Nat × Int32)) (z1 z2 z3 z4 z5 : Int32) : Int64 := @ite _ (th ∧ pairC z2 z3 ∧ bkC z4 ∧ tn4 z5) (Classical.propDecidable _) (ouR (cntL (Ls (ixN z1)) (ixN z2) (ixN z3) (ixN z4)) (ixN z4) z5) (-1000000000000000)
theorem outA_0 {th : Prop} {Ls : Nat → List (Nat × Int32)} {z1 z2 z3 z4 z5 : Int32} (h : ¬ (th ∧ pairC z2 z3 ∧ bkC z4 ∧ tn4 z5)) : outA th Ls z1 z2 z3 z4 z5 = -1000000000000000 := if_neg h
theorem outA_1 {th : Prop} {Ls : Nat → List (Nat × Int32)} {k a b n : Nat} {z5 : Int32} (hk : k < 4) (ht : th) (ha1 : 1 ≤ a) (ha : a < 2147483647) (hb : b < 2147483647) (hn1 : 1 ≤ n) (hn : n ≤ 2048) (h5 : tn4 z5) : outA th Ls (nI k) (nI a) (nI b) (nI n) z5 = ouR (cntL (Ls k) a b n) n z5 := by
  unfold outA
  rw [ixN_k (by omega), ixN_k (by omega), ixN_k (by omega), ixN_k (by omega)]
  exact if_pos ⟨ht, ⟨⟨a, ha1, ha, rfl⟩, ⟨b, hb, rfl⟩⟩, ⟨n, hn1, hn, rfl⟩, h5⟩
theorem outA_m {th : Prop} {Ls : Nat → List (Nat × Int32)} {k : Nat} {z2 z3 z4 z5 : Int32} (hk : k < 4) (h : th) : outA th Ls (nI k) z2 z3 z4 z5 = outA True (fun _ => Ls k) (nI k) z2 z3 z4 z5 := by
  rw [th_T h]
  unfold outA
  rw [ixN_k (by omega)]
theorem ouR_0 {c : Nat → Nat} {n : Nat} {z : Int32} (h : z = 0) : ouR c n z = lN (4 * sqF c n) := if_pos h
theorem ouR_1 {c : Nat → Nat} {n : Nat} {z : Int32} (h0 : ¬ z = 0) (h : z = 1) : ouR c n z = lN (sqF c n) := (if_neg h0).trans (if_pos h)
theorem ouR_2 {c : Nat → Nat} {n : Nat} {z : Int32} (h0 : ¬ z = 0) (h1 : ¬ z = 1) (h : z = 2) : ouR c n z = lN (mxN c n) := (if_neg h0).trans ((if_neg h1).trans (if_pos h))
theorem ouR_3 {c : Nat → Nat} {n : Nat} {z : Int32} (h0 : ¬ z = 0) (h1 : ¬ z = 1) (h : ¬ z = 2) : ouR c n z = lN (zeN c n) := (if_neg h0).trans ((if_neg h1).trans (if_neg h))
theorem isKp {z : Int32} : ((1 : Int64) ≤ z.toInt64 ∧ z.toInt64 ≤ 2147483646) ↔ ∃ x, 1 ≤ x ∧ x < 2147483647 ∧ z = nI x := by
  rw [show (1 : Int64) = (1 : Int32).toInt64 from by decide, show (2147483646 : Int64) = (2147483646 : Int32).toInt64 from by decide, w64_le, w64_le]
  constructor
  · rintro ⟨h1, h2⟩
    obtain ⟨j, hj, e, h3⟩ := inI (n := 2147483646) (by decide) (by decide) h1 h2
    have e1 : (1 : Int32).toInt = 1 := by decide
    exact ⟨j, by omega, by omega, e⟩
  · rintro ⟨x, h1, h2, rfl⟩
    exact ⟨nI_le (a := 1) h1 (by omega), nI_le (b := 2147483646) (by omega) (by decide)⟩
theorem isBk {z : Int32} : ((1 : Int64) ≤ z.toInt64 ∧ z.toInt64 ≤ 2048) ↔ bkC z := by
  rw [show (1 : Int64) = (1 : Int32).toInt64 from by decide, show (2048 : Int64) = (2048 : Int32).toInt64 from by decide, w64_le, w64_le]
  constructor
  · rintro ⟨h1, h2⟩
    obtain ⟨j, hj, e, h3⟩ := inI (n := 2048) (by decide) (by decide) h1 h2
    have e1 : (1 : Int32).toInt = 1 := by decide
    exact ⟨j, by omega, hj, e⟩
  · rintro ⟨x, h1, h2, rfl⟩
    exact ⟨nI_le (a := 1) h1 (by omega), nI_le (b := 2048) h2 (by decide)⟩
def hdN (f : Nat → Int32) (j : Nat) : Nat := (f j).toInt.toNat
def Hcc (f : Nat → Int32) (nb : Nat) : Prop := ∀ j, j < nb → f j = nI (hdN f j) ∧ hdN f j ≤ 160
theorem hdN_of {f : Nat → Int32} {j c : Nat} (h : f j = nI c) (hc : c ≤ 160) : hdN f j = c := by
  unfold hdN
  rw [h, nI_toInt (by omega)]
  omega
theorem Hcc_L {fj fh : Nat → Int32} {nb ln : Nat} (h : LyH fj fh nb ln) : Hcc fh nb := by
  obtain ⟨h1, h2, J, h3⟩ := h
  intro j hj
  have e := h3.2 j (by omega)
  have hc : cntJ J ln j ≤ 160 := Nat.le_trans (cntJ_le J ln j) h2
  rw [hdN_of e hc]
  exact ⟨e, hc⟩
theorem mxN_cg {c d : Nat → Nat} : ∀ n, (∀ j, j < n → c j = d j) → mxN c n = mxN d n
  | 0, _ => rfl
  | n + 1, h => by
    show (if mxN c n < c n then c n else mxN c n) = (if mxN d n < d n then d n else mxN d n)
    rw [mxN_cg n (fun j hj => h j (by omega)), h n (by omega)]
theorem zeN_cg {c d : Nat → Nat} : ∀ n, (∀ j, j < n → c j = d j) → zeN c n = zeN d n
  | 0, _ => rfl
  | n + 1, h => by
    show (if c n = 0 then zeN c n + 1 else zeN c n) = (if d n = 0 then zeN d n + 1 else zeN d n)
    rw [zeN_cg n (fun j hj => h j (by omega)), h n (by omega)]
theorem sqF_le (J : Nat → Nat) (n : Nat) : ∀ j, sqF (cntJ J n) j ≤ n * sumC J n j
  | 0 => Nat.zero_le _
  | j + 1 => by
    show sqF (cntJ J n) j + cntJ J n j * cntJ J n j ≤ n * (sumC J n j + cntJ J n j)
    rw [Nat.mul_add]
    exact Nat.add_le_add (sqF_le J n j) (Nat.mul_le_mul_right _ (cntJ_le J n j))
theorem sqF_top {J : Nat → Nat} {n : Nat} (hn : n ≤ 160) (j : Nat) : sqF (cntJ J n) j ≤ 25600 :=
  Nat.le_trans (sqF_le J n j) (Nat.mul_le_mul hn (Nat.le_trans (sumC_le J n j) hn))
theorem sqF_stp {J : Nat → Nat} {y : Nat} : ∀ n, sqF (cntJ J (y + 1)) n = sqF (cntJ J y) n + (if J y < n then 2 * cntJ J y (J y) + 1 else 0)
  | 0 => by
    rw [if_neg (Nat.not_lt_zero _)]
    rfl
  | n + 1 => by
    show sqF (cntJ J (y + 1)) n + cntJ J (y + 1) n * cntJ J (y + 1) n = sqF (cntJ J y) n + cntJ J y n * cntJ J y n + (if J y < n + 1 then 2 * cntJ J y (J y) + 1 else 0)
    rw [sqF_stp n, cntJ_s]
    rcases Nat.lt_trichotomy (J y) n with z | z | z
    · rw [if_pos z, if_neg (Nat.ne_of_lt z), if_pos (Nat.lt_succ_of_lt z)]
      simp only [Nat.add_zero]
      omega
    · rw [if_neg (by omega), if_pos z, if_pos (by omega), z]
      generalize cntJ J y n = c
      have e : (c + 1) * (c + 1) = c * c + (2 * c + 1) := by
        rw [Nat.add_mul, Nat.mul_add, Nat.one_mul, Nat.mul_one]
        omega
      rw [e]
      omega
    · rw [if_neg (by omega), if_neg (by omega), if_neg (by omega), Nat.add_zero, Nat.add_zero, Nat.add_zero]
theorem sq_z {J : Nat → Nat} : ∀ n, sqF (cntJ J 0) n = 0
  | 0 => rfl
  | n + 1 => by
    show sqF (cntJ J 0) n + cntJ J 0 n * cntJ J 0 n = 0
    rw [sq_z n]
    rfl
theorem sq_0 {J : Nat → Nat} (n : Nat) : (0 : Int32) = nI (sqF (cntJ J 0) n) := by
  rw [sq_z]
  rfl
theorem dl_sq {J : Nat → Nat} {y n : Nat} {su : Int32} (h : su = nI (sqF (cntJ J y) n)) (hJ : J y < n) : su + nI (2 * cntJ J y (J y) + 1) = nI (sqF (cntJ J (y + 1)) n) := by
  rw [sqF_stp, if_pos hJ, h, nI_add]
theorem clampN2 (z : Int32) : ∃ q, 1 ≤ q ∧ q ≤ 2048 ∧ (if (1 : Int32) < (if z < (2048 : Int32) then z else 2048) then (if z < (2048 : Int32) then z else 2048) else 1) = nI q ∧ ∀ n, z = nI n → 1 ≤ n → n ≤ 2048 → q = n := by
  obtain ⟨q, h1, h2, h3⟩ := clampN z
  refine ⟨q, h1, h2, h3, fun n e g1 g2 => ?_⟩
  subst e
  have hz : (if nI n < (2048 : Int32) then nI n else 2048) = nI n := by
    by_cases z : n < 2048
    · exact if_pos (nI_lt (b := 2048) z (by decide))
    · rw [show n = 2048 by omega]
      exact if_neg (show ¬ nI 2048 < (2048 : Int32) from Int32.lt_irrefl)
  rw [hz] at h3
  by_cases z : 1 < n
  · rw [if_pos (show (1 : Int32) < nI n from nI_lt (a := 1) z (by omega))] at h3
    exact ((nI_eq (by omega) (by omega)).mp h3).symm
  · rw [show n = 1 by omega] at h3 ⊢
    rw [if_neg (show ¬ (1 : Int32) < nI 1 from Int32.lt_irrefl)] at h3
    exact ((nI_eq (a := 1) (by decide) (by omega)).mp h3).symm
/-- what deal leaves: at least one bucket; its answer and counts for n in its bounds -/
def dealQ (a b : Nat) (fk : Nat → Int32) (cn : Nat) (z : Int32) (fh : Nat → Int32) (nb : Nat) (r : Int32) : Prop := 1 ≤ nb ∧ ∀ nn, z = nI nn → 1 ≤ nn → nn ≤ 2048 → nb = nn ∧ r = nI (sqF (cntJ (fun y => plN a b nn (kN fk y)) cn) nn) ∧ ∀ j, j < 2048 → fh j = nI (cntJ (fun y => plN a b nn (kN fk y)) cn j)
theorem mx_1 (f : Nat → Nat) : mxN f 1 = f 0 := by
  show (if 0 < f 0 then f 0 else 0) = f 0
  split <;> omega
theorem mx_up {f : Nat → Int32} {nb x y : Nat} (h : Hcc f nb) (hx : x < nb) (hy : y < nb) (hm : mxN (hdN f) y = hdN f x) (e : ¬ f y ≤ f x) : mxN (hdN f) (y + 1) = hdN f y := by
  rw [(h y hy).1, (h x hx).1] at e
  have h1 : hdN f x < hdN f y := Nat.not_le.mp (fun z => e (nI_le z (by have := (h x hx).2; omega)))
  show (if mxN (hdN f) y < hdN f y then hdN f y else mxN (hdN f) y) = hdN f y
  rw [hm, if_pos h1]
theorem mx_no {f : Nat → Int32} {nb x y : Nat} (h : Hcc f nb) (hx : x < nb) (hy : y < nb) (hm : mxN (hdN f) y = hdN f x) (e : f y ≤ f x) : mxN (hdN f) (y + 1) = hdN f x := by
  rw [(h y hy).1, (h x hx).1] at e
  have h1 : hdN f y ≤ hdN f x := (nI_leI (by have := (h y hy).2; omega) (by have := (h x hx).2; omega)).mp e
  show (if mxN (hdN f) y < hdN f y then hdN f y else mxN (hdN f) y) = hdN f x
  rw [hm, if_neg (Nat.not_lt.mpr h1)]
theorem ze_no {f : Nat → Int32} {nb y : Nat} {z su : Int32} (h : Hcc f nb) (hy : y < nb) (hs : z = 0 → su = nI (zeN (hdN f) y)) (e : ¬ f y = z) : z = 0 → su = nI (zeN (hdN f) (y + 1)) := by
  intro q
  subst q
  show su = nI (if hdN f y = 0 then zeN (hdN f) y + 1 else zeN (hdN f) y)
  rw [if_neg (fun w => e (by rw [(h y hy).1, w]; rfl))]
  exact hs rfl
theorem ze_up {f : Nat → Int32} {nb y : Nat} {z su : Int32} (h : Hcc f nb) (hy : y < nb) (hs : z = 0 → su = nI (zeN (hdN f) y)) (e : f y = z) : z = 0 → su + 1 = nI (zeN (hdN f) (y + 1)) := by
  intro q
  subst q
  rw [(h y hy).1] at e
  have e0 : hdN f y = 0 := (nI_eq (b := 0) (by have := (h y hy).2; omega) (by decide)).mp e
  show su + 1 = nI (if hdN f y = 0 then zeN (hdN f) y + 1 else zeN (hdN f) y)
  rw [if_pos e0, hs rfl]
  exact nI_1 _
def ouI (c : Nat → Nat) (n : Nat) (z : Int32) : Int32 := if z = 0 then nI (4 * sqF c n) else if z = 1 then nI (sqF c n) else if z = 2 then nI (mxN c n) else nI (zeN c n)
theorem ou_0 {c : Nat → Nat} {n : Nat} {r : Int32} (h : r = nI (sqF c n)) : (4 : Int32) * r = ouI c n 0 := by
  subst h
  exact (show (4 : Int32) * nI (sqF c n) = nI (4 * sqF c n) from pk_mul 4 _).trans (Eq.symm (if_pos rfl))
theorem ou_1 {c : Nat → Nat} {n : Nat} {r : Int32} (h : r = nI (sqF c n)) : r = ouI c n 1 := h.trans (Eq.symm (Eq.trans (if_neg (by decide)) (if_pos rfl)))
theorem ou_2 {J : Nat → Nat} {f : Nat → Int32} {cn nb nn q : Nat} (hcn : cn ≤ 160) (hH : Hcc f nb) (e : nb = nn) (h : ∀ j, j < 2048 → f j = nI (cntJ J cn j)) (hq : q < nb) (hn : nn ≤ 2048) (hm : hdN f q = mxN (hdN f) nb) : f q = ouI (cntJ J cn) nn 2 := by
  subst e
  have e1 : f q = nI (mxN (cntJ J cn) nb) := by
    rw [(hH q hq).1, hm]
    exact congrArg nI (mxN_cg nb (fun j hj => hdN_of (h j (by omega)) (Nat.le_trans (cntJ_le J cn j) hcn)))
  exact e1.trans (Eq.symm (Eq.trans (if_neg (by decide)) (Eq.trans (if_neg (by decide)) (if_pos rfl))))
theorem ou_3 {J : Nat → Nat} {f : Nat → Int32} {cn nb nn : Nat} {r z : Int32} (hcn : cn ≤ 160) (e : nb = nn) (h : ∀ j, j < 2048 → f j = nI (cntJ J cn j)) (hn : nn ≤ 2048) (hr : r = nI (zeN (hdN f) nb)) (h0 : ¬ z = 0) (h1 : ¬ z = 1) (h2 : ¬ z = 2) : r = ouI (cntJ J cn) nn z := by
  subst e
  have e1 : r = nI (zeN (cntJ J cn) nb) := by
    rw [hr]
    exact congrArg nI (zeN_cg nb (fun j hj => hdN_of (h j (by omega)) (Nat.le_trans (cntJ_le J cn j) hcn)))
  exact e1.trans (Eq.symm (Eq.trans (if_neg h0) (Eq.trans (if_neg h1) (if_neg h2))))
theorem ou_64 {J : Nat → Nat} {m n : Nat} {z : Int32} (hm : m ≤ 160) (hn : n ≤ 2048) : (ouI (cntJ J m) n z).toInt64 = ouR (cntJ J m) n z := by
  have h1 := sqF_top (J := J) hm n
  have h2 := mxN_le (c := cntJ J m) (b := m) (cntJ_le J m) n
  have h3 := zeN_le (cntJ J m) n
  unfold ouI ouR
  split
  · exact nI_l (by omega)
  · split
    · exact nI_l (by omega)
    · split
      · exact nI_l (by omega)
      · exact nI_l (by omega)
theorem pairC_c {a b : Int32} (h0 : ¬ a < 1) (h1 : ¬ (2147483647 : Int32) ≤ a) (h2 : ¬ b < 0) (h3 : ¬ (2147483647 : Int32) ≤ b) : pairC a b := by
  obtain ⟨x, hx, e⟩ := isK_c (fun z => h0 (Int32.lt_trans z (by decide))) h1
  refine ⟨⟨x, ?_, hx, e⟩, isK_c h2 h3⟩
  rcases Nat.eq_zero_or_pos x with z | z
  · subst z
    subst e
    exact absurd (by decide) h0
  · exact z
theorem pairC_n {a b : Int32} (h : pairC a b) : ¬ a < 1 ∧ ¬ (2147483647 : Int32) ≤ a ∧ ¬ b < 0 ∧ ¬ (2147483647 : Int32) ≤ b := by
  obtain ⟨⟨x, h1, h2, rfl⟩, hb⟩ := h
  exact ⟨Int32.not_lt.mpr (nI_le (a := 1) h1 (by omega)), (isK_n ⟨x, h2, rfl⟩).2, isK_n hb⟩
theorem bkC_c {z : Int32} (h0 : ¬ z < 1) (h1 : ¬ (2048 : Int32) < z) : bkC z := by
  obtain ⟨j, hj, e, h3⟩ := inI (a := 1) (c := 2048) (n := 2048) (by decide) (by decide) (Int32.not_lt.mp h0) (Int32.not_lt.mp h1)
  have e1 : (1 : Int32).toInt = 1 := by decide
  exact ⟨j, by omega, hj, e⟩
theorem bkC_1 {z : Int32} (q : bkC z) (h : z < 1) : False := by
  obtain ⟨n, h1, h2, rfl⟩ := q
  exact Int32.not_lt.mpr (nI_le (a := 1) h1 (by omega)) h
theorem bkC_2 {z : Int32} (q : bkC z) (h : (2048 : Int32) < z) : False := by
  obtain ⟨n, h1, h2, rfl⟩ := q
  exact Int32.not_lt.mpr (nI_le (b := 2048) h2 (by decide)) h
theorem tn4_c {z : Int32} (h0 : ¬ z < 0) (h1 : z ≤ 3) : tn4 z := ⟨Int32.not_lt.mp h0, Int32.lt_of_le_of_lt h1 (by decide)⟩
theorem tn4_3 {z : Int32} (q : tn4 z) (h : ¬ z ≤ 3) : False := by
  have h2 := q.2
  rw [Int32.le_iff_toInt_le, show (3 : Int32).toInt = 3 from by decide] at h
  rw [Int32.lt_iff_toInt_lt, show (4 : Int32).toInt = 4 from by decide] at h2
  omega
theorem KvT.cntL {fk fv : Nat → Int32} {cn a b n : Nat} {L : List (Nat × Int32)} (h : KvT fk fv cn L) : cntL L a b n = cntJ (fun y => plN a b n (kN fk y)) cn := by
  obtain ⟨hc, K, h1, h2, rfl⟩ := h
  rw [cntL_t]
  funext j
  refine cntJ_congr cn (fun y hy => ?_)
  have e : kN fk y = K y := by
    unfold kN
    rw [(h1 y hy).1, nI_toInt (by have := (h1 y hy).2; omega)]
    omega
  rw [e]
def own_k_isPairN : List Cond := [.constant RX10 352 (2147483647)]
def wp_k_isPairN : List Cond := .code yX10_isPair cX10_isPair 2 (some .boolean) :: (own_k_isPairN ++ ([] : List Cond))
set_option maxRecDepth 20000 in
theorem inown_k_isPairN : ∀ w ∈ own_k_isPairN, w ∈ lw_tbl := mem_places [617] (by decide +kernel)
set_option maxRecDepth 20000 in
theorem in_k_isPairN : ∀ w ∈ wp_k_isPairN, w ∈ lw_tbl := List.forall_mem_cons.mpr ⟨List.mem_of_getElem? (i := 805) (by decide +kernel), List.forall_mem_append.mpr ⟨inown_k_isPairN, fun _ h => absurd h List.not_mem_nil⟩⟩
set_option maxRecDepth 20000 in
theorem good_k_isPairN : wp_k_isPairN.all goodWord = true := by decide +kernel
set_option maxHeartbeats 4000000 in
set_option maxRecDepth 100000 in
theorem k_isPairN (l : Launch) (D : va_G) (sz : Nat) (cI : ClassId) (z1 : Int32) (z2 : Int32)  : Met l yX10_isPair wp_k_isPairN ({ frames := 0, cells := 0, slots := 0, locals := 0 }) (PcRC D [.int z1, .int z2] sz [] []) (va_Qi (fun (r : Int32) (u : Unit) => (r = 1 ∧ pairC z1 z2) ∨ (r = 0 ∧ ¬ pairC z1 z2)) (fun (_ : Unit) _ => True) (va_A [] sz)) 0 0 (va_A [] sz) := by
  refine Met.ofW (cc := cX10_isPair) (maxL := 2) (ret := (some .boolean)) (by decide) rfl ?_
  intro p e s m args below meth c s₁ B hml hv
  obtain ⟨rfl, hsz, hP, hK, hN⟩ := hv
  have hx := B.exec
  have hb := B.bytes
  have hr := B.returns
  have hts := atoms_spec (ws := wp_k_isPairN) B.pre
  have hown : s.vm.findClass RX10 = some m.cls := findClass_of_methodNamed B.named
  have hlocks := B.notSynchronized
  subst hsz
  generalize hAe : va_A [] s.heap.size = A at ⊢
  have hA : ∀ q : Nat, s.heap.size ≤ q → A q := fun q h => by rw [← hAe]; exact Or.inr h
  have hS : va_S A s.heap s.heap [] := va_S.rf
  have hP : va_P D vwCl [] s.heap := hP
  have hl := lv_entry ([.int z1, .int z2]) (n := 2) (Nat.le_of_ble_eq_true rfl)
  rw [lg_entry_eq]
  generalize (lg_sl ([.int z1, .int z2]) ++ List.replicate (2 - (lg_sl ([.int z1, .int z2])).length) Slot.unset).toArray = ls at hl ⊢
  have hl : lv_has ls 2 [(0, .int z1), (1, .int z2)] := hl
  refine lv_iload_n hx hb dX10_isPair_0 rfl (lv_at hl 0 rfl) ?_
  refine lv_iconst (v := 1) hx hb dX10_isPair_1 (by decide) ?_
  refine lv_icmp_lt (tgt := 27) hx hb dX10_isPair_2 (by decide) (fun hc1 => ?_) (fun hc1 => ?_)
  ·
    refine lv_iconst (v := 0) hx hb dX10_isPair_27 (by decide) ?_
    exact W.zret (v := 0) hx hb hr rfl (fun t ht hW => ⟨⟨0, (), rfl, Or.inr ⟨rfl, fun q => (pairC_n q).1 hc1⟩, trivial⟩, hS.F ht⟩) hS.2.2 dX10_isPair_28
  ·
    refine lv_iload_n hx hb dX10_isPair_5 rfl (lv_at hl 0 rfl) ?_
    refine lv_ldcw (v := 2147483647) hx hb hown (hts (.constant RX10 352 (2147483647)) (List.mem_of_getElem? (i := 1) rfl)) dX10_isPair_6 ?_
    refine lv_icmp_ge (tgt := 27) hx hb dX10_isPair_9 (by decide) (fun hc2 => ?_) (fun hc2 => ?_)
    ·
      refine lv_iconst (v := 0) hx hb dX10_isPair_27 (by decide) ?_
      exact W.zret (v := 0) hx hb hr rfl (fun t ht hW => ⟨⟨0, (), rfl, Or.inr ⟨rfl, fun q => (pairC_n q).2.1 hc2⟩, trivial⟩, hS.F ht⟩) hS.2.2 dX10_isPair_28
    ·
      refine lv_iload_n hx hb dX10_isPair_12 rfl (lv_at hl 1 rfl) ?_
      refine lv_if_lt (tgt := 27) hx hb dX10_isPair_13 (by decide) (fun hc3 => ?_) (fun hc3 => ?_)
      ·
        refine lv_iconst (v := 0) hx hb dX10_isPair_27 (by decide) ?_
        exact W.zret (v := 0) hx hb hr rfl (fun t ht hW => ⟨⟨0, (), rfl, Or.inr ⟨rfl, fun q => (pairC_n q).2.2.1 hc3⟩, trivial⟩, hS.F ht⟩) hS.2.2 dX10_isPair_28
      ·
        refine lv_iload_n hx hb dX10_isPair_16 rfl (lv_at hl 1 rfl) ?_
        refine lv_ldcw (v := 2147483647) hx hb hown (hts (.constant RX10 352 (2147483647)) (List.mem_of_getElem? (i := 1) rfl)) dX10_isPair_17 ?_
        refine lv_icmp_ge (tgt := 27) hx hb dX10_isPair_20 (by decide) (fun hc4 => ?_) (fun hc4 => ?_)
        ·
          refine lv_iconst (v := 0) hx hb dX10_isPair_27 (by decide) ?_
          exact W.zret (v := 0) hx hb hr rfl (fun t ht hW => ⟨⟨0, (), rfl, Or.inr ⟨rfl, fun q => (pairC_n q).2.2.2 hc4⟩, trivial⟩, hS.F ht⟩) hS.2.2 dX10_isPair_28
        ·
          refine lv_iconst (v := 1) hx hb dX10_isPair_23 (by decide) ?_
          refine lv_goto (tgt := 28) hx hb dX10_isPair_24 (by decide) ?_
          exact W.zret (v := 1) hx hb hr rfl (fun t ht hW => ⟨⟨1, (), rfl, Or.inl ⟨rfl, pairC_c hc1 hc2 hc3 hc4⟩, trivial⟩, hS.F ht⟩) hS.2.2 dX10_isPair_28

def own_k_fullestN : List Cond := [.fieldLink RX3 36 "ClashFree$Layout" "buckets" "I", .fieldLink RX3 9 "ClashFree$Layout" "held" "[I"]
def wp_k_fullestN : List Cond := .code yX3_fullest cX3_fullest 3 (some .int) :: (own_k_fullestN ++ (wsX30 ++ ([] : List Cond)))
set_option maxRecDepth 20000 in
theorem inown_k_fullestN : ∀ w ∈ own_k_fullestN, w ∈ lw_tbl := mem_places [178, 191] (by decide +kernel)
set_option maxRecDepth 20000 in
theorem in_k_fullestN : ∀ w ∈ wp_k_fullestN, w ∈ lw_tbl := List.forall_mem_cons.mpr ⟨List.mem_of_getElem? (i := 786) (by decide +kernel), List.forall_mem_append.mpr ⟨inown_k_fullestN, List.forall_mem_append.mpr ⟨lwb_X3, fun _ h => absurd h List.not_mem_nil⟩⟩⟩
set_option maxRecDepth 20000 in
theorem good_k_fullestN : wp_k_fullestN.all goodWord = true := by decide +kernel
set_option maxHeartbeats 4000000 in
set_option maxRecDepth 100000 in
theorem lk_fullestN (l : Launch) {p : Program} {e : Env} {s : State} {m : MethodId} {args : Array Value} {below : List Frame} {meth : Method} {c : Code} {Q : State → Prop} {A : Nat → Prop} (D : va_G) (ob : Nat → Nat) (cI : ClassId) (nb : Nat) (ka : Nat) (kb : Nat) (sm : Int32) (ln : Nat) (fh : Nat → Int32) (hnb : nb ≤ 2048) (hn1 : 1 ≤ nb) (hcc : Hcc fh nb) (hx : p.tables.exec = Jvm.exec) (hb : c.code = cX3_fullest) (hml : c.maxLocals = 3) (hown : s.vm.findClass RX3 = some m.cls) (hts : ∀ w ∈ wp_k_fullestN, w.before args s = true) (hA : ∀ q, s.heap.size ≤ q → A q) (hK : va_K D vwCl [(cI, .int)] s) (hN : NC s) (kx35 : ∀ (y : Nat), ∀ (x : Nat), (y ≤ nb) → (x < nb) → (mxN (hdN fh) y = hdN fh x) → (nb ≤ y) → ∀ (H : Heap) (locs : List Loc) (ls : Array Slot), va_P D vwCl [(ob 5, .inr (3, gY ob (nI nb) (nI ka) (nI kb) sm (nI ln))), (ob 6, .inl (cI, 2048, .inl fh))] H → va_S A s.heap H locs → lv_has ls 3 [(1, .int (nI x))] → W p l e ({ frames := 0, cells := 0, slots := 0, locals := 0 }) s m args below meth c H locs 0 0 Q (F0 m 35 ls [])) : ∀ (N : Nat), ∀ (y : Nat), ∀ (x : Nat), (y ≤ nb) → (x < nb) → (mxN (hdN fh) y = hdN fh x) → nb - y < N → ∀ (H : Heap) (locs : List Loc) (ls : Array Slot), va_P D vwCl [(ob 5, .inr (3, gY ob (nI nb) (nI ka) (nI kb) sm (nI ln))), (ob 6, .inl (cI, 2048, .inl fh))] H → va_S A s.heap H locs → lv_has ls 3 [(2, .int (nI y)), (1, .int (nI x)), (0, .ref (ob 5))] → W p l e ({ frames := 0, cells := 0, slots := 0, locals := 0 }) s m args below meth c H locs 0 0 Q (F0 m 4 ls []) := by
  have hin_X3 : ∀ w ∈ wsX30, w ∈ wp_k_fullestN := fun _ h => (List.mem_cons_of_mem _ (List.mem_append_right _ (List.mem_append_left _ h)))
  intro N
  induction N with
  | zero =>
    intro y x hy1 hx1 hmx hm
    exact absurd hm (Nat.not_lt_zero _)
  | succ N ih =>
    intro y x hy1 hx1 hmx hm H locs ls hP hS hl
    refine lv_iload_n hx hb dX3_fullest_4 rfl (lv_at hl 0 rfl) ?_
    refine lv_aload_n hx hb dX3_fullest_5 rfl (lv_at hl 2 rfl) ?_
    refine va_get (D := D) (ci := 3) (v := .int (nI nb)) (C := RX3) (T := TX3) (N := 13) hx hb hts hin_X3 hown hK hP 0 rfl rfl 0 (by decide) (hts (.fieldLink RX3 36 "ClashFree$Layout" "buckets" "I") (List.mem_of_getElem? (i := 1) rfl)) (fun _ h9 => h9) rfl dX3_fullest_6 ?_
    refine lv_icmp_ge (tgt := 35) hx hb dX3_fullest_9 (by decide) (fun hc1 => ?_) (fun hc1 => ?_)
    ·
      have hlt : nb ≤ y := (nI_leI (by omega) (by omega)).mp hc1
      exact kx35 y x (hy1) (hx1) (hmx) (by omega) H locs ls (hP.sub [0, 1] rfl) hS (lv_sub hl [1] rfl)
    ·
      have hlt : y < nb := by
        rcases Nat.lt_or_ge y (nb) with z | z
        · exact z
        · exact absurd (nI_le z (by omega)) hc1
      refine lv_aload_n hx hb dX3_fullest_12 rfl (lv_at hl 2 rfl) ?_
      refine va_get (D := D) (ci := 3) (v := .ref (ob 6)) (C := RX3) (T := TX3) (N := 13) hx hb hts hin_X3 hown hK hP 0 rfl rfl 5 (by decide) (hts (.fieldLink RX3 9 "ClashFree$Layout" "held" "[I") (List.mem_of_getElem? (i := 2) rfl)) (fun _ h9 => h9) rfl dX3_fullest_13 ?_
      refine lv_iload_n hx hb dX3_fullest_16 rfl (lv_at hl 0 rfl) ?_
      refine va_iald hx hb hK hP 1 0 rfl rfl (vp_in_nI (by omega) (by decide)) dX3_fullest_17 ?_
      refine lv_topi (fun v2 ev2 => ?_)
      obtain rfl : v2 = fh y := ev2.trans (by rw [nI_clamp (by omega)])
      refine lv_aload_n hx hb dX3_fullest_18 rfl (lv_at hl 2 rfl) ?_
      refine va_get (D := D) (ci := 3) (v := .ref (ob 6)) (C := RX3) (T := TX3) (N := 13) hx hb hts hin_X3 hown hK hP 0 rfl rfl 5 (by decide) (hts (.fieldLink RX3 9 "ClashFree$Layout" "held" "[I") (List.mem_of_getElem? (i := 2) rfl)) (fun _ h9 => h9) rfl dX3_fullest_19 ?_
      refine lv_iload_n hx hb dX3_fullest_22 rfl (lv_at hl 1 rfl) ?_
      refine va_iald hx hb hK hP 1 0 rfl rfl (vp_in_nI (by omega) (by decide)) dX3_fullest_23 ?_
      refine lv_topi (fun v3 ev3 => ?_)
      obtain rfl : v3 = fh x := ev3.trans (by rw [nI_clamp (by omega)])
      refine lv_icmp_le (tgt := 29) hx hb dX3_fullest_24 (by decide) (fun hc4 => ?_) (fun hc4 => ?_)
      ·
        have hmq := mx_no hcc hx1 hlt hmx hc4
        refine lv_iinc (v := nI (y + 1)) (lv' := [(2, .int (nI (y + 1))), (1, .int (nI x)), (0, .ref (ob 5))]) hx hb dX3_fullest_29 hl (k := 0) rfl (nI_1 _) (by decide) rfl (fun ls hl => ?_)
        refine lv_goto (tgt := 4) hx hb dX3_fullest_32 (by decide) ?_
        exact ih (y + 1) x (by omega) (by omega) (hmq) (by omega) H locs ls (hP.sub [0, 1] rfl) hS (lv_sub hl [0, 1, 2] rfl)
      ·
        have hmq := mx_up hcc hx1 hlt hmx hc4
        refine lv_iload_n hx hb dX3_fullest_27 rfl (lv_at hl 0 rfl) ?_
        refine lv_istore_n (lv' := [(1, .int (nI y)), (2, .int (nI y)), (0, .ref (ob 5))]) hx hb dX3_fullest_28 rfl hl (by decide) rfl (fun ls hl => ?_)
        refine lv_iinc (v := nI (y + 1)) (lv' := [(2, .int (nI (y + 1))), (1, .int (nI y)), (0, .ref (ob 5))]) hx hb dX3_fullest_29 hl (k := 1) rfl (nI_1 _) (by decide) rfl (fun ls hl => ?_)
        refine lv_goto (tgt := 4) hx hb dX3_fullest_32 (by decide) ?_
        exact ih (y + 1) y (by omega) (by omega) (hmq) (by omega) H locs ls (hP.sub [0, 1] rfl) hS (lv_sub hl [0, 1, 2] rfl)
set_option maxHeartbeats 4000000 in
set_option maxRecDepth 100000 in
theorem k_fullestN (l : Launch) (D : va_G) (sz : Nat) (ob : Nat → Nat) (cI : ClassId) (nb : Nat) (ka : Nat) (kb : Nat) (sm : Int32) (ln : Nat) (fh : Nat → Int32) (hnb : nb ≤ 2048) (hn1 : 1 ≤ nb) (hcc : Hcc fh nb) : Met l yX3_fullest wp_k_fullestN ({ frames := 0, cells := 0, slots := 0, locals := 0 }) (PcRC D [.ref (ob 5)] sz [(ob 5, .inr (3, gY ob (nI nb) (nI ka) (nI kb) sm (nI ln))), (ob 6, .inl (cI, 2048, .inl fh))] [(cI, .int)]) (va_Qi (fun (r : Int32) (u : Unit) => ∃ q, q < nb ∧ r = nI q ∧ hdN fh q = mxN (hdN fh) nb) (fun (_ : Unit) _ => True) (va_A [] sz)) 0 0 (va_A [] sz) := by
  refine Met.ofW (cc := cX3_fullest) (maxL := 3) (ret := (some .int)) (by decide) rfl ?_
  intro p e s m args below meth c s₁ B hml hv
  obtain ⟨rfl, hsz, hP, hK, hN⟩ := hv
  have hx := B.exec
  have hb := B.bytes
  have hr := B.returns
  have hts := atoms_spec (ws := wp_k_fullestN) B.pre
  have hin_X3 : ∀ w ∈ wsX30, w ∈ wp_k_fullestN := fun _ h => (List.mem_cons_of_mem _ (List.mem_append_right _ (List.mem_append_left _ h)))
  have hown : s.vm.findClass RX3 = some m.cls := findClass_of_methodNamed B.named
  have hlocks := B.notSynchronized
  subst hsz
  generalize hAe : va_A [] s.heap.size = A at ⊢
  have hA : ∀ q : Nat, s.heap.size ≤ q → A q := fun q h => by rw [← hAe]; exact Or.inr h
  have hS : va_S A s.heap s.heap [] := va_S.rf
  have hP : va_P D vwCl [(ob 5, .inr (3, gY ob (nI nb) (nI ka) (nI kb) sm (nI ln))), (ob 6, .inl (cI, 2048, .inl fh))] s.heap := hP
  have hl := lv_entry ([.ref (ob 5)]) (n := 3) (Nat.le_of_ble_eq_true rfl)
  rw [lg_entry_eq]
  generalize (lg_sl ([.ref (ob 5)]) ++ List.replicate (3 - (lg_sl ([.ref (ob 5)])).length) Slot.unset).toArray = ls at hl ⊢
  have hl : lv_has ls 3 [(0, .ref (ob 5))] := hl
  refine lv_iconst (v := 0) hx hb dX3_fullest_0 (by decide) ?_
  refine lv_istore_n (lv' := [(1, .int 0), (0, .ref (ob 5))]) hx hb dX3_fullest_1 rfl hl (by decide) rfl (fun ls hl => ?_)
  refine lv_iconst (v := 1) hx hb dX3_fullest_2 (by decide) ?_
  refine lv_istore_n (lv' := [(2, .int 1), (1, .int 0), (0, .ref (ob 5))]) hx hb dX3_fullest_3 rfl hl (by decide) rfl (fun ls hl => ?_)
  refine lk_fullestN l D ob cI nb ka kb sm ln fh (hnb) (hn1) (hcc) hx hb hml hown hts hA (hK.sub [0] rfl) hN ?_ (nb + 1) 1 0 (hn1) (by omega) (mx_1 _) (by omega) _ _ _ (hP.sub [0, 1] rfl) hS (lv_sub hl [0, 1, 2] rfl)
  intro y_1 x_2 hy1_3 hx1_4 hmx_5 hx6 H locs ls hP hS hl
  refine lv_iload_n hx hb dX3_fullest_35 rfl (lv_at hl 0 rfl) ?_
  exact W.iret (v := nI x_2) hx hb hr (fun t ht hW => ⟨⟨nI x_2, (), rfl, ⟨_, hx1_4, rfl, Eq.symm ((show y_1 = nb by omega) ▸ hmx_5)⟩, trivial⟩, hS.F ht⟩) hS.2.2 dX3_fullest_36

def own_k_bwN : List Cond := [.fieldLink RX3 36 "ClashFree$Layout" "buckets" "I", .fieldLink RX3 9 "ClashFree$Layout" "held" "[I"]
def wp_k_bwN : List Cond := .code yX3_bucketsWith cX3_bucketsWith 4 (some .int) :: (own_k_bwN ++ (wsX30 ++ ([] : List Cond)))
set_option maxRecDepth 20000 in
theorem inown_k_bwN : ∀ w ∈ own_k_bwN, w ∈ lw_tbl := mem_places [178, 191] (by decide +kernel)
set_option maxRecDepth 20000 in
theorem in_k_bwN : ∀ w ∈ wp_k_bwN, w ∈ lw_tbl := List.forall_mem_cons.mpr ⟨List.mem_of_getElem? (i := 778) (by decide +kernel), List.forall_mem_append.mpr ⟨inown_k_bwN, List.forall_mem_append.mpr ⟨lwb_X3, fun _ h => absurd h List.not_mem_nil⟩⟩⟩
set_option maxRecDepth 20000 in
theorem good_k_bwN : wp_k_bwN.all goodWord = true := by decide +kernel
set_option maxHeartbeats 4000000 in
set_option maxRecDepth 100000 in
theorem lk_bwN (l : Launch) {p : Program} {e : Env} {s : State} {m : MethodId} {args : Array Value} {below : List Frame} {meth : Method} {c : Code} {Q : State → Prop} {A : Nat → Prop} (D : va_G) (ob : Nat → Nat) (cI : ClassId) (nb : Nat) (ka : Nat) (kb : Nat) (sm : Int32) (ln : Nat) (fh : Nat → Int32) (z1 : Int32) (hnb : nb ≤ 2048) (hcc : Hcc fh nb) (hx : p.tables.exec = Jvm.exec) (hb : c.code = cX3_bucketsWith) (hml : c.maxLocals = 4) (hown : s.vm.findClass RX3 = some m.cls) (hts : ∀ w ∈ wp_k_bwN, w.before args s = true) (hA : ∀ q, s.heap.size ≤ q → A q) (hK : va_K D vwCl [(cI, .int)] s) (hN : NC s) (kx31 : ∀ (y : Nat), ∀ (su : Int32), (y ≤ nb) → (z1 = 0 → su = nI (zeN (hdN fh) y)) → (nb ≤ y) → ∀ (H : Heap) (locs : List Loc) (ls : Array Slot), va_P D vwCl [(ob 5, .inr (3, gY ob (nI nb) (nI ka) (nI kb) sm (nI ln))), (ob 6, .inl (cI, 2048, .inl fh))] H → va_S A s.heap H locs → lv_has ls 4 [(2, .int su)] → W p l e ({ frames := 0, cells := 0, slots := 0, locals := 0 }) s m args below meth c H locs 0 0 Q (F0 m 31 ls [])) : ∀ (N : Nat), ∀ (y : Nat), ∀ (su : Int32), (y ≤ nb) → (z1 = 0 → su = nI (zeN (hdN fh) y)) → nb - y < N → ∀ (H : Heap) (locs : List Loc) (ls : Array Slot), va_P D vwCl [(ob 5, .inr (3, gY ob (nI nb) (nI ka) (nI kb) sm (nI ln))), (ob 6, .inl (cI, 2048, .inl fh))] H → va_S A s.heap H locs → lv_has ls 4 [(3, .int (nI y)), (2, .int su), (0, .ref (ob 5)), (1, .int z1)] → W p l e ({ frames := 0, cells := 0, slots := 0, locals := 0 }) s m args below meth c H locs 0 0 Q (F0 m 4 ls []) := by
  have hin_X3 : ∀ w ∈ wsX30, w ∈ wp_k_bwN := fun _ h => (List.mem_cons_of_mem _ (List.mem_append_right _ (List.mem_append_left _ h)))
  intro N
  induction N with
  | zero =>
    intro y su hy1 hsu hm
    exact absurd hm (Nat.not_lt_zero _)
  | succ N ih =>
    intro y su hy1 hsu hm H locs ls hP hS hl
    refine lv_iload_n hx hb dX3_bucketsWith_4 rfl (lv_at hl 0 rfl) ?_
    refine lv_aload_n hx hb dX3_bucketsWith_5 rfl (lv_at hl 2 rfl) ?_
    refine va_get (D := D) (ci := 3) (v := .int (nI nb)) (C := RX3) (T := TX3) (N := 13) hx hb hts hin_X3 hown hK hP 0 rfl rfl 0 (by decide) (hts (.fieldLink RX3 36 "ClashFree$Layout" "buckets" "I") (List.mem_of_getElem? (i := 1) rfl)) (fun _ h9 => h9) rfl dX3_bucketsWith_6 ?_
    refine lv_icmp_ge (tgt := 31) hx hb dX3_bucketsWith_9 (by decide) (fun hc1 => ?_) (fun hc1 => ?_)
    ·
      have hlt : nb ≤ y := (nI_leI (by omega) (by omega)).mp hc1
      exact kx31 y su (hy1) (hsu) (by omega) H locs ls (hP.sub [0, 1] rfl) hS (lv_sub hl [1] rfl)
    ·
      have hlt : y < nb := by
        rcases Nat.lt_or_ge y (nb) with z | z
        · exact z
        · exact absurd (nI_le z (by omega)) hc1
      refine lv_aload_n hx hb dX3_bucketsWith_12 rfl (lv_at hl 2 rfl) ?_
      refine va_get (D := D) (ci := 3) (v := .ref (ob 6)) (C := RX3) (T := TX3) (N := 13) hx hb hts hin_X3 hown hK hP 0 rfl rfl 5 (by decide) (hts (.fieldLink RX3 9 "ClashFree$Layout" "held" "[I") (List.mem_of_getElem? (i := 2) rfl)) (fun _ h9 => h9) rfl dX3_bucketsWith_13 ?_
      refine lv_iload_n hx hb dX3_bucketsWith_16 rfl (lv_at hl 0 rfl) ?_
      refine va_iald hx hb hK hP 1 0 rfl rfl (vp_in_nI (by omega) (by decide)) dX3_bucketsWith_17 ?_
      refine lv_topi (fun v2 ev2 => ?_)
      obtain rfl : v2 = fh y := ev2.trans (by rw [nI_clamp (by omega)])
      refine lv_iload_n hx hb dX3_bucketsWith_18 rfl (lv_at hl 3 rfl) ?_
      refine lv_icmp_ne (tgt := 25) hx hb dX3_bucketsWith_19 (by decide) (fun hc3 => ?_) (fun hc3 => ?_)
      ·
        have hzq := ze_no hcc hlt hsu hc3
        refine lv_iinc (v := nI (y + 1)) (lv' := [(3, .int (nI (y + 1))), (2, .int su), (0, .ref (ob 5)), (1, .int z1)]) hx hb dX3_bucketsWith_25 hl (k := 0) rfl (nI_1 _) (by decide) rfl (fun ls hl => ?_)
        refine lv_goto (tgt := 4) hx hb dX3_bucketsWith_28 (by decide) ?_
        exact ih (y + 1) su (by omega) (hzq) (by omega) H locs ls (hP.sub [0, 1] rfl) hS (lv_sub hl [0, 1, 2, 3] rfl)
      ·
        have hzq := ze_up hcc hlt hsu hc3
        refine lv_iinc (v := (su + 1)) (lv' := [(2, .int (su + 1)), (3, .int (nI y)), (0, .ref (ob 5)), (1, .int z1)]) hx hb dX3_bucketsWith_22 hl (k := 1) rfl (rfl) (by decide) rfl (fun ls hl => ?_)
        refine lv_iinc (v := nI (y + 1)) (lv' := [(3, .int (nI (y + 1))), (2, .int (su + 1)), (0, .ref (ob 5)), (1, .int z1)]) hx hb dX3_bucketsWith_25 hl (k := 1) rfl (nI_1 _) (by decide) rfl (fun ls hl => ?_)
        refine lv_goto (tgt := 4) hx hb dX3_bucketsWith_28 (by decide) ?_
        exact ih (y + 1) (su + 1) (by omega) (hzq) (by omega) H locs ls (hP.sub [0, 1] rfl) hS (lv_sub hl [0, 1, 2, 3] rfl)
set_option maxHeartbeats 4000000 in
set_option maxRecDepth 100000 in
theorem k_bwN (l : Launch) (D : va_G) (sz : Nat) (ob : Nat → Nat) (cI : ClassId) (nb : Nat) (ka : Nat) (kb : Nat) (sm : Int32) (ln : Nat) (fh : Nat → Int32) (z1 : Int32) (hnb : nb ≤ 2048) (hcc : Hcc fh nb) : Met l yX3_bucketsWith wp_k_bwN ({ frames := 0, cells := 0, slots := 0, locals := 0 }) (PcRC D [.ref (ob 5), .int z1] sz [(ob 5, .inr (3, gY ob (nI nb) (nI ka) (nI kb) sm (nI ln))), (ob 6, .inl (cI, 2048, .inl fh))] [(cI, .int)]) (va_Qi (fun (r : Int32) (u : Unit) => z1 = 0 → r = nI (zeN (hdN fh) nb)) (fun (_ : Unit) _ => True) (va_A [] sz)) 0 0 (va_A [] sz) := by
  refine Met.ofW (cc := cX3_bucketsWith) (maxL := 4) (ret := (some .int)) (by decide) rfl ?_
  intro p e s m args below meth c s₁ B hml hv
  obtain ⟨rfl, hsz, hP, hK, hN⟩ := hv
  have hx := B.exec
  have hb := B.bytes
  have hr := B.returns
  have hts := atoms_spec (ws := wp_k_bwN) B.pre
  have hin_X3 : ∀ w ∈ wsX30, w ∈ wp_k_bwN := fun _ h => (List.mem_cons_of_mem _ (List.mem_append_right _ (List.mem_append_left _ h)))
  have hown : s.vm.findClass RX3 = some m.cls := findClass_of_methodNamed B.named
  have hlocks := B.notSynchronized
  subst hsz
  generalize hAe : va_A [] s.heap.size = A at ⊢
  have hA : ∀ q : Nat, s.heap.size ≤ q → A q := fun q h => by rw [← hAe]; exact Or.inr h
  have hS : va_S A s.heap s.heap [] := va_S.rf
  have hP : va_P D vwCl [(ob 5, .inr (3, gY ob (nI nb) (nI ka) (nI kb) sm (nI ln))), (ob 6, .inl (cI, 2048, .inl fh))] s.heap := hP
  have hl := lv_entry ([.ref (ob 5), .int z1]) (n := 4) (Nat.le_of_ble_eq_true rfl)
  rw [lg_entry_eq]
  generalize (lg_sl ([.ref (ob 5), .int z1]) ++ List.replicate (4 - (lg_sl ([.ref (ob 5), .int z1])).length) Slot.unset).toArray = ls at hl ⊢
  have hl : lv_has ls 4 [(0, .ref (ob 5)), (1, .int z1)] := hl
  refine lv_iconst (v := 0) hx hb dX3_bucketsWith_0 (by decide) ?_
  refine lv_istore_n (lv' := [(2, .int 0), (0, .ref (ob 5)), (1, .int z1)]) hx hb dX3_bucketsWith_1 rfl hl (by decide) rfl (fun ls hl => ?_)
  refine lv_iconst (v := 0) hx hb dX3_bucketsWith_2 (by decide) ?_
  refine lv_istore_n (lv' := [(3, .int 0), (2, .int 0), (0, .ref (ob 5)), (1, .int z1)]) hx hb dX3_bucketsWith_3 rfl hl (by decide) rfl (fun ls hl => ?_)
  refine lk_bwN l D ob cI nb ka kb sm ln fh z1 (hnb) (hcc) hx hb hml hown hts hA (hK.sub [0] rfl) hN ?_ (nb + 1) 0 0 (Nat.zero_le _) (fun _ => rfl) (by omega) _ _ _ (hP.sub [0, 1] rfl) hS (lv_sub hl [0, 1, 2, 3] rfl)
  intro y_1 su_2 hy1_3 hsu_4 hx5 H locs ls hP hS hl
  refine lv_iload_n hx hb dX3_bucketsWith_31 rfl (lv_at hl 0 rfl) ?_
  exact W.iret (v := su_2) hx hb hr (fun t ht hW => ⟨⟨su_2, (), rfl, (show y_1 = nb by omega) ▸ hsu_4, trivial⟩, hS.F ht⟩) hS.2.2 dX3_bucketsWith_32

def own_k_dealN : List Cond := [.fieldLink RX3 54 "ClashFree$Layout" "size" "I", .fieldLink RX3 40 "ClashFree$Layout" "a" "I", .fieldLink RX3 43 "ClashFree$Layout" "b" "I", .fieldLink RX3 75 "ClashFree$Keys" "keys" "[I", .fieldLink RX3 36 "ClashFree$Layout" "buckets" "I", .initialized RX10, .static yX10_spot, .fieldLink RX3 27 "ClashFree$Layout" "home" "[I", .fieldLink RX3 9 "ClashFree$Layout" "held" "[I", .methodLink RX3 60 yX3_sweep, .instanceMethod yX3_sweep, .selects RX3 yX3_sweep yX3_sweep, .initialized RX3, .methodLink RX3 63 Lib.Math.min.name, .static Lib.Math.min.name, .initialized "java/lang/Math", .code Lib.Math.min.name Lib.Math.min.code 2 (some .int), .methodLink RX3 69 Lib.Math.max.name, .static Lib.Math.max.name, .code Lib.Math.max.name Lib.Math.max.code 2 (some .int), .fieldLink RX3 72 "ClashFree$Keys" "size" "I"]
def wp_k_dealN : List Cond := .code yX3_deal cX3_deal 8 (some .int) :: (own_k_dealN ++ (wp_k_spot ++ (wp_k_sweep ++ (wsX30 ++ (wsX20 ++ ([] : List Cond))))))
set_option maxRecDepth 20000 in
theorem inown_k_dealN : ∀ w ∈ own_k_dealN, w ∈ lw_tbl := mem_places [189, 182, 184, 479, 178, 106, 584, 202, 191, 575, 577, 1, 109, 579, 580, 118, 581, 582, 561, 562, 477] (by decide +kernel)
set_option maxRecDepth 20000 in
theorem in_k_dealN : ∀ w ∈ wp_k_dealN, w ∈ lw_tbl := List.forall_mem_cons.mpr ⟨List.mem_of_getElem? (i := 574) (by decide +kernel), List.forall_mem_append.mpr ⟨inown_k_dealN, List.forall_mem_append.mpr ⟨in_k_spot, List.forall_mem_append.mpr ⟨in_k_sweep, List.forall_mem_append.mpr ⟨lwb_X3, List.forall_mem_append.mpr ⟨lwb_X2, fun _ h => absurd h List.not_mem_nil⟩⟩⟩⟩⟩⟩
set_option maxRecDepth 20000 in
theorem good_k_dealN : wp_k_dealN.all goodWord = true := by decide +kernel
set_option maxRecDepth 20000 in
theorem g_k_dealN_k_spot_46 : GoodIn wp_k_dealN (wp_k_spot) := goodIn_sub ((fun _ h => (List.mem_cons_of_mem _ (List.mem_append_right _ (List.mem_append_left _ h))))) (by decide +kernel)
set_option maxRecDepth 20000 in
theorem g_k_dealN_k_sweep_60 : GoodIn wp_k_dealN (wsV RX3 60 RX3 yX3_sweep wp_k_sweep) := goodIn_sub (List.forall_mem_append.mpr ⟨List.forall_mem_cons.mpr ⟨(List.mem_of_getElem? (i := 10) rfl), List.forall_mem_cons.mpr ⟨(List.mem_of_getElem? (i := 11) rfl), List.forall_mem_cons.mpr ⟨(List.mem_of_getElem? (i := 12) rfl), List.forall_mem_cons.mpr ⟨(List.mem_of_getElem? (i := 13) rfl), fun _ h => absurd h List.not_mem_nil⟩⟩⟩⟩, (fun _ h => (List.mem_cons_of_mem _ (List.mem_append_right _ (List.mem_append_right _ (List.mem_append_left _ h)))))⟩) (by decide +kernel)
set_option maxHeartbeats 4000000 in
set_option maxRecDepth 100000 in
theorem lk_dealN (l : Launch) {p : Program} {e : Env} {s : State} {m : MethodId} {args : Array Value} {below : List Frame} {meth : Method} {c : Code} {Q : State → Prop} {A : Nat → Prop} (D : va_G) (ob : Nat → Nat) (oc : Nat → Nat) (cI : ClassId) (sm : Int32) (cn : Nat) (fk : Nat → Int32) (a1 : Nat) (b1 : Nat) (z4 : Int32) (n1 : Nat) (hKc : KyC fk cn) (ha1 : a1 < 2147483647) (hb1 : b1 < 2147483647) (hq1 : 1 ≤ n1) (hq2 : n1 ≤ 2048) (hx : p.tables.exec = Jvm.exec) (hb : c.code = cX3_deal) (hml : c.maxLocals = 8) (hown : s.vm.findClass RX3 = some m.cls) (hts : ∀ w ∈ wp_k_dealN, w.before args s = true) (hA : ∀ q, s.heap.size ≤ q → A q) (hK : va_K D vwCl [(cI, .int)] s) (hN : NC s) (kx119 : ∀ (y : Nat), ∀ (su : Int32), ∀ (gh : Nat → Int32), ∀ (gj : Nat → Int32), (y ≤ cn) → (∀ k, k < y → gj k = nI ((fun k => (a1 * kN fk k + b1) % 2147483647 % n1) k)) → (∀ j, j < 2048 → gh j = nI (cntJ (fun k => (a1 * kN fk k + b1) % 2147483647 % n1) y j)) → (su = nI (sqF (cntJ (fun k => (a1 * kN fk k + b1) % 2147483647 % n1) y) n1)) → (cn ≤ y) → ∀ (H : Heap) (locs : List Loc) (ls : Array Slot), va_P D vwCl [(ob 5, .inr (3, gY ob (nI n1) (nI a1) (nI b1) sm (nI cn))), (ob 6, .inl (cI, 2048, .inl gh)), (ob 10, .inl (cI, 160, .inl gj)), (oc 2, .inr (2, [.int (nI cn), .ref (oc 3), .ref (oc 4)])), (oc 3, .inl (cI, 160, .inl fk))] H → va_D A [(ob 5, .inr (3, gY ob (nI n1) (nI a1) (nI b1) sm (nI cn))), (ob 6, .inl (cI, 2048, .inl gh)), (ob 10, .inl (cI, 160, .inl gj)), (oc 2, .inr (2, [.int (nI cn), .ref (oc 3), .ref (oc 4)])), (oc 3, .inl (cI, 160, .inl fk))] → va_S A s.heap H locs → lv_has ls 8 [(5, .int su)] → W p l e ({ frames := 1, cells := 0, slots := 0, locals := 60 }) s m args below meth c H locs 0 0 Q (F0 m 119 ls [])) : ∀ (N : Nat), ∀ (y : Nat), ∀ (su : Int32), ∀ (gh : Nat → Int32), ∀ (gj : Nat → Int32), (y ≤ cn) → (∀ k, k < y → gj k = nI ((fun k => (a1 * kN fk k + b1) % 2147483647 % n1) k)) → (∀ j, j < 2048 → gh j = nI (cntJ (fun k => (a1 * kN fk k + b1) % 2147483647 % n1) y j)) → (su = nI (sqF (cntJ (fun k => (a1 * kN fk k + b1) % 2147483647 % n1) y) n1)) → cn - y < N → ∀ (H : Heap) (locs : List Loc) (ls : Array Slot), va_P D vwCl [(ob 5, .inr (3, gY ob (nI n1) (nI a1) (nI b1) sm (nI cn))), (ob 6, .inl (cI, 2048, .inl gh)), (ob 10, .inl (cI, 160, .inl gj)), (oc 2, .inr (2, [.int (nI cn), .ref (oc 3), .ref (oc 4)])), (oc 3, .inl (cI, 160, .inl fk))] H → va_D A [(ob 5, .inr (3, gY ob (nI n1) (nI a1) (nI b1) sm (nI cn))), (ob 6, .inl (cI, 2048, .inl gh)), (ob 10, .inl (cI, 160, .inl gj)), (oc 2, .inr (2, [.int (nI cn), .ref (oc 3), .ref (oc 4)])), (oc 3, .inl (cI, 160, .inl fk))] → va_S A s.heap H locs → lv_has ls 8 [(6, .int (nI y)), (5, .int su), (0, .ref (ob 5)), (1, .ref (oc 2)), (2, .int (nI a1)), (3, .int (nI b1)), (4, .int z4)] → W p l e ({ frames := 1, cells := 0, slots := 0, locals := 60 }) s m args below meth c H locs 0 0 Q (F0 m 44 ls []) := by
  have hin_X3 : ∀ w ∈ wsX30, w ∈ wp_k_dealN := fun _ h => (List.mem_cons_of_mem _ (List.mem_append_right _ (List.mem_append_right _ (List.mem_append_right _ (List.mem_append_left _ h)))))
  have hin_X2 : ∀ w ∈ wsX20, w ∈ wp_k_dealN := fun _ h => (List.mem_cons_of_mem _ (List.mem_append_right _ (List.mem_append_right _ (List.mem_append_right _ (List.mem_append_right _ (List.mem_append_left _ h))))))
  intro N
  induction N with
  | zero =>
    intro y su gh gj hy1 h1 h2 hsu hm
    exact absurd hm (Nat.not_lt_zero _)
  | succ N ih =>
    intro y su gh gj hy1 h1 h2 hsu hm H locs ls hP hD hS hl
    have hcn := hKc.1
    refine lv_iload hx hb dX3_deal_44 (lv_at hl 0 rfl) ?_
    refine lv_aload_n hx hb dX3_deal_46 rfl (lv_at hl 2 rfl) ?_
    refine va_get (D := D) (ci := 3) (v := .int (nI cn)) (C := RX3) (T := TX3) (N := 13) hx hb hts hin_X3 hown hK hP 0 rfl rfl 4 (by decide) (hts (.fieldLink RX3 54 "ClashFree$Layout" "size" "I") (List.mem_of_getElem? (i := 1) rfl)) (fun _ h9 => h9) rfl dX3_deal_47 ?_
    refine lv_icmp_ge (tgt := 119) hx hb dX3_deal_50 (by decide) (fun hc1 => ?_) (fun hc1 => ?_)
    ·
      have hlt : cn ≤ y := (nI_leI (by omega) (by omega)).mp hc1
      exact kx119 y su gh gj (hy1) (h1) (h2) (hsu) (by omega) H locs ls (hP.sub [0, 1, 2, 3, 4] rfl) (hD.sub [0, 1, 2, 3, 4] (by decide) rfl) hS (lv_sub hl [1] rfl)
    ·
      have hlt : y < cn := by
        rcases Nat.lt_or_ge y (cn) with z | z
        · exact z
        · exact absurd (nI_le z (by omega)) hc1
      have hkk := hKc.k hlt
      have hJl : ((a1 * kN fk y + b1) % 2147483647 % n1) < n1 := Nat.mod_lt _ (by omega)
      refine lv_aload_n hx hb dX3_deal_53 rfl (lv_at hl 2 rfl) ?_
      refine va_get (D := D) (ci := 3) (v := .int (nI a1)) (C := RX3) (T := TX3) (N := 13) hx hb hts hin_X3 hown hK hP 0 rfl rfl 1 (by decide) (hts (.fieldLink RX3 40 "ClashFree$Layout" "a" "I") (List.mem_of_getElem? (i := 2) rfl)) (fun _ h9 => h9) rfl dX3_deal_54 ?_
      refine lv_aload_n hx hb dX3_deal_57 rfl (lv_at hl 2 rfl) ?_
      refine va_get (D := D) (ci := 3) (v := .int (nI b1)) (C := RX3) (T := TX3) (N := 13) hx hb hts hin_X3 hown hK hP 0 rfl rfl 2 (by decide) (hts (.fieldLink RX3 43 "ClashFree$Layout" "b" "I") (List.mem_of_getElem? (i := 3) rfl)) (fun _ h9 => h9) rfl dX3_deal_58 ?_
      refine lv_aload_n hx hb dX3_deal_61 rfl (lv_at hl 3 rfl) ?_
      refine va_get (D := D) (ci := 2) (v := .ref (oc 3)) (C := RX2) (T := TX2) (N := 3) hx hb hts hin_X2 hown hK hP 3 rfl rfl 1 (by decide) (hts (.fieldLink RX3 75 "ClashFree$Keys" "keys" "[I") (List.mem_of_getElem? (i := 4) rfl)) (fun _ h9 => h9) rfl dX3_deal_62 ?_
      refine lv_iload hx hb dX3_deal_65 (lv_at hl 0 rfl) ?_
      refine va_iald hx hb hK hP 4 0 rfl rfl (vp_in_nI (by omega) (by decide)) dX3_deal_67 ?_
      refine lv_topi (fun v2 ev2 => ?_)
      obtain rfl : v2 = nI (kN fk y) := ev2.trans (by rw [nI_clamp (by omega)]; exact hkk.1)
      refine lv_aload_n hx hb dX3_deal_68 rfl (lv_at hl 2 rfl) ?_
      refine va_get (D := D) (ci := 3) (v := .int (nI n1)) (C := RX3) (T := TX3) (N := 13) hx hb hts hin_X3 hown hK hP 0 rfl rfl 0 (by decide) (hts (.fieldLink RX3 36 "ClashFree$Layout" "buckets" "I") (List.mem_of_getElem? (i := 5) rfl)) (fun _ h9 => h9) rfl dX3_deal_69 ?_
      have hPc := hP.sub (ws' := []) [] rfl
      have hKc := hK.sub (tys' := []) [] rfl
      have hFc := va_free0 hS hA
      refine va_calli (va_runSN (As := [.int (nI a1), .int (nI b1), .int (nI (kN fk y)), .int (nI n1)]) (rest := []) ⟨hx, hb, hml, hown, hts⟩ (k_spot l D _ cI (nI a1) (nI b1) (nI (kN fk y)) (nI n1)) ⟨va_cnB 4 hts g_k_dealN_k_spot_46 rfl rfl rfl hN.2.2.1 (hts (.initialized RX10) (List.mem_of_getElem? (i := 6) rfl)) (by decide +kernel) ⟨(Nat.le_of_ble_eq_true rfl), (Nat.le_of_ble_eq_true rfl)⟩, (hts (.static yX10_spot) (List.mem_of_getElem? (i := 7) rfl)), trivial⟩ (PcRC_S hPc hKc hN) rfl rfl hl.1 rfl (lv_room (Nat.le_of_ble_eq_true rfl)) dX3_deal_72 ⟨(Nat.le_of_ble_eq_true rfl), (Nat.le_of_ble_eq_true rfl)⟩) hS (fun q _ h => hFc q h) hFc (fun r3 uu tt H locs htt hvm hw hB hz1 hk1 hS => ?_)
      have hP := va_keep hP hk1
      try dsimp only at hw
      clear hB hz1 hk1 hFc hPc hKc
      have hsp_r3 := hw
      refine lv_topi (fun v4 ev4 => ?_)
      obtain rfl : v4 = nI ((a1 * kN fk y + b1) % 2147483647 % n1) := ev4.trans (hsp_r3 _ _ _ _ rfl rfl rfl rfl ha1 hb1 (by omega) (by omega) (by omega))
      refine lv_istore (lv' := [(7, .int (nI ((a1 * kN fk y + b1) % 2147483647 % n1))), (6, .int (nI y)), (5, .int su), (0, .ref (ob 5)), (1, .ref (oc 2)), (2, .int (nI a1)), (3, .int (nI b1)), (4, .int z4)]) hx hb dX3_deal_75 hl (by decide) rfl (fun ls hl => ?_)
      refine lv_aload_n hx hb dX3_deal_77 rfl (lv_at hl 3 rfl) ?_
      refine va_get (D := D) (ci := 3) (v := .ref (ob 10)) (C := RX3) (T := TX3) (N := 13) hx hb hts hin_X3 hown hK hP 0 rfl rfl 9 (by decide) (hts (.fieldLink RX3 27 "ClashFree$Layout" "home" "[I") (List.mem_of_getElem? (i := 8) rfl)) (fun _ h9 => h9) rfl dX3_deal_78 ?_
      refine lv_iload hx hb dX3_deal_81 (lv_at hl 1 rfl) ?_
      refine lv_iload hx hb dX3_deal_83 (lv_at hl 0 rfl) ?_
      refine va_iast hx hb hK hP hD hS 2 0 rfl rfl (vp_in_nI (by omega) (by decide)) dX3_deal_85 (fun H locs hP hD hS => ?_)
      have hP : va_P D vwCl [(ob 5, .inr (3, gY ob (nI n1) (nI a1) (nI b1) sm (nI cn))), (ob 6, .inl (cI, 2048, .inl gh)), (ob 10, .inl (cI, 160, .inl (upd gj (Int32.toNatClampNeg (nI y)) (nI ((a1 * kN fk y + b1) % 2147483647 % n1))))), (oc 2, .inr (2, [.int (nI cn), .ref (oc 3), .ref (oc 4)])), (oc 3, .inl (cI, 160, .inl fk))] H := hP
      have hD : va_D A [(ob 5, .inr (3, gY ob (nI n1) (nI a1) (nI b1) sm (nI cn))), (ob 6, .inl (cI, 2048, .inl gh)), (ob 10, .inl (cI, 160, .inl (upd gj (Int32.toNatClampNeg (nI y)) (nI ((a1 * kN fk y + b1) % 2147483647 % n1))))), (oc 2, .inr (2, [.int (nI cn), .ref (oc 3), .ref (oc 4)])), (oc 3, .inl (cI, 160, .inl fk))] := hD
      rw [show (upd gj (Int32.toNatClampNeg (nI y)) (nI ((a1 * kN fk y + b1) % 2147483647 % n1))) = (upd gj y (nI ((a1 * kN fk y + b1) % 2147483647 % n1))) from by rw [nI_clamp (by omega)]] at hP hD
      refine lv_iload hx hb dX3_deal_86 (lv_at hl 2 rfl) ?_
      refine lv_iconst (v := 2) hx hb dX3_deal_88 (by decide) ?_
      refine lv_aload_n hx hb dX3_deal_89 rfl (lv_at hl 3 rfl) ?_
      refine va_get (D := D) (ci := 3) (v := .ref (ob 6)) (C := RX3) (T := TX3) (N := 13) hx hb hts hin_X3 hown hK hP 0 rfl rfl 5 (by decide) (hts (.fieldLink RX3 9 "ClashFree$Layout" "held" "[I") (List.mem_of_getElem? (i := 9) rfl)) (fun _ h9 => h9) rfl dX3_deal_90 ?_
      refine lv_iload hx hb dX3_deal_93 (lv_at hl 0 rfl) ?_
      refine va_iald hx hb hK hP 1 0 rfl rfl (vp_in_nI (by omega) (by decide)) dX3_deal_95 ?_
      refine lv_topi (fun v5 ev5 => ?_)
      obtain rfl : v5 = nI (cntJ (fun k => (a1 * kN fk k + b1) % 2147483647 % n1) y ((a1 * kN fk y + b1) % 2147483647 % n1)) := ev5.trans (by rw [nI_clamp (by omega)]; exact h2 _ (by omega))
      refine lv_imul hx hb dX3_deal_96 ?_
      refine lv_topi (fun v6 ev6 => ?_)
      obtain rfl : v6 = nI (2 * cntJ (fun k => (a1 * kN fk k + b1) % 2147483647 % n1) y ((a1 * kN fk y + b1) % 2147483647 % n1)) := ev6.trans (pk_mul 2 _)
      refine lv_iconst (v := 1) hx hb dX3_deal_97 (by decide) ?_
      refine lv_iadd hx hb dX3_deal_98 ?_
      refine lv_topi (fun v7 ev7 => ?_)
      obtain rfl : v7 = nI (2 * cntJ (fun k => (a1 * kN fk k + b1) % 2147483647 % n1) y ((a1 * kN fk y + b1) % 2147483647 % n1) + 1) := ev7.trans (nI_1 _)
      refine lv_iadd hx hb dX3_deal_99 ?_
      refine lv_topi (fun v8 ev8 => ?_)
      obtain rfl : v8 = nI (sqF (cntJ (fun k => (a1 * kN fk k + b1) % 2147483647 % n1) (y + 1)) n1) := ev8.trans (dl_sq (J := (fun k => (a1 * kN fk k + b1) % 2147483647 % n1)) hsu hJl)
      refine lv_istore (lv' := [(5, .int (nI (sqF (cntJ (fun k => (a1 * kN fk k + b1) % 2147483647 % n1) (y + 1)) n1))), (7, .int (nI ((a1 * kN fk y + b1) % 2147483647 % n1))), (6, .int (nI y)), (0, .ref (ob 5)), (1, .ref (oc 2)), (2, .int (nI a1)), (3, .int (nI b1)), (4, .int z4)]) hx hb dX3_deal_100 hl (by decide) rfl (fun ls hl => ?_)
      refine lv_aload_n hx hb dX3_deal_102 rfl (lv_at hl 3 rfl) ?_
      refine va_get (D := D) (ci := 3) (v := .ref (ob 6)) (C := RX3) (T := TX3) (N := 13) hx hb hts hin_X3 hown hK hP 0 rfl rfl 5 (by decide) (hts (.fieldLink RX3 9 "ClashFree$Layout" "held" "[I") (List.mem_of_getElem? (i := 9) rfl)) (fun _ h9 => h9) rfl dX3_deal_103 ?_
      refine lv_iload hx hb dX3_deal_106 (lv_at hl 1 rfl) ?_
      refine lv_dup2_11 hx hb dX3_deal_108 rfl rfl ?_
      refine va_iald hx hb hK hP 1 0 rfl rfl (vp_in_nI (by omega) (by decide)) dX3_deal_109 ?_
      refine lv_topi (fun v9 ev9 => ?_)
      obtain rfl : v9 = nI (cntJ (fun k => (a1 * kN fk k + b1) % 2147483647 % n1) y ((a1 * kN fk y + b1) % 2147483647 % n1)) := ev9.trans (by rw [nI_clamp (by omega)]; exact h2 _ (by omega))
      refine lv_iconst (v := 1) hx hb dX3_deal_110 (by decide) ?_
      refine lv_iadd hx hb dX3_deal_111 ?_
      refine lv_topi (fun v10 ev10 => ?_)
      obtain rfl : v10 = nI (cntJ (fun k => (a1 * kN fk k + b1) % 2147483647 % n1) y ((a1 * kN fk y + b1) % 2147483647 % n1) + 1) := ev10.trans (nI_1 _)
      refine va_iast hx hb hK hP hD hS 1 0 rfl rfl (vp_in_nI (by omega) (by decide)) dX3_deal_112 (fun H locs hP hD hS => ?_)
      have hP : va_P D vwCl [(ob 5, .inr (3, gY ob (nI n1) (nI a1) (nI b1) sm (nI cn))), (ob 6, .inl (cI, 2048, .inl (upd gh (Int32.toNatClampNeg (nI ((a1 * kN fk y + b1) % 2147483647 % n1))) (nI (cntJ (fun k => (a1 * kN fk k + b1) % 2147483647 % n1) y ((a1 * kN fk y + b1) % 2147483647 % n1) + 1))))), (ob 10, .inl (cI, 160, .inl (upd gj y (nI ((a1 * kN fk y + b1) % 2147483647 % n1))))), (oc 2, .inr (2, [.int (nI cn), .ref (oc 3), .ref (oc 4)])), (oc 3, .inl (cI, 160, .inl fk))] H := hP
      have hD : va_D A [(ob 5, .inr (3, gY ob (nI n1) (nI a1) (nI b1) sm (nI cn))), (ob 6, .inl (cI, 2048, .inl (upd gh (Int32.toNatClampNeg (nI ((a1 * kN fk y + b1) % 2147483647 % n1))) (nI (cntJ (fun k => (a1 * kN fk k + b1) % 2147483647 % n1) y ((a1 * kN fk y + b1) % 2147483647 % n1) + 1))))), (ob 10, .inl (cI, 160, .inl (upd gj y (nI ((a1 * kN fk y + b1) % 2147483647 % n1))))), (oc 2, .inr (2, [.int (nI cn), .ref (oc 3), .ref (oc 4)])), (oc 3, .inl (cI, 160, .inl fk))] := hD
      rw [show (upd gh (Int32.toNatClampNeg (nI ((a1 * kN fk y + b1) % 2147483647 % n1))) (nI (cntJ (fun k => (a1 * kN fk k + b1) % 2147483647 % n1) y ((a1 * kN fk y + b1) % 2147483647 % n1) + 1))) = (upd gh ((a1 * kN fk y + b1) % 2147483647 % n1) (nI (cntJ (fun k => (a1 * kN fk k + b1) % 2147483647 % n1) y ((a1 * kN fk y + b1) % 2147483647 % n1) + 1))) from by rw [nI_clamp (by omega)]] at hP hD
      refine lv_iinc (v := nI (y + 1)) (lv' := [(6, .int (nI (y + 1))), (5, .int (nI (sqF (cntJ (fun k => (a1 * kN fk k + b1) % 2147483647 % n1) (y + 1)) n1))), (7, .int (nI ((a1 * kN fk y + b1) % 2147483647 % n1))), (0, .ref (ob 5)), (1, .ref (oc 2)), (2, .int (nI a1)), (3, .int (nI b1)), (4, .int z4)]) hx hb dX3_deal_113 hl (k := 2) rfl (nI_1 _) (by decide) rfl (fun ls hl => ?_)
      refine lv_goto (tgt := 44) hx hb dX3_deal_116 (by decide) ?_
      exact ih (y + 1) (nI (sqF (cntJ (fun k => (a1 * kN fk k + b1) % 2147483647 % n1) (y + 1)) n1)) (upd gh ((a1 * kN fk y + b1) % 2147483647 % n1) (nI (cntJ (fun k => (a1 * kN fk k + b1) % 2147483647 % n1) y ((a1 * kN fk y + b1) % 2147483647 % n1) + 1))) (upd gj y (nI ((a1 * kN fk y + b1) % 2147483647 % n1))) (by omega) ((dl_step (J := (fun k => (a1 * kN fk k + b1) % 2147483647 % n1)) h1 h2).1) ((dl_step (J := (fun k => (a1 * kN fk k + b1) % 2147483647 % n1)) h1 h2).2) (rfl) (by omega) H locs ls (hP.sub [0, 1, 2, 3, 4] rfl) (hD.sub [0, 1, 2, 3, 4] (by decide) rfl) hS (lv_sub hl [0, 1, 3, 4, 5, 6, 7] rfl)
set_option maxHeartbeats 4000000 in
set_option maxRecDepth 100000 in
theorem k_dealN (l : Launch) (D : va_G) (sz : Nat) (ob : Nat → Nat) (oc : Nat → Nat) (cI : ClassId) (nb : Nat) (ka : Nat) (kb : Nat) (sm : Int32) (ln : Nat) (fh : Nat → Int32) (fj : Nat → Int32) (cn : Nat) (fk : Nat → Int32) (a1 : Nat) (b1 : Nat) (z4 : Int32) (hL : LyH fj fh nb ln) (hKc : KyC fk cn) (ha1 : a1 < 2147483647) (hb1 : b1 < 2147483647) : Met l yX3_deal wp_k_dealN ({ frames := 1, cells := 0, slots := 0, locals := 60 }) (PcWC D [.ref (ob 5), .ref (oc 2), .int (nI a1), .int (nI b1), .int z4] sz [(ob 5, .inr (3, gY ob (nI nb) (nI ka) (nI kb) sm (nI ln))), (ob 6, .inl (cI, 2048, .inl fh)), (ob 10, .inl (cI, 160, .inl fj)), (oc 2, .inr (2, [.int (nI cn), .ref (oc 3), .ref (oc 4)])), (oc 3, .inl (cI, 160, .inl fk))] [(cI, .int)]) (va_Qi (fun (r : Int32) (u : (Nat) × (Nat) × (Nat) × (Nat) × (Nat → Int32) × (Nat → Int32)) => LyH u.2.2.2.2.2 u.2.2.2.2.1 u.1 u.2.2.2.1 ∧ dealQ a1 b1 fk cn z4 u.2.2.2.2.1 u.1 r) (fun (u : (Nat) × (Nat) × (Nat) × (Nat) × (Nat → Int32) × (Nat → Int32)) t => va_P D vwCl [(ob 5, .inr (3, gY ob (nI u.1) (nI u.2.1) (nI u.2.2.1) sm (nI u.2.2.2.1))), (ob 6, .inl (cI, 2048, .inl u.2.2.2.2.1)), (ob 10, .inl (cI, 160, .inl u.2.2.2.2.2)), (oc 2, .inr (2, [.int (nI cn), .ref (oc 3), .ref (oc 4)])), (oc 3, .inl (cI, 160, .inl fk))] t.heap ∧ va_K D vwCl [(cI, .int)] t ∧ va_D (va_A [(ob 5, .inr (3, gY ob (nI nb) (nI ka) (nI kb) sm (nI ln))), (ob 6, .inl (cI, 2048, .inl fh)), (ob 10, .inl (cI, 160, .inl fj)), (oc 2, .inr (2, [.int (nI cn), .ref (oc 3), .ref (oc 4)])), (oc 3, .inl (cI, 160, .inl fk))] sz) [(ob 5, .inr (3, gY ob (nI u.1) (nI u.2.1) (nI u.2.2.1) sm (nI u.2.2.2.1))), (ob 6, .inl (cI, 2048, .inl u.2.2.2.2.1)), (ob 10, .inl (cI, 160, .inl u.2.2.2.2.2)), (oc 2, .inr (2, [.int (nI cn), .ref (oc 3), .ref (oc 4)])), (oc 3, .inl (cI, 160, .inl fk))]) (va_A [(ob 5, .inr (3, gY ob (nI nb) (nI ka) (nI kb) sm (nI ln))), (ob 6, .inl (cI, 2048, .inl fh)), (ob 10, .inl (cI, 160, .inl fj)), (oc 2, .inr (2, [.int (nI cn), .ref (oc 3), .ref (oc 4)])), (oc 3, .inl (cI, 160, .inl fk))] sz)) 0 0 (va_A [(ob 5, .inr (3, gY ob (nI nb) (nI ka) (nI kb) sm (nI ln))), (ob 6, .inl (cI, 2048, .inl fh)), (ob 10, .inl (cI, 160, .inl fj)), (oc 2, .inr (2, [.int (nI cn), .ref (oc 3), .ref (oc 4)])), (oc 3, .inl (cI, 160, .inl fk))] sz) := by
  refine Met.ofW (cc := cX3_deal) (maxL := 8) (ret := (some .int)) (by decide) rfl ?_
  intro p e s m args below meth c s₁ B hml hv
  obtain ⟨rfl, hsz, hP, hK, hD0, hN⟩ := hv
  have hx := B.exec
  have hb := B.bytes
  have hr := B.returns
  have hts := atoms_spec (ws := wp_k_dealN) B.pre
  have hin_X3 : ∀ w ∈ wsX30, w ∈ wp_k_dealN := fun _ h => (List.mem_cons_of_mem _ (List.mem_append_right _ (List.mem_append_right _ (List.mem_append_right _ (List.mem_append_left _ h)))))
  have hin_X2 : ∀ w ∈ wsX20, w ∈ wp_k_dealN := fun _ h => (List.mem_cons_of_mem _ (List.mem_append_right _ (List.mem_append_right _ (List.mem_append_right _ (List.mem_append_right _ (List.mem_append_left _ h))))))
  have hown : s.vm.findClass RX3 = some m.cls := findClass_of_methodNamed B.named
  have hlocks := B.notSynchronized
  subst hsz
  have hD := hD0.self (sz := s.heap.size)
  generalize hAe : va_A [(ob 5, .inr (3, gY ob (nI nb) (nI ka) (nI kb) sm (nI ln))), (ob 6, .inl (cI, 2048, .inl fh)), (ob 10, .inl (cI, 160, .inl fj)), (oc 2, .inr (2, [.int (nI cn), .ref (oc 3), .ref (oc 4)])), (oc 3, .inl (cI, 160, .inl fk))] s.heap.size = A at hD ⊢
  have hA : ∀ q : Nat, s.heap.size ≤ q → A q := fun q h => by rw [← hAe]; exact Or.inr h
  have hS : va_S A s.heap s.heap [] := va_S.rf
  have hP : va_P D vwCl [(ob 5, .inr (3, gY ob (nI nb) (nI ka) (nI kb) sm (nI ln))), (ob 6, .inl (cI, 2048, .inl fh)), (ob 10, .inl (cI, 160, .inl fj)), (oc 2, .inr (2, [.int (nI cn), .ref (oc 3), .ref (oc 4)])), (oc 3, .inl (cI, 160, .inl fk))] s.heap := hP
  have hl := lv_entry ([.ref (ob 5), .ref (oc 2), .int (nI a1), .int (nI b1), .int z4]) (n := 8) (Nat.le_of_ble_eq_true rfl)
  rw [lg_entry_eq]
  generalize (lg_sl ([.ref (ob 5), .ref (oc 2), .int (nI a1), .int (nI b1), .int z4]) ++ List.replicate (8 - (lg_sl ([.ref (ob 5), .ref (oc 2), .int (nI a1), .int (nI b1), .int z4])).length) Slot.unset).toArray = ls at hl ⊢
  have hl : lv_has ls 8 [(0, .ref (ob 5)), (1, .ref (oc 2)), (2, .int (nI a1)), (3, .int (nI b1)), (4, .int z4)] := hl
  have hcn := hKc.1
  refine lv_aload_n hx hb dX3_deal_0 rfl (lv_at hl 0 rfl) ?_
  have hPc := hP.sub (ws' := [(ob 5, .inr (3, gY ob (nI nb) (nI ka) (nI kb) sm (nI ln))), (ob 6, .inl (cI, 2048, .inl fh)), (ob 10, .inl (cI, 160, .inl fj))]) [0, 1, 2] rfl
  have hKc := hK.sub (tys' := [(cI, .int)]) [0] rfl
  have hDc := hD.sub (ws' := [(ob 5, .inr (3, gY ob (nI nb) (nI ka) (nI kb) sm (nI ln))), (ob 6, .inl (cI, 2048, .inl fh)), (ob 10, .inl (cI, 160, .inl fj))]) [0, 1, 2] (by decide) rfl
  have hFc := va_free (wc := [(ob 5, .inr (3, gY ob (nI nb) (nI ka) (nI kb) sm (nI ln))), (ob 6, .inl (cI, 2048, .inl fh)), (ob 10, .inl (cI, 160, .inl fj))]) hD hS hA [0, 1, 2] rfl
  refine va_callv (va_runV (As := []) (rest := []) ⟨hx, hb, hml, hown, hts⟩ (k_sweep l D _ ob cI nb ka kb sm ln fh fj hL) (cwV 0 hts g_k_dealN_k_sweep_60 rfl rfl rfl (by decide +kernel) ⟨(Nat.le_of_ble_eq_true rfl), (Nat.le_of_ble_eq_true rfl)⟩) (PcWC_V (q0 := 0) hPc hKc hDc hN rfl rfl) rfl rfl hl.1 rfl (lv_room (Nat.le_of_ble_eq_true rfl)) dX3_deal_1 ⟨(Nat.le_of_ble_eq_true rfl), (Nat.le_of_ble_eq_true rfl)⟩) hS (fun q _ h => hFc q h) hFc (fun uu tt H locs htt hvm hw hB hz1 hk1 hS => ?_)
  obtain ⟨w2, rfl⟩ : ∃ z, z = uu := ⟨_, rfl⟩
  obtain ⟨hP1, hK1, hD1⟩ := hB
  rw [htt] at hP1
  have hK1 := va_K.moved hvm.symm hK1
  have hP1 : va_P D vwCl [(ob 5, .inr (3, gY ob (nI nb) (nI ka) (nI kb) sm (nI ln))), (ob 6, .inl (cI, 2048, .inl w2)), (ob 10, .inl (cI, 160, .inl fj))] H := hP1
  obtain ⟨hP, hD⟩ := va_join (wr := [(oc 2, .inr (2, [.int (nI cn), .ref (oc 3), .ref (oc 4)])), (oc 3, .inl (cI, 160, .inl fk))]) (w1 := [(ob 5, .inr (3, gY ob (nI nb) (nI ka) (nI kb) sm (nI ln))), (ob 6, .inl (cI, 2048, .inl w2)), (ob 10, .inl (cI, 160, .inl fj))]) hP hD [0, 1, 2] [3, 4] rfl rfl (by decide) (by decide) hk1 hFc hP1 hD1
  have hP : va_P D vwCl [(oc 2, .inr (2, [.int (nI cn), .ref (oc 3), .ref (oc 4)])), (oc 3, .inl (cI, 160, .inl fk)), (ob 5, .inr (3, gY ob (nI nb) (nI ka) (nI kb) sm (nI ln))), (ob 6, .inl (cI, 2048, .inl w2)), (ob 10, .inl (cI, 160, .inl fj))] H := hP
  have hD : va_D A [(oc 2, .inr (2, [.int (nI cn), .ref (oc 3), .ref (oc 4)])), (oc 3, .inl (cI, 160, .inl fk)), (ob 5, .inr (3, gY ob (nI nb) (nI ka) (nI kb) sm (nI ln))), (ob 6, .inl (cI, 2048, .inl w2)), (ob 10, .inl (cI, 160, .inl fj))] := hD
  try dsimp only at hw
  clear hz1 hk1 hFc hPc hKc hDc
  have hz0 := hw
  refine lv_aload_n hx hb dX3_deal_4 rfl (lv_at hl 0 rfl) ?_
  refine lv_iconst (v := 1) hx hb dX3_deal_5 (by decide) ?_
  refine lv_sipush (v := 2048) hx hb dX3_deal_6 (by decide) ?_
  refine lv_iload hx hb dX3_deal_9 (lv_at hl 4 rfl) ?_
  refine va_mmin hx hb (hml.trans hl.1.symm) hown (hts (.methodLink RX3 63 Lib.Math.min.name) (List.mem_of_getElem? (i := 14) rfl)) (hts (.static Lib.Math.min.name) (List.mem_of_getElem? (i := 15) rfl)) (hts (.initialized "java/lang/Math") (List.mem_of_getElem? (i := 16) rfl)) (hts (.code Lib.Math.min.name Lib.Math.min.code 2 (some .int)) (List.mem_of_getElem? (i := 17) rfl)) (Nat.le_of_ble_eq_true rfl) (Nat.le_of_ble_eq_true rfl) (Nat.le_of_ble_eq_true rfl) (Nat.le_of_ble_eq_true rfl) dX3_deal_11 ?_
  refine lv_topi (fun v3 ev3 => ?_)
  refine va_mmax hx hb (hml.trans hl.1.symm) hown (hts (.methodLink RX3 69 Lib.Math.max.name) (List.mem_of_getElem? (i := 18) rfl)) (hts (.static Lib.Math.max.name) (List.mem_of_getElem? (i := 19) rfl)) (hts (.initialized "java/lang/Math") (List.mem_of_getElem? (i := 16) rfl)) (hts (.code Lib.Math.max.name Lib.Math.max.code 2 (some .int)) (List.mem_of_getElem? (i := 20) rfl)) (Nat.le_of_ble_eq_true rfl) (Nat.le_of_ble_eq_true rfl) (Nat.le_of_ble_eq_true rfl) (Nat.le_of_ble_eq_true rfl) dX3_deal_14 ?_
  refine lv_topi (fun v4 ev4 => ?_)
  obtain ⟨n1, hq1, hq2, rfl, hqn⟩ : ∃ q, 1 ≤ q ∧ q ≤ 2048 ∧ v4 = nI q ∧ ∀ n, z4 = nI n → 1 ≤ n → n ≤ 2048 → q = n := by
    obtain ⟨q, z1, z2, z3, z9⟩ := clampN2 z4
    exact ⟨q, z1, z2, (ev4.trans (by rw [ev3])).trans z3, z9⟩
  refine va_put (D := D) (ci := 3) (v := .int (nI n1)) (ty := .int) (C := RX3) (T := TX3) (N := 13) hx hb hts hin_X3 tyX3 tyX3_ok nmX3 hown hK hP hD hS 2 rfl rfl 0 (by decide) (hts (.fieldLink RX3 36 "ClashFree$Layout" "buckets" "I") (List.mem_of_getElem? (i := 5) rfl)) (fun _ h9 => h9) rfl (by decide +kernel) rfl rfl (Nat.le_of_ble_eq_true rfl) dX3_deal_17 (fun H locs hP hD hS => ?_)
  have hP : va_P D vwCl [(oc 2, .inr (2, [.int (nI cn), .ref (oc 3), .ref (oc 4)])), (oc 3, .inl (cI, 160, .inl fk)), (ob 5, .inr (3, gY ob (nI n1) (nI ka) (nI kb) sm (nI ln))), (ob 6, .inl (cI, 2048, .inl w2)), (ob 10, .inl (cI, 160, .inl fj))] H := hP
  have hD : va_D A [(oc 2, .inr (2, [.int (nI cn), .ref (oc 3), .ref (oc 4)])), (oc 3, .inl (cI, 160, .inl fk)), (ob 5, .inr (3, gY ob (nI n1) (nI ka) (nI kb) sm (nI ln))), (ob 6, .inl (cI, 2048, .inl w2)), (ob 10, .inl (cI, 160, .inl fj))] := hD
  refine lv_aload_n hx hb dX3_deal_20 rfl (lv_at hl 0 rfl) ?_
  refine lv_iload_n hx hb dX3_deal_21 rfl (lv_at hl 2 rfl) ?_
  refine va_put (D := D) (ci := 3) (v := .int (nI a1)) (ty := .int) (C := RX3) (T := TX3) (N := 13) hx hb hts hin_X3 tyX3 tyX3_ok nmX3 hown hK hP hD hS 2 rfl rfl 1 (by decide) (hts (.fieldLink RX3 40 "ClashFree$Layout" "a" "I") (List.mem_of_getElem? (i := 2) rfl)) (fun _ h9 => h9) rfl (by decide +kernel) rfl rfl (Nat.le_of_ble_eq_true rfl) dX3_deal_22 (fun H locs hP hD hS => ?_)
  have hP : va_P D vwCl [(oc 2, .inr (2, [.int (nI cn), .ref (oc 3), .ref (oc 4)])), (oc 3, .inl (cI, 160, .inl fk)), (ob 5, .inr (3, gY ob (nI n1) (nI a1) (nI kb) sm (nI ln))), (ob 6, .inl (cI, 2048, .inl w2)), (ob 10, .inl (cI, 160, .inl fj))] H := hP
  have hD : va_D A [(oc 2, .inr (2, [.int (nI cn), .ref (oc 3), .ref (oc 4)])), (oc 3, .inl (cI, 160, .inl fk)), (ob 5, .inr (3, gY ob (nI n1) (nI a1) (nI kb) sm (nI ln))), (ob 6, .inl (cI, 2048, .inl w2)), (ob 10, .inl (cI, 160, .inl fj))] := hD
  refine lv_aload_n hx hb dX3_deal_25 rfl (lv_at hl 0 rfl) ?_
  refine lv_iload_n hx hb dX3_deal_26 rfl (lv_at hl 3 rfl) ?_
  refine va_put (D := D) (ci := 3) (v := .int (nI b1)) (ty := .int) (C := RX3) (T := TX3) (N := 13) hx hb hts hin_X3 tyX3 tyX3_ok nmX3 hown hK hP hD hS 2 rfl rfl 2 (by decide) (hts (.fieldLink RX3 43 "ClashFree$Layout" "b" "I") (List.mem_of_getElem? (i := 3) rfl)) (fun _ h9 => h9) rfl (by decide +kernel) rfl rfl (Nat.le_of_ble_eq_true rfl) dX3_deal_27 (fun H locs hP hD hS => ?_)
  have hP : va_P D vwCl [(oc 2, .inr (2, [.int (nI cn), .ref (oc 3), .ref (oc 4)])), (oc 3, .inl (cI, 160, .inl fk)), (ob 5, .inr (3, gY ob (nI n1) (nI a1) (nI b1) sm (nI ln))), (ob 6, .inl (cI, 2048, .inl w2)), (ob 10, .inl (cI, 160, .inl fj))] H := hP
  have hD : va_D A [(oc 2, .inr (2, [.int (nI cn), .ref (oc 3), .ref (oc 4)])), (oc 3, .inl (cI, 160, .inl fk)), (ob 5, .inr (3, gY ob (nI n1) (nI a1) (nI b1) sm (nI ln))), (ob 6, .inl (cI, 2048, .inl w2)), (ob 10, .inl (cI, 160, .inl fj))] := hD
  refine lv_aload_n hx hb dX3_deal_30 rfl (lv_at hl 0 rfl) ?_
  refine lv_aload_n hx hb dX3_deal_31 rfl (lv_at hl 1 rfl) ?_
  refine va_get (D := D) (ci := 2) (v := .int (nI cn)) (C := RX2) (T := TX2) (N := 3) hx hb hts hin_X2 hown hK hP 0 rfl rfl 0 (by decide) (hts (.fieldLink RX3 72 "ClashFree$Keys" "size" "I") (List.mem_of_getElem? (i := 21) rfl)) (fun _ h9 => h9) rfl dX3_deal_32 ?_
  refine va_put (D := D) (ci := 3) (v := .int (nI cn)) (ty := .int) (C := RX3) (T := TX3) (N := 13) hx hb hts hin_X3 tyX3 tyX3_ok nmX3 hown hK hP hD hS 2 rfl rfl 4 (by decide) (hts (.fieldLink RX3 54 "ClashFree$Layout" "size" "I") (List.mem_of_getElem? (i := 1) rfl)) (fun _ h9 => h9) rfl (by decide +kernel) rfl rfl (Nat.le_of_ble_eq_true rfl) dX3_deal_35 (fun H locs hP hD hS => ?_)
  have hP : va_P D vwCl [(oc 2, .inr (2, [.int (nI cn), .ref (oc 3), .ref (oc 4)])), (oc 3, .inl (cI, 160, .inl fk)), (ob 5, .inr (3, gY ob (nI n1) (nI a1) (nI b1) sm (nI cn))), (ob 6, .inl (cI, 2048, .inl w2)), (ob 10, .inl (cI, 160, .inl fj))] H := hP
  have hD : va_D A [(oc 2, .inr (2, [.int (nI cn), .ref (oc 3), .ref (oc 4)])), (oc 3, .inl (cI, 160, .inl fk)), (ob 5, .inr (3, gY ob (nI n1) (nI a1) (nI b1) sm (nI cn))), (ob 6, .inl (cI, 2048, .inl w2)), (ob 10, .inl (cI, 160, .inl fj))] := hD
  refine lv_iconst (v := 0) hx hb dX3_deal_38 (by decide) ?_
  refine lv_istore (lv' := [(5, .int 0), (0, .ref (ob 5)), (1, .ref (oc 2)), (2, .int (nI a1)), (3, .int (nI b1)), (4, .int z4)]) hx hb dX3_deal_39 hl (by decide) rfl (fun ls hl => ?_)
  refine lv_iconst (v := 0) hx hb dX3_deal_41 (by decide) ?_
  refine lv_istore (lv' := [(6, .int 0), (5, .int 0), (0, .ref (ob 5)), (1, .ref (oc 2)), (2, .int (nI a1)), (3, .int (nI b1)), (4, .int z4)]) hx hb dX3_deal_42 hl (by decide) rfl (fun ls hl => ?_)
  refine lk_dealN l D ob oc cI sm cn fk a1 b1 z4 n1 (hKc) (ha1) (hb1) (hq1) (hq2) hx hb hml hown hts hA (hK.sub [0] rfl) hN ?_ (cn + 1) 0 0 w2 fj (Nat.zero_le _) (fun k hk => absurd hk (Nat.not_lt_zero _)) (fun j hj => hz0 j hj) (sq_0 _) (by omega) _ _ _ (hP.sub [2, 3, 4, 0, 1] rfl) (hD.sub [2, 3, 4, 0, 1] (by decide) rfl) hS (lv_sub hl [0, 1, 2, 3, 4, 5, 6] rfl)
  intro y_5 su_6 gh_7 gj_8 hy1_9 h1_10 h2_11 hsu_12 hx13 H locs ls hP hD hS hl
  refine lv_iload hx hb dX3_deal_119 (lv_at hl 0 rfl) ?_
  exact W.iret (v := su_6) hx hb hr (fun t ht hW => ⟨⟨su_6, (n1, a1, b1, cn, gh_7, gj_8), rfl, (by (try dsimp only); first | done | exact ⟨⟨hq2, hKc.1, _, fun k hk => ⟨h1_10 k (by omega), Nat.mod_lt _ (by omega)⟩, (show y_5 = cn by omega) ▸ h2_11⟩, hq1, fun nn e9 g1 g2 => hqn nn e9 g1 g2 ▸ ⟨rfl, (show y_5 = cn by omega) ▸ hsu_12, (show y_5 = cn by omega) ▸ h2_11⟩⟩), by rw [ht]; exact hP.sub [0, 1, 2, 3, 4] rfl, va_K.moved hW.alike (hK.sub [0] rfl), hD.sub [0, 1, 2, 3, 4] (by decide) rfl⟩, hS.F ht⟩) hS.2.2 dX3_deal_121

def own_k_dealtN : List Cond := [.fieldLink RX5 21 "ClashFree$Paper" "layout" "LClashFree$Layout;", .methodLink RX5 25 yX3_deal, .instanceMethod yX3_deal, .selects RX3 yX3_deal yX3_deal, .initialized RX3, .fieldLink RX5 29 "ClashFree$Layout" "held" "[I", .methodLink RX5 33 yX3_fullest, .instanceMethod yX3_fullest, .selects RX3 yX3_fullest yX3_fullest, .methodLink RX5 37 yX3_bucketsWith, .instanceMethod yX3_bucketsWith, .selects RX3 yX3_bucketsWith yX3_bucketsWith]
def wp_k_dealtN : List Cond := .code yX5_dealt cX5_dealt 7 (some .int) :: (own_k_dealtN ++ (wp_k_dealN ++ (wp_k_fullestN ++ (wp_k_bwN ++ (wsX50 ++ (wsX30 ++ ([] : List Cond)))))))
set_option maxRecDepth 20000 in
theorem inown_k_dealtN : ∀ w ∈ own_k_dealtN, w ∈ lw_tbl := mem_places [240, 810, 572, 573, 109, 192, 811, 784, 785, 812, 776, 777] (by decide +kernel)
set_option maxRecDepth 20000 in
theorem in_k_dealtN : ∀ w ∈ wp_k_dealtN, w ∈ lw_tbl := List.forall_mem_cons.mpr ⟨List.mem_of_getElem? (i := 809) (by decide +kernel), List.forall_mem_append.mpr ⟨inown_k_dealtN, List.forall_mem_append.mpr ⟨in_k_dealN, List.forall_mem_append.mpr ⟨in_k_fullestN, List.forall_mem_append.mpr ⟨in_k_bwN, List.forall_mem_append.mpr ⟨lwb_X5, List.forall_mem_append.mpr ⟨lwb_X3, fun _ h => absurd h List.not_mem_nil⟩⟩⟩⟩⟩⟩⟩
set_option maxRecDepth 20000 in
theorem good_k_dealtN : wp_k_dealtN.all goodWord = true := by decide +kernel
set_option maxRecDepth 20000 in
theorem g_k_dealtN_k_dealN_25 : GoodIn wp_k_dealtN (wsV RX5 25 RX3 yX3_deal wp_k_dealN) := goodIn_sub (List.forall_mem_append.mpr ⟨List.forall_mem_cons.mpr ⟨(List.mem_of_getElem? (i := 2) rfl), List.forall_mem_cons.mpr ⟨(List.mem_of_getElem? (i := 3) rfl), List.forall_mem_cons.mpr ⟨(List.mem_of_getElem? (i := 4) rfl), List.forall_mem_cons.mpr ⟨(List.mem_of_getElem? (i := 5) rfl), fun _ h => absurd h List.not_mem_nil⟩⟩⟩⟩, (fun _ h => (List.mem_cons_of_mem _ (List.mem_append_right _ (List.mem_append_left _ h))))⟩) (by decide +kernel)
set_option maxRecDepth 20000 in
theorem g_k_dealtN_k_fullestN_33 : GoodIn wp_k_dealtN (wsV RX5 33 RX3 yX3_fullest wp_k_fullestN) := goodIn_sub (List.forall_mem_append.mpr ⟨List.forall_mem_cons.mpr ⟨(List.mem_of_getElem? (i := 7) rfl), List.forall_mem_cons.mpr ⟨(List.mem_of_getElem? (i := 8) rfl), List.forall_mem_cons.mpr ⟨(List.mem_of_getElem? (i := 9) rfl), List.forall_mem_cons.mpr ⟨(List.mem_of_getElem? (i := 5) rfl), fun _ h => absurd h List.not_mem_nil⟩⟩⟩⟩, (fun _ h => (List.mem_cons_of_mem _ (List.mem_append_right _ (List.mem_append_right _ (List.mem_append_left _ h)))))⟩) (by decide +kernel)
set_option maxRecDepth 20000 in
theorem g_k_dealtN_k_bwN_37 : GoodIn wp_k_dealtN (wsV RX5 37 RX3 yX3_bucketsWith wp_k_bwN) := goodIn_sub (List.forall_mem_append.mpr ⟨List.forall_mem_cons.mpr ⟨(List.mem_of_getElem? (i := 10) rfl), List.forall_mem_cons.mpr ⟨(List.mem_of_getElem? (i := 11) rfl), List.forall_mem_cons.mpr ⟨(List.mem_of_getElem? (i := 12) rfl), List.forall_mem_cons.mpr ⟨(List.mem_of_getElem? (i := 5) rfl), fun _ h => absurd h List.not_mem_nil⟩⟩⟩⟩, (fun _ h => (List.mem_cons_of_mem _ (List.mem_append_right _ (List.mem_append_right _ (List.mem_append_right _ (List.mem_append_left _ h))))))⟩) (by decide +kernel)
set_option maxHeartbeats 4000000 in
set_option maxRecDepth 100000 in
theorem k_dealtN (l : Launch) (D : va_G) (sz : Nat) (ob : Nat → Nat) (oc : Nat → Nat) (cI : ClassId) (po : Int32) (nb : Nat) (ka : Nat) (kb : Nat) (sm : Int32) (ln : Nat) (fh : Nat → Int32) (fj : Nat → Int32) (cn : Nat) (fk : Nat → Int32) (a1 : Nat) (b1 : Nat) (z4 : Int32) (z5 : Int32) (hL : LyH fj fh nb ln) (hKc : KyC fk cn) (ha1 : a1 < 2147483647) (hb1 : b1 < 2147483647) : Met l yX5_dealt wp_k_dealtN ({ frames := 2, cells := 0, slots := 0, locals := 87 }) (PcWC D [.ref (ob 0), .ref (oc 2), .int (nI a1), .int (nI b1), .int z4, .int z5] sz [(ob 0, .inr (5, [.ref (ob 1), .ref (ob 5), .int po])), (ob 5, .inr (3, gY ob (nI nb) (nI ka) (nI kb) sm (nI ln))), (ob 6, .inl (cI, 2048, .inl fh)), (ob 10, .inl (cI, 160, .inl fj)), (oc 2, .inr (2, [.int (nI cn), .ref (oc 3), .ref (oc 4)])), (oc 3, .inl (cI, 160, .inl fk))] [(cI, .int)]) (va_Qi (fun (r : Int32) (u : (Nat) × (Nat) × (Nat) × (Nat) × (Nat → Int32) × (Nat → Int32)) => LyH u.2.2.2.2.2 u.2.2.2.2.1 u.1 u.2.2.2.1 ∧ ∀ nn, z4 = nI nn → 1 ≤ nn → nn ≤ 2048 → r = ouI (cntJ (fun y => plN a1 b1 nn (kN fk y)) cn) nn z5) (fun (u : (Nat) × (Nat) × (Nat) × (Nat) × (Nat → Int32) × (Nat → Int32)) t => va_P D vwCl [(ob 0, .inr (5, [.ref (ob 1), .ref (ob 5), .int po])), (ob 5, .inr (3, gY ob (nI u.1) (nI u.2.1) (nI u.2.2.1) sm (nI u.2.2.2.1))), (ob 6, .inl (cI, 2048, .inl u.2.2.2.2.1)), (ob 10, .inl (cI, 160, .inl u.2.2.2.2.2)), (oc 2, .inr (2, [.int (nI cn), .ref (oc 3), .ref (oc 4)])), (oc 3, .inl (cI, 160, .inl fk))] t.heap ∧ va_K D vwCl [(cI, .int)] t ∧ va_D (va_A [(ob 0, .inr (5, [.ref (ob 1), .ref (ob 5), .int po])), (ob 5, .inr (3, gY ob (nI nb) (nI ka) (nI kb) sm (nI ln))), (ob 6, .inl (cI, 2048, .inl fh)), (ob 10, .inl (cI, 160, .inl fj)), (oc 2, .inr (2, [.int (nI cn), .ref (oc 3), .ref (oc 4)])), (oc 3, .inl (cI, 160, .inl fk))] sz) [(ob 0, .inr (5, [.ref (ob 1), .ref (ob 5), .int po])), (ob 5, .inr (3, gY ob (nI u.1) (nI u.2.1) (nI u.2.2.1) sm (nI u.2.2.2.1))), (ob 6, .inl (cI, 2048, .inl u.2.2.2.2.1)), (ob 10, .inl (cI, 160, .inl u.2.2.2.2.2)), (oc 2, .inr (2, [.int (nI cn), .ref (oc 3), .ref (oc 4)])), (oc 3, .inl (cI, 160, .inl fk))]) (va_A [(ob 0, .inr (5, [.ref (ob 1), .ref (ob 5), .int po])), (ob 5, .inr (3, gY ob (nI nb) (nI ka) (nI kb) sm (nI ln))), (ob 6, .inl (cI, 2048, .inl fh)), (ob 10, .inl (cI, 160, .inl fj)), (oc 2, .inr (2, [.int (nI cn), .ref (oc 3), .ref (oc 4)])), (oc 3, .inl (cI, 160, .inl fk))] sz)) 0 0 (va_A [(ob 0, .inr (5, [.ref (ob 1), .ref (ob 5), .int po])), (ob 5, .inr (3, gY ob (nI nb) (nI ka) (nI kb) sm (nI ln))), (ob 6, .inl (cI, 2048, .inl fh)), (ob 10, .inl (cI, 160, .inl fj)), (oc 2, .inr (2, [.int (nI cn), .ref (oc 3), .ref (oc 4)])), (oc 3, .inl (cI, 160, .inl fk))] sz) := by
  refine Met.ofW (cc := cX5_dealt) (maxL := 7) (ret := (some .int)) (by decide) rfl ?_
  intro p e s m args below meth c s₁ B hml hv
  obtain ⟨rfl, hsz, hP, hK, hD0, hN⟩ := hv
  have hx := B.exec
  have hb := B.bytes
  have hr := B.returns
  have hts := atoms_spec (ws := wp_k_dealtN) B.pre
  have hin_X5 : ∀ w ∈ wsX50, w ∈ wp_k_dealtN := fun _ h => (List.mem_cons_of_mem _ (List.mem_append_right _ (List.mem_append_right _ (List.mem_append_right _ (List.mem_append_right _ (List.mem_append_left _ h))))))
  have hin_X3 : ∀ w ∈ wsX30, w ∈ wp_k_dealtN := fun _ h => (List.mem_cons_of_mem _ (List.mem_append_right _ (List.mem_append_right _ (List.mem_append_right _ (List.mem_append_right _ (List.mem_append_right _ (List.mem_append_left _ h)))))))
  have hown : s.vm.findClass RX5 = some m.cls := findClass_of_methodNamed B.named
  have hlocks := B.notSynchronized
  subst hsz
  have hD := hD0.self (sz := s.heap.size)
  generalize hAe : va_A [(ob 0, .inr (5, [.ref (ob 1), .ref (ob 5), .int po])), (ob 5, .inr (3, gY ob (nI nb) (nI ka) (nI kb) sm (nI ln))), (ob 6, .inl (cI, 2048, .inl fh)), (ob 10, .inl (cI, 160, .inl fj)), (oc 2, .inr (2, [.int (nI cn), .ref (oc 3), .ref (oc 4)])), (oc 3, .inl (cI, 160, .inl fk))] s.heap.size = A at hD ⊢
  have hA : ∀ q : Nat, s.heap.size ≤ q → A q := fun q h => by rw [← hAe]; exact Or.inr h
  have hS : va_S A s.heap s.heap [] := va_S.rf
  have hP : va_P D vwCl [(ob 0, .inr (5, [.ref (ob 1), .ref (ob 5), .int po])), (ob 5, .inr (3, gY ob (nI nb) (nI ka) (nI kb) sm (nI ln))), (ob 6, .inl (cI, 2048, .inl fh)), (ob 10, .inl (cI, 160, .inl fj)), (oc 2, .inr (2, [.int (nI cn), .ref (oc 3), .ref (oc 4)])), (oc 3, .inl (cI, 160, .inl fk))] s.heap := hP
  have hl := lv_entry ([.ref (ob 0), .ref (oc 2), .int (nI a1), .int (nI b1), .int z4, .int z5]) (n := 7) (Nat.le_of_ble_eq_true rfl)
  rw [lg_entry_eq]
  generalize (lg_sl ([.ref (ob 0), .ref (oc 2), .int (nI a1), .int (nI b1), .int z4, .int z5]) ++ List.replicate (7 - (lg_sl ([.ref (ob 0), .ref (oc 2), .int (nI a1), .int (nI b1), .int z4, .int z5])).length) Slot.unset).toArray = ls at hl ⊢
  have hl : lv_has ls 7 [(0, .ref (ob 0)), (1, .ref (oc 2)), (2, .int (nI a1)), (3, .int (nI b1)), (4, .int z4), (5, .int z5)] := hl
  have hky := hKc
  have hcn := hKc.1
  refine lv_aload_n hx hb dX5_dealt_0 rfl (lv_at hl 0 rfl) ?_
  refine va_get (D := D) (ci := 5) (v := .ref (ob 5)) (C := RX5) (T := TX5) (N := 3) hx hb hts hin_X5 hown hK hP 0 rfl rfl 1 (by decide) (hts (.fieldLink RX5 21 "ClashFree$Paper" "layout" "LClashFree$Layout;") (List.mem_of_getElem? (i := 1) rfl)) (fun _ h9 => h9) rfl dX5_dealt_1 ?_
  refine lv_aload_n hx hb dX5_dealt_4 rfl (lv_at hl 1 rfl) ?_
  refine lv_iload_n hx hb dX5_dealt_5 rfl (lv_at hl 2 rfl) ?_
  refine lv_iload_n hx hb dX5_dealt_6 rfl (lv_at hl 3 rfl) ?_
  refine lv_iload hx hb dX5_dealt_7 (lv_at hl 4 rfl) ?_
  have hPc := hP.sub (ws' := [(ob 5, .inr (3, gY ob (nI nb) (nI ka) (nI kb) sm (nI ln))), (ob 6, .inl (cI, 2048, .inl fh)), (ob 10, .inl (cI, 160, .inl fj)), (oc 2, .inr (2, [.int (nI cn), .ref (oc 3), .ref (oc 4)])), (oc 3, .inl (cI, 160, .inl fk))]) [1, 2, 3, 4, 5] rfl
  have hKc := hK.sub (tys' := [(cI, .int)]) [0] rfl
  have hDc := hD.sub (ws' := [(ob 5, .inr (3, gY ob (nI nb) (nI ka) (nI kb) sm (nI ln))), (ob 6, .inl (cI, 2048, .inl fh)), (ob 10, .inl (cI, 160, .inl fj)), (oc 2, .inr (2, [.int (nI cn), .ref (oc 3), .ref (oc 4)])), (oc 3, .inl (cI, 160, .inl fk))]) [1, 2, 3, 4, 5] (by decide) rfl
  have hFc := va_free (wc := [(ob 5, .inr (3, gY ob (nI nb) (nI ka) (nI kb) sm (nI ln))), (ob 6, .inl (cI, 2048, .inl fh)), (ob 10, .inl (cI, 160, .inl fj)), (oc 2, .inr (2, [.int (nI cn), .ref (oc 3), .ref (oc 4)])), (oc 3, .inl (cI, 160, .inl fk))]) hD hS hA [1, 2, 3, 4, 5] rfl
  refine va_calli (va_runV (As := [.ref (oc 2), .int (nI a1), .int (nI b1), .int z4]) (rest := []) ⟨hx, hb, hml, hown, hts⟩ (k_dealN l D _ ob oc cI nb ka kb sm ln fh fj cn fk a1 b1 z4 hL hky ha1 hb1) (cwV 4 hts g_k_dealtN_k_dealN_25 rfl rfl rfl (by decide +kernel) ⟨(Nat.le_of_ble_eq_true rfl), (Nat.le_of_ble_eq_true rfl)⟩) (PcWC_V (q0 := 0) hPc hKc hDc hN rfl rfl) rfl rfl hl.1 rfl (lv_room (Nat.le_of_ble_eq_true rfl)) dX5_dealt_9 ⟨(Nat.le_of_ble_eq_true rfl), (Nat.le_of_ble_eq_true rfl)⟩) hS (fun q _ h => hFc q h) hFc (fun r1 uu tt H locs htt hvm hw hB hz1 hk1 hS => ?_)
  obtain ⟨w2, w3, w4, w5, w6, w7⟩ := uu
  obtain ⟨hP1, hK1, hD1⟩ := hB
  rw [htt] at hP1
  have hK1 := va_K.moved hvm.symm hK1
  have hP1 : va_P D vwCl [(ob 5, .inr (3, gY ob (nI w2) (nI w3) (nI w4) sm (nI w5))), (ob 6, .inl (cI, 2048, .inl w6)), (ob 10, .inl (cI, 160, .inl w7)), (oc 2, .inr (2, [.int (nI cn), .ref (oc 3), .ref (oc 4)])), (oc 3, .inl (cI, 160, .inl fk))] H := hP1
  obtain ⟨hP, hD⟩ := va_join (wr := [(ob 0, .inr (5, [.ref (ob 1), .ref (ob 5), .int po]))]) (w1 := [(ob 5, .inr (3, gY ob (nI w2) (nI w3) (nI w4) sm (nI w5))), (ob 6, .inl (cI, 2048, .inl w6)), (ob 10, .inl (cI, 160, .inl w7)), (oc 2, .inr (2, [.int (nI cn), .ref (oc 3), .ref (oc 4)])), (oc 3, .inl (cI, 160, .inl fk))]) hP hD [1, 2, 3, 4, 5] [0] rfl rfl (by decide) (by decide) hk1 hFc hP1 hD1
  have hP : va_P D vwCl [(ob 0, .inr (5, [.ref (ob 1), .ref (ob 5), .int po])), (ob 5, .inr (3, gY ob (nI w2) (nI w3) (nI w4) sm (nI w5))), (ob 6, .inl (cI, 2048, .inl w6)), (ob 10, .inl (cI, 160, .inl w7)), (oc 2, .inr (2, [.int (nI cn), .ref (oc 3), .ref (oc 4)])), (oc 3, .inl (cI, 160, .inl fk))] H := hP
  have hD : va_D A [(ob 0, .inr (5, [.ref (ob 1), .ref (ob 5), .int po])), (ob 5, .inr (3, gY ob (nI w2) (nI w3) (nI w4) sm (nI w5))), (ob 6, .inl (cI, 2048, .inl w6)), (ob 10, .inl (cI, 160, .inl w7)), (oc 2, .inr (2, [.int (nI cn), .ref (oc 3), .ref (oc 4)])), (oc 3, .inl (cI, 160, .inl fk))] := hD
  try dsimp only at hw
  clear hz1 hk1 hFc hPc hKc hDc
  obtain ⟨hL8, hL8_q⟩ := hw
  have hL8_n := hL8.1
  have hL8_l := hL8.2.1
  have hL8_h := Hcc_L hL8
  have hL8_1 := hL8_q.1
  refine lv_istore (lv' := [(6, .int r1), (0, .ref (ob 0)), (1, .ref (oc 2)), (2, .int (nI a1)), (3, .int (nI b1)), (4, .int z4), (5, .int z5)]) hx hb dX5_dealt_12 hl (by decide) rfl (fun ls hl => ?_)
  refine lv_iload hx hb dX5_dealt_14 (lv_at hl 6 rfl) ?_
  by_cases hs9 : z5 = 0
  ·
    subst hs9
    refine lv_tableIn (off := 28) (tgt := 44) hx hb dX5_dealt_16 (by decide) (by decide) (by decide +kernel) (by decide) ?_
    refine lv_iconst (v := 4) hx hb dX5_dealt_44 (by decide) ?_
    refine lv_iload hx hb dX5_dealt_45 (lv_at hl 0 rfl) ?_
    refine lv_imul hx hb dX5_dealt_47 ?_
    refine lv_topi (fun v10 ev10 => ?_)
    obtain rfl : v10 = (4 * r1) := ev10.trans (rfl)
    exact W.iret (v := (4 * r1)) hx hb hr (fun t ht hW => ⟨⟨(4 * r1), (w2, w3, w4, w5, w6, w7), rfl, (by (try dsimp only); first | done | exact ⟨hL8, fun nn e9 g1 g2 => ou_0 (hL8_q.2 nn e9 g1 g2).2.1⟩), by rw [ht]; exact hP.sub [0, 1, 2, 3, 4, 5] rfl, va_K.moved hW.alike (hK.sub [0] rfl), hD.sub [0, 1, 2, 3, 4, 5] (by decide) rfl⟩, hS.F ht⟩) hS.2.2 dX5_dealt_48
  by_cases hs11 : z5 = 1
  ·
    subst hs11
    refine lv_tableIn (off := 33) (tgt := 49) hx hb dX5_dealt_16 (by decide) (by decide) (by decide +kernel) (by decide) ?_
    refine lv_iload hx hb dX5_dealt_49 (lv_at hl 0 rfl) ?_
    exact W.iret (v := r1) hx hb hr (fun t ht hW => ⟨⟨r1, (w2, w3, w4, w5, w6, w7), rfl, (by (try dsimp only); first | done | exact ⟨hL8, fun nn e9 g1 g2 => ou_1 (hL8_q.2 nn e9 g1 g2).2.1⟩), by rw [ht]; exact hP.sub [0, 1, 2, 3, 4, 5] rfl, va_K.moved hW.alike (hK.sub [0] rfl), hD.sub [0, 1, 2, 3, 4, 5] (by decide) rfl⟩, hS.F ht⟩) hS.2.2 dX5_dealt_51
  by_cases hs12 : z5 = 2
  ·
    subst hs12
    refine lv_tableIn (off := 36) (tgt := 52) hx hb dX5_dealt_16 (by decide) (by decide) (by decide +kernel) (by decide) ?_
    refine lv_aload_n hx hb dX5_dealt_52 rfl (lv_at hl 1 rfl) ?_
    refine va_get (D := D) (ci := 5) (v := .ref (ob 5)) (C := RX5) (T := TX5) (N := 3) hx hb hts hin_X5 hown hK hP 0 rfl rfl 1 (by decide) (hts (.fieldLink RX5 21 "ClashFree$Paper" "layout" "LClashFree$Layout;") (List.mem_of_getElem? (i := 1) rfl)) (fun _ h9 => h9) rfl dX5_dealt_53 ?_
    refine va_get (D := D) (ci := 3) (v := .ref (ob 6)) (C := RX3) (T := TX3) (N := 13) hx hb hts hin_X3 hown hK hP 1 rfl rfl 5 (by decide) (hts (.fieldLink RX5 29 "ClashFree$Layout" "held" "[I") (List.mem_of_getElem? (i := 6) rfl)) (fun _ h9 => h9) rfl dX5_dealt_56 ?_
    refine lv_aload_n hx hb dX5_dealt_59 rfl (lv_at hl 1 rfl) ?_
    refine va_get (D := D) (ci := 5) (v := .ref (ob 5)) (C := RX5) (T := TX5) (N := 3) hx hb hts hin_X5 hown hK hP 0 rfl rfl 1 (by decide) (hts (.fieldLink RX5 21 "ClashFree$Paper" "layout" "LClashFree$Layout;") (List.mem_of_getElem? (i := 1) rfl)) (fun _ h9 => h9) rfl dX5_dealt_60 ?_
    have hPc := hP.sub (ws' := [(ob 5, .inr (3, gY ob (nI w2) (nI w3) (nI w4) sm (nI w5))), (ob 6, .inl (cI, 2048, .inl w6))]) [1, 2] rfl
    have hKc := hK.sub (tys' := [(cI, .int)]) [0] rfl
    have hFc := va_free0 hS hA
    refine va_calli (va_runV (As := []) (rest := [.ref (ob 6)]) ⟨hx, hb, hml, hown, hts⟩ (k_fullestN l D _ ob cI w2 w3 w4 sm w5 w6 hL8_n hL8_1 hL8_h) (cwV 0 hts g_k_dealtN_k_fullestN_33 rfl rfl rfl (by decide +kernel) ⟨(Nat.le_of_ble_eq_true rfl), (Nat.le_of_ble_eq_true rfl)⟩) (PcRC_V (q0 := 0) hPc hKc hN rfl rfl) rfl rfl hl.1 rfl (lv_room (Nat.le_of_ble_eq_true rfl)) dX5_dealt_63 ⟨(Nat.le_of_ble_eq_true rfl), (Nat.le_of_ble_eq_true rfl)⟩) hS (fun q _ h => hFc q h) hFc (fun r13 uu tt H locs htt hvm hw hB hz1 hk1 hS => ?_)
    have hP := va_keep hP hk1
    try dsimp only at hw
    clear hB hz1 hk1 hFc hPc hKc
    obtain ⟨fu14, hfu14, rfl, mfu14⟩ := hw
    refine va_iald hx hb hK hP 2 0 rfl rfl (vp_in_nI (by omega) (by decide)) dX5_dealt_66 ?_
    refine lv_topi (fun v15 ev15 => ?_)
    obtain rfl : v15 = w6 fu14 := ev15.trans (by rw [nI_clamp (by omega)])
    exact W.iret (v := w6 fu14) hx hb hr (fun t ht hW => ⟨⟨w6 fu14, (w2, w3, w4, w5, w6, w7), rfl, (by (try dsimp only); first | done | exact ⟨hL8, fun nn e9 g1 g2 => ou_2 hcn hL8_h (hL8_q.2 nn e9 g1 g2).1 (hL8_q.2 nn e9 g1 g2).2.2 hfu14 g2 mfu14⟩), by rw [ht]; exact hP.sub [0, 1, 2, 3, 4, 5] rfl, va_K.moved hW.alike (hK.sub [0] rfl), hD.sub [0, 1, 2, 3, 4, 5] (by decide) rfl⟩, hS.F ht⟩) hS.2.2 dX5_dealt_67
  refine lv_tableOut (tgt := 68) hx hb dX5_dealt_16 (sw3 (by assumption) (by assumption) (by assumption)) (by decide) ?_
  refine lv_aload_n hx hb dX5_dealt_68 rfl (lv_at hl 1 rfl) ?_
  refine va_get (D := D) (ci := 5) (v := .ref (ob 5)) (C := RX5) (T := TX5) (N := 3) hx hb hts hin_X5 hown hK hP 0 rfl rfl 1 (by decide) (hts (.fieldLink RX5 21 "ClashFree$Paper" "layout" "LClashFree$Layout;") (List.mem_of_getElem? (i := 1) rfl)) (fun _ h9 => h9) rfl dX5_dealt_69 ?_
  refine lv_iconst (v := 0) hx hb dX5_dealt_72 (by decide) ?_
  have hPc := hP.sub (ws' := [(ob 5, .inr (3, gY ob (nI w2) (nI w3) (nI w4) sm (nI w5))), (ob 6, .inl (cI, 2048, .inl w6))]) [1, 2] rfl
  have hKc := hK.sub (tys' := [(cI, .int)]) [0] rfl
  have hFc := va_free0 hS hA
  refine va_calli (va_runV (As := [.int 0]) (rest := []) ⟨hx, hb, hml, hown, hts⟩ (k_bwN l D _ ob cI w2 w3 w4 sm w5 w6 0 hL8_n hL8_h) (cwV 1 hts g_k_dealtN_k_bwN_37 rfl rfl rfl (by decide +kernel) ⟨(Nat.le_of_ble_eq_true rfl), (Nat.le_of_ble_eq_true rfl)⟩) (PcRC_V (q0 := 0) hPc hKc hN rfl rfl) rfl rfl hl.1 rfl (lv_room (Nat.le_of_ble_eq_true rfl)) dX5_dealt_73 ⟨(Nat.le_of_ble_eq_true rfl), (Nat.le_of_ble_eq_true rfl)⟩) hS (fun q _ h => hFc q h) hFc (fun r16 uu tt H locs htt hvm hw hB hz1 hk1 hS => ?_)
  have hP := va_keep hP hk1
  try dsimp only at hw
  clear hB hz1 hk1 hFc hPc hKc
  have hbw_r16 := hw
  exact W.iret (v := r16) hx hb hr (fun t ht hW => ⟨⟨r16, (w2, w3, w4, w5, w6, w7), rfl, (by (try dsimp only); first | done | exact ⟨hL8, fun nn e9 g1 g2 => ou_3 hcn (hL8_q.2 nn e9 g1 g2).1 (hL8_q.2 nn e9 g1 g2).2.2 g2 (hbw_r16 rfl) hs9 hs11 hs12⟩), by rw [ht]; exact hP.sub [0, 1, 2, 3, 4, 5] rfl, va_K.moved hW.alike (hK.sub [0] rfl), hD.sub [0, 1, 2, 3, 4, 5] (by decide) rfl⟩, hS.F ht⟩) hS.2.2 dX5_dealt_76

def own_p_outerN : List Cond := [.methodLink RX10 74 yX10_tableAt, .instanceMethod yX10_tableAt, .selects RX10 yX10_tableAt yX10_tableAt, .initialized RX10, .methodLink RX10 224 yX10_isPair, .static yX10_isPair, .constantLong RX10 91 (-1000000000000000), .fieldLink RX10 26 "ClashFree" "paper" "LClashFree$Paper;", .fieldLink RX10 93 "ClashFree$Table" "keys" "LClashFree$Keys;", .methodLink RX10 228 yX5_dealt, .instanceMethod yX5_dealt, .selects RX5 yX5_dealt yX5_dealt, .initialized RX5]
def wp_p_outerN : List Cond := .code yX10_outer cX10_outer 7 (some .long) :: (own_p_outerN ++ (wp_k_tabS ++ (wp_k_isPairN ++ (wp_k_dealtN ++ (wsX100 ++ (wsX90 ++ ([] : List Cond)))))))
set_option maxRecDepth 20000 in
theorem inown_p_outerN : ∀ w ∈ own_p_outerN, w ∈ lw_tbl := mem_places [610, 612, 2, 106, 803, 804, 691, 415, 518, 806, 807, 808, 107] (by decide +kernel)
set_option maxRecDepth 20000 in
theorem in_p_outerN : ∀ w ∈ wp_p_outerN, w ∈ lw_tbl := List.forall_mem_cons.mpr ⟨List.mem_of_getElem? (i := 802) (by decide +kernel), List.forall_mem_append.mpr ⟨inown_p_outerN, List.forall_mem_append.mpr ⟨in_k_tabS, List.forall_mem_append.mpr ⟨in_k_isPairN, List.forall_mem_append.mpr ⟨in_k_dealtN, List.forall_mem_append.mpr ⟨lwb_X10, List.forall_mem_append.mpr ⟨lwb_X9, fun _ h => absurd h List.not_mem_nil⟩⟩⟩⟩⟩⟩⟩
set_option maxRecDepth 20000 in
theorem good_p_outerN : wp_p_outerN.all goodWord = true := by decide +kernel
set_option maxRecDepth 20000 in
theorem g_p_outerN_k_tabS_74 : GoodIn wp_p_outerN (wsV RX10 74 RX10 yX10_tableAt wp_k_tabS) := goodIn_sub (List.forall_mem_append.mpr ⟨List.forall_mem_cons.mpr ⟨(List.mem_of_getElem? (i := 1) rfl), List.forall_mem_cons.mpr ⟨(List.mem_of_getElem? (i := 2) rfl), List.forall_mem_cons.mpr ⟨(List.mem_of_getElem? (i := 3) rfl), List.forall_mem_cons.mpr ⟨(List.mem_of_getElem? (i := 4) rfl), fun _ h => absurd h List.not_mem_nil⟩⟩⟩⟩, (fun _ h => (List.mem_cons_of_mem _ (List.mem_append_right _ (List.mem_append_left _ h))))⟩) (by decide +kernel)
set_option maxRecDepth 20000 in
theorem g_p_outerN_k_isPairN_224 : GoodIn wp_p_outerN (va_wsS RX10 224 yX10_isPair wp_k_isPairN) := goodIn_sub (List.forall_mem_append.mpr ⟨List.forall_mem_cons.mpr ⟨(List.mem_of_getElem? (i := 5) rfl), List.forall_mem_cons.mpr ⟨(List.mem_of_getElem? (i := 6) rfl), List.forall_mem_cons.mpr ⟨(List.mem_of_getElem? (i := 4) rfl), fun _ h => absurd h List.not_mem_nil⟩⟩⟩, (fun _ h => (List.mem_cons_of_mem _ (List.mem_append_right _ (List.mem_append_right _ (List.mem_append_left _ h)))))⟩) (by decide +kernel)
set_option maxRecDepth 20000 in
theorem g_p_outerN_k_dealtN_228 : GoodIn wp_p_outerN (wsV RX10 228 RX5 yX5_dealt wp_k_dealtN) := goodIn_sub (List.forall_mem_append.mpr ⟨List.forall_mem_cons.mpr ⟨(List.mem_of_getElem? (i := 10) rfl), List.forall_mem_cons.mpr ⟨(List.mem_of_getElem? (i := 11) rfl), List.forall_mem_cons.mpr ⟨(List.mem_of_getElem? (i := 12) rfl), List.forall_mem_cons.mpr ⟨(List.mem_of_getElem? (i := 13) rfl), fun _ h => absurd h List.not_mem_nil⟩⟩⟩⟩, (fun _ h => (List.mem_cons_of_mem _ (List.mem_append_right _ (List.mem_append_right _ (List.mem_append_right _ (List.mem_append_left _ h))))))⟩) (by decide +kernel)
set_option maxHeartbeats 4000000 in
set_option maxRecDepth 100000 in
theorem p_outerN (l : Launch) (D : va_G) (sz : Nat) (ox : Nat → Nat) (ob3 : Nat → Nat) (og : Nat → Nat) (oq : Nat → Nat) (ow : Nat → Nat) (ob : Nat → Nat) (cI : ClassId) (cT : ClassId) (tp : Nat) (ft : Nat → Option Nat) (po3 : Int32) (sd3 : Int64) (da3 : Nat) (db3 : Nat) (pr3 : Int32) (nb3 : Nat) (ka3 : Nat) (kb3 : Nat) (sm3 : Int32) (ln3 : Nat) (fh3 : Nat → Int32) (ff3 : Nat → Int32) (fa3 : Nat → Int32) (fs3 : Nat → Int32) (fj3 : Nat → Int32) (fr3 : Nat → Int32) (fo3 : Nat → Int32) (fx3 : Nat → Int32) (tb : Int32) (ts : Int32) (tg : Int32) (tl : Int32) (tc : Int32) (tr : Int32) (tu : Int32) (tv : Int32) (tw : Int32) (sd : Int64) (da : Nat) (db : Nat) (pr : Int32) (cn : Nat) (fk : Nat → Int32) (fv : Nat → Int32) (nb : Nat) (ka : Nat) (kb : Nat) (sm : Int32) (ln : Nat) (fh : Nat → Int32) (ff : Nat → Int32) (fa : Nat → Int32) (fs : Nat → Int32) (fj : Nat → Int32) (fr : Nat → Int32) (fo : Nat → Int32) (fx : Nat → Int32) (k : Nat) (z2 : Int32) (z3 : Int32) (z4 : Int32) (z5 : Int32) (L : List (Nat × Int32)) (hk : k < 4) (hft : ft k = some (ob 0)) (hTb : TbI fk fj fh fo cn nb ka kb ln da db) (hL3 : LyH fj3 fh3 nb3 ln3) (hO3 : OrC fo3) (hKv : KvT fk fv cn L) : Met l yX10_outer wp_p_outerN ({ frames := 3, cells := 0, slots := 0, locals := 113 }) (PcWC D [.ref (ox 0), .int (nI k), .int z2, .int z3, .int z4, .int z5] sz [(ox 0, .inr (10, [.ref (ox 1), .ref (ox 2), .int (nI tp), .ref (ob3 0), .ref (og 0), .ref (oq 0), .ref (ow 0)])), (ox 1, .inl (cT, 4, .inr (.inr (.inr (.inr ft))))), (ob3 0, .inr (5, [.ref (ob3 1), .ref (ob3 5), .int po3])), (ob3 1, .inr (0, [.long sd3, .int (nI da3), .int (nI db3), .int pr3])), (ob3 5, .inr (3, gY ob3 (nI nb3) (nI ka3) (nI kb3) sm3 (nI ln3))), (ob3 6, .inl (cI, 2048, .inl fh3)), (ob3 7, .inl (cI, 2048, .inl ff3)), (ob3 8, .inl (cI, 2048, .inl fa3)), (ob3 9, .inl (cI, 2048, .inl fs3)), (ob3 10, .inl (cI, 160, .inl fj3)), (ob3 11, .inl (cI, 160, .inl fr3)), (ob3 12, .inl (cI, 160, .inl fo3)), (ob3 13, .inl (cI, 2048, .inl fx3)), (ob 0, .inr (9, gT ob tb ts tg tl tc tr tu tv tw)), (ob 1, .inr (0, [.long sd, .int (nI da), .int (nI db), .int pr])), (ob 2, .inr (2, [.int (nI cn), .ref (ob 3), .ref (ob 4)])), (ob 3, .inl (cI, 160, .inl fk)), (ob 4, .inl (cI, 160, .inl fv)), (ob 5, .inr (3, gY ob (nI nb) (nI ka) (nI kb) sm (nI ln))), (ob 6, .inl (cI, 2048, .inl fh)), (ob 7, .inl (cI, 2048, .inl ff)), (ob 8, .inl (cI, 2048, .inl fa)), (ob 9, .inl (cI, 2048, .inl fs)), (ob 10, .inl (cI, 160, .inl fj)), (ob 11, .inl (cI, 160, .inl fr)), (ob 12, .inl (cI, 160, .inl fo)), (ob 13, .inl (cI, 2048, .inl fx))] [(cI, .int), (cT, .object RX9)]) (va_Ql (fun (r : Int64) (u : (Nat) × (Nat) × (Nat) × (Nat) × (Nat → Int32) × (Nat → Int32)) => LyH u.2.2.2.2.2 u.2.2.2.2.1 u.1 u.2.2.2.1 ∧ OrC fo3 ∧ r = outA True (fun _ => L) (nI k) z2 z3 z4 z5) (fun (u : (Nat) × (Nat) × (Nat) × (Nat) × (Nat → Int32) × (Nat → Int32)) t => va_P D vwCl [(ox 0, .inr (10, [.ref (ox 1), .ref (ox 2), .int (nI tp), .ref (ob3 0), .ref (og 0), .ref (oq 0), .ref (ow 0)])), (ox 1, .inl (cT, 4, .inr (.inr (.inr (.inr ft))))), (ob3 0, .inr (5, [.ref (ob3 1), .ref (ob3 5), .int po3])), (ob3 1, .inr (0, [.long sd3, .int (nI da3), .int (nI db3), .int pr3])), (ob3 5, .inr (3, gY ob3 (nI u.1) (nI u.2.1) (nI u.2.2.1) sm3 (nI u.2.2.2.1))), (ob3 6, .inl (cI, 2048, .inl u.2.2.2.2.1)), (ob3 7, .inl (cI, 2048, .inl ff3)), (ob3 8, .inl (cI, 2048, .inl fa3)), (ob3 9, .inl (cI, 2048, .inl fs3)), (ob3 10, .inl (cI, 160, .inl u.2.2.2.2.2)), (ob3 11, .inl (cI, 160, .inl fr3)), (ob3 12, .inl (cI, 160, .inl fo3)), (ob3 13, .inl (cI, 2048, .inl fx3)), (ob 0, .inr (9, gT ob tb ts tg tl tc tr tu tv tw)), (ob 1, .inr (0, [.long sd, .int (nI da), .int (nI db), .int pr])), (ob 2, .inr (2, [.int (nI cn), .ref (ob 3), .ref (ob 4)])), (ob 3, .inl (cI, 160, .inl fk)), (ob 4, .inl (cI, 160, .inl fv)), (ob 5, .inr (3, gY ob (nI nb) (nI ka) (nI kb) sm (nI ln))), (ob 6, .inl (cI, 2048, .inl fh)), (ob 7, .inl (cI, 2048, .inl ff)), (ob 8, .inl (cI, 2048, .inl fa)), (ob 9, .inl (cI, 2048, .inl fs)), (ob 10, .inl (cI, 160, .inl fj)), (ob 11, .inl (cI, 160, .inl fr)), (ob 12, .inl (cI, 160, .inl fo)), (ob 13, .inl (cI, 2048, .inl fx))] t.heap ∧ va_K D vwCl [(cI, .int), (cT, .object RX9)] t ∧ va_D (va_A [(ox 0, .inr (10, [.ref (ox 1), .ref (ox 2), .int (nI tp), .ref (ob3 0), .ref (og 0), .ref (oq 0), .ref (ow 0)])), (ox 1, .inl (cT, 4, .inr (.inr (.inr (.inr ft))))), (ob3 0, .inr (5, [.ref (ob3 1), .ref (ob3 5), .int po3])), (ob3 1, .inr (0, [.long sd3, .int (nI da3), .int (nI db3), .int pr3])), (ob3 5, .inr (3, gY ob3 (nI nb3) (nI ka3) (nI kb3) sm3 (nI ln3))), (ob3 6, .inl (cI, 2048, .inl fh3)), (ob3 7, .inl (cI, 2048, .inl ff3)), (ob3 8, .inl (cI, 2048, .inl fa3)), (ob3 9, .inl (cI, 2048, .inl fs3)), (ob3 10, .inl (cI, 160, .inl fj3)), (ob3 11, .inl (cI, 160, .inl fr3)), (ob3 12, .inl (cI, 160, .inl fo3)), (ob3 13, .inl (cI, 2048, .inl fx3)), (ob 0, .inr (9, gT ob tb ts tg tl tc tr tu tv tw)), (ob 1, .inr (0, [.long sd, .int (nI da), .int (nI db), .int pr])), (ob 2, .inr (2, [.int (nI cn), .ref (ob 3), .ref (ob 4)])), (ob 3, .inl (cI, 160, .inl fk)), (ob 4, .inl (cI, 160, .inl fv)), (ob 5, .inr (3, gY ob (nI nb) (nI ka) (nI kb) sm (nI ln))), (ob 6, .inl (cI, 2048, .inl fh)), (ob 7, .inl (cI, 2048, .inl ff)), (ob 8, .inl (cI, 2048, .inl fa)), (ob 9, .inl (cI, 2048, .inl fs)), (ob 10, .inl (cI, 160, .inl fj)), (ob 11, .inl (cI, 160, .inl fr)), (ob 12, .inl (cI, 160, .inl fo)), (ob 13, .inl (cI, 2048, .inl fx))] sz) [(ox 0, .inr (10, [.ref (ox 1), .ref (ox 2), .int (nI tp), .ref (ob3 0), .ref (og 0), .ref (oq 0), .ref (ow 0)])), (ox 1, .inl (cT, 4, .inr (.inr (.inr (.inr ft))))), (ob3 0, .inr (5, [.ref (ob3 1), .ref (ob3 5), .int po3])), (ob3 1, .inr (0, [.long sd3, .int (nI da3), .int (nI db3), .int pr3])), (ob3 5, .inr (3, gY ob3 (nI u.1) (nI u.2.1) (nI u.2.2.1) sm3 (nI u.2.2.2.1))), (ob3 6, .inl (cI, 2048, .inl u.2.2.2.2.1)), (ob3 7, .inl (cI, 2048, .inl ff3)), (ob3 8, .inl (cI, 2048, .inl fa3)), (ob3 9, .inl (cI, 2048, .inl fs3)), (ob3 10, .inl (cI, 160, .inl u.2.2.2.2.2)), (ob3 11, .inl (cI, 160, .inl fr3)), (ob3 12, .inl (cI, 160, .inl fo3)), (ob3 13, .inl (cI, 2048, .inl fx3)), (ob 0, .inr (9, gT ob tb ts tg tl tc tr tu tv tw)), (ob 1, .inr (0, [.long sd, .int (nI da), .int (nI db), .int pr])), (ob 2, .inr (2, [.int (nI cn), .ref (ob 3), .ref (ob 4)])), (ob 3, .inl (cI, 160, .inl fk)), (ob 4, .inl (cI, 160, .inl fv)), (ob 5, .inr (3, gY ob (nI nb) (nI ka) (nI kb) sm (nI ln))), (ob 6, .inl (cI, 2048, .inl fh)), (ob 7, .inl (cI, 2048, .inl ff)), (ob 8, .inl (cI, 2048, .inl fa)), (ob 9, .inl (cI, 2048, .inl fs)), (ob 10, .inl (cI, 160, .inl fj)), (ob 11, .inl (cI, 160, .inl fr)), (ob 12, .inl (cI, 160, .inl fo)), (ob 13, .inl (cI, 2048, .inl fx))]) (va_A [(ox 0, .inr (10, [.ref (ox 1), .ref (ox 2), .int (nI tp), .ref (ob3 0), .ref (og 0), .ref (oq 0), .ref (ow 0)])), (ox 1, .inl (cT, 4, .inr (.inr (.inr (.inr ft))))), (ob3 0, .inr (5, [.ref (ob3 1), .ref (ob3 5), .int po3])), (ob3 1, .inr (0, [.long sd3, .int (nI da3), .int (nI db3), .int pr3])), (ob3 5, .inr (3, gY ob3 (nI nb3) (nI ka3) (nI kb3) sm3 (nI ln3))), (ob3 6, .inl (cI, 2048, .inl fh3)), (ob3 7, .inl (cI, 2048, .inl ff3)), (ob3 8, .inl (cI, 2048, .inl fa3)), (ob3 9, .inl (cI, 2048, .inl fs3)), (ob3 10, .inl (cI, 160, .inl fj3)), (ob3 11, .inl (cI, 160, .inl fr3)), (ob3 12, .inl (cI, 160, .inl fo3)), (ob3 13, .inl (cI, 2048, .inl fx3)), (ob 0, .inr (9, gT ob tb ts tg tl tc tr tu tv tw)), (ob 1, .inr (0, [.long sd, .int (nI da), .int (nI db), .int pr])), (ob 2, .inr (2, [.int (nI cn), .ref (ob 3), .ref (ob 4)])), (ob 3, .inl (cI, 160, .inl fk)), (ob 4, .inl (cI, 160, .inl fv)), (ob 5, .inr (3, gY ob (nI nb) (nI ka) (nI kb) sm (nI ln))), (ob 6, .inl (cI, 2048, .inl fh)), (ob 7, .inl (cI, 2048, .inl ff)), (ob 8, .inl (cI, 2048, .inl fa)), (ob 9, .inl (cI, 2048, .inl fs)), (ob 10, .inl (cI, 160, .inl fj)), (ob 11, .inl (cI, 160, .inl fr)), (ob 12, .inl (cI, 160, .inl fo)), (ob 13, .inl (cI, 2048, .inl fx))] sz)) 0 0 (va_A [(ox 0, .inr (10, [.ref (ox 1), .ref (ox 2), .int (nI tp), .ref (ob3 0), .ref (og 0), .ref (oq 0), .ref (ow 0)])), (ox 1, .inl (cT, 4, .inr (.inr (.inr (.inr ft))))), (ob3 0, .inr (5, [.ref (ob3 1), .ref (ob3 5), .int po3])), (ob3 1, .inr (0, [.long sd3, .int (nI da3), .int (nI db3), .int pr3])), (ob3 5, .inr (3, gY ob3 (nI nb3) (nI ka3) (nI kb3) sm3 (nI ln3))), (ob3 6, .inl (cI, 2048, .inl fh3)), (ob3 7, .inl (cI, 2048, .inl ff3)), (ob3 8, .inl (cI, 2048, .inl fa3)), (ob3 9, .inl (cI, 2048, .inl fs3)), (ob3 10, .inl (cI, 160, .inl fj3)), (ob3 11, .inl (cI, 160, .inl fr3)), (ob3 12, .inl (cI, 160, .inl fo3)), (ob3 13, .inl (cI, 2048, .inl fx3)), (ob 0, .inr (9, gT ob tb ts tg tl tc tr tu tv tw)), (ob 1, .inr (0, [.long sd, .int (nI da), .int (nI db), .int pr])), (ob 2, .inr (2, [.int (nI cn), .ref (ob 3), .ref (ob 4)])), (ob 3, .inl (cI, 160, .inl fk)), (ob 4, .inl (cI, 160, .inl fv)), (ob 5, .inr (3, gY ob (nI nb) (nI ka) (nI kb) sm (nI ln))), (ob 6, .inl (cI, 2048, .inl fh)), (ob 7, .inl (cI, 2048, .inl ff)), (ob 8, .inl (cI, 2048, .inl fa)), (ob 9, .inl (cI, 2048, .inl fs)), (ob 10, .inl (cI, 160, .inl fj)), (ob 11, .inl (cI, 160, .inl fr)), (ob 12, .inl (cI, 160, .inl fo)), (ob 13, .inl (cI, 2048, .inl fx))] sz) := by
  refine Met.ofW (cc := cX10_outer) (maxL := 7) (ret := (some .long)) (by decide) rfl ?_
  intro p e s m args below meth c s₁ B hml hv
  obtain ⟨rfl, hsz, hP, hK, hD0, hN⟩ := hv
  have hx := B.exec
  have hb := B.bytes
  have hr := B.returns
  have hts := atoms_spec (ws := wp_p_outerN) B.pre
  have hin_X10 : ∀ w ∈ wsX100, w ∈ wp_p_outerN := fun _ h => (List.mem_cons_of_mem _ (List.mem_append_right _ (List.mem_append_right _ (List.mem_append_right _ (List.mem_append_right _ (List.mem_append_left _ h))))))
  have hin_X9 : ∀ w ∈ wsX90, w ∈ wp_p_outerN := fun _ h => (List.mem_cons_of_mem _ (List.mem_append_right _ (List.mem_append_right _ (List.mem_append_right _ (List.mem_append_right _ (List.mem_append_right _ (List.mem_append_left _ h)))))))
  have hown : s.vm.findClass RX10 = some m.cls := findClass_of_methodNamed B.named
  have hlocks := B.notSynchronized
  subst hsz
  have hD := hD0.self (sz := s.heap.size)
  generalize hAe : va_A [(ox 0, .inr (10, [.ref (ox 1), .ref (ox 2), .int (nI tp), .ref (ob3 0), .ref (og 0), .ref (oq 0), .ref (ow 0)])), (ox 1, .inl (cT, 4, .inr (.inr (.inr (.inr ft))))), (ob3 0, .inr (5, [.ref (ob3 1), .ref (ob3 5), .int po3])), (ob3 1, .inr (0, [.long sd3, .int (nI da3), .int (nI db3), .int pr3])), (ob3 5, .inr (3, gY ob3 (nI nb3) (nI ka3) (nI kb3) sm3 (nI ln3))), (ob3 6, .inl (cI, 2048, .inl fh3)), (ob3 7, .inl (cI, 2048, .inl ff3)), (ob3 8, .inl (cI, 2048, .inl fa3)), (ob3 9, .inl (cI, 2048, .inl fs3)), (ob3 10, .inl (cI, 160, .inl fj3)), (ob3 11, .inl (cI, 160, .inl fr3)), (ob3 12, .inl (cI, 160, .inl fo3)), (ob3 13, .inl (cI, 2048, .inl fx3)), (ob 0, .inr (9, gT ob tb ts tg tl tc tr tu tv tw)), (ob 1, .inr (0, [.long sd, .int (nI da), .int (nI db), .int pr])), (ob 2, .inr (2, [.int (nI cn), .ref (ob 3), .ref (ob 4)])), (ob 3, .inl (cI, 160, .inl fk)), (ob 4, .inl (cI, 160, .inl fv)), (ob 5, .inr (3, gY ob (nI nb) (nI ka) (nI kb) sm (nI ln))), (ob 6, .inl (cI, 2048, .inl fh)), (ob 7, .inl (cI, 2048, .inl ff)), (ob 8, .inl (cI, 2048, .inl fa)), (ob 9, .inl (cI, 2048, .inl fs)), (ob 10, .inl (cI, 160, .inl fj)), (ob 11, .inl (cI, 160, .inl fr)), (ob 12, .inl (cI, 160, .inl fo)), (ob 13, .inl (cI, 2048, .inl fx))] s.heap.size = A at hD ⊢
  have hA : ∀ q : Nat, s.heap.size ≤ q → A q := fun q h => by rw [← hAe]; exact Or.inr h
  have hS : va_S A s.heap s.heap [] := va_S.rf
  have hP : va_P D vwCl [(ox 0, .inr (10, [.ref (ox 1), .ref (ox 2), .int (nI tp), .ref (ob3 0), .ref (og 0), .ref (oq 0), .ref (ow 0)])), (ox 1, .inl (cT, 4, .inr (.inr (.inr (.inr ft))))), (ob3 0, .inr (5, [.ref (ob3 1), .ref (ob3 5), .int po3])), (ob3 1, .inr (0, [.long sd3, .int (nI da3), .int (nI db3), .int pr3])), (ob3 5, .inr (3, gY ob3 (nI nb3) (nI ka3) (nI kb3) sm3 (nI ln3))), (ob3 6, .inl (cI, 2048, .inl fh3)), (ob3 7, .inl (cI, 2048, .inl ff3)), (ob3 8, .inl (cI, 2048, .inl fa3)), (ob3 9, .inl (cI, 2048, .inl fs3)), (ob3 10, .inl (cI, 160, .inl fj3)), (ob3 11, .inl (cI, 160, .inl fr3)), (ob3 12, .inl (cI, 160, .inl fo3)), (ob3 13, .inl (cI, 2048, .inl fx3)), (ob 0, .inr (9, gT ob tb ts tg tl tc tr tu tv tw)), (ob 1, .inr (0, [.long sd, .int (nI da), .int (nI db), .int pr])), (ob 2, .inr (2, [.int (nI cn), .ref (ob 3), .ref (ob 4)])), (ob 3, .inl (cI, 160, .inl fk)), (ob 4, .inl (cI, 160, .inl fv)), (ob 5, .inr (3, gY ob (nI nb) (nI ka) (nI kb) sm (nI ln))), (ob 6, .inl (cI, 2048, .inl fh)), (ob 7, .inl (cI, 2048, .inl ff)), (ob 8, .inl (cI, 2048, .inl fa)), (ob 9, .inl (cI, 2048, .inl fs)), (ob 10, .inl (cI, 160, .inl fj)), (ob 11, .inl (cI, 160, .inl fr)), (ob 12, .inl (cI, 160, .inl fo)), (ob 13, .inl (cI, 2048, .inl fx))] s.heap := hP
  have hl := lv_entry ([.ref (ox 0), .int (nI k), .int z2, .int z3, .int z4, .int z5]) (n := 7) (Nat.le_of_ble_eq_true rfl)
  rw [lg_entry_eq]
  generalize (lg_sl ([.ref (ox 0), .int (nI k), .int z2, .int z3, .int z4, .int z5]) ++ List.replicate (7 - (lg_sl ([.ref (ox 0), .int (nI k), .int z2, .int z3, .int z4, .int z5])).length) Slot.unset).toArray = ls at hl ⊢
  have hl : lv_has ls 7 [(0, .ref (ox 0)), (1, .int (nI k)), (2, .int z2), (3, .int z3), (4, .int z4), (5, .int z5)] := hl
  obtain ⟨hky, hL, hO, hn1, hka, hkb, hda, hdb⟩ := id hTb
  have hnb := hL.1
  have hln := hL.2.1
  have hc := hky.1
  have hcz := hky.1
  refine lv_aload_n hx hb dX10_outer_0 rfl (lv_at hl 0 rfl) ?_
  refine lv_iload_n hx hb dX10_outer_1 rfl (lv_at hl 1 rfl) ?_
  have hPc := hP.sub (ws' := [(ox 0, .inr (10, [.ref (ox 1), .ref (ox 2), .int (nI tp), .ref (ob3 0), .ref (og 0), .ref (oq 0), .ref (ow 0)])), (ox 1, .inl (cT, 4, .inr (.inr (.inr (.inr ft)))))]) [0, 1] rfl
  have hKc := hK.sub (tys' := [(cT, .object RX9)]) [1] rfl
  have hFc := va_free0 hS hA
  refine va_callq (va_runV (As := [.int (nI k)]) (rest := []) ⟨hx, hb, hml, hown, hts⟩ (k_tabS l D _ ox ob3 og oq ow cI cT tp ft k (ob 0) hk hft) (cwV 1 hts g_p_outerN_k_tabS_74 rfl rfl rfl (by decide +kernel) ⟨(Nat.le_of_ble_eq_true rfl), (Nat.le_of_ble_eq_true rfl)⟩) (PcRC_V (q0 := 0) hPc hKc hN rfl rfl) rfl rfl hl.1 rfl (lv_room (Nat.le_of_ble_eq_true rfl)) dX10_outer_2 ⟨(Nat.le_of_ble_eq_true rfl), (Nat.le_of_ble_eq_true rfl)⟩) hS (fun q _ h => hFc q h) hFc (fun r1 uu tt H locs htt hvm hw hB hz1 hk1 hS => ?_)
  have hP := va_keep hP hk1
  try dsimp only at hw
  clear hB hz1 hk1 hFc hPc hKc
  obtain rfl : r1 = some (ob 0) := hw
  refine W.eq (g2 := F0 m 5 ls [.ref (ob 0)]) rfl ?_
  refine lv_astore (lv' := [(6, .ref (ob 0)), (0, .ref (ox 0)), (1, .int (nI k)), (2, .int z2), (3, .int z3), (4, .int z4), (5, .int z5)]) hx hb dX10_outer_5 hl (by decide) rfl (fun ls hl => ?_)
  refine lv_aload hx hb dX10_outer_7 (lv_at hl 0 rfl) ?_
  refine lv_ifnull hx hb dX10_outer_9 ?_
  refine lv_iload_n hx hb dX10_outer_12 rfl (lv_at hl 3 rfl) ?_
  refine lv_iload_n hx hb dX10_outer_13 rfl (lv_at hl 4 rfl) ?_
  have hPc := hP.sub (ws' := []) [] rfl
  have hKc := hK.sub (tys' := []) [] rfl
  have hFc := va_free0 hS hA
  refine va_calli (va_runS (As := [.int z2, .int z3]) (rest := []) ⟨hx, hb, hml, hown, hts⟩ (k_isPairN l D _ cI z2 z3) (va_cwS 2 hts g_p_outerN_k_isPairN_224 rfl rfl rfl (by decide +kernel) ⟨(Nat.le_of_ble_eq_true rfl), (Nat.le_of_ble_eq_true rfl)⟩) (PcRC_S hPc hKc hN) rfl rfl hl.1 rfl (lv_room (Nat.le_of_ble_eq_true rfl)) dX10_outer_14 ⟨(Nat.le_of_ble_eq_true rfl), (Nat.le_of_ble_eq_true rfl)⟩) hS (fun q _ h => hFc q h) hFc (fun r2 uu tt H locs htt hvm hw hB hz1 hk1 hS => ?_)
  have hP := va_keep hP hk1
  try dsimp only at hw
  clear hB hz1 hk1 hFc hPc hKc
  rcases hw with ⟨rfl, hA_r2⟩ | ⟨rfl, hA_r2⟩
  ·
    obtain ⟨⟨a1, ha0, ha1, rfl⟩, ⟨b1, hb1, rfl⟩⟩ := hA_r2
    refine lv_if_eq (tgt := 45) hx hb dX10_outer_17 (by decide) (fun hc => absurd hc (by decide)) (fun hc => ?_)
    refine lv_iload hx hb dX10_outer_20 (lv_at hl 5 rfl) ?_
    refine lv_iconst (v := 1) hx hb dX10_outer_22 (by decide) ?_
    refine lv_icmp_lt (tgt := 45) hx hb dX10_outer_23 (by decide) (fun hc3 => ?_) (fun hc3 => ?_)
    ·
      refine lv_ldc2 (v := (-1000000000000000)) hx hb hown (hts (.constantLong RX10 91 (-1000000000000000)) (List.mem_of_getElem? (i := 7) rfl)) dX10_outer_45 ?_
      exact W.lret (v := (-1000000000000000)) hx hb hr (fun t ht hW => ⟨⟨(-1000000000000000), (nb3, ka3, kb3, ln3, fh3, fj3), rfl, (by (try dsimp only); first | done | exact ⟨hL3, hO3, (outA_0 (fun q => bkC_1 q.2.2.1 hc3)).symm⟩), by rw [ht]; exact hP.sub [0, 1, 2, 3, 4, 5, 6, 7, 8, 9, 10, 11, 12, 13, 14, 15, 16, 17, 18, 19, 20, 21, 22, 23, 24, 25, 26] rfl, va_K.moved hW.alike (hK.sub [0, 1] rfl), hD.sub [0, 1, 2, 3, 4, 5, 6, 7, 8, 9, 10, 11, 12, 13, 14, 15, 16, 17, 18, 19, 20, 21, 22, 23, 24, 25, 26] (by decide) rfl⟩, hS.F ht⟩) hS.2.2 dX10_outer_48
    ·
      refine lv_iload hx hb dX10_outer_26 (lv_at hl 5 rfl) ?_
      refine lv_sipush (v := 2048) hx hb dX10_outer_28 (by decide) ?_
      refine lv_icmp_gt (tgt := 45) hx hb dX10_outer_31 (by decide) (fun hc4 => ?_) (fun hc4 => ?_)
      ·
        refine lv_ldc2 (v := (-1000000000000000)) hx hb hown (hts (.constantLong RX10 91 (-1000000000000000)) (List.mem_of_getElem? (i := 7) rfl)) dX10_outer_45 ?_
        exact W.lret (v := (-1000000000000000)) hx hb hr (fun t ht hW => ⟨⟨(-1000000000000000), (nb3, ka3, kb3, ln3, fh3, fj3), rfl, (by (try dsimp only); first | done | exact ⟨hL3, hO3, (outA_0 (fun q => bkC_2 q.2.2.1 hc4)).symm⟩), by rw [ht]; exact hP.sub [0, 1, 2, 3, 4, 5, 6, 7, 8, 9, 10, 11, 12, 13, 14, 15, 16, 17, 18, 19, 20, 21, 22, 23, 24, 25, 26] rfl, va_K.moved hW.alike (hK.sub [0, 1] rfl), hD.sub [0, 1, 2, 3, 4, 5, 6, 7, 8, 9, 10, 11, 12, 13, 14, 15, 16, 17, 18, 19, 20, 21, 22, 23, 24, 25, 26] (by decide) rfl⟩, hS.F ht⟩) hS.2.2 dX10_outer_48
      ·
        obtain ⟨nn, g1, g2, rfl⟩ := bkC_c hc3 hc4
        refine lv_iload hx hb dX10_outer_34 (lv_at hl 6 rfl) ?_
        refine lv_if_lt (tgt := 45) hx hb dX10_outer_36 (by decide) (fun hc5 => ?_) (fun hc5 => ?_)
        ·
          refine lv_ldc2 (v := (-1000000000000000)) hx hb hown (hts (.constantLong RX10 91 (-1000000000000000)) (List.mem_of_getElem? (i := 7) rfl)) dX10_outer_45 ?_
          exact W.lret (v := (-1000000000000000)) hx hb hr (fun t ht hW => ⟨⟨(-1000000000000000), (nb3, ka3, kb3, ln3, fh3, fj3), rfl, (by (try dsimp only); first | done | exact ⟨hL3, hO3, (outA_0 (fun q => Int32.not_lt.mpr q.2.2.2.1 hc5)).symm⟩), by rw [ht]; exact hP.sub [0, 1, 2, 3, 4, 5, 6, 7, 8, 9, 10, 11, 12, 13, 14, 15, 16, 17, 18, 19, 20, 21, 22, 23, 24, 25, 26] rfl, va_K.moved hW.alike (hK.sub [0, 1] rfl), hD.sub [0, 1, 2, 3, 4, 5, 6, 7, 8, 9, 10, 11, 12, 13, 14, 15, 16, 17, 18, 19, 20, 21, 22, 23, 24, 25, 26] (by decide) rfl⟩, hS.F ht⟩) hS.2.2 dX10_outer_48
        ·
          refine lv_iload hx hb dX10_outer_39 (lv_at hl 6 rfl) ?_
          refine lv_iconst (v := 3) hx hb dX10_outer_41 (by decide) ?_
          refine lv_icmp_le (tgt := 49) hx hb dX10_outer_42 (by decide) (fun hc6 => ?_) (fun hc6 => ?_)
          ·
            refine lv_aload_n hx hb dX10_outer_49 rfl (lv_at hl 1 rfl) ?_
            refine va_get (D := D) (ci := 10) (v := .ref (ob3 0)) (C := RX10) (T := TX10) (N := 7) hx hb hts hin_X10 hown hK hP 0 rfl rfl 3 (by decide) (hts (.fieldLink RX10 26 "ClashFree" "paper" "LClashFree$Paper;") (List.mem_of_getElem? (i := 8) rfl)) (fun _ h9 => h9) rfl dX10_outer_50 ?_
            refine lv_aload hx hb dX10_outer_53 (lv_at hl 0 rfl) ?_
            refine va_get (D := D) (ci := 9) (v := .ref (ob 2)) (C := RX9) (T := TX9) (N := 12) hx hb hts hin_X9 hown hK hP 13 rfl rfl 10 (by decide) (hts (.fieldLink RX10 93 "ClashFree$Table" "keys" "LClashFree$Keys;") (List.mem_of_getElem? (i := 9) rfl)) (fun _ h9 => h9) rfl dX10_outer_55 ?_
            refine lv_iload_n hx hb dX10_outer_58 rfl (lv_at hl 3 rfl) ?_
            refine lv_iload_n hx hb dX10_outer_59 rfl (lv_at hl 4 rfl) ?_
            refine lv_iload hx hb dX10_outer_60 (lv_at hl 5 rfl) ?_
            refine lv_iload hx hb dX10_outer_62 (lv_at hl 6 rfl) ?_
            have hPc := hP.sub (ws' := [(ob3 0, .inr (5, [.ref (ob3 1), .ref (ob3 5), .int po3])), (ob3 5, .inr (3, gY ob3 (nI nb3) (nI ka3) (nI kb3) sm3 (nI ln3))), (ob3 6, .inl (cI, 2048, .inl fh3)), (ob3 10, .inl (cI, 160, .inl fj3)), (ob 2, .inr (2, [.int (nI cn), .ref (ob 3), .ref (ob 4)])), (ob 3, .inl (cI, 160, .inl fk))]) [2, 4, 5, 9, 15, 16] rfl
            have hKc := hK.sub (tys' := [(cI, .int)]) [0] rfl
            have hDc := hD.sub (ws' := [(ob3 0, .inr (5, [.ref (ob3 1), .ref (ob3 5), .int po3])), (ob3 5, .inr (3, gY ob3 (nI nb3) (nI ka3) (nI kb3) sm3 (nI ln3))), (ob3 6, .inl (cI, 2048, .inl fh3)), (ob3 10, .inl (cI, 160, .inl fj3)), (ob 2, .inr (2, [.int (nI cn), .ref (ob 3), .ref (ob 4)])), (ob 3, .inl (cI, 160, .inl fk))]) [2, 4, 5, 9, 15, 16] (by decide) rfl
            have hFc := va_free (wc := [(ob3 0, .inr (5, [.ref (ob3 1), .ref (ob3 5), .int po3])), (ob3 5, .inr (3, gY ob3 (nI nb3) (nI ka3) (nI kb3) sm3 (nI ln3))), (ob3 6, .inl (cI, 2048, .inl fh3)), (ob3 10, .inl (cI, 160, .inl fj3)), (ob 2, .inr (2, [.int (nI cn), .ref (ob 3), .ref (ob 4)])), (ob 3, .inl (cI, 160, .inl fk))]) hD hS hA [2, 4, 5, 9, 15, 16] rfl
            refine va_calli (va_runV (As := [.ref (ob 2), .int (nI a1), .int (nI b1), .int (nI nn), .int z5]) (rest := []) ⟨hx, hb, hml, hown, hts⟩ (k_dealtN l D _ ob3 ob cI po3 nb3 ka3 kb3 sm3 ln3 fh3 fj3 cn fk a1 b1 (nI nn) z5 hL3 hky ha1 hb1) (cwV 5 hts g_p_outerN_k_dealtN_228 rfl rfl rfl (by decide +kernel) ⟨(Nat.le_of_ble_eq_true rfl), (Nat.le_of_ble_eq_true rfl)⟩) (PcWC_V (q0 := 0) hPc hKc hDc hN rfl rfl) rfl rfl hl.1 rfl (lv_room (Nat.le_of_ble_eq_true rfl)) dX10_outer_64 ⟨(Nat.le_of_ble_eq_true rfl), (Nat.le_of_ble_eq_true rfl)⟩) hS (fun q _ h => hFc q h) hFc (fun r7 uu tt H locs htt hvm hw hB hz1 hk1 hS => ?_)
            obtain ⟨w8, w9, w10, w11, w12, w13⟩ := uu
            obtain ⟨hP1, hK1, hD1⟩ := hB
            rw [htt] at hP1
            have hK1 := va_K.moved hvm.symm hK1
            have hP1 : va_P D vwCl [(ob3 0, .inr (5, [.ref (ob3 1), .ref (ob3 5), .int po3])), (ob3 5, .inr (3, gY ob3 (nI w8) (nI w9) (nI w10) sm3 (nI w11))), (ob3 6, .inl (cI, 2048, .inl w12)), (ob3 10, .inl (cI, 160, .inl w13)), (ob 2, .inr (2, [.int (nI cn), .ref (ob 3), .ref (ob 4)])), (ob 3, .inl (cI, 160, .inl fk))] H := hP1
            obtain ⟨hP, hD⟩ := va_join (wr := [(ox 0, .inr (10, [.ref (ox 1), .ref (ox 2), .int (nI tp), .ref (ob3 0), .ref (og 0), .ref (oq 0), .ref (ow 0)])), (ox 1, .inl (cT, 4, .inr (.inr (.inr (.inr ft))))), (ob3 1, .inr (0, [.long sd3, .int (nI da3), .int (nI db3), .int pr3])), (ob3 7, .inl (cI, 2048, .inl ff3)), (ob3 8, .inl (cI, 2048, .inl fa3)), (ob3 9, .inl (cI, 2048, .inl fs3)), (ob3 11, .inl (cI, 160, .inl fr3)), (ob3 12, .inl (cI, 160, .inl fo3)), (ob3 13, .inl (cI, 2048, .inl fx3)), (ob 0, .inr (9, gT ob tb ts tg tl tc tr tu tv tw)), (ob 1, .inr (0, [.long sd, .int (nI da), .int (nI db), .int pr])), (ob 4, .inl (cI, 160, .inl fv)), (ob 5, .inr (3, gY ob (nI nb) (nI ka) (nI kb) sm (nI ln))), (ob 6, .inl (cI, 2048, .inl fh)), (ob 7, .inl (cI, 2048, .inl ff)), (ob 8, .inl (cI, 2048, .inl fa)), (ob 9, .inl (cI, 2048, .inl fs)), (ob 10, .inl (cI, 160, .inl fj)), (ob 11, .inl (cI, 160, .inl fr)), (ob 12, .inl (cI, 160, .inl fo)), (ob 13, .inl (cI, 2048, .inl fx))]) (w1 := [(ob3 0, .inr (5, [.ref (ob3 1), .ref (ob3 5), .int po3])), (ob3 5, .inr (3, gY ob3 (nI w8) (nI w9) (nI w10) sm3 (nI w11))), (ob3 6, .inl (cI, 2048, .inl w12)), (ob3 10, .inl (cI, 160, .inl w13)), (ob 2, .inr (2, [.int (nI cn), .ref (ob 3), .ref (ob 4)])), (ob 3, .inl (cI, 160, .inl fk))]) hP hD [2, 4, 5, 9, 15, 16] [0, 1, 3, 6, 7, 8, 10, 11, 12, 13, 14, 17, 18, 19, 20, 21, 22, 23, 24, 25, 26] rfl rfl (by decide) (by decide) hk1 hFc hP1 hD1
            have hP : va_P D vwCl [(ox 0, .inr (10, [.ref (ox 1), .ref (ox 2), .int (nI tp), .ref (ob3 0), .ref (og 0), .ref (oq 0), .ref (ow 0)])), (ox 1, .inl (cT, 4, .inr (.inr (.inr (.inr ft))))), (ob3 1, .inr (0, [.long sd3, .int (nI da3), .int (nI db3), .int pr3])), (ob3 7, .inl (cI, 2048, .inl ff3)), (ob3 8, .inl (cI, 2048, .inl fa3)), (ob3 9, .inl (cI, 2048, .inl fs3)), (ob3 11, .inl (cI, 160, .inl fr3)), (ob3 12, .inl (cI, 160, .inl fo3)), (ob3 13, .inl (cI, 2048, .inl fx3)), (ob 0, .inr (9, gT ob tb ts tg tl tc tr tu tv tw)), (ob 1, .inr (0, [.long sd, .int (nI da), .int (nI db), .int pr])), (ob 4, .inl (cI, 160, .inl fv)), (ob 5, .inr (3, gY ob (nI nb) (nI ka) (nI kb) sm (nI ln))), (ob 6, .inl (cI, 2048, .inl fh)), (ob 7, .inl (cI, 2048, .inl ff)), (ob 8, .inl (cI, 2048, .inl fa)), (ob 9, .inl (cI, 2048, .inl fs)), (ob 10, .inl (cI, 160, .inl fj)), (ob 11, .inl (cI, 160, .inl fr)), (ob 12, .inl (cI, 160, .inl fo)), (ob 13, .inl (cI, 2048, .inl fx)), (ob3 0, .inr (5, [.ref (ob3 1), .ref (ob3 5), .int po3])), (ob3 5, .inr (3, gY ob3 (nI w8) (nI w9) (nI w10) sm3 (nI w11))), (ob3 6, .inl (cI, 2048, .inl w12)), (ob3 10, .inl (cI, 160, .inl w13)), (ob 2, .inr (2, [.int (nI cn), .ref (ob 3), .ref (ob 4)])), (ob 3, .inl (cI, 160, .inl fk))] H := hP
            have hD : va_D A [(ox 0, .inr (10, [.ref (ox 1), .ref (ox 2), .int (nI tp), .ref (ob3 0), .ref (og 0), .ref (oq 0), .ref (ow 0)])), (ox 1, .inl (cT, 4, .inr (.inr (.inr (.inr ft))))), (ob3 1, .inr (0, [.long sd3, .int (nI da3), .int (nI db3), .int pr3])), (ob3 7, .inl (cI, 2048, .inl ff3)), (ob3 8, .inl (cI, 2048, .inl fa3)), (ob3 9, .inl (cI, 2048, .inl fs3)), (ob3 11, .inl (cI, 160, .inl fr3)), (ob3 12, .inl (cI, 160, .inl fo3)), (ob3 13, .inl (cI, 2048, .inl fx3)), (ob 0, .inr (9, gT ob tb ts tg tl tc tr tu tv tw)), (ob 1, .inr (0, [.long sd, .int (nI da), .int (nI db), .int pr])), (ob 4, .inl (cI, 160, .inl fv)), (ob 5, .inr (3, gY ob (nI nb) (nI ka) (nI kb) sm (nI ln))), (ob 6, .inl (cI, 2048, .inl fh)), (ob 7, .inl (cI, 2048, .inl ff)), (ob 8, .inl (cI, 2048, .inl fa)), (ob 9, .inl (cI, 2048, .inl fs)), (ob 10, .inl (cI, 160, .inl fj)), (ob 11, .inl (cI, 160, .inl fr)), (ob 12, .inl (cI, 160, .inl fo)), (ob 13, .inl (cI, 2048, .inl fx)), (ob3 0, .inr (5, [.ref (ob3 1), .ref (ob3 5), .int po3])), (ob3 5, .inr (3, gY ob3 (nI w8) (nI w9) (nI w10) sm3 (nI w11))), (ob3 6, .inl (cI, 2048, .inl w12)), (ob3 10, .inl (cI, 160, .inl w13)), (ob 2, .inr (2, [.int (nI cn), .ref (ob 3), .ref (ob 4)])), (ob 3, .inl (cI, 160, .inl fk))] := hD
            try dsimp only at hw
            clear hz1 hk1 hFc hPc hKc hDc
            obtain ⟨hL14, hL14_q⟩ := hw
            refine lv_i2l hx hb dX10_outer_67 rfl ?_
            exact W.lret (v := Int32.toInt64 r7) hx hb hr (fun t ht hW => ⟨⟨Int32.toInt64 r7, (w8, w9, w10, w11, w12, w13), rfl, (by (try dsimp only); first | done | exact ⟨hL14, hO3, by rw [outA_1 hk trivial ha0 ha1 hb1 g1 g2 (tn4_c hc5 hc6), hKv.cntL]; exact (congrArg Int32.toInt64 (hL14_q nn rfl g1 g2)).trans (ou_64 hcz g2)⟩), by rw [ht]; exact hP.sub [0, 1, 21, 2, 22, 23, 3, 4, 5, 24, 6, 7, 8, 9, 10, 25, 26, 11, 12, 13, 14, 15, 16, 17, 18, 19, 20] rfl, va_K.moved hW.alike (hK.sub [0, 1] rfl), hD.sub [0, 1, 21, 2, 22, 23, 3, 4, 5, 24, 6, 7, 8, 9, 10, 25, 26, 11, 12, 13, 14, 15, 16, 17, 18, 19, 20] (by decide) rfl⟩, hS.F ht⟩) hS.2.2 dX10_outer_68
          ·
            refine lv_ldc2 (v := (-1000000000000000)) hx hb hown (hts (.constantLong RX10 91 (-1000000000000000)) (List.mem_of_getElem? (i := 7) rfl)) dX10_outer_45 ?_
            exact W.lret (v := (-1000000000000000)) hx hb hr (fun t ht hW => ⟨⟨(-1000000000000000), (nb3, ka3, kb3, ln3, fh3, fj3), rfl, (by (try dsimp only); first | done | exact ⟨hL3, hO3, (outA_0 (fun q => tn4_3 q.2.2.2 hc6)).symm⟩), by rw [ht]; exact hP.sub [0, 1, 2, 3, 4, 5, 6, 7, 8, 9, 10, 11, 12, 13, 14, 15, 16, 17, 18, 19, 20, 21, 22, 23, 24, 25, 26] rfl, va_K.moved hW.alike (hK.sub [0, 1] rfl), hD.sub [0, 1, 2, 3, 4, 5, 6, 7, 8, 9, 10, 11, 12, 13, 14, 15, 16, 17, 18, 19, 20, 21, 22, 23, 24, 25, 26] (by decide) rfl⟩, hS.F ht⟩) hS.2.2 dX10_outer_48
  ·
    refine lv_if_eq (tgt := 45) hx hb dX10_outer_17 (by decide) (fun hc => ?_) (fun hc => absurd (by decide) hc)
    refine lv_ldc2 (v := (-1000000000000000)) hx hb hown (hts (.constantLong RX10 91 (-1000000000000000)) (List.mem_of_getElem? (i := 7) rfl)) dX10_outer_45 ?_
    exact W.lret (v := (-1000000000000000)) hx hb hr (fun t ht hW => ⟨⟨(-1000000000000000), (nb3, ka3, kb3, ln3, fh3, fj3), rfl, (by (try dsimp only); first | done | exact ⟨hL3, hO3, (outA_0 (fun q => hA_r2 q.2.1)).symm⟩), by rw [ht]; exact hP.sub [0, 1, 2, 3, 4, 5, 6, 7, 8, 9, 10, 11, 12, 13, 14, 15, 16, 17, 18, 19, 20, 21, 22, 23, 24, 25, 26] rfl, va_K.moved hW.alike (hK.sub [0, 1] rfl), hD.sub [0, 1, 2, 3, 4, 5, 6, 7, 8, 9, 10, 11, 12, 13, 14, 15, 16, 17, 18, 19, 20, 21, 22, 23, 24, 25, 26] (by decide) rfl⟩, hS.F ht⟩) hS.2.2 dX10_outer_48

