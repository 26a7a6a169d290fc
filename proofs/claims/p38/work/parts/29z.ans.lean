/-! answers by the lists -/
theorem tabl_getD {cn : Nat} (K : Nat → Nat) (V : Nat → Int32) {j : Nat} (hj : j < cn) (d : Nat × Int32) : (tabl cn K V).getD j d = (K j, V j) := by
  have h : j < (tabl cn K V).length := by rw [tabl_len]; exact hj
  rw [List.getD_eq_getElem?_getD, List.getElem?_eq_getElem h]
  simp [tabl]
noncomputable def keyA (th : Prop) (Ls : Nat → List (Nat × Int32)) (z1 z2 : Int32) : Int32 := @ite _ (th ∧ ∃ j, j < (Ls (ixN z1)).length ∧ z2 = nI j) (Classical.propDecidable _) (nI ((Ls (ixN z1)).getD (ixN z2) (0, 0)).1) (-1)
theorem keyA_0 {th : Prop} {Ls : Nat → List (Nat × Int32)} {z1 z2 : Int32} (h : ¬ (th ∧ ∃ j, j < (Ls (ixN z1)).length ∧ z2 = nI j)) : keyA th Ls z1 z2 = -1 := if_neg h
theorem keyA_n {th : Prop} {Ls : Nat → List (Nat × Int32)} {k : Nat} {z2 : Int32} (hk : k < 4) (h : ¬ ∃ j, j < (Ls k).length ∧ z2 = nI j) : keyA th Ls (nI k) z2 = -1 := keyA_0 (fun q => h (by rw [ixN_k (by omega)] at q; exact q.2))
theorem keyA_1 {th : Prop} {Ls : Nat → List (Nat × Int32)} {k j : Nat} (hk : k < 4) (hj : j < (Ls k).length) (hl : (Ls k).length ≤ 160) (ht : th) : keyA th Ls (nI k) (nI j) = nI ((Ls k).getD j (0, 0)).1 := by
  unfold keyA
  rw [ixN_k (by omega), ixN_k (by omega)]
  exact if_pos ⟨ht, j, hj, rfl⟩
/-- how many KEYS are below one -/
def rkL : List (Nat × Int32) → Nat → Nat
  | [], _ => 0
  | (k, _) :: L, x => (if k < x then 1 else 0) + rkL L x
theorem rkL_at : ∀ (cn : Nat) (K : Nat → Nat) (V : Nat → Int32) (q x : Nat), q ≤ cn → (∀ j, j < q → K j < x) → (∀ j, q ≤ j → j < cn → ¬ K j < x) → rkL (tabl cn K V) x = q := by
  intro cn
  induction cn with
  | zero => intro K V q x hq h1 h2; show 0 = q; omega
  | succ cn ih =>
    intro K V q x hq h1 h2
    rw [tabl_s]
    show (if K 0 < x then 1 else 0) + rkL _ x = q
    cases q with
    | zero => rw [if_neg (h2 0 (Nat.le_refl _) (by omega)), ih _ _ 0 x (Nat.zero_le _) (fun j hj => absurd hj (Nat.not_lt_zero _)) (fun j a b => h2 _ (by omega) (by omega))]
    | succ q => rw [if_pos (h1 0 (by omega)), ih _ _ q x (by omega) (fun j hj => h1 _ (by omega)) (fun j a b => h2 _ (by omega) (by omega))]; omega
theorem lNlt {a x : Nat} (ha : a < 2147483647) (hx : x < 2147483648) : lN a < lN x ↔ a < x := lN_lt (by omega) (by omega)
theorem rkL_w {cn q x : Nat} {K : Nat → Nat} {V : Nat → Int32} (h0 : ∀ j, j < cn → K j < 2147483647) (hx : x < 2147483648) (hq : q ≤ cn) (hb : ∀ j, j < q → lN (K j) < lN x) (hc : ∀ j, q ≤ j → j < cn → ¬ lN (K j) < lN x) : rkL (tabl cn K V) x = q := rkL_at cn K V q x hq (fun j hj => (lNlt (h0 j (by omega)) hx).mp (hb j hj)) (fun j a b e => hc j a b ((lNlt (h0 j b) hx).mpr e))
theorem in0M {z : Int32} : ((0 : Int64) ≤ z.toInt64 ∧ z.toInt64 ≤ 2147483647) ↔ ∃ x, x < 2147483648 ∧ z = nI x := by
  rw [show (0 : Int64) = (0 : Int32).toInt64 from by decide, show (2147483647 : Int64) = (2147483647 : Int32).toInt64 from by decide, w64_le, w64_le]
  constructor
  · rintro ⟨h1, h2⟩
    obtain ⟨j, hj, e⟩ := nI_of2 (x := z) (M := 2147483647) (n := 2147483647) (by decide) (Int32.not_lt.mpr h1) h2
    exact ⟨j, by omega, e⟩
  · rintro ⟨x, hx, rfl⟩
    exact ⟨nI_pos' (by omega), nI_le (b := 2147483647) (by omega) (by decide)⟩
noncomputable def belA (th : Prop) (Ls : Nat → List (Nat × Int32)) (z1 z2 : Int32) : Int32 := @ite _ (th ∧ ∃ x, x < 2147483648 ∧ z2 = nI x) (Classical.propDecidable _) (nI (rkL (Ls (ixN z1)) (ixN z2))) (-1)
theorem belA_0 {th : Prop} {Ls : Nat → List (Nat × Int32)} {z1 z2 : Int32} (h : ¬ (th ∧ ∃ x, x < 2147483648 ∧ z2 = nI x)) : belA th Ls z1 z2 = -1 := if_neg h
theorem belA_1 {th : Prop} {Ls : Nat → List (Nat × Int32)} {k x : Nat} (hk : k < 4) (hx : x < 2147483648) (ht : th) : belA th Ls (nI k) (nI x) = nI (rkL (Ls k) x) := by
  unfold belA
  rw [ixN_k (by omega), ixN_k hx]
  exact if_pos ⟨ht, x, hx, rfl⟩
/-- the KEY that is nearest (of a list with KEYS) -/
def nrL (L : List (Nat × Int32)) (x : Nat) : Nat := if rkL L x = L.length then (L.getD (rkL L x - 1) (0, 0)).1 else if rkL L x = 0 then (L.getD 0 (0, 0)).1 else if x - (L.getD (rkL L x - 1) (0, 0)).1 ≤ (L.getD (rkL L x) (0, 0)).1 - x then (L.getD (rkL L x - 1) (0, 0)).1 else (L.getD (rkL L x) (0, 0)).1
noncomputable def nrA (th : Prop) (Ls : Nat → List (Nat × Int32)) (z1 z2 : Int32) : Int32 := @ite _ (th ∧ isK z2 ∧ Ls (ixN z1) ≠ []) (Classical.propDecidable _) (nI (nrL (Ls (ixN z1)) (ixN z2))) (-1)
theorem nrA_0 {th : Prop} {Ls : Nat → List (Nat × Int32)} {z1 z2 : Int32} (h : ¬ (th ∧ isK z2 ∧ Ls (ixN z1) ≠ [])) : nrA th Ls z1 z2 = -1 := if_neg h
theorem nrA_n {th : Prop} {Ls : Nat → List (Nat × Int32)} {k : Nat} {z2 : Int32} (hk : k < 4) (h : Ls k = []) : nrA th Ls (nI k) z2 = -1 := nrA_0 (fun q => q.2.2 (by rw [ixN_k (by omega)]; exact h))
theorem nrA_1 {th : Prop} {Ls : Nat → List (Nat × Int32)} {k x : Nat} (hk : k < 4) (hx : x < 2147483647) (ht : th) (hn : Ls k ≠ []) : nrA th Ls (nI k) (nI x) = nI (nrL (Ls k) x) := by
  unfold nrA
  rw [ixN_k (by omega), ixN_k (by omega)]
  exact if_pos ⟨ht, ⟨x, hx, rfl⟩, hn⟩
theorem tabl_ne {cn : Nat} {K : Nat → Nat} {V : Nat → Int32} (h : 0 < cn) : tabl cn K V ≠ [] := fun e => by
  have := congrArg List.length e
  rw [tabl_len] at this
  have : cn = 0 := this
  omega
theorem nrL_t {cn q x : Nat} {K : Nat → Nat} {V : Nat → Int32} (e : rkL (tabl cn K V) x = q) (h0 : 0 < cn) (hq : q ≤ cn) : nrL (tabl cn K V) x = if q = cn then K (q - 1) else if q = 0 then K 0 else if x - K (q - 1) ≤ K q - x then K (q - 1) else K q := by
  unfold nrL
  rw [e, tabl_len]
  by_cases a : q = cn
  · rw [if_pos a, if_pos a, tabl_getD K V (by omega)]
  · rw [if_neg a, if_neg a, tabl_getD K V (j := 0) h0, tabl_getD K V (j := q - 1) (by omega), tabl_getD K V (j := q) (by omega)]
/-- how many KEYS of the first are in the second, how many with like VALUES -/
def shF : List (Nat × Int32) → List (Nat × Int32) → Nat → Nat → Nat × Nat
  | [], _, b, l => (b, l)
  | (x, v) :: R, L2, b, l => match lookL L2 x with
    | none => shF R L2 b l
    | some w => shF R L2 (b + 1) (if w = v then l + 1 else l)
theorem shF_n {R L2 : List (Nat × Int32)} {x : Nat} {v : Int32} {b l : Nat} (h : lookL L2 x = none) : shF ((x, v) :: R) L2 b l = shF R L2 b l := by
  show (match lookL L2 x with
    | none => shF R L2 b l
    | some w => shF R L2 (b + 1) (if w = v then l + 1 else l)) = _
  rw [h]
theorem shF_s {R L2 : List (Nat × Int32)} {x : Nat} {v w : Int32} {b l : Nat} (h : lookL L2 x = some w) : shF ((x, v) :: R) L2 b l = shF R L2 (b + 1) (if w = v then l + 1 else l) := by
  show (match lookL L2 x with
    | none => shF R L2 b l
    | some w => shF R L2 (b + 1) (if w = v then l + 1 else l)) = _
  rw [h]
def shR (L1 L2 : List (Nat × Int32)) (z : Int32) : Int32 := if z = 0 then nI (shF L1 L2 0 0).1 else if z = 1 then nI L1.length + nI L2.length - nI (shF L1 L2 0 0).1 else if z = 2 then nI L1.length - nI (shF L1 L2 0 0).1 else nI (shF L1 L2 0 0).2
noncomputable def shA (t1 t2 : Prop) (Ls : Nat → List (Nat × Int32)) (z1 z2 z3 : Int32) : Int32 := @ite _ (t1 ∧ t2 ∧ tn4 z3) (Classical.propDecidable _) (shR (Ls (ixN z1)) (Ls (ixN z2)) z3) (-1)
theorem shA_0 {t1 t2 : Prop} {Ls : Nat → List (Nat × Int32)} {z1 z2 z3 : Int32} (h : ¬ (t1 ∧ t2 ∧ tn4 z3)) : shA t1 t2 Ls z1 z2 z3 = -1 := if_neg h
theorem shA_1 {t1 t2 : Prop} {Ls : Nat → List (Nat × Int32)} {k k2 : Nat} {z3 : Int32} (hk : k < 4) (hk2 : k2 < 4) (h1 : t1) (h2 : t2) (h3 : tn4 z3) : shA t1 t2 Ls (nI k) (nI k2) z3 = shR (Ls k) (Ls k2) z3 := by
  unfold shA
  rw [ixN_k (by omega), ixN_k (by omega)]
  exact if_pos ⟨h1, h2, h3⟩
/-- the greatest VALUE, of like ones the first; the sum -/
def vaF : List (Nat × Int32) → Option (Nat × Int32) → Int64 → Option (Nat × Int32) × Int64
  | [], b, s => (b, s)
  | (x, v) :: R, b, s => vaF R (match b with
    | none => some (x, v)
    | some p => if p.2 < v then some (x, v) else some p) (s + v.toInt64)
def vaR (L : List (Nat × Int32)) (z : Int32) : Int64 := if z = 2 then (vaF L none 0).2 else if z = 0 then (match (vaF L none 0).1 with
  | none => -1
  | some p => Int32.toInt64 (nI p.1)) else (match (vaF L none 0).1 with
  | none => -1000000000000000
  | some p => p.2.toInt64)
noncomputable def vaA (th : Prop) (Ls : Nat → List (Nat × Int32)) (z1 z2 : Int32) : Int64 := @ite _ (th ∧ (0 : Int32) ≤ z2 ∧ z2 ≤ 2) (Classical.propDecidable _) (vaR (Ls (ixN z1)) z2) (-1000000000000000)
theorem vaA_0 {th : Prop} {Ls : Nat → List (Nat × Int32)} {z1 z2 : Int32} (h : ¬ (th ∧ (0 : Int32) ≤ z2 ∧ z2 ≤ 2)) : vaA th Ls z1 z2 = -1000000000000000 := if_neg h
theorem vaA_1 {th : Prop} {Ls : Nat → List (Nat × Int32)} {k : Nat} {z2 : Int32} (hk : k < 4) (ht : th) (h : (0 : Int32) ≤ z2 ∧ z2 ≤ 2) : vaA th Ls (nI k) z2 = vaR (Ls k) z2 := by
  unfold vaA
  rw [ixN_k (by omega)]
  exact if_pos ⟨ht, h⟩
/-- how many tables, KEYS of all -/
def cuF (th : Nat → Bool) (Ls : Nat → List (Nat × Int32)) : Nat → Nat × Nat
  | 0 => (0, 0)
  | x + 1 => if th x = true then ((cuF th Ls x).1 + 1, (cuF th Ls x).2 + (Ls x).length) else cuF th Ls x
def cuA (th : Nat → Bool) (Ls : Nat → List (Nat × Int32)) (tp z : Int32) : Int32 := if z = 0 then nI (cuF th Ls 4).1 else if z = 1 then nI (cuF th Ls 4).2 else if z = 2 then tp else -1
theorem cuF_eq {th tg : Nat → Bool} {Ls : Nat → List (Nat × Int32)} : ∀ n, (∀ j, j < n → th j = tg j) → cuF th Ls n = cuF tg Ls n
  | 0, _ => rfl
  | n + 1, h => by
    show (if th n = true then _ else _) = (if tg n = true then _ else _)
    rw [cuF_eq n (fun j hj => h j (by omega)), h n (by omega)]
noncomputable def imA (th : Prop) (Ls : Nat → List (Nat × Int32)) (z1 : Int32) : Int32 := @ite _ th (Classical.propDecidable _) (nI (14 + 8 * (Ls (ixN z1)).length)) (-1)
theorem imA_0 {th : Prop} {Ls : Nat → List (Nat × Int32)} {z1 : Int32} (h : ¬ th) : imA th Ls z1 = -1 := if_neg h
theorem imA_1 {th : Prop} {Ls : Nat → List (Nat × Int32)} {k : Nat} (hk : k < 4) (ht : th) : imA th Ls (nI k) = nI (14 + 8 * (Ls k).length) := by
  unfold imA
  rw [ixN_k (by omega)]
  exact if_pos ht
theorem tabl_drop {cn : Nat} (K : Nat → Nat) (V : Nat → Int32) {y : Nat} (hy : y < cn) : (tabl cn K V).drop y = (K y, V y) :: (tabl cn K V).drop (y + 1) := by
  have h : y < (tabl cn K V).length := by rw [tabl_len]; exact hy
  rw [List.drop_eq_getElem_cons h]
  congr 1
  simp [tabl]
theorem tabl_dnil {cn : Nat} (K : Nat → Nat) (V : Nat → Int32) {y : Nat} (hy : cn ≤ y) : (tabl cn K V).drop y = [] := List.drop_eq_nil_of_le (by rw [tabl_len]; exact hy)
theorem nI_neg1 {n : Nat} (h : n < 2147483648) : ¬ nI n = -1 := fun e => absurd (show (0 : Int32) ≤ -1 from e ▸ nI_pos' h) (by decide)
theorem cn_in {z : Int32} {cn : Nat} (hcn : cn ≤ 1048576) (h : ∃ j, j < cn ∧ z = nI j) : (0 : Int64) ≤ z.toInt64 ∧ z.toInt64 ≤ (nI cn - 1).toInt64 := by
  obtain ⟨j, hj, rfl⟩ := h
  rw [show nI cn - 1 = nI (cn - 1) from pk_sub (b := 1) (by omega), show (0 : Int64) = (0 : Int32).toInt64 from by decide, w64_le, w64_le]
  exact ⟨nI_pos' (by omega), nI_le (by omega) (by omega)⟩
theorem vaF_0 {R : List (Nat × Int32)} {x : Nat} {v : Int32} {s : Int64} : vaF ((x, v) :: R) none s = vaF R (some (x, v)) (s + v.toInt64) := rfl
theorem vaF_1 {R : List (Nat × Int32)} {x : Nat} {v : Int32} {p : Nat × Int32} {s : Int64} (h : p.2 < v) : vaF ((x, v) :: R) (some p) s = vaF R (some (x, v)) (s + v.toInt64) := by
  show vaF R (if p.2 < v then some (x, v) else some p) _ = _
  rw [if_pos h]
theorem vaF_2 {R : List (Nat × Int32)} {x : Nat} {v : Int32} {p : Nat × Int32} {s : Int64} (h : ¬ p.2 < v) : vaF ((x, v) :: R) (some p) s = vaF R (some p) (s + v.toInt64) := by
  show vaF R (if p.2 < v then some (x, v) else some p) _ = _
  rw [if_neg h]
theorem vaR_2 {L : List (Nat × Int32)} {b : Option (Nat × Int32)} {s : Int64} {z : Int32} (e : vaF L none 0 = (b, s)) (h : z = 2) : vaR L z = s := by
  unfold vaR
  rw [if_pos h, e]
theorem vaR_0n {L : List (Nat × Int32)} {s : Int64} {z : Int32} (e : vaF L none 0 = (none, s)) (h2 : ¬ z = 2) (h : z = 0) : vaR L z = -1 := by
  unfold vaR
  rw [if_neg h2, if_pos h, e]
theorem vaR_0s {L : List (Nat × Int32)} {p : Nat × Int32} {s : Int64} {z : Int32} (e : vaF L none 0 = (some p, s)) (h2 : ¬ z = 2) (h : z = 0) : vaR L z = Int32.toInt64 (nI p.1) := by
  unfold vaR
  rw [if_neg h2, if_pos h, e]
theorem vaR_1n {L : List (Nat × Int32)} {s : Int64} {z : Int32} (e : vaF L none 0 = (none, s)) (h2 : ¬ z = 2) (h : ¬ z = 0) : vaR L z = -1000000000000000 := by
  unfold vaR
  rw [if_neg h2, if_neg h, e]
theorem vaR_1s {L : List (Nat × Int32)} {p : Nat × Int32} {s : Int64} {z : Int32} (e : vaF L none 0 = (some p, s)) (h2 : ¬ z = 2) (h : ¬ z = 0) : vaR L z = p.2.toInt64 := by
  unfold vaR
  rw [if_neg h2, if_neg h, e]
theorem isIn02 {z : Int32} : ((0 : Int64) ≤ z.toInt64 ∧ z.toInt64 ≤ 2) ↔ ((0 : Int32) ≤ z ∧ z ≤ 2) := isInc (a := 0) (c := 2)
theorem shR_0 {L1 L2 : List (Nat × Int32)} {b l : Nat} {z : Int32} (e : shF L1 L2 0 0 = (b, l)) (h : z = 0) : shR L1 L2 z = nI b := by
  unfold shR
  rw [if_pos h, e]
theorem shR_1 {L1 L2 : List (Nat × Int32)} {b l : Nat} {z : Int32} (e : shF L1 L2 0 0 = (b, l)) (h0 : ¬ z = 0) (h : z = 1) : shR L1 L2 z = nI L1.length + nI L2.length - nI b := by
  unfold shR
  rw [if_neg h0, if_pos h, e]
theorem shR_2 {L1 L2 : List (Nat × Int32)} {b l : Nat} {z : Int32} (e : shF L1 L2 0 0 = (b, l)) (h0 : ¬ z = 0) (h1 : ¬ z = 1) (h : z = 2) : shR L1 L2 z = nI L1.length - nI b := by
  unfold shR
  rw [if_neg h0, if_neg h1, if_pos h, e]
theorem shR_3 {L1 L2 : List (Nat × Int32)} {b l : Nat} {z : Int32} (e : shF L1 L2 0 0 = (b, l)) (h0 : ¬ z = 0) (h1 : ¬ z = 1) (h : ¬ z = 2) : shR L1 L2 z = nI l := by
  unfold shR
  rw [if_neg h0, if_neg h1, if_neg h, e]
theorem cuA_0 {th : Nat → Bool} {Ls : Nat → List (Nat × Int32)} {tp z : Int32} {a b : Nat} (e : cuF th Ls 4 = (a, b)) (h : z = 0) : cuA th Ls tp z = nI a := by
  unfold cuA
  rw [if_pos h, e]
theorem cuA_1 {th : Nat → Bool} {Ls : Nat → List (Nat × Int32)} {tp z : Int32} {a b : Nat} (e : cuF th Ls 4 = (a, b)) (h0 : ¬ z = 0) (h : z = 1) : cuA th Ls tp z = nI b := by
  unfold cuA
  rw [if_neg h0, if_pos h, e]
theorem cuA_2 {th : Nat → Bool} {Ls : Nat → List (Nat × Int32)} {tp z : Int32} (h0 : ¬ z = 0) (h1 : ¬ z = 1) (h : z = 2) : cuA th Ls tp z = tp := by
  unfold cuA
  rw [if_neg h0, if_neg h1, if_pos h]
theorem cuA_3 {th : Nat → Bool} {Ls : Nat → List (Nat × Int32)} {tp z : Int32} (h0 : ¬ z = 0) (h1 : ¬ z = 1) (h : ¬ z = 2) : cuA th Ls tp z = -1 := by
  unfold cuA
  rw [if_neg h0, if_neg h1, if_neg h]
theorem cuF_1 {th : Nat → Bool} {Ls : Nat → List (Nat × Int32)} {x a b n : Nat} (e : cuF th Ls x = (a, b)) (h : th x = true) (hn : (Ls x).length = n) : cuF th Ls (x + 1) = (a + 1, b + n) := by
  show (if th x = true then _ else _) = _
  rw [if_pos h, e, hn]
theorem cuF_0 {th : Nat → Bool} {Ls : Nat → List (Nat × Int32)} {x a b : Nat} (e : cuF th Ls x = (a, b)) (h : ¬ th x = true) : cuF th Ls (x + 1) = (a, b) := by
  show (if th x = true then _ else _) = _
  rw [if_neg h, e]
/-- the greatest alone, the sum alone -/
def mxF : List (Nat × Int32) → Option (Nat × Int32) → Option (Nat × Int32)
  | [], b => b
  | (x, v) :: R, b => mxF R (match b with
    | none => some (x, v)
    | some p => if p.2 < v then some (x, v) else some p)
def smF : List (Nat × Int32) → Int64 → Int64
  | [], s => s
  | (_, v) :: R, s => smF R (s + v.toInt64)
theorem vaF_sp : ∀ (L : List (Nat × Int32)) (b : Option (Nat × Int32)) (s : Int64), vaF L b s = (mxF L b, smF L s)
  | [], _, _ => rfl
  | (_, _) :: R, _, _ => vaF_sp R _ _
theorem mxF_0 {R : List (Nat × Int32)} {x : Nat} {v : Int32} : mxF ((x, v) :: R) none = mxF R (some (x, v)) := rfl
theorem mxF_1 {R : List (Nat × Int32)} {x : Nat} {v : Int32} {p : Nat × Int32} (h : p.2 < v) : mxF ((x, v) :: R) (some p) = mxF R (some (x, v)) := by
  show mxF R (if p.2 < v then some (x, v) else some p) = _
  rw [if_pos h]
theorem mxF_2 {R : List (Nat × Int32)} {x : Nat} {v : Int32} {p : Nat × Int32} (h : ¬ p.2 < v) : mxF ((x, v) :: R) (some p) = mxF R (some p) := by
  show mxF R (if p.2 < v then some (x, v) else some p) = _
  rw [if_neg h]
theorem isK0_of {z : Int32} (h : (0 : Int32) ≤ z) : ∃ x, x < 2147483648 ∧ z = nI x := by
  refine in0M.mp ?_
  rw [show (0 : Int64) = (0 : Int32).toInt64 from by decide, show (2147483647 : Int64) = (2147483647 : Int32).toInt64 from by decide, w64_le, w64_le]
  refine ⟨h, ?_⟩
  rw [Int32.le_iff_toInt_le]
  have := Int32.toInt_lt z
  have e : (2147483647 : Int32).toInt = 2147483647 := by decide
  omega
/-! one table that is there -/
theorem th_T {th : Prop} (h : th) : th = True := propext ⟨fun _ => trivial, fun _ => h⟩
theorem getA_m {th : Prop} {Ls : Nat → List (Nat × Int32)} {k : Nat} {z2 : Int32} (hk : k < 4) (h : th) : getA th Ls (nI k) z2 = getA True (fun _ => Ls k) (nI k) z2 := by
  rw [th_T h]
  unfold getA
  rw [ixN_k (by omega)]
theorem keyA_m {th : Prop} {Ls : Nat → List (Nat × Int32)} {k : Nat} {z2 : Int32} (hk : k < 4) (h : th) : keyA th Ls (nI k) z2 = keyA True (fun _ => Ls k) (nI k) z2 := by
  rw [th_T h]
  unfold keyA
  rw [ixN_k (by omega)]
theorem belA_m {th : Prop} {Ls : Nat → List (Nat × Int32)} {k : Nat} {z2 : Int32} (hk : k < 4) (h : th) : belA th Ls (nI k) z2 = belA True (fun _ => Ls k) (nI k) z2 := by
  rw [th_T h]
  unfold belA
  rw [ixN_k (by omega)]
theorem nrA_m {th : Prop} {Ls : Nat → List (Nat × Int32)} {k : Nat} {z2 : Int32} (hk : k < 4) (h : th) : nrA th Ls (nI k) z2 = nrA True (fun _ => Ls k) (nI k) z2 := by
  rw [th_T h]
  unfold nrA
  rw [ixN_k (by omega)]
theorem vaA_m {th : Prop} {Ls : Nat → List (Nat × Int32)} {k : Nat} {z2 : Int32} (hk : k < 4) (h : th) : vaA th Ls (nI k) z2 = vaA True (fun _ => Ls k) (nI k) z2 := by
  rw [th_T h]
  unfold vaA
  rw [ixN_k (by omega)]
theorem imA_m {th : Prop} {Ls : Nat → List (Nat × Int32)} {k : Nat} (hk : k < 4) (h : th) : imA th Ls (nI k) = nI (14 + 8 * (Ls k).length) := imA_1 hk h
theorem updS_at {A B : Nat → List (Nat × Int32)} {k : Nat} (h : ∀ j, j ≠ k → B j = A j) : updS A k (B k) = B := by
  funext j
  unfold updS
  split
  · next e => rw [e]
  · next e => exact (h j e).symm
theorem putS_m {th : Prop} {Ls : Nat → List (Nat × Int32)} {k : Nat} {z2 z3 : Int32} (hk : k < 4) (h : th) : updS Ls k (putS True (fun _ => Ls k) (nI k) z2 z3 k) = putS th Ls (nI k) z2 z3 := by
  rw [th_T h]
  unfold putS
  rw [ixN_k (by omega)]
  by_cases q : True ∧ isK z2 ∧ fulL (Ls k) (ixN z2) = false
  · rw [if_pos q, if_pos q, updS_s]
  · rw [if_neg q, if_neg q, updS_id]
theorem drpS_m {th : Prop} {Ls : Nat → List (Nat × Int32)} {k : Nat} {z2 : Int32} (hk : k < 4) (h : th) : updS Ls k (drpS True (fun _ => Ls k) (nI k) z2 k) = drpS th Ls (nI k) z2 := by
  rw [th_T h]
  unfold drpS
  rw [ixN_k (by omega)]
  by_cases q : True ∧ isK z2
  · rw [if_pos q, if_pos q, updS_s]
  · rw [if_neg q, if_neg q, updS_id]
noncomputable def shO (L L2 : List (Nat × Int32)) (z3 : Int32) : Int32 := @ite _ (tn4 z3) (Classical.propDecidable _) (shR L L2 z3) (-1)
theorem shO_0 {L L2 : List (Nat × Int32)} {z3 : Int32} (h : ¬ tn4 z3) : shO L L2 z3 = -1 := if_neg h
theorem shO_1 {L L2 : List (Nat × Int32)} {z3 : Int32} (h : tn4 z3) : shO L L2 z3 = shR L L2 z3 := if_pos h
theorem shA_m {t1 t2 : Prop} {Ls : Nat → List (Nat × Int32)} {k k2 : Nat} {z3 : Int32} (hk : k < 4) (hk2 : k2 < 4) (h1 : t1) (h2 : t2) : shA t1 t2 Ls (nI k) (nI k2) z3 = shO (Ls k) (Ls k2) z3 := by
  by_cases h : tn4 z3
  · rw [shA_1 hk hk2 h1 h2 h, shO_1 h]
  · rw [shA_0 (fun q => h q.2.2), shO_0 h]
