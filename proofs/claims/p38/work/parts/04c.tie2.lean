/-! what both sides do to the tape and to which tables are there -/
def exZ (ex : Nat → Bool) (z : Int32) : Nat → Bool := fun j => if z = nI j then true else ex j
def thE (ex : Nat → Bool) (z : Int32) : Prop := ∃ k, k < 4 ∧ z = nI k ∧ ex k = true
def fdT (tp : Nat) : Nat := if tp + 20 ≤ 1400 then tp + 20 else tp
def fdA (tp : Nat) : Int32 := if tp + 20 ≤ 1400 then nI (tp + 20) else -1
def fdB (bt : Nat → Nat) (tp : Nat) (z1 z2 z3 z4 z5 : Int32) : Nat → Nat := if tp + 20 ≤ 1400 then wr5 bt tp z1 z2 z3 z4 z5 else bt
theorem fd_1 {bt : Nat → Nat} {tp : Nat} {z1 z2 z3 z4 z5 : Int32} (h : tp + 20 ≤ 1400) : fdT tp = tp + 20 ∧ fdB bt tp z1 z2 z3 z4 z5 = wr5 bt tp z1 z2 z3 z4 z5 ∧ fdA tp = nI (tp + 20) := ⟨if_pos h, if_pos h, if_pos h⟩
theorem fd_0 {bt : Nat → Nat} {tp : Nat} {z1 z2 z3 z4 z5 : Int32} (h : 1400 < tp + 20) : fdT tp = tp ∧ fdB bt tp z1 z2 z3 z4 z5 = bt ∧ fdA tp = -1 := ⟨if_neg (by omega), if_neg (by omega), if_neg (by omega)⟩
def enT (tp : Nat) (z : Int32) : Nat := if (0 : Int32) ≤ z ∧ z ≤ nI tp then z.toInt.toNat else tp
def enA (tp : Nat) (z : Int32) : Int32 := if (0 : Int32) ≤ z ∧ z ≤ nI tp then 1 else 0
theorem en_1 {tp j : Nat} (ht : tp ≤ 1400) (hj : j ≤ tp) : enT tp (nI j) = j ∧ enA tp (nI j) = 1 := by
  have h : (0 : Int32) ≤ nI j ∧ nI j ≤ nI tp := ⟨nI_pos' (by omega), nI_le hj (by omega)⟩
  refine ⟨(if_pos h).trans ?_, if_pos h⟩
  rw [nI_toInt (by omega)]
  omega
theorem en_0 {tp : Nat} {z : Int32} (h : ¬ ((0 : Int32) ≤ z ∧ z ≤ nI tp)) : enT tp z = tp ∧ enA tp z = 0 := ⟨if_neg h, if_neg h⟩
noncomputable def mkE (ex : Nat → Bool) (z1 z2 z3 z4 : Int32) : Nat → Bool := if mkF z1 z2 z3 z4 = 1 then exZ ex z1 else ex
noncomputable def rnT (tp : Nat) (ex : Nat → Bool) (z : Int32) : Nat := @ite Nat (thE ex z) (Classical.propDecidable _) 0 tp
theorem rn_1 {tp : Nat} {ex : Nat → Bool} {z : Int32} (h : thE ex z) : rnT tp ex z = 0 := if_pos h
theorem rn_0 {tp : Nat} {ex : Nat → Bool} {z : Int32} (h : ¬ thE ex z) : rnT tp ex z = tp := if_neg h
def tn4 (z : Int32) : Prop := (0 : Int32) ≤ z ∧ z < 4
noncomputable def bkT (tp : Nat) (z : Int32) : Nat := @ite Nat (tn4 z) (Classical.propDecidable _) 0 tp
noncomputable def bkX (bt : Nat → Nat) (tp : Nat) (ex : Nat → Bool) (z : Int32) : Nat → Bool := @ite (Nat → Bool) (tn4 z ∧ IMG bt tp) (Classical.propDecidable _) (exZ ex z) ex
noncomputable def bkR (bt : Nat → Nat) (tp : Nat) (z : Int32) : Int32 := @ite Int32 (tn4 z) (Classical.propDecidable _) (@ite Int32 (IMG bt tp) (Classical.propDecidable _) (nI (bt 12)) (-1)) (-2)
theorem bk_n {bt : Nat → Nat} {tp : Nat} {ex : Nat → Bool} {z : Int32} (h : ¬ tn4 z) : bkT tp z = tp ∧ bkX bt tp ex z = ex ∧ bkR bt tp z = -2 := ⟨if_neg h, if_neg (fun q => h q.1), if_neg h⟩
theorem bk_1 {bt : Nat → Nat} {tp : Nat} {ex : Nat → Bool} {z : Int32} (h : tn4 z) (hi : IMG bt tp) : bkT tp z = 0 ∧ bkX bt tp ex z = exZ ex z ∧ bkR bt tp z = nI (bt 12) := ⟨if_pos h, if_pos ⟨h, hi⟩, (if_pos h).trans (if_pos hi)⟩
theorem bk_0 {bt : Nat → Nat} {tp : Nat} {ex : Nat → Bool} {z : Int32} (h : tn4 z) (hi : ¬ IMG bt tp) : bkT tp z = 0 ∧ bkX bt tp ex z = ex ∧ bkR bt tp z = -1 := ⟨if_pos h, if_neg (fun q => hi q.2), (if_pos h).trans (if_neg hi)⟩
def cpC (ex : Nat → Bool) (z1 z2 : Int32) : Prop := tn4 z1 ∧ thE ex z2 ∧ z1 ≠ z2
noncomputable def cpX (ex : Nat → Bool) (z1 z2 : Int32) : Nat → Bool := @ite (Nat → Bool) (cpC ex z1 z2) (Classical.propDecidable _) (exZ ex z1) ex
noncomputable def cpA (ex : Nat → Bool) (z1 z2 : Int32) : Int32 := @ite Int32 (cpC ex z1 z2) (Classical.propDecidable _) 1 (-2)
theorem cp_1 {ex : Nat → Bool} {z1 z2 : Int32} (h : cpC ex z1 z2) : cpX ex z1 z2 = exZ ex z1 ∧ cpA ex z1 z2 = 1 := ⟨if_pos h, if_pos h⟩
theorem cp_0 {ex : Nat → Bool} {z1 z2 : Int32} (h : ¬ cpC ex z1 z2) : cpX ex z1 z2 = ex ∧ cpA ex z1 z2 = -2 := ⟨if_neg h, if_neg h⟩
theorem tn4_k {k : Nat} (hk : k < 4) : tn4 (nI k) := ⟨nI_pos' (by omega), nI_lt (b := 4) hk (by decide)⟩
/-! the reference's side -/
def ExR (ex : Nat → Bool) (fn : Nat → Int64) : Prop := ∀ k, k < 4 → (fn (17 * k + 0) = 1 ↔ ex k = true)
theorem ExR.same {ex : Nat → Bool} {fn gn : Nat → Int64} (h : ExR ex fn) (hs : SameT fn gn) : ExR ex gn := fun k hk => by
  rw [hs k hk]
  exact h k hk
theorem ExR.new {ex : Nat → Bool} {fn gn : Nat → Int64} {k : Nat} (h : ExR ex fn) (hk : k < 4) (hn : NewT fn gn k) : ExR (exZ ex (nI k)) gn := fun j hj => by
  by_cases e : j = k
  · subst e
    simp only [exZ, if_true]
    exact ⟨fun _ => trivial, fun _ => hn.1⟩
  · rw [hn.2 j hj e]
    simp only [exZ, if_neg (fun q => e ((nI_eq (by omega) (by omega)).mp q).symm)]
    exact h j hj
theorem ExR.there {ex : Nat → Bool} {fn : Nat → Int64} (h : ExR ex fn) (z : Int32) : there fn z ↔ thE ex z := ⟨fun ⟨k, hk, e, ht⟩ => ⟨k, hk, e, (h k hk).mp ht⟩, fun ⟨k, hk, e, ht⟩ => ⟨k, hk, e, (h k hk).mpr ht⟩⟩
/-! the class's side -/
def ExC (ex : Nat → Bool) (ft : Nat → Option Nat) : Prop := ∀ k, k < 4 → (ft k).isSome = ex k
theorem ExC.new {ex : Nat → Bool} {ft : Nat → Option Nat} {k b : Nat} (h : ExC ex ft) (hk : k < 4) : ExC (exZ ex (nI k)) (va_up ft k (some b)) := fun j hj => by
  by_cases e : j = k
  · subst e
    rw [va_up_self]
    simp [exZ]
  · rw [va_up_ne _ _ e]
    simp only [exZ, if_neg (fun q => e ((nI_eq (by omega) (by omega)).mp q).symm)]
    exact h j hj
theorem ExC.old {ex : Nat → Bool} {ft : Nat → Option Nat} {k b : Nat} (h : ExC ex ft) (hk : k < 4) (hf : ft k = some b) : ExC (exZ ex (nI k)) ft := fun j hj => by
  by_cases e : j = k
  · subst e
    rw [hf]
    simp [exZ]
  · simp only [exZ, if_neg (fun q => e ((nI_eq (by omega) (by omega)).mp q).symm)]
    exact h j hj
theorem ExC.th {ex : Nat → Bool} {ft : Nat → Option Nat} {k b : Nat} (h : ExC ex ft) (hk : k < 4) (hf : ft k = some b) : thE ex (nI k) := ⟨k, hk, rfl, by rw [← h k hk, hf]; rfl⟩
theorem ExC.nth {ex : Nat → Bool} {ft : Nat → Option Nat} {z : Int32} (h : ExC ex ft) (hn : ∀ k, k < 4 → z = nI k → ft k = none) : ¬ thE ex z := fun ⟨k, hk, e, hx⟩ => by
  have h1 := h k hk
  rw [hn k hk e, hx] at h1
  cases h1
