/-! how many tables are wanting: each is made once -/
def cntE (ex : Nat → Bool) : Nat := (if ex 0 = true then 0 else 1) + (if ex 1 = true then 0 else 1) + (if ex 2 = true then 0 else 1) + (if ex 3 = true then 0 else 1)
theorem exZ_j {ex : Nat → Bool} {k j : Nat} (hk : k < 4) (hj : j < 4) : exZ ex (nI k) j = if k = j then true else ex j := by
  by_cases e : k = j
  · subst e
    simp [exZ]
  · simp only [exZ, if_neg e, if_neg (fun q => e ((nI_eq (by omega) (by omega)).mp q))]
theorem cntE_1 {ex : Nat → Bool} {k : Nat} (hk : k < 4) (h : ex k = false) : cntE (exZ ex (nI k)) + 1 = cntE ex := by
  unfold cntE
  rw [exZ_j hk (by decide), exZ_j hk (by decide), exZ_j hk (by decide), exZ_j hk (by decide)]
  rcases (show k = 0 ∨ k = 1 ∨ k = 2 ∨ k = 3 by omega) with e | e | e | e <;> subst e <;> simp [h] <;> omega
theorem cntE_0 {ex : Nat → Bool} {k : Nat} (hk : k < 4) (h : ex k = true) : cntE (exZ ex (nI k)) = cntE ex := by
  unfold cntE
  rw [exZ_j hk (by decide), exZ_j hk (by decide), exZ_j hk (by decide), exZ_j hk (by decide)]
  rcases (show k = 0 ∨ k = 1 ∨ k = 2 ∨ k = 3 by omega) with e | e | e | e <;> subst e <;> simp [h]
theorem cz_1 {ex : Nat → Bool} {z : Int32} (hz : tn4 z) (h : ¬ thE ex z) : cntE (exZ ex z) + 1 = cntE ex := by
  obtain ⟨k, hk, rfl⟩ := in04 hz
  refine cntE_1 hk ?_
  cases e : ex k with
  | false => rfl
  | true => exact absurd ⟨k, hk, rfl, e⟩ h
theorem cz_0 {ex : Nat → Bool} {z : Int32} (h : thE ex z) : cntE (exZ ex z) = cntE ex := by
  obtain ⟨k, hk, rfl, e⟩ := h
  exact cntE_0 hk e
theorem mkF_t {z1 z2 z3 z4 : Int32} (h : mkF z1 z2 z3 z4 = 1) : tn4 z1 := by
  refine Classical.byContradiction (fun q => ?_)
  rw [mkF_a q] at h
  exact absurd h (by decide)
def mkNew (ex : Nat → Bool) (z1 z2 z3 z4 : Int32) : Prop := mkF z1 z2 z3 z4 = 1 ∧ ¬ thE ex z1
theorem mk_c1 {ex : Nat → Bool} {z1 z2 z3 z4 : Int32} (h : mkNew ex z1 z2 z3 z4) : cntE (mkE ex z1 z2 z3 z4) + 1 = cntE ex := by
  rw [show mkE ex z1 z2 z3 z4 = exZ ex z1 from if_pos h.1]
  exact cz_1 (mkF_t h.1) h.2
theorem mk_c0 {ex : Nat → Bool} {z1 z2 z3 z4 : Int32} (h : ¬ mkNew ex z1 z2 z3 z4) : cntE (mkE ex z1 z2 z3 z4) = cntE ex := by
  by_cases e : mkF z1 z2 z3 z4 = 1
  · rw [show mkE ex z1 z2 z3 z4 = exZ ex z1 from if_pos e]
    exact cz_0 (Classical.byContradiction (fun q => h ⟨e, q⟩))
  · rw [show mkE ex z1 z2 z3 z4 = ex from if_neg e]
def bkNew (bt : Nat → Nat) (tp : Nat) (ex : Nat → Bool) (z : Int32) : Prop := (tn4 z ∧ IMG bt tp) ∧ ¬ thE ex z
theorem bk_c1 {bt : Nat → Nat} {tp : Nat} {ex : Nat → Bool} {z : Int32} (h : bkNew bt tp ex z) : cntE (bkX bt tp ex z) + 1 = cntE ex := by
  rw [show bkX bt tp ex z = exZ ex z from if_pos h.1]
  exact cz_1 h.1.1 h.2
theorem bk_c0 {bt : Nat → Nat} {tp : Nat} {ex : Nat → Bool} {z : Int32} (h : ¬ bkNew bt tp ex z) : cntE (bkX bt tp ex z) = cntE ex := by
  by_cases e : tn4 z ∧ IMG bt tp
  · rw [show bkX bt tp ex z = exZ ex z from if_pos e]
    exact cz_0 (Classical.byContradiction (fun q => h ⟨e, q⟩))
  · rw [show bkX bt tp ex z = ex from if_neg e]
def cpNew (ex : Nat → Bool) (z1 z2 : Int32) : Prop := cpC ex z1 z2 ∧ ¬ thE ex z1
theorem cp_c1 {ex : Nat → Bool} {z1 z2 : Int32} (h : cpNew ex z1 z2) : cntE (cpX ex z1 z2) + 1 = cntE ex := by
  rw [show cpX ex z1 z2 = exZ ex z1 from if_pos h.1]
  exact cz_1 h.1.1 h.2
theorem cp_c0 {ex : Nat → Bool} {z1 z2 : Int32} (h : ¬ cpNew ex z1 z2) : cntE (cpX ex z1 z2) = cntE ex := by
  by_cases e : cpC ex z1 z2
  · rw [show cpX ex z1 z2 = exZ ex z1 from if_pos e]
    exact cz_0 (Classical.byContradiction (fun q => h ⟨e, q⟩))
  · rw [show cpX ex z1 z2 = ex from if_neg e]

