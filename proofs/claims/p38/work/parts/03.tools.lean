/-! my own words: a contract's start (read only: PcR; own cells: PcW), calls, frames -/
def PcR (D : va_G) (av : List Value) (sz : Nat) (ws : va_W) (tys : List (ClassId × FieldType)) : Array Value → State → Prop := va_Pc av (fun U => U.heap.size = sz ∧ va_P D vwCl ws U.heap ∧ va_K D vwCl tys U)
def PcW (D : va_G) (av : List Value) (sz : Nat) (ws : va_W) (tys : List (ClassId × FieldType)) : Array Value → State → Prop := va_Pc av (fun U => U.heap.size = sz ∧ va_P D vwCl ws U.heap ∧ va_K D vwCl tys U ∧ va_D (fun _ => True) ws)
theorem PcR_b {D : va_G} {av : List Value} {sz : Nat} {ws : va_W} {tys : List (ClassId × FieldType)} : FrameBlind (PcR D av sz ws tys) := fun a U g mk q => by
  obtain ⟨q0, q1, qP, qK⟩ := q
  exact ⟨q0, q1, qP, va_K.moved (u := U) (U := U.calling g mk a) (Vm.Alike.refl U.vm) qK⟩
theorem PcW_b {D : va_G} {av : List Value} {sz : Nat} {ws : va_W} {tys : List (ClassId × FieldType)} : FrameBlind (PcW D av sz ws tys) := fun a U g mk q => by
  obtain ⟨q0, q1, qP, qK, qD⟩ := q
  exact ⟨q0, q1, qP, va_K.moved (u := U) (U := U.calling g mk a) (Vm.Alike.refl U.vm) qK, qD⟩
theorem PcR_S {D : va_G} {s : State} {H : Heap} {av : List Value} {ws : va_W} {tys : List (ClassId × FieldType)} (hP : va_P D vwCl ws H) (hK : va_K D vwCl tys s) : PreS s H (PcR D av H.size ws tys) av := ⟨PcR_b, fun U hU hW => ⟨rfl, by rw [hU], by rw [hU]; exact hP, va_K.moved hW.alike hK⟩⟩
theorem PcW_S {D : va_G} {s : State} {H : Heap} {A : Nat → Prop} {av : List Value} {ws : va_W} {tys : List (ClassId × FieldType)} (hP : va_P D vwCl ws H) (hK : va_K D vwCl tys s) (hD : va_D A ws) : PreS s H (PcW D av H.size ws tys) av := ⟨PcW_b, fun U hU hW => ⟨rfl, by rw [hU], by rw [hU]; exact hP, va_K.moved hW.alike hK, hD.weaken (fun _ _ _ _ => trivial)⟩⟩
theorem PcR_V {D : va_G} {s : State} {H : Heap} {C : String} {T : u_T} {N ci q0 b : Nat} {fs As : List Value} {ws : va_W} {tys : List (ClassId × FieldType)} (hP : va_P D vwCl ws H) (hK : va_K D vwCl tys s) (he : ws[q0]? = some (b, .inr (ci, fs))) (hc : vwCl[ci]? = some (C, T, N)) : PreV s H C b (PcR D (.ref b :: As) H.size ws tys) As := ⟨PcR_b, va_recv hK hP hc he, fun U hU hW => ⟨rfl, by rw [hU], by rw [hU]; exact hP, va_K.moved hW.alike hK⟩⟩
theorem PcW_V {D : va_G} {s : State} {H : Heap} {A : Nat → Prop} {C : String} {T : u_T} {N ci q0 b : Nat} {fs As : List Value} {ws : va_W} {tys : List (ClassId × FieldType)} (hP : va_P D vwCl ws H) (hK : va_K D vwCl tys s) (hD : va_D A ws) (he : ws[q0]? = some (b, .inr (ci, fs))) (hc : vwCl[ci]? = some (C, T, N)) : PreV s H C b (PcW D (.ref b :: As) H.size ws tys) As := ⟨PcW_b, va_recv hK hP hc he, fun U hU hW => ⟨rfl, by rw [hU], by rw [hU]; exact hP, va_K.moved hW.alike hK, hD.weaken (fun _ _ _ _ => trivial)⟩⟩
theorem va_A0 {sz q : Nat} (h : va_A [] sz q) : sz ≤ q := by
  rcases h with ⟨k, e, h⟩ | h
  · simp at h
  · exact h
theorem va_keep {D : va_G} {cl : List vw_C} {ws : va_W} {H H1 : Heap} (hP : va_P D cl ws H) (hk : ∀ q : Nat, q < H.size → ¬ va_A [] H.size q → H1[q]? = H[q]?) : va_P D cl ws H1 := hP.kept (fun k q h => hk q.1 (hP k q h).lt (fun z => Nat.not_le.mpr (hP k q h).lt (va_A0 z)))
theorem va_free0 {A0 : Nat → Prop} {H0 H : Heap} {locs : List Loc} (hS : va_S A0 H0 H locs) (hA : ∀ q, H0.size ≤ q → A0 q) : ∀ q, va_A [] H.size q → A0 q := fun q h => hA q (Nat.le_trans hS.1 (va_A0 h))
theorem va_P_nil {D : va_G} {cl : List vw_C} {H : Heap} : va_P D cl [] H := fun k q h => by simp at h
theorem va_D_nil {A : Nat → Prop} : va_D A [] := ⟨fun i j p q h => by simp at h, fun k q h => by simp at h⟩
theorem ix17 (k w : Nat) : (17 : Int32) * nI k + nI w = nI (17 * k + w) := by
  rw [show (17 : Int32) = nI 17 from rfl, pk_mul, nI_add]
theorem isIn04 {t : Int32} (h : ¬ (if (0 : Int64) ≤ t.toInt64 ∧ t.toInt64 ≤ 3 then (1 : Int32) else 0) = 0) : ∃ k : Nat, k < 4 ∧ t = nI k := by
  by_cases hc : (0 : Int64) ≤ t.toInt64 ∧ t.toInt64 ≤ 3
  · have h1 : (0 : Int32) ≤ t := by
      have := hc.1
      rw [Int64.le_iff_toInt_le] at this
      rw [Int32.le_iff_toInt_le]
      simpa using this
    have h2 : t ≤ 3 := by
      have := hc.2
      rw [Int64.le_iff_toInt_le] at this
      rw [Int32.le_iff_toInt_le]
      simpa using this
    obtain ⟨j, hj, e⟩ := nI_of2 (x := t) (M := 3) (n := 3) (by decide) (by rw [Int32.not_lt]; exact h1) h2
    exact ⟨j, by omega, e⟩
  · rw [if_neg hc] at h
    exact absurd rfl h
theorem isT4 {t : Int32} (h : ¬ (if (0 : Int32) ≤ t ∧ t < 4 then (1 : Int32) else 0) = 0) : vp_in t 4 := by
  by_cases hc : (0 : Int32) ≤ t ∧ t < 4
  · rw [vp_in_iff]
    obtain ⟨h1, h2⟩ := hc
    rw [Int32.le_iff_toInt_le] at h1
    rw [Int32.lt_iff_toInt_lt] at h2
    have e0 : (0 : Int32).toInt = 0 := by decide
    have e4 : (4 : Int32).toInt = 4 := by decide
    rw [e0] at h1
    rw [e4] at h2
    exact ⟨h1, h2⟩
  · rw [if_neg hc] at h
    exact absurd rfl h
theorem ifT {c : Prop} [Decidable c] (h : ¬ (if c then (1 : Int32) else 0) = 0) : c := by
  by_cases hc : c
  · exact hc
  · rw [if_neg hc] at h
    exact absurd rfl h
theorem ifF {c : Prop} [Decidable c] (h : (if c then (1 : Int32) else 0) = 0) : ¬ c := fun hc => by
  rw [if_pos hc] at h
  revert h
  decide
theorem w64_le {x y : Int32} : x.toInt64 ≤ y.toInt64 ↔ x ≤ y := by
  rw [Int64.le_iff_toInt_le, Int32.le_iff_toInt_le, Int32.toInt_toInt64, Int32.toInt_toInt64]
theorem isIn00 {t : Int32} (h : ¬ (if (0 : Int64) ≤ t.toInt64 ∧ t.toInt64 ≤ 0 then (1 : Int32) else 0) = 0) : t = 0 := by
  obtain ⟨h1, h2⟩ := ifT h
  rw [show (0 : Int64) = (0 : Int32).toInt64 from by decide, w64_le] at h1 h2
  exact Int32.le_antisymm h2 h1
theorem isIn04c {t : Int32} : ((0 : Int64) ≤ t.toInt64 ∧ t.toInt64 ≤ 3) ↔ ((0 : Int32) ≤ t ∧ t < 4) := by
  rw [show (0 : Int64) = (0 : Int32).toInt64 from by decide, show (3 : Int64) = (3 : Int32).toInt64 from by decide, w64_le, w64_le]
  rw [Int32.le_iff_toInt_le, Int32.le_iff_toInt_le, Int32.lt_iff_toInt_lt]
  have e0 : (0 : Int32).toInt = 0 := by decide
  have e3 : (3 : Int32).toInt = 3 := by decide
  have e4 : (4 : Int32).toInt = 4 := by decide
  rw [e0, e3, e4]
  omega
theorem isIn04a {t : Int32} (h : ¬ (if (0 : Int64) ≤ t.toInt64 ∧ t.toInt64 ≤ 3 then (1 : Int32) else 0) = 0) : (0 : Int32) ≤ t ∧ t < 4 := isIn04c.mp (ifT h)
theorem isIn04b {t : Int32} (h : (if (0 : Int64) ≤ t.toInt64 ∧ t.toInt64 ≤ 3 then (1 : Int32) else 0) = 0) : ¬ ((0 : Int32) ≤ t ∧ t < 4) := fun hc => ifF h (isIn04c.mpr hc)
theorem isInNo (t : Int32) : (if (0 : Int64) ≤ t.toInt64 ∧ t.toInt64 ≤ -1 then (1 : Int32) else 0) = 0 := by
  rw [if_neg]
  intro h
  have h1 := Int64.le_trans h.1 h.2
  revert h1
  decide
theorem sw_ne {x : Int32} {n : Int} (h : ¬ x = Int32.ofInt n) (h1 : -2 ^ 31 ≤ n) (h2 : n < 2 ^ 31) : x.toInt ≠ n := fun e => h (by rw [← e, Int32.ofInt_toInt])
theorem sw3 {x : Int32} (h0 : ¬ x = 0) (h1 : ¬ x = 1) (h2 : ¬ x = 2) : x.toInt < 0 ∨ 2 < x.toInt := by
  have a0 := sw_ne (n := 0) h0 (by decide) (by decide)
  have a1 := sw_ne (n := 1) h1 (by decide) (by decide)
  have a2 := sw_ne (n := 2) h2 (by decide) (by decide)
  omega
theorem sw6 {x : Int32} (h0 : ¬ x = 0) (h1 : ¬ x = 1) (h2 : ¬ x = 2) (h3 : ¬ x = 3) (h4 : ¬ x = 4) (h5 : ¬ x = 5) : x.toInt < 0 ∨ 5 < x.toInt := by
  have a0 := sw_ne (n := 0) h0 (by decide) (by decide)
  have a1 := sw_ne (n := 1) h1 (by decide) (by decide)
  have a2 := sw_ne (n := 2) h2 (by decide) (by decide)
  have a3 := sw_ne (n := 3) h3 (by decide) (by decide)
  have a4 := sw_ne (n := 4) h4 (by decide) (by decide)
  have a5 := sw_ne (n := 5) h5 (by decide) (by decide)
  omega
def ranF (x : Int32) : Int64 := if x = 1 ∨ x = 2 then -1 else if x = 0 ∨ x = 3 ∨ x = 4 ∨ x = 5 then 0 else -1000000000000000
theorem ranF_out {x : Int32} (h0 : ¬ x = 0) (h1 : ¬ x = 1) (h2 : ¬ x = 2) (h3 : ¬ x = 3) (h4 : ¬ x = 4) (h5 : ¬ x = 5) : ranF x = -1000000000000000 := by
  unfold ranF
  rw [if_neg (by simp [h1, h2]), if_neg (by simp [h0, h3, h4, h5])]
theorem upd0 {k : Nat} : upd (fun _ => (0 : Int32)) k 0 = fun _ => 0 := by
  funext i
  unfold upd
  split <;> rfl
theorem ix2048 (k w : Nat) : (2048 : Int32) * nI k + nI w = nI (2048 * k + w) := by
  rw [show (2048 : Int32) = nI 2048 from rfl, pk_mul, nI_add]
theorem mx1 {n : Nat} (h : 1 ≤ n) (h2 : n < 2 ^ 31) : (if (1 : Int32) < nI n then nI n else 1) = nI n := by
  by_cases hc : n = 1
  · subst hc
    decide
  · rw [if_pos (show (1 : Int32) < nI n from nI_lt (a := 1) (by omega) h2)]
theorem mn2048 {n : Nat} (h : n < 2048) : (if nI n < (2048 : Int32) then nI n else 2048) = nI n := by
  rw [if_pos (show nI n < (2048 : Int32) from nI_lt (b := 2048) h (by decide))]
theorem sp4 (n : Nat) (h : n ≤ 400) : nI n * 4 / 100 = nI (n * 4 / 100) := by
  rw [show (4 : Int32) = nI 4 from rfl, pk_mul, show (100 : Int32) = nI 100 from rfl, pk_div (by omega) (by decide) (by decide)]
theorem spL4 (n : Nat) (h : n ≤ 400) : lN n * 4 / 100 = lN (n * 4 / 100) := by
  rw [show (4 : Int64) = lN 4 from rfl, lN_mul, show (100 : Int64) = lN 100 from rfl, pk_lDiv (by omega) (by decide) (by decide)]
theorem inI {t a c : Int32} {n : Nat} (ha : 0 ≤ a.toInt) (hc : c.toInt = n) (h1 : a ≤ t) (h2 : t ≤ c) : ∃ j : Nat, j ≤ n ∧ t = nI j ∧ a.toInt ≤ j := by
  have h0 : ¬ t < 0 := by
    rw [Int32.lt_iff_toInt_lt]
    rw [Int32.le_iff_toInt_le] at h1
    have e0 : (0 : Int32).toInt = 0 := by decide
    omega
  obtain ⟨j, hj, e⟩ := nI_of2 (x := t) (M := c) (n := n) hc h0 h2
  refine ⟨j, hj, e, ?_⟩
  rw [e, Int32.le_iff_toInt_le, nI_toInt (by have := c.toInt_lt; omega)] at h1
  exact h1
def okS (b s g : Int32) : Prop := 8 ≤ b ∧ b ≤ 64 ∧ 25 ≤ s ∧ s ≤ 400 ∧ 0 ≤ g ∧ g ≤ 200

noncomputable def mkF (t b s g : Int32) : Int32 := if (0 ≤ t ∧ t < 4) ∧ 8 ≤ b ∧ b ≤ 64 ∧ 25 ≤ s ∧ s ≤ 400 ∧ 0 ≤ g ∧ g ≤ 200 then 1 else -2
theorem isInc {t a c : Int32} : (a.toInt64 ≤ t.toInt64 ∧ t.toInt64 ≤ c.toInt64) ↔ (a ≤ t ∧ t ≤ c) := by rw [w64_le, w64_le]
theorem isIn8 {t : Int32} : ((8 : Int64) ≤ t.toInt64 ∧ t.toInt64 ≤ 64) ↔ ((8 : Int32) ≤ t ∧ t ≤ 64) := isInc (a := 8) (c := 64)
theorem isIn25 {t : Int32} : ((25 : Int64) ≤ t.toInt64 ∧ t.toInt64 ≤ 400) ↔ ((25 : Int32) ≤ t ∧ t ≤ 400) := isInc (a := 25) (c := 400)
theorem isIn200 {t : Int32} : ((0 : Int64) ≤ t.toInt64 ∧ t.toInt64 ≤ 200) ↔ ((0 : Int32) ≤ t ∧ t ≤ 200) := isInc (a := 0) (c := 200)
theorem updL_s (f : Nat → Int64) (i : Nat) (v : Int64) : vp_updL f i v i = v := pk_uLs
theorem updL_n (f : Nat → Int64) (k a b : Nat) (v : Int64) (h : b ≠ a) : vp_updL f (17 * k + a) v (17 * k + b) = f (17 * k + b) := pk_uLn (by omega)
theorem in04 {t : Int32} (h : (0 : Int32) ≤ t ∧ t < 4) : ∃ k : Nat, k < 4 ∧ t = nI k := isIn04 (by rw [if_pos (isIn04c.mpr h)]; decide)
def NN (U : State) : Prop := va_Nw (.methodLinkNest RX5 11 yX0_init "ClashFree") U ∧ va_Nw (.methodLinkNest RX6 20 yX8_init "ClashFree") U ∧ va_Nw (.methodLinkNest RX9 11 yX0_init "ClashFree") U ∧ va_AO RX9 U
theorem NN.warm {s U : State} (hW : s.WarmedH U.vm) (h : NN s) : NN U := ⟨va_Nw.warmM hW h.1, va_Nw.warmM hW h.2.1, va_Nw.warmM hW h.2.2.1, va_AO.moved hW.alike h.2.2.2⟩
theorem NN.blind {U : State} {g : JFrame} {mk : MethodId} {a : Array Value} (h : NN U) : NN (U.calling g mk a) := ⟨va_Nw.same rfl rfl h.1, va_Nw.same rfl rfl h.2.1, va_Nw.same rfl rfl h.2.2.1, va_AO.moved (u := U) (U := U.calling g mk a) (Vm.Alike.refl U.vm) h.2.2.2⟩
def PcWN (D : va_G) (av : List Value) (sz : Nat) (ws : va_W) (tys : List (ClassId × FieldType)) : Array Value → State → Prop := va_Pc av (fun U => U.heap.size = sz ∧ va_P D vwCl ws U.heap ∧ va_K D vwCl tys U ∧ va_D (fun _ => True) ws ∧ NN U)
theorem PcWN_b {D : va_G} {av : List Value} {sz : Nat} {ws : va_W} {tys : List (ClassId × FieldType)} : FrameBlind (PcWN D av sz ws tys) := fun a U g mk q => by
  obtain ⟨q0, q1, qP, qK, qD, qN⟩ := q
  exact ⟨q0, q1, qP, va_K.moved (u := U) (U := U.calling g mk a) (Vm.Alike.refl U.vm) qK, qD, qN.blind⟩
theorem PcWN_S {D : va_G} {s : State} {H : Heap} {A : Nat → Prop} {av : List Value} {ws : va_W} {tys : List (ClassId × FieldType)} (hP : va_P D vwCl ws H) (hK : va_K D vwCl tys s) (hD : va_D A ws) (hN : NN s) : PreS s H (PcWN D av H.size ws tys) av := ⟨PcWN_b, fun U hU hW => ⟨rfl, by rw [hU], by rw [hU]; exact hP, va_K.moved hW.alike hK, hD.weaken (fun _ _ _ _ => trivial), hN.warm hW⟩⟩
theorem PcWN_V {D : va_G} {s : State} {H : Heap} {A : Nat → Prop} {C : String} {T : u_T} {N ci q0 b : Nat} {fs As : List Value} {ws : va_W} {tys : List (ClassId × FieldType)} (hP : va_P D vwCl ws H) (hK : va_K D vwCl tys s) (hD : va_D A ws) (hN : NN s) (he : ws[q0]? = some (b, .inr (ci, fs))) (hc : vwCl[ci]? = some (C, T, N)) : PreV s H C b (PcWN D (.ref b :: As) H.size ws tys) As := ⟨PcWN_b, va_recv hK hP hc he, fun U hU hW => ⟨rfl, by rw [hU], by rw [hU]; exact hP, va_K.moved hW.alike hK, hD.weaken (fun _ _ _ _ => trivial), hN.warm hW⟩⟩
