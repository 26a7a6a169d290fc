def insN (K : Nat → Nat) (q v : Nat) : Nat → Nat := fun j => if j < q then K j else if j = q then v else K (j - 1)
def delN (K : Nat → Nat) (q : Nat) : Nat → Nat := fun j => if j < q then K j else K (j + 1)
/-! a table's KEYS with their VALUES, as a list; the same by functions -/
def tabl (cn : Nat) (K : Nat → Nat) (V : Nat → Int32) : List (Nat × Int32) := (List.range cn).map (fun j => (K j, V j))
def putL : List (Nat × Int32) → Nat → Int32 → List (Nat × Int32)
  | [], x, v => [(x, v)]
  | (k, w) :: L, x, v => if x < k then (x, v) :: (k, w) :: L else if x = k then (x, v) :: L else (k, w) :: putL L x v
def dropL : List (Nat × Int32) → Nat → List (Nat × Int32)
  | [], _ => []
  | (k, w) :: L, x => if x = k then L else (k, w) :: dropL L x
def lookL : List (Nat × Int32) → Nat → Option Int32
  | [], _ => none
  | (k, w) :: L, x => if x = k then some w else lookL L x
def insV (V : Nat → Int32) (q : Nat) (v : Int32) : Nat → Int32 := fun j => if j < q then V j else if j = q then v else V (j - 1)
def delV (V : Nat → Int32) (q : Nat) : Nat → Int32 := fun j => if j < q then V j else V (j + 1)
theorem tabl_len (cn : Nat) (K : Nat → Nat) (V : Nat → Int32) : (tabl cn K V).length = cn := by simp [tabl]
theorem tabl_s (cn : Nat) (K : Nat → Nat) (V : Nat → Int32) : tabl (cn + 1) K V = (K 0, V 0) :: tabl cn (fun j => K (j + 1)) (fun j => V (j + 1)) := by
  unfold tabl
  rw [List.range_succ_eq_map, List.map_cons, List.map_map]
  rfl
theorem tabl_eq {cn : Nat} {K K' : Nat → Nat} {V V' : Nat → Int32} (h : ∀ j, j < cn → K j = K' j ∧ V j = V' j) : tabl cn K V = tabl cn K' V' := by
  unfold tabl
  apply List.map_congr_left
  intro j hj
  rw [(h j (List.mem_range.mp hj)).1, (h j (List.mem_range.mp hj)).2]
theorem tabl_inj {cn : Nat} {K K' : Nat → Nat} {V V' : Nat → Int32} (h : tabl cn K V = tabl cn K' V') : ∀ j, j < cn → K j = K' j ∧ V j = V' j := by
  intro j hj
  have h1 := congrArg (fun L : List (Nat × Int32) => L[j]?) h
  simp only [tabl, List.getElem?_map, List.getElem?_range hj, Option.map_some] at h1
  have h2 := Option.some.inj h1
  exact ⟨congrArg Prod.fst h2, congrArg Prod.snd h2⟩
theorem put_rep : ∀ (cn : Nat) (K : Nat → Nat) (V : Nat → Int32) (q x : Nat) (v : Int32), (∀ i j, i < j → j < cn → K i < K j) → q < cn → K q = x → putL (tabl cn K V) x v = tabl cn K (upd V q v) := by
  intro cn
  induction cn with
  | zero => intro K V q x v hs hq; omega
  | succ cn ih =>
    intro K V q x v hs hq hx
    rw [tabl_s, tabl_s]
    cases q with
    | zero =>
      subst hx
      show (if K 0 < K 0 then _ else if K 0 = K 0 then _ else _) = _
      rw [if_neg (by omega), if_pos rfl, pk_us]
      rw [tabl_eq (V' := fun j => upd V 0 v (j + 1)) (fun j hj => ⟨rfl, (pk_un (by omega)).symm⟩)]
    | succ q =>
      have h0 := hs 0 (q + 1) (by omega) hq
      show (if x < K 0 then _ else if x = K 0 then _ else _) = _
      rw [if_neg (by omega), if_neg (by omega), pk_un (by omega)]
      rw [ih (fun j => K (j + 1)) (fun j => V (j + 1)) q x v (fun i j a b => hs _ _ (by omega) (by omega)) (by omega) hx]
      congr 1
      refine tabl_eq (fun j hj => ⟨rfl, ?_⟩)
      by_cases e : j = q
      · subst e
        rw [pk_us, pk_us]
      · rw [pk_un e, pk_un (by omega)]
theorem put_new : ∀ (cn : Nat) (K : Nat → Nat) (V : Nat → Int32) (q x : Nat) (v : Int32), q ≤ cn → (∀ j, j < q → K j < x) → (∀ j, q ≤ j → j < cn → x < K j) → putL (tabl cn K V) x v = tabl (cn + 1) (insN K q x) (insV V q v) := by
  intro cn
  induction cn with
  | zero =>
    intro K V q x v hq h1 h2
    obtain rfl : q = 0 := by omega
    rfl
  | succ cn ih =>
    intro K V q x v hq h1 h2
    rw [tabl_s, tabl_s (cn + 1)]
    cases q with
    | zero =>
      show (if x < K 0 then _ else _) = _
      rw [if_pos (h2 0 (by omega) (by omega))]
      have e0 : (insN K 0 x 0, insV V 0 v 0) = (x, v) := by simp [insN, insV]
      rw [e0, ← tabl_s, tabl_eq (K' := fun j => insN K 0 x (j + 1)) (V' := fun j => insV V 0 v (j + 1)) (fun j hj => ⟨by simp [insN], by simp [insV]⟩)]
    | succ q =>
      have h0 := h1 0 (by omega)
      show (if x < K 0 then _ else if x = K 0 then _ else _) = _
      rw [if_neg (by omega), if_neg (by omega), ih (fun j => K (j + 1)) (fun j => V (j + 1)) q x v (by omega) (fun j hj => h1 _ (by omega)) (fun j a b => h2 _ (by omega) (by omega))]
      have e0 : (insN K (q + 1) x 0, insV V (q + 1) v 0) = (K 0, V 0) := by simp [insN, insV]
      rw [e0]
      congr 1
      refine tabl_eq (fun j hj => ⟨?_, ?_⟩)
      · simp only [insN, Nat.add_lt_add_iff_right, Nat.add_right_cancel_iff, Nat.add_sub_cancel]
        split
        · rfl
        · split
          · rfl
          · rw [Nat.sub_add_cancel (by omega)]
      · simp only [insV, Nat.add_lt_add_iff_right, Nat.add_right_cancel_iff, Nat.add_sub_cancel]
        split
        · rfl
        · split
          · rfl
          · rw [Nat.sub_add_cancel (by omega)]
theorem drop_at : ∀ (cn : Nat) (K : Nat → Nat) (V : Nat → Int32) (q x : Nat), (∀ i j, i < j → j < cn → K i < K j) → q < cn → K q = x → dropL (tabl cn K V) x = tabl (cn - 1) (delN K q) (delV V q) := by
  intro cn
  induction cn with
  | zero => intro K V q x hs hq; omega
  | succ cn ih =>
    intro K V q x hs hq hx
    rw [tabl_s]
    show (if x = K 0 then _ else _) = tabl cn _ _
    cases q with
    | zero =>
      rw [if_pos hx.symm]
      exact tabl_eq (fun j hj => ⟨by simp [delN], by simp [delV]⟩)
    | succ q =>
      have h0 := hs 0 (q + 1) (by omega) hq
      rw [if_neg (by omega), ih (fun j => K (j + 1)) (fun j => V (j + 1)) q x (fun i j a b => hs _ _ (by omega) (by omega)) (by omega) hx]
      obtain ⟨m, rfl⟩ : ∃ m, cn = m + 1 := ⟨cn - 1, by omega⟩
      rw [tabl_s m (delN K (q + 1))]
      have e0 : (delN K (q + 1) 0, delV V (q + 1) 0) = (K 0, V 0) := by simp [delN, delV]
      rw [e0]
      congr 1
      refine tabl_eq (fun j hj => ⟨?_, ?_⟩)
      · simp only [delN]
        by_cases a : j < q
        · rw [if_pos a, if_pos (by omega)]
        · rw [if_neg a, if_neg (by omega)]
      · simp only [delV]
        by_cases a : j < q
        · rw [if_pos a, if_pos (by omega)]
        · rw [if_neg a, if_neg (by omega)]
theorem drop_no : ∀ (cn : Nat) (K : Nat → Nat) (V : Nat → Int32) (x : Nat), (∀ j, j < cn → K j ≠ x) → dropL (tabl cn K V) x = tabl cn K V := by
  intro cn
  induction cn with
  | zero => intro K V x h; rfl
  | succ cn ih =>
    intro K V x h
    rw [tabl_s]
    show (if x = K 0 then _ else _) = _
    rw [if_neg (fun e => h 0 (by omega) e.symm), ih _ _ x (fun j hj => h _ (by omega))]
theorem look_at : ∀ (cn : Nat) (K : Nat → Nat) (V : Nat → Int32) (q x : Nat), (∀ i j, i < j → j < cn → K i < K j) → q < cn → K q = x → lookL (tabl cn K V) x = some (V q) := by
  intro cn
  induction cn with
  | zero => intro K V q x hs hq; omega
  | succ cn ih =>
    intro K V q x hs hq hx
    rw [tabl_s]
    show (if x = K 0 then _ else _) = _
    cases q with
    | zero => rw [if_pos hx.symm]
    | succ q =>
      have h0 := hs 0 (q + 1) (by omega) hq
      rw [if_neg (by omega), ih (fun j => K (j + 1)) (fun j => V (j + 1)) q x (fun i j a b => hs _ _ (by omega) (by omega)) (by omega) hx]
theorem look_no : ∀ (cn : Nat) (K : Nat → Nat) (V : Nat → Int32) (x : Nat), (∀ j, j < cn → K j ≠ x) → lookL (tabl cn K V) x = none := by
  intro cn
  induction cn with
  | zero => intro K V x h; rfl
  | succ cn ih =>
    intro K V x h
    rw [tabl_s]
    show (if x = K 0 then _ else _) = _
    rw [if_neg (fun e => h 0 (by omega) e.symm), ih _ _ x (fun j hj => h _ (by omega))]
/-! the reference's tables as lists -/
def lsR (fn : Nat → Int64) (fk fv : Nat → Int32) : Nat → List (Nat × Int32) := fun k => if k < 4 then tabl (min (fn (17 * k + 1)).toInt.toNat 160) (fun j => (fk (160 * k + j)).toInt.toNat) (fun j => fv (160 * k + j)) else []
def updS (Ls : Nat → List (Nat × Int32)) (k : Nat) (L : List (Nat × Int32)) : Nat → List (Nat × Int32) := fun j => if j = k then L else Ls j
theorem updS_s (Ls : Nat → List (Nat × Int32)) (k : Nat) (L : List (Nat × Int32)) : updS Ls k L k = L := if_pos rfl
theorem updS_n {Ls : Nat → List (Nat × Int32)} {k j : Nat} {L : List (Nat × Int32)} (h : j ≠ k) : updS Ls k L j = Ls j := if_neg h
theorem updS_id (Ls : Nat → List (Nat × Int32)) (k : Nat) : updS Ls k (Ls k) = Ls := by
  funext j
  unfold updS
  split
  · next h => rw [h]
  · rfl
theorem updS_2 (Ls : Nat → List (Nat × Int32)) (k : Nat) (L M : List (Nat × Int32)) : updS (updS Ls k L) k M = updS Ls k M := by
  funext j
  unfold updS
  split <;> rfl
theorem lsR_of {k cn : Nat} {K : Nat → Nat} {fn : Nat → Int64} {fk fv : Nat → Int32} (hk : k < 4) (h1 : fn (17 * k + 1) = lN cn) (hc : cn ≤ 160) (hK : ∀ j, j < cn → fk (160 * k + j) = nI (K j) ∧ K j < 2147483647) : lsR fn fk fv k = tabl cn K (fun j => fv (160 * k + j)) := by
  unfold lsR
  rw [if_pos hk, h1, lN_toInt (by omega), show min (Int.toNat (cn : Int)) 160 = cn by omega]
  exact tabl_eq (fun j hj => ⟨by rw [(hK j hj).1, nI_toInt (by have := (hK j hj).2; omega)]; rfl, rfl⟩)
theorem lsR_upd {k : Nat} {fn gn : Nat → Int64} {fk gk fv gv : Nat → Int32} {L : List (Nat × Int32)} (e1 : ∀ x, (x < 17 * k ∨ 17 * k + 17 ≤ x) → gn x = fn x) (e2 : ∀ x, (x < 160 * k ∨ 160 * k + 160 ≤ x) → gk x = fk x) (e3 : ∀ x, (x < 160 * k ∨ 160 * k + 160 ≤ x) → gv x = fv x) (hL : lsR gn gk gv k = L) : lsR gn gk gv = updS (lsR fn fk fv) k L := by
  funext j
  by_cases e : j = k
  · subst e
    rw [hL, updS_s]
  · rw [updS_n e]
    unfold lsR
    by_cases h : j < 4
    · rw [if_pos h, if_pos h, e1 _ (by omega)]
      refine tabl_eq (fun x hx => ⟨?_, e3 _ (by omega)⟩)
      rw [e2 _ (by omega)]
    · rw [if_neg h, if_neg h]
theorem lsR_n {fn gn : Nat → Int64} {fk fv : Nat → Int32} (h : ∀ k, k < 4 → gn (17 * k + 1) = fn (17 * k + 1)) : lsR gn fk fv = lsR fn fk fv := by
  funext j
  unfold lsR
  by_cases e : j < 4
  · rw [if_pos e, if_pos e, h j e]
  · rw [if_neg e, if_neg e]
theorem lsR_n1 {k : Nat} {fn gn : Nat → Int64} {fk fv : Nat → Int32} (h : ∀ x, (x < 17 * k ∨ 17 * k + 17 ≤ x) → gn x = fn x) (h1 : gn (17 * k + 1) = fn (17 * k + 1)) : lsR gn fk fv = lsR fn fk fv := lsR_n (fun j hj => by
  by_cases e : j = k
  · subst e
    exact h1
  · exact h _ (by omega))
/-! what both sides do to the lists, and answer by them -/
def ixN (z : Int32) : Nat := z.toInt.toNat
theorem ixN_k {k : Nat} (hk : k < 2147483648) : ixN (nI k) = k := by
  unfold ixN
  rw [nI_toInt hk]
  rfl
def fulL (L : List (Nat × Int32)) (x : Nat) : Bool := decide (L.length = 160) && (lookL L x).isNone
theorem fulL_t {L : List (Nat × Int32)} {x : Nat} (h1 : L.length = 160) (h2 : lookL L x = none) : fulL L x = true := by
  unfold fulL
  rw [h1, h2]
  rfl
theorem fulL_f1 {L : List (Nat × Int32)} {x : Nat} (h1 : L.length ≠ 160) : fulL L x = false := by
  unfold fulL
  rw [decide_eq_false h1]
  rfl
theorem fulL_f2 {L : List (Nat × Int32)} {x : Nat} {v : Int32} (h2 : lookL L x = some v) : fulL L x = false := by
  unfold fulL
  rw [h2]
  exact Bool.and_false _
noncomputable def putS (th : Prop) (Ls : Nat → List (Nat × Int32)) (z1 z2 z3 : Int32) : Nat → List (Nat × Int32) := @ite _ (th ∧ isK z2 ∧ fulL (Ls (ixN z1)) (ixN z2) = false) (Classical.propDecidable _) (updS Ls (ixN z1) (putL (Ls (ixN z1)) (ixN z2) z3)) Ls
theorem putS_0 {th : Prop} {Ls : Nat → List (Nat × Int32)} {z1 z2 z3 : Int32} (h : ¬ (th ∧ isK z2 ∧ fulL (Ls (ixN z1)) (ixN z2) = false)) : putS th Ls z1 z2 z3 = Ls := if_neg h
theorem putS_1 {th : Prop} {Ls : Nat → List (Nat × Int32)} {k kx : Nat} {z3 : Int32} (hk : k < 4) (hx : kx < 2147483647) (ht : th) (h : fulL (Ls k) kx = false) : putS th Ls (nI k) (nI kx) z3 = updS Ls k (putL (Ls k) kx z3) := by
  unfold putS
  rw [ixN_k (by omega), ixN_k (by omega)]
  exact if_pos ⟨ht, ⟨kx, hx, rfl⟩, h⟩
theorem putS_f {th : Prop} {Ls : Nat → List (Nat × Int32)} {k kx : Nat} {z3 : Int32} (hk : k < 4) (hx : kx < 2147483647) (h : fulL (Ls k) kx = true) : putS th Ls (nI k) (nI kx) z3 = Ls := putS_0 (fun q => by
  have q2 := q.2.2
  rw [ixN_k (by omega), ixN_k (by omega), h] at q2
  cases q2)
noncomputable def drpS (th : Prop) (Ls : Nat → List (Nat × Int32)) (z1 z2 : Int32) : Nat → List (Nat × Int32) := @ite _ (th ∧ isK z2) (Classical.propDecidable _) (updS Ls (ixN z1) (dropL (Ls (ixN z1)) (ixN z2))) Ls
theorem drpS_0 {th : Prop} {Ls : Nat → List (Nat × Int32)} {z1 z2 : Int32} (h : ¬ (th ∧ isK z2)) : drpS th Ls z1 z2 = Ls := if_neg h
theorem drpS_1 {th : Prop} {Ls : Nat → List (Nat × Int32)} {k kx : Nat} (hk : k < 4) (hx : kx < 2147483647) (ht : th) : drpS th Ls (nI k) (nI kx) = updS Ls k (dropL (Ls k) kx) := by
  unfold drpS
  rw [ixN_k (by omega), ixN_k (by omega)]
  exact if_pos ⟨ht, ⟨kx, hx, rfl⟩⟩
noncomputable def getA (th : Prop) (Ls : Nat → List (Nat × Int32)) (z1 z2 : Int32) : Int64 := @ite _ (th ∧ isK z2) (Classical.propDecidable _) (match lookL (Ls (ixN z1)) (ixN z2) with | some v => v.toInt64 | none => -1000000000000000) (-1000000000000000)
theorem getA_0 {th : Prop} {Ls : Nat → List (Nat × Int32)} {z1 z2 : Int32} (h : ¬ (th ∧ isK z2)) : getA th Ls z1 z2 = -1000000000000000 := if_neg h
theorem getA_n {th : Prop} {Ls : Nat → List (Nat × Int32)} {k kx : Nat} (hk : k < 4) (hx : kx < 2147483647) (h : lookL (Ls k) kx = none) : getA th Ls (nI k) (nI kx) = -1000000000000000 := by
  unfold getA
  rw [ixN_k (by omega), ixN_k (by omega), h]
  split <;> rfl
theorem getA_s {th : Prop} {Ls : Nat → List (Nat × Int32)} {k kx : Nat} {v : Int32} (hk : k < 4) (hx : kx < 2147483647) (ht : th) (h : lookL (Ls k) kx = some v) : getA th Ls (nI k) (nI kx) = v.toInt64 := by
  unfold getA
  rw [ixN_k (by omega), ixN_k (by omega), h]
  exact if_pos ⟨ht, ⟨kx, hx, rfl⟩⟩
def mkS (Ls : Nat → List (Nat × Int32)) (b z1 : Int32) : Nat → List (Nat × Int32) := if b = 1 then updS Ls (ixN z1) [] else Ls
theorem mkS_0 {Ls : Nat → List (Nat × Int32)} {b z1 : Int32} (h : b ≠ 1) : mkS Ls b z1 = Ls := if_neg h
theorem mkS_1 {Ls : Nat → List (Nat × Int32)} {b : Int32} {k : Nat} (h : b = 1) (hk : k < 4) : mkS Ls b (nI k) = updS Ls k [] := by
  unfold mkS
  rw [if_pos h, ixN_k (by omega)]
/-- the KEYS of L2 put into L, by numbers, till one that is not there comes as there are 160; how many were not there -/
def jnF : List (Nat × Int32) → List (Nat × Int32) → Nat → List (Nat × Int32) × Nat
  | [], L, n => (L, n)
  | (x, v) :: R, L, n => if fulL L x = true then (L, n) else jnF R (putL L x v) (if (lookL L x).isNone = true then n + 1 else n)
noncomputable def jnS (t1 t2 : Prop) (Ls : Nat → List (Nat × Int32)) (z1 z2 : Int32) : Nat → List (Nat × Int32) := @ite _ (t1 ∧ t2 ∧ z1 ≠ z2) (Classical.propDecidable _) (updS Ls (ixN z1) (jnF (Ls (ixN z2)) (Ls (ixN z1)) 0).1) Ls
noncomputable def jnA (t1 t2 : Prop) (Ls : Nat → List (Nat × Int32)) (z1 z2 : Int32) : Int32 := @ite _ (t1 ∧ t2 ∧ z1 ≠ z2) (Classical.propDecidable _) (nI (jnF (Ls (ixN z2)) (Ls (ixN z1)) 0).2) (-2)
theorem jn_0 {t1 t2 : Prop} {Ls : Nat → List (Nat × Int32)} {z1 z2 : Int32} (h : ¬ (t1 ∧ t2 ∧ z1 ≠ z2)) : jnS t1 t2 Ls z1 z2 = Ls ∧ jnA t1 t2 Ls z1 z2 = -2 := ⟨if_neg h, if_neg h⟩
theorem jn_1 {t1 t2 : Prop} {Ls : Nat → List (Nat × Int32)} {k k2 : Nat} (hk : k < 4) (hk2 : k2 < 4) (h1 : t1) (h2 : t2) (hn : k ≠ k2) : jnS t1 t2 Ls (nI k) (nI k2) = updS Ls k (jnF (Ls k2) (Ls k) 0).1 ∧ jnA t1 t2 Ls (nI k) (nI k2) = nI (jnF (Ls k2) (Ls k) 0).2 := by
  have h : t1 ∧ t2 ∧ nI k ≠ nI k2 := ⟨h1, h2, fun e => hn ((nI_eq (by omega) (by omega)).mp e)⟩
  unfold jnS jnA
  rw [ixN_k (by omega), ixN_k (by omega)]
  exact ⟨if_pos h, if_pos h⟩
/-- 1: the list has the KEY -/
def ctK (L2 : List (Nat × Int32)) (x : Nat) : Int32 := if (lookL L2 x).isSome = true then 1 else 0
theorem ctK_1 {L2 : List (Nat × Int32)} {x : Nat} {v : Int32} (h : lookL L2 x = some v) : ctK L2 x = 1 := by
  unfold ctK
  rw [h]
  rfl
theorem ctK_0 {L2 : List (Nat × Int32)} {x : Nat} (h : lookL L2 x = none) : ctK L2 x = 0 := by
  unfold ctK
  rw [h]
  rfl
/-- the KEYS that L2 has (z is 1), has not (z is 0) are dropped -/
def ctF (L L2 : List (Nat × Int32)) (z : Int32) : List (Nat × Int32) := L.filter (fun p => ctK L2 p.1 != z)
noncomputable def ctS (t1 t2 : Prop) (Ls : Nat → List (Nat × Int32)) (z1 z2 z3 : Int32) : Nat → List (Nat × Int32) := @ite _ (t1 ∧ t2 ∧ z1 ≠ z2) (Classical.propDecidable _) (updS Ls (ixN z1) (ctF (Ls (ixN z1)) (Ls (ixN z2)) z3)) Ls
noncomputable def ctA (t1 t2 : Prop) (Ls : Nat → List (Nat × Int32)) (z1 z2 z3 : Int32) : Int32 := @ite _ (t1 ∧ t2 ∧ z1 ≠ z2) (Classical.propDecidable _) (nI ((Ls (ixN z1)).length - (ctF (Ls (ixN z1)) (Ls (ixN z2)) z3).length)) (-2)
theorem ct_0 {t1 t2 : Prop} {Ls : Nat → List (Nat × Int32)} {z1 z2 z3 : Int32} (h : ¬ (t1 ∧ t2 ∧ z1 ≠ z2)) : ctS t1 t2 Ls z1 z2 z3 = Ls ∧ ctA t1 t2 Ls z1 z2 z3 = -2 := ⟨if_neg h, if_neg h⟩
theorem ct_1 {t1 t2 : Prop} {Ls : Nat → List (Nat × Int32)} {k k2 : Nat} {z3 : Int32} (hk : k < 4) (hk2 : k2 < 4) (h1 : t1) (h2 : t2) (hn : k ≠ k2) : ctS t1 t2 Ls (nI k) (nI k2) z3 = updS Ls k (ctF (Ls k) (Ls k2) z3) ∧ ctA t1 t2 Ls (nI k) (nI k2) z3 = nI ((Ls k).length - (ctF (Ls k) (Ls k2) z3).length) := by
  have h : t1 ∧ t2 ∧ nI k ≠ nI k2 := ⟨h1, h2, fun e => hn ((nI_eq (by omega) (by omega)).mp e)⟩
  unfold ctS ctA
  rw [ixN_k (by omega), ixN_k (by omega)]
  exact ⟨if_pos h, if_pos h⟩
/-- the list that an image tells -/
def imL (bt : Nat → Nat) : List (Nat × Int32) := tabl (bt 12) (fun j => keyN bt j) (fun j => nI (rdN bt (17 + 8 * j) 4))
noncomputable def bkS (bt : Nat → Nat) (tp : Nat) (Ls : Nat → List (Nat × Int32)) (z : Int32) : Nat → List (Nat × Int32) := @ite _ (tn4 z ∧ IMG bt tp) (Classical.propDecidable _) (updS Ls (ixN z) (imL bt)) Ls
theorem bkS_0 {bt : Nat → Nat} {tp : Nat} {Ls : Nat → List (Nat × Int32)} {z : Int32} (h : ¬ (tn4 z ∧ IMG bt tp)) : bkS bt tp Ls z = Ls := if_neg h
theorem bkS_1 {bt : Nat → Nat} {tp : Nat} {Ls : Nat → List (Nat × Int32)} {k : Nat} (hk : k < 4) (h : IMG bt tp) : bkS bt tp Ls (nI k) = updS Ls k (imL bt) := by
  unfold bkS
  rw [ixN_k (by omega)]
  exact if_pos ⟨tn4_k hk, h⟩
noncomputable def cpS (ex : Prop) (Ls : Nat → List (Nat × Int32)) (z1 z2 : Int32) : Nat → List (Nat × Int32) := @ite _ ex (Classical.propDecidable _) (updS Ls (ixN z1) (Ls (ixN z2))) Ls
theorem cpS_0 {ex : Prop} {Ls : Nat → List (Nat × Int32)} {z1 z2 : Int32} (h : ¬ ex) : cpS ex Ls z1 z2 = Ls := if_neg h
theorem cpS_1 {ex : Prop} {Ls : Nat → List (Nat × Int32)} {k k2 : Nat} (hk : k < 4) (hk2 : k2 < 4) (h : ex) : cpS ex Ls (nI k) (nI k2) = updS Ls k (Ls k2) := by
  unfold cpS
  rw [ixN_k (by omega), ixN_k (by omega)]
  exact if_pos h
theorem lsR_fz {fn gn : Nat → Int64} {fk gk fv : Nat → Int32} (e1 : ∀ x, x < 68 → gn x = fn x) (e2 : ∀ x, (x < 160 * 4 ∨ 160 * 4 + 160 ≤ x) → gk x = fk x) : lsR gn gk fv = lsR fn fk fv := by
  funext j
  unfold lsR
  by_cases h : j < 4
  · rw [if_pos h, if_pos h, e1 _ (by omega)]
    refine tabl_eq (fun x hx => ⟨?_, rfl⟩)
    rw [e2 _ (by omega)]
  · rw [if_neg h, if_neg h]
