/-! tokens of a text: bt its bytes, n how many -/
def spn (f : Nat → Bool) (n : Nat) : Nat → Nat → Nat
  | 0, p => p
  | k + 1, p => if p < n ∧ f p = true then spn f n k (p + 1) else p
def spE (f : Nat → Bool) (n p : Nat) : Nat := spn f n (n - p) p
theorem sp_T {f : Nat → Bool} {n p : Nat} (h : p < n) (hf : f p = true) : spE f n p = spE f n (p + 1) := by
  unfold spE
  rw [show n - p = (n - (p + 1)) + 1 by omega]
  show (if p < n ∧ f p = true then spn f n (n - (p + 1)) (p + 1) else p) = _
  rw [if_pos ⟨h, hf⟩]
theorem sp_F {f : Nat → Bool} {n p : Nat} (h : ¬ (p < n ∧ f p = true)) : spE f n p = p := by
  unfold spE
  cases e : n - p with
  | zero => rfl
  | succ k =>
    show (if p < n ∧ f p = true then spn f n k (p + 1) else p) = p
    rw [if_neg h]
theorem spn_b {f : Nat → Bool} {n : Nat} : ∀ k p, p ≤ n → p ≤ spn f n k p ∧ spn f n k p ≤ n ∧ ∀ j, p ≤ j → j < spn f n k p → f j = true := by
  intro k
  induction k with
  | zero => intro p hp; exact ⟨Nat.le_refl _, hp, fun j a b => by have b : j < p := b; omega⟩
  | succ k ih =>
    intro p hp
    show p ≤ (if p < n ∧ f p = true then spn f n k (p + 1) else p) ∧ (if p < n ∧ f p = true then spn f n k (p + 1) else p) ≤ n ∧ ∀ j, p ≤ j → j < (if p < n ∧ f p = true then spn f n k (p + 1) else p) → f j = true
    by_cases h : p < n ∧ f p = true
    · rw [if_pos h]
      obtain ⟨a, b, c⟩ := ih (p + 1) (by omega)
      refine ⟨by omega, b, fun j h1 h2 => ?_⟩
      by_cases e : j = p
      · rw [e]
        exact h.2
      · exact c j (by omega) h2
    · rw [if_neg h]
      exact ⟨Nat.le_refl _, hp, fun j a b => by omega⟩
theorem sp_ge {f : Nat → Bool} {n p : Nat} (h : p ≤ n) : p ≤ spE f n p := (spn_b _ _ h).1
theorem sp_le {f : Nat → Bool} {n p : Nat} (h : p ≤ n) : spE f n p ≤ n := (spn_b _ _ h).2.1
theorem sp_all {f : Nat → Bool} {n p : Nat} (h : p ≤ n) : ∀ j, p ≤ j → j < spE f n p → f j = true := (spn_b _ _ h).2.2
def dgC (c : Nat) : Bool := decide (48 ≤ c ∧ c ≤ 57)
def ltC (c : Nat) : Bool := decide (97 ≤ c ∧ c ≤ 122)
def blC (c : Nat) : Bool := decide (c = 10 ∨ c = 32)
def sgC (c : Nat) : Bool := decide (c = 37 ∨ c = 40 ∨ c = 41 ∨ c = 42 ∨ c = 43 ∨ c = 45 ∨ c = 47 ∨ c = 59 ∨ c = 91 ∨ c = 93)
def dgB (bt : Nat → Nat) : Nat → Bool := fun j => dgC (bt j)
def ltB (bt : Nat → Nat) : Nat → Bool := fun j => ltC (bt j)
def blB (bt : Nat → Nat) : Nat → Bool := fun j => blC (bt j)
def nmN (bt : Nat → Nat) (p : Nat) : Nat → Nat
  | 0 => 0
  | k + 1 => nmN bt p k * 10 + (bt (p + k) - 48)
def wdS : List (List Nat) := [[112, 117, 116], [97, 115], [100, 114, 111, 112], [103, 101, 116], [108, 101, 116], [102, 111, 114], [105, 102], [105], [120]]
abbrev isW (bt : Nat → Nat) (p q : Nat) (w : List Nat) : Prop := q - p = w.length ∧ ∀ j, j < w.length → bt (p + j) = w.getD j 0
def wdK (bt : Nat → Nat) (p q : Nat) : Nat := if isW bt p q (wdS.getD 0 []) then 3 else if isW bt p q (wdS.getD 1 []) then 4 else if isW bt p q (wdS.getD 2 []) then 5 else if isW bt p q (wdS.getD 3 []) then 6 else if isW bt p q (wdS.getD 4 []) then 7 else if isW bt p q (wdS.getD 5 []) then 8 else if isW bt p q (wdS.getD 6 []) then 9 else if isW bt p q (wdS.getD 7 []) then 10 else if isW bt p q (wdS.getD 8 []) then 11 else 1
def tkA (bt : Nat → Nat) (n p : Nat) : Nat := spE (blB bt) n p
def tkW (bt : Nat → Nat) (n p : Nat) : Bool := decide (tkA bt n p < n) && (dgB bt (tkA bt n p) || ltB bt (tkA bt n p))
def tkE (bt : Nat → Nat) (n p : Nat) : Nat := if tkA bt n p < n then (if dgB bt (tkA bt n p) = true then spE (dgB bt) n (tkA bt n p) else if ltB bt (tkA bt n p) = true then spE (ltB bt) n (tkA bt n p) else tkA bt n p + 1) else tkA bt n p
def tk0 (bt : Nat → Nat) (n p : Nat) : Nat := if tkA bt n p < n then (if dgB bt (tkA bt n p) = true then (if 6 < tkE bt n p - tkA bt n p then 1 else 2) else if ltB bt (tkA bt n p) = true then wdK bt (tkA bt n p) (tkE bt n p) else if sgC (bt (tkA bt n p)) = true then bt (tkA bt n p) else 1) else 0
def tkK (bt : Nat → Nat) (n p : Nat) (wo : Bool) : Nat := if (wo && tkW bt n p) = true ∧ tkA bt n p = p then 1 else tk0 bt n p
theorem dgI {c : Nat} (hc : c ≤ 255) : ((48 : Int32) ≤ nI c ∧ nI c ≤ 57) ↔ dgC c = true := by
  unfold dgC
  rw [show (48 : Int32) = nI 48 from rfl, show (57 : Int32) = nI 57 from rfl, nI_leI (by decide) (by omega), nI_leI (by omega) (by decide), decide_eq_true_iff]
theorem ltI {c : Nat} (hc : c ≤ 255) : ((97 : Int32) ≤ nI c ∧ nI c ≤ 122) ↔ ltC c = true := by
  unfold ltC
  rw [show (97 : Int32) = nI 97 from rfl, show (122 : Int32) = nI 122 from rfl, nI_leI (by decide) (by omega), nI_leI (by omega) (by decide), decide_eq_true_iff]
theorem nm_step {a c : Nat} (h : 48 ≤ c) : (10 * nI a + nI c) - 48 = nI (a * 10 + (c - 48)) := by
  rw [show (10 : Int32) = nI 10 from rfl, pk_mul, nI_add, show (48 : Int32) = nI 48 from rfl, pk_sub (by omega)]
  exact congrArg nI (by omega)
theorem nI_m1 {c : Nat} (h : c ≤ 255) : ¬ nI c = -1 := fun e => absurd (show (0 : Int32) ≤ -1 from e ▸ nI_pos' (n := c) (by omega)) (by decide)
/-! the spec machine: a text's tokens to rows. Rows: how many, kinds, numbers, links. A state: st, statement, rounds, brackets, blocks, where they were opened, signs that wait (how many, which), rows -/
abbrev PG : Type := Nat × (Nat → Nat) × (Nat → Nat) × (Nat → Nat)
def addP (g : PG) (k n : Nat) : PG := (g.1 + 1, updN g.2.1 g.1 k, updN g.2.2.1 g.1 n, updN g.2.2.2 g.1 0)
def lnkP (g : PG) (j v : Nat) : PG := (g.1, g.2.1, g.2.2.1, updN g.2.2.2 j v)
def strN (k : Nat) : Nat := if k = 43 ∨ k = 45 then 1 else if k = 37 ∨ k = 42 ∨ k = 47 then 2 else 0
def relP (least : Nat) (wN : Nat → Nat) : Nat → PG → Nat × PG
  | 0, g => (0, g)
  | w + 1, g => if least ≤ strN (wN w) then relP least wN w (addP g (wN w) 0) else (w + 1, g)
abbrev SM : Type := Nat × Nat × Nat × Nat × Nat × (Nat → Nat) × Nat × (Nat → Nat) × PG
def opnP (bk : Nat) (oN : Nat → Nat) (g : PG) (k n : Nat) : (Nat → Nat) × PG := (updN oN bk g.1, addP g k n)
def clsP (g : PG) (f : Nat) : PG := if g.2.1 f = 8 then lnkP (addP (lnkP g f g.1) 93 0) g.1 f else lnkP g f g.1
/-- at a statement -/
def stp0 (s : SM) (k : Nat) : Option SM :=
  if k = 3 ∨ k = 5 ∨ k = 6 ∨ k = 7 then some (1, k, s.2.2) else
  if k = 9 then (if s.2.2.2.2.1 = 5 then none else some (1, k, s.2.2)) else
  if k = 8 then (if s.2.2.2.2.1 = 5 then none else some (3, k, s.2.2)) else
  if k = 93 ∧ 0 < s.2.2.2.2.1 then some (5, k, s.2.2.1, s.2.2.2.1, s.2.2.2.2.1 - 1, s.2.2.2.2.2.1, s.2.2.2.2.2.2.1, s.2.2.2.2.2.2.2.1, clsP s.2.2.2.2.2.2.2.2 (s.2.2.2.2.2.1 (s.2.2.2.2.1 - 1))) else
  if k = 0 ∧ s.2.2.2.2.1 = 0 then some (6, k, s.2.2) else none
/-- at a unit -/
def stp1 (s : SM) (k num : Nat) : Option SM :=
  if k = 2 ∨ k = 10 ∨ k = 11 then some (2, s.2.1, s.2.2.1, s.2.2.2.1, s.2.2.2.2.1, s.2.2.2.2.2.1, s.2.2.2.2.2.2.1, s.2.2.2.2.2.2.2.1, addP s.2.2.2.2.2.2.2.2 k num) else
  if k = 40 then (if 8 ≤ s.2.2.2.1 then none else some (1, s.2.1, s.2.2.1, s.2.2.2.1 + 1, s.2.2.2.2.1, s.2.2.2.2.2.1, s.2.2.2.2.2.2.1 + 1, updN s.2.2.2.2.2.2.2.1 s.2.2.2.2.2.2.1 40, s.2.2.2.2.2.2.2.2)) else none
/-- behind a unit -/
def stp2 (s : SM) (k : Nat) : Option SM :=
  if 0 < strN k then
    some (1, s.2.1, s.2.2.1, s.2.2.2.1, s.2.2.2.2.1, s.2.2.2.2.2.1, (relP (strN k) s.2.2.2.2.2.2.2.1 s.2.2.2.2.2.2.1 s.2.2.2.2.2.2.2.2).1 + 1, updN s.2.2.2.2.2.2.2.1 (relP (strN k) s.2.2.2.2.2.2.2.1 s.2.2.2.2.2.2.1 s.2.2.2.2.2.2.2.2).1 k, (relP (strN k) s.2.2.2.2.2.2.2.1 s.2.2.2.2.2.2.1 s.2.2.2.2.2.2.2.2).2)
  else if 0 < s.2.2.2.1 then
    (if k = 41 then some (2, s.2.1, s.2.2.1, s.2.2.2.1 - 1, s.2.2.2.2.1, s.2.2.2.2.2.1, (relP 1 s.2.2.2.2.2.2.2.1 s.2.2.2.2.2.2.1 s.2.2.2.2.2.2.2.2).1 - 1, s.2.2.2.2.2.2.2.1, (relP 1 s.2.2.2.2.2.2.2.1 s.2.2.2.2.2.2.1 s.2.2.2.2.2.2.2.2).2) else none)
  else if s.2.1 = 3 ∧ k = 4 then some (1, 4, s.2.2.1, s.2.2.2.1, s.2.2.2.2.1, s.2.2.2.2.2.1, (relP 1 s.2.2.2.2.2.2.2.1 s.2.2.2.2.2.2.1 s.2.2.2.2.2.2.2.2).1, s.2.2.2.2.2.2.2.1, (relP 1 s.2.2.2.2.2.2.2.1 s.2.2.2.2.2.2.1 s.2.2.2.2.2.2.2.2).2)
  else if s.2.1 = 9 ∧ k = 91 then some (0, s.2.1, s.2.2.1, s.2.2.2.1, s.2.2.2.2.1 + 1, updN s.2.2.2.2.2.1 s.2.2.2.2.1 (relP 1 s.2.2.2.2.2.2.2.1 s.2.2.2.2.2.2.1 s.2.2.2.2.2.2.2.2).2.1, (relP 1 s.2.2.2.2.2.2.2.1 s.2.2.2.2.2.2.1 s.2.2.2.2.2.2.2.2).1, s.2.2.2.2.2.2.2.1, addP (relP 1 s.2.2.2.2.2.2.2.1 s.2.2.2.2.2.2.1 s.2.2.2.2.2.2.2.2).2 9 0)
  else if s.2.1 ≠ 3 ∧ s.2.1 ≠ 9 ∧ k = 59 then some (0, s.2.1, s.2.2.1, s.2.2.2.1, s.2.2.2.2.1, s.2.2.2.2.2.1, (relP 1 s.2.2.2.2.2.2.2.1 s.2.2.2.2.2.2.1 s.2.2.2.2.2.2.2.2).1, s.2.2.2.2.2.2.2.1, addP (relP 1 s.2.2.2.2.2.2.2.1 s.2.2.2.2.2.2.1 s.2.2.2.2.2.2.2.2).2 (if s.2.1 = 4 then 3 else s.2.1) 0)
  else none
def stK (s : SM) (k num : Nat) : Option SM :=
  if s.1 = 0 then stp0 s k else if s.1 = 1 then stp1 s k num else if s.1 = 2 then stp2 s k else
  if s.1 = 3 then (if k = 2 ∧ num ≤ 200 then some (4, s.2.1, num, s.2.2.2) else none) else
  if s.1 = 4 then (if k = 91 then some (0, s.2.1, s.2.2.1, s.2.2.2.1, s.2.2.2.2.1 + 1, updN s.2.2.2.2.2.1 s.2.2.2.2.1 s.2.2.2.2.2.2.2.2.1, s.2.2.2.2.2.2.1, s.2.2.2.2.2.2.2.1, addP s.2.2.2.2.2.2.2.2 8 s.2.2.1) else none) else
  if s.1 = 5 then (if k = 59 then some (0, s.2) else none) else none
def sm0 : SM := (0, 0, 0, 0, 0, (fun _ => 0), 0, (fun _ => 0), 0, (fun _ => 0), (fun _ => 0), (fun _ => 0))
def tkN (bt : Nat → Nat) (n p : Nat) : Nat := nmN bt (tkA bt n p) (min 6 (tkE bt n p - tkA bt n p))
/-- the run over a text from place p, m tokens at most: the state as all is read -/
def runS (bt : Nat → Nat) (n : Nat) : Nat → SM → Nat → Bool → Option SM
  | 0, _, _, _ => none
  | m + 1, s, p, wb => match stK s (tkK bt n p wb) (tkN bt n p) with
    | none => none
    | some s' => if s'.1 = 6 then some s' else runS bt n m s' (tkE bt n p) (tkW bt n p)
/-- what a text is read as: none where it has a fault -/
def readT (bt : Nat → Nat) (n : Nat) : Option SM := if n ≤ 600 then runS bt n (n + 1) sm0 0 false else none
/-- the first n of f are g's -/
def EqU (n : Nat) (f : Nat → Int32) (g : Nat → Nat) : Prop := ∀ j, j < n → f j = nI (g j)
theorem EqU.up {n : Nat} {f : Nat → Int32} {g : Nat → Nat} (h : EqU n f g) (v : Nat) : EqU (n + 1) (upd f n (nI v)) (updN g n v) := by
  intro j hj
  by_cases e : j = n
  · subst e
    rw [pk_us]
    simp [updN]
  · rw [pk_un e]
    simp only [updN, if_neg e]
    exact h j (by omega)
/-- the class's rows are g's; numbers matter where a number or a for stands -/
def MatG (g : PG) (pz : Nat) (fK fN fL : Nat → Int32) : Prop := pz = g.1 ∧ EqU pz fK g.2.1 ∧ EqU pz fL g.2.2.2 ∧ (∀ j, j < pz → g.2.1 j = 2 ∨ g.2.1 j = 8 → fN j = nI (g.2.2.1 j)) ∧ ∀ j, j < pz → g.2.1 j ≤ 255 ∧ g.2.2.2 j ≤ pz ∧ (g.2.1 j = 2 ∨ g.2.1 j = 8 → g.2.2.1 j ≤ 1000000)
theorem MatG.addv {g : PG} {pz : Nat} {fK fN fL : Nat → Int32} (h : MatG g pz fK fN fL) {k n : Nat} {v : Int32} (hk9 : k ≤ 255) (hv : k = 2 ∨ k = 8 → v = nI n ∧ n ≤ 1000000) : MatG (addP g k n) (pz + 1) (upd fK pz (nI k)) (upd fN pz v) (upd fL pz 0) := by
  obtain ⟨h1, h2, h3, h4, h5⟩ := h
  subst h1
  refine ⟨rfl, h2.up k, h3.up 0, fun j hj hk => ?_, fun j hj => ?_⟩
  · show upd fN g.1 v j = nI (updN g.2.2.1 g.1 n j)
    change updN g.2.1 g.1 k j = 2 ∨ updN g.2.1 g.1 k j = 8 at hk
    by_cases e : j = g.1
    · subst e
      rw [pk_us]
      simp only [updN, if_pos] at hk ⊢
      exact (hv hk).1
    · rw [pk_un e]
      simp only [updN, if_neg e] at hk ⊢
      exact h4 j (by omega) hk
  · show updN g.2.1 g.1 k j ≤ 255 ∧ updN g.2.2.2 g.1 0 j ≤ g.1 + 1 ∧ (updN g.2.1 g.1 k j = 2 ∨ updN g.2.1 g.1 k j = 8 → updN g.2.2.1 g.1 n j ≤ 1000000)
    by_cases e : j = g.1
    · subst e
      simp only [updN, if_pos]
      exact ⟨hk9, Nat.zero_le _, fun q => (hv q).2⟩
    · simp only [updN, if_neg e]
      obtain ⟨a1, a2, a3⟩ := h5 j (by omega)
      exact ⟨a1, by omega, a3⟩
theorem MatG.add {g : PG} {pz : Nat} {fK fN fL : Nat → Int32} (h : MatG g pz fK fN fL) (k n : Nat) (hk9 : k ≤ 255) (hn : n ≤ 1000000) : MatG (addP g k n) (pz + 1) (upd fK pz (nI k)) (upd fN pz (nI n)) (upd fL pz 0) := h.addv hk9 (fun _ => ⟨rfl, hn⟩)
theorem MatG.lnk {g : PG} {pz : Nat} {fK fN fL : Nat → Int32} (h : MatG g pz fK fN fL) {j : Nat} (v : Nat) (hv : v ≤ pz) : MatG (lnkP g j v) pz fK fN (upd fL j (nI v)) := by
  obtain ⟨h1, h2, h3, h4, h5⟩ := h
  refine ⟨h1, h2, fun i hi => ?_, h4, fun i hi => ?_⟩
  · show upd fL j (nI v) i = nI (updN g.2.2.2 j v i)
    by_cases e : i = j
    · subst e
      rw [pk_us]
      simp [updN]
    · rw [pk_un e]
      simp only [updN, if_neg e]
      exact h3 i hi
  · obtain ⟨a1, a2, a3⟩ := h5 i hi
    refine ⟨a1, ?_, a3⟩
    show updN g.2.2.2 j v i ≤ pz
    by_cases e : i = j
    · simp only [updN, if_pos e]
      exact hv
    · simp only [updN, if_neg e]
      exact a2
/-- the class's fields are s's, as far as they matter -/
def MatS (s : SM) (qs qt qr qn : Int32) (bk : Nat) (fO : Nat → Int32) (wz : Nat) (fW : Nat → Int32) (pz : Nat) (fK fN fL : Nat → Int32) : Prop :=
  (qs = nI s.1 ∧ s.1 ≤ 6) ∧ (s.1 = 1 ∨ s.1 = 2 → qt = nI s.2.1 ∧ s.2.1 ≤ 255) ∧ (s.1 = 4 → qr = nI s.2.2.1 ∧ s.2.2.1 ≤ 1000000) ∧ (qn = nI s.2.2.2.1 ∧ s.2.2.2.1 ≤ wz + pz) ∧ (bk = s.2.2.2.2.1 ∧ bk ≤ 5 ∧ EqU bk fO s.2.2.2.2.2.1 ∧ ∀ j, j < bk → s.2.2.2.2.2.1 j < pz) ∧ (wz = s.2.2.2.2.2.2.1 ∧ EqU wz fW s.2.2.2.2.2.2.2.1 ∧ ∀ j, j < wz → s.2.2.2.2.2.2.2.1 j ≤ 255) ∧ MatG s.2.2.2.2.2.2.2.2 pz fK fN fL
theorem MatS_0 {qt qr : Int32} {fO fW fK fN fL : Nat → Int32} : MatS sm0 0 qt qr 0 0 fO 0 fW 0 fK fN fL := ⟨⟨rfl, by decide⟩, fun h => absurd h (by decide), fun h => absurd h (by decide), ⟨rfl, by decide⟩, ⟨rfl, by decide, fun j hj => absurd hj (Nat.not_lt_zero _), fun j hj => absurd hj (Nat.not_lt_zero _)⟩, ⟨rfl, fun j hj => absurd hj (Nat.not_lt_zero _), fun j hj => absurd hj (Nat.not_lt_zero _)⟩, rfl, fun j hj => absurd hj (Nat.not_lt_zero _), fun j hj => absurd hj (Nat.not_lt_zero _), fun j hj => absurd hj (Nat.not_lt_zero _), fun j hj => absurd hj (Nat.not_lt_zero _)⟩
/-- five blocks are open, and a head of a sixth is read -/
def Doom (s : SM) : Prop := s.2.2.2.2.1 = 5 ∧ (s.1 = 3 ∨ s.1 = 4 ∨ ((s.1 = 1 ∨ s.1 = 2) ∧ s.2.1 = 9))
/-- what a token does to the class's parser: M is its fields' state behind it -/
def AccP (s : SM) (kc num : Nat) (qf qg : Int32) (M : SM → Prop) : Prop := ∃ s', M s' ∧ (qf = 0 → ¬ Doom s → (qg = 0 ∧ stK s kc num = some s') ∨ (stK s kc num = none ∧ (¬ qg = 0 ∨ Doom s'))) ∧ (¬ qf = 0 → ¬ qg = 0) ∧ (Doom s → Doom s' ∨ ¬ qg = 0) ∧ (kc = 0 → s'.1 = 6 ∨ ¬ qg = 0)
theorem stp_0 {s : SM} {k n : Nat} (h : s.1 = 0) : stK s k n = stp0 s k := if_pos h
theorem stp_1 {s : SM} {k n : Nat} (h : s.1 = 1) : stK s k n = stp1 s k n := by
  unfold stK
  rw [if_neg (by omega), if_pos h]
theorem stp_2 {s : SM} {k n : Nat} (h : s.1 = 2) : stK s k n = stp2 s k := by
  unfold stK
  rw [if_neg (by omega), if_neg (by omega), if_pos h]
theorem stp_3 {s : SM} {k n : Nat} (h : s.1 = 3) : stK s k n = if k = 2 ∧ n ≤ 200 then some (4, s.2.1, n, s.2.2.2) else none := by
  unfold stK
  rw [if_neg (by omega), if_neg (by omega), if_neg (by omega), if_pos h]
theorem stp_5 {s : SM} {k n : Nat} (h : s.1 = 5) : stK s k n = if k = 59 then some (0, s.2) else none := by
  unfold stK
  rw [if_neg (by omega), if_neg (by omega), if_neg (by omega), if_neg (by omega), if_neg (by omega), if_pos h]
theorem stp_4 {s : SM} {k n : Nat} (h : s.1 = 4) : stK s k n = if k = 91 then some (0, s.2.1, s.2.2.1, s.2.2.2.1, s.2.2.2.2.1 + 1, updN s.2.2.2.2.2.1 s.2.2.2.2.1 s.2.2.2.2.2.2.2.2.1, s.2.2.2.2.2.2.1, s.2.2.2.2.2.2.2.1, addP s.2.2.2.2.2.2.2.2 8 s.2.2.1) else none := by
  unfold stK
  rw [if_neg (by omega), if_neg (by omega), if_neg (by omega), if_neg (by omega), if_pos h]
theorem nDoom {s : SM} (h : s.1 = 5 ∨ s.1 = 0 ∨ s.1 = 6) : ¬ Doom s := fun q => by
  rcases q.2 with a | a | ⟨a | a, _⟩ <;> omega
/-! what the accepts need: AccP made, the spec's steps, MatS behind each -/
theorem acc_bad {s s' : SM} {kc num : Nat} {qf qg : Int32} {M : SM → Prop} (hM : M s') (hn : ¬ Doom s → stK s kc num = none) (hq : ¬ qg = 0) : AccP s kc num qf qg M := ⟨s', hM, fun _ hd => Or.inr ⟨hn hd, Or.inl hq⟩, fun _ => hq, fun _ => Or.inr hq, fun _ => Or.inr hq⟩
theorem acc_ok {s s' : SM} {kc num : Nat} {qf : Int32} {M : SM → Prop} (hM : M s') (hs : ¬ Doom s → stK s kc num = some s') (hd : Doom s → Doom s') (h0 : kc = 0 → s'.1 = 6) : AccP s kc num qf qf M := ⟨s', hM, fun h hn => Or.inl ⟨h, hs hn⟩, fun h => h, fun h => Or.inl (hd h), fun h => Or.inl (h0 h)⟩
theorem acc_doom {s s' : SM} {kc num : Nat} {qf : Int32} {M : SM → Prop} (hM : M s') (hn : stK s kc num = none) (hd : Doom s') (h0 : ¬ kc = 0) : AccP s kc num qf qf M := ⟨s', hM, fun _ _ => Or.inr ⟨hn, Or.inr hd⟩, fun h => h, fun _ => Or.inl hd, fun h => absurd h h0⟩
theorem doom12 {s s' : SM} (h1 : s.1 = 1 ∨ s.1 = 2) (h2 : s'.1 = 1 ∨ s'.1 = 2) (h3 : s'.2.1 = s.2.1) (h4 : s'.2.2.2.2.1 = s.2.2.2.2.1) : Doom s → Doom s' := fun q => ⟨h4.trans q.1, Or.inr (Or.inr ⟨h2, by
  rcases q.2 with a | a | ⟨_, a⟩
  · omega
  · omega
  · exact h3.trans a⟩)⟩
def rlS (le : Nat) (s : SM) : SM := (s.1, s.2.1, s.2.2.1, s.2.2.2.1, s.2.2.2.2.1, s.2.2.2.2.2.1, (relP le s.2.2.2.2.2.2.2.1 s.2.2.2.2.2.2.1 s.2.2.2.2.2.2.2.2).1, s.2.2.2.2.2.2.2.1, (relP le s.2.2.2.2.2.2.2.1 s.2.2.2.2.2.2.1 s.2.2.2.2.2.2.2.2).2)
theorem st0_w {s : SM} {k n : Nat} (h : s.1 = 0) (hk : k = 3 ∨ k = 5 ∨ k = 6 ∨ k = 7) : stK s k n = some (1, k, s.2.2) := (stp_0 h).trans (if_pos hk)
theorem st0_9 {s : SM} {n : Nat} (h : s.1 = 0) : stK s 9 n = if s.2.2.2.2.1 = 5 then none else some (1, 9, s.2.2) := (stp_0 h).trans ((if_neg (by decide)).trans (if_pos rfl))
theorem st0_8 {s : SM} {n : Nat} (h : s.1 = 0) : stK s 8 n = if s.2.2.2.2.1 = 5 then none else some (3, 8, s.2.2) := (stp_0 h).trans ((if_neg (by decide)).trans ((if_neg (by decide)).trans (if_pos rfl)))
theorem st0_cl {s : SM} {n : Nat} (h : s.1 = 0) (hb : 0 < s.2.2.2.2.1) : stK s 93 n = some (5, 93, s.2.2.1, s.2.2.2.1, s.2.2.2.2.1 - 1, s.2.2.2.2.2.1, s.2.2.2.2.2.2.1, s.2.2.2.2.2.2.2.1, clsP s.2.2.2.2.2.2.2.2 (s.2.2.2.2.2.1 (s.2.2.2.2.1 - 1))) := (stp_0 h).trans ((if_neg (by decide)).trans ((if_neg (by decide)).trans ((if_neg (by decide)).trans (if_pos ⟨rfl, hb⟩))))
theorem st0_end {s : SM} {n : Nat} (h : s.1 = 0) (hb : s.2.2.2.2.1 = 0) : stK s 0 n = some (6, 0, s.2.2) := (stp_0 h).trans ((if_neg (by decide)).trans ((if_neg (by decide)).trans ((if_neg (by decide)).trans ((if_neg (fun q => absurd q.1 (by decide))).trans (if_pos ⟨rfl, hb⟩)))))
theorem st0_no {s : SM} {k n : Nat} (h : s.1 = 0) (hk : ¬ (k = 3 ∨ k = 5 ∨ k = 6 ∨ k = 7 ∨ k = 8 ∨ k = 9)) (h1 : ¬ (k = 93 ∧ 0 < s.2.2.2.2.1)) (h2 : ¬ (k = 0 ∧ s.2.2.2.2.1 = 0)) : stK s k n = none := (stp_0 h).trans ((if_neg (by omega)).trans ((if_neg (by omega)).trans ((if_neg (by omega)).trans ((if_neg h1).trans (if_neg h2)))))
theorem st1_u {s : SM} {k n : Nat} (h : s.1 = 1) (hk : k = 2 ∨ k = 10 ∨ k = 11) : stK s k n = some (2, s.2.1, s.2.2.1, s.2.2.2.1, s.2.2.2.2.1, s.2.2.2.2.2.1, s.2.2.2.2.2.2.1, s.2.2.2.2.2.2.2.1, addP s.2.2.2.2.2.2.2.2 k n) := (stp_1 h).trans (if_pos hk)
theorem st1_p {s : SM} {n : Nat} (h : s.1 = 1) : stK s 40 n = if 8 ≤ s.2.2.2.1 then none else some (1, s.2.1, s.2.2.1, s.2.2.2.1 + 1, s.2.2.2.2.1, s.2.2.2.2.2.1, s.2.2.2.2.2.2.1 + 1, updN s.2.2.2.2.2.2.2.1 s.2.2.2.2.2.2.1 40, s.2.2.2.2.2.2.2.2) := (stp_1 h).trans ((if_neg (by decide)).trans (if_pos rfl))
theorem st1_no {s : SM} {k n : Nat} (h : s.1 = 1) (h1 : ¬ (k = 2 ∨ k = 10 ∨ k = 11)) (h2 : ¬ k = 40) : stK s k n = none := (stp_1 h).trans ((if_neg h1).trans (if_neg h2))
theorem st2_s {s : SM} {k n : Nat} (h : s.1 = 2) (hk : 0 < strN k) : stK s k n = some (1, s.2.1, s.2.2.1, s.2.2.2.1, s.2.2.2.2.1, s.2.2.2.2.2.1, (rlS (strN k) s).2.2.2.2.2.2.1 + 1, updN s.2.2.2.2.2.2.2.1 (rlS (strN k) s).2.2.2.2.2.2.1 k, (rlS (strN k) s).2.2.2.2.2.2.2.2) := (stp_2 h).trans (if_pos hk)
theorem st2_c {s : SM} {k n : Nat} (h : s.1 = 2) (hk : ¬ 0 < strN k) (hp : 0 < s.2.2.2.1) : stK s k n = if k = 41 then some (2, s.2.1, s.2.2.1, s.2.2.2.1 - 1, s.2.2.2.2.1, s.2.2.2.2.2.1, (rlS 1 s).2.2.2.2.2.2.1 - 1, s.2.2.2.2.2.2.2.1, (rlS 1 s).2.2.2.2.2.2.2.2) else none := (stp_2 h).trans ((if_neg hk).trans (if_pos hp))
theorem st2_as {s : SM} {n : Nat} (h : s.1 = 2) (hp : ¬ 0 < s.2.2.2.1) (ht : s.2.1 = 3) : stK s 4 n = some (1, 4, (rlS 1 s).2.2) := (stp_2 h).trans ((if_neg (by decide)).trans ((if_neg hp).trans (if_pos ⟨ht, rfl⟩)))
theorem st2_if {s : SM} {n : Nat} (h : s.1 = 2) (hp : ¬ 0 < s.2.2.2.1) (ht : s.2.1 = 9) : stK s 91 n = some (0, s.2.1, s.2.2.1, s.2.2.2.1, s.2.2.2.2.1 + 1, updN s.2.2.2.2.2.1 s.2.2.2.2.1 (rlS 1 s).2.2.2.2.2.2.2.2.1, (rlS 1 s).2.2.2.2.2.2.1, s.2.2.2.2.2.2.2.1, addP (rlS 1 s).2.2.2.2.2.2.2.2 9 0) := (stp_2 h).trans ((if_neg (by decide)).trans ((if_neg hp).trans ((if_neg (fun q => absurd q.2 (by decide))).trans (if_pos ⟨ht, rfl⟩))))
theorem st2_sc {s : SM} {n : Nat} (h : s.1 = 2) (hp : ¬ 0 < s.2.2.2.1) (h3 : ¬ s.2.1 = 3) (h9 : ¬ s.2.1 = 9) : stK s 59 n = some (0, s.2.1, s.2.2.1, s.2.2.2.1, s.2.2.2.2.1, s.2.2.2.2.2.1, (rlS 1 s).2.2.2.2.2.2.1, s.2.2.2.2.2.2.2.1, addP (rlS 1 s).2.2.2.2.2.2.2.2 (if s.2.1 = 4 then 3 else s.2.1) 0) := (stp_2 h).trans ((if_neg (by decide)).trans ((if_neg hp).trans ((if_neg (fun q => h3 q.1)).trans ((if_neg (fun q => h9 q.1)).trans (if_pos ⟨h3, h9, rfl⟩)))))
theorem st2_no {s : SM} {k n : Nat} (h : s.1 = 2) (hk : ¬ 0 < strN k) (hp : ¬ 0 < s.2.2.2.1) (h1 : ¬ (s.2.1 = 3 ∧ k = 4)) (h2 : ¬ (s.2.1 = 9 ∧ k = 91)) (h3 : ¬ (s.2.1 ≠ 3 ∧ s.2.1 ≠ 9 ∧ k = 59)) : stK s k n = none := (stp_2 h).trans ((if_neg hk).trans ((if_neg hp).trans ((if_neg h1).trans ((if_neg h2).trans (if_neg h3)))))
theorem relP_le (le : Nat) (wN : Nat → Nat) : ∀ (w : Nat) (g : PG), (relP le wN w g).1 ≤ w := by
  intro w
  induction w with
  | zero => intro g; exact Nat.le_refl _
  | succ w ih =>
    intro g
    show (if le ≤ strN (wN w) then relP le wN w (addP g (wN w) 0) else (w + 1, g)).1 ≤ w + 1
    split
    · exact Nat.le_succ_of_le (ih _)
    · exact Nat.le_refl _
theorem clsP_1 (g : PG) (f : Nat) : g.1 ≤ (clsP g f).1 := by
  unfold clsP
  split
  · exact Nat.le_succ _
  · exact Nat.le_refl _
theorem updN_b {n v : Nat} {g : Nat → Nat} (h : ∀ j, j < n → g j ≤ 255) (hv : v ≤ 255) : ∀ j, j < n + 1 → updN g n v j ≤ 255 := fun j hj => by
  by_cases e : j = n
  · simp only [updN, if_pos e]
    exact hv
  · simp only [updN, if_neg e]
    exact h j (by omega)
theorem MatS.rl {s : SM} {qs qt qr qn : Int32} {bk wz pz : Nat} {fO fW fK fN fL : Nat → Int32} (hM : MatS s qs qt qr qn bk fO wz fW pz fK fN fL) {le wz' pz' : Nat} {fK' fN' fL' : Nat → Int32} (h1 : wz' = (relP le s.2.2.2.2.2.2.2.1 wz s.2.2.2.2.2.2.2.2).1) (h2 : MatG (relP le s.2.2.2.2.2.2.2.1 wz s.2.2.2.2.2.2.2.2).2 pz' fK' fN' fL') (h3 : pz' + wz' = pz + wz) : MatS (rlS le s) qs qt qr qn bk fO wz' fW pz' fK' fN' fL' := by
  obtain ⟨a1, a2, a3, ⟨a4, a4b⟩, ⟨b1, b2, b3, b4⟩, ⟨c1, c2, c3⟩, d1⟩ := hM
  subst c1
  have hl := relP_le le s.2.2.2.2.2.2.2.1 s.2.2.2.2.2.2.1 s.2.2.2.2.2.2.2.2
  refine ⟨a1, a2, a3, ⟨a4, ?_⟩, ⟨b1, b2, b3, fun j hj => ?_⟩, ⟨h1, fun j hj => c2 j (by omega), fun j hj => c3 j (by omega)⟩, h2⟩
  · show s.2.2.2.1 ≤ wz' + pz'
    omega
  · have := b4 j hj
    show s.2.2.2.2.2.1 j < pz'
    omega
theorem MatS.aw {s : SM} {qs qt qr qn : Int32} {bk wz pz : Nat} {fO fW fK fN fL : Nat → Int32} (hM : MatS s qs qt qr qn bk fO wz fW pz fK fN fL) {k nn : Nat} {qn' : Int32} (hk : k ≤ 255) (h12 : s.1 = 1 ∨ s.1 = 2) (hn : qn' = nI nn) (hn2 : nn ≤ s.2.2.2.1 + 1) : MatS (1, s.2.1, s.2.2.1, nn, s.2.2.2.2.1, s.2.2.2.2.2.1, s.2.2.2.2.2.2.1 + 1, updN s.2.2.2.2.2.2.2.1 s.2.2.2.2.2.2.1 k, s.2.2.2.2.2.2.2.2) 1 qt qr qn' bk fO (wz + 1) (upd fW wz (nI k)) pz fK fN fL := by
  obtain ⟨a1, a2, a3, ⟨a4, a4b⟩, b1, ⟨c1, c2, c3⟩, d1⟩ := hM
  subst c1
  refine ⟨⟨rfl, by show (1 : Nat) ≤ 6; decide⟩, fun _ => a2 h12, fun h => absurd (show (1 : Nat) = 4 from h) (by decide), ⟨hn, ?_⟩, b1, ⟨rfl, c2.up k, updN_b c3 hk⟩, d1⟩
  show nn ≤ s.2.2.2.2.2.2.1 + 1 + pz
  omega
theorem MatS.ad {s : SM} {qs qt qr qn : Int32} {bk wz pz : Nat} {fO fW fK fN fL : Nat → Int32} (hM : MatS s qs qt qr qn bk fO wz fW pz fK fN fL) {st k n : Nat} {v : Int32} (hk : k ≤ 255) (hv : k = 2 ∨ k = 8 → v = nI n ∧ n ≤ 1000000) (hst : st = 0 ∨ st = 2) (h12 : st = 2 → s.1 = 1 ∨ s.1 = 2) : MatS (st, s.2.1, s.2.2.1, s.2.2.2.1, s.2.2.2.2.1, s.2.2.2.2.2.1, s.2.2.2.2.2.2.1, s.2.2.2.2.2.2.2.1, addP s.2.2.2.2.2.2.2.2 k n) (nI st) qt qr qn bk fO wz fW (pz + 1) (upd fK pz (nI k)) (upd fN pz v) (upd fL pz 0) := by
  obtain ⟨a1, a2, a3, ⟨a4, a4b⟩, ⟨b1, b2, b3, b4⟩, c1, d1⟩ := hM
  refine ⟨⟨rfl, by show st ≤ 6; omega⟩, fun h => a2 (h12 (by have h : st = 1 ∨ st = 2 := h; omega)), fun h => by have h : st = 4 := h; omega, ⟨a4, ?_⟩, ⟨b1, b2, b3, fun j hj => Nat.lt_succ_of_lt (b4 j hj)⟩, c1, d1.addv hk hv⟩
  show s.2.2.2.1 ≤ wz + (pz + 1)
  omega
theorem MatS.op {s : SM} {qs qt qr qn : Int32} {bk wz pz : Nat} {fO fW fK fN fL : Nat → Int32} (hM : MatS s qs qt qr qn bk fO wz fW pz fK fN fL) {k n : Nat} {v : Int32} (hk : k ≤ 255) (hv : k = 2 ∨ k = 8 → v = nI n ∧ n ≤ 1000000) (hb : bk < 5) : MatS (0, s.2.1, s.2.2.1, s.2.2.2.1, s.2.2.2.2.1 + 1, updN s.2.2.2.2.2.1 s.2.2.2.2.1 s.2.2.2.2.2.2.2.2.1, s.2.2.2.2.2.2.1, s.2.2.2.2.2.2.2.1, addP s.2.2.2.2.2.2.2.2 k n) 0 qt qr qn (bk + 1) (upd fO bk (nI pz)) wz fW (pz + 1) (upd fK pz (nI k)) (upd fN pz v) (upd fL pz 0) := by
  obtain ⟨a1, a2, a3, ⟨a4, a4b⟩, ⟨b1, b2, b3, b4⟩, c1, d1⟩ := hM
  have e := d1.1
  subst b1
  refine ⟨⟨rfl, by show (0 : Nat) ≤ 6; decide⟩, fun h => absurd (show (0 : Nat) = 1 ∨ (0 : Nat) = 2 from h) (by decide), fun h => absurd (show (0 : Nat) = 4 from h) (by decide), ⟨a4, ?_⟩, ⟨rfl, by omega, ?_, fun j hj => ?_⟩, c1, d1.addv hk hv⟩
  · show s.2.2.2.1 ≤ wz + (pz + 1)
    omega
  · rw [e]
    exact b3.up _
  · show updN s.2.2.2.2.2.1 s.2.2.2.2.1 s.2.2.2.2.2.2.2.2.1 j < pz + 1
    by_cases q : j = s.2.2.2.2.1
    · simp only [updN, if_pos q]
      omega
    · simp only [updN, if_neg q]
      have := b4 j (by omega)
      omega
theorem MatS.cl {s : SM} {qs qt qr qn : Int32} {bk wz pz : Nat} {fO fW fK fN fL : Nat → Int32} (hM : MatS s qs qt qr qn bk fO wz fW pz fK fN fL) {pz' : Nat} {fK' fN' fL' : Nat → Int32} {qt' : Int32} {tt : Nat} (hg : MatG (clsP s.2.2.2.2.2.2.2.2 (s.2.2.2.2.2.1 (bk - 1))) pz' fK' fN' fL') : MatS (5, tt, s.2.2.1, s.2.2.2.1, s.2.2.2.2.1 - 1, s.2.2.2.2.2.1, s.2.2.2.2.2.2.1, s.2.2.2.2.2.2.2.1, clsP s.2.2.2.2.2.2.2.2 (s.2.2.2.2.2.1 (s.2.2.2.2.1 - 1))) 5 qt' qr qn (bk - 1) fO wz fW pz' fK' fN' fL' := by
  obtain ⟨a1, a2, a3, ⟨a4, a4b⟩, ⟨b1, b2, b3, b4⟩, c1, d1⟩ := hM
  have e := d1.1
  have e2 := hg.1
  have e3 := clsP_1 s.2.2.2.2.2.2.2.2 (s.2.2.2.2.2.1 (bk - 1))
  subst b1
  refine ⟨⟨rfl, by show (5 : Nat) ≤ 6; decide⟩, fun h => absurd (show (5 : Nat) = 1 ∨ (5 : Nat) = 2 from h) (by decide), fun h => absurd (show (5 : Nat) = 4 from h) (by decide), ⟨a4, ?_⟩, ⟨rfl, by omega, fun j hj => b3 j (by omega), fun j hj => ?_⟩, c1, hg⟩
  · show s.2.2.2.1 ≤ wz + pz'
    omega
  · have := b4 j (by omega)
    show s.2.2.2.2.2.1 j < pz'
    omega
/-- st, statement and rounds alone are new -/
theorem MatS.nst {s : SM} {qs qt qr qn : Int32} {bk wz pz : Nat} {fO fW fK fN fL : Nat → Int32} (hM : MatS s qs qt qr qn bk fO wz fW pz fK fN fL) {st tt rr : Nat} {qt' qr' : Int32} (hst : st ≤ 6) (ht : st = 1 ∨ st = 2 → qt' = nI tt ∧ tt ≤ 255) (hr : st = 4 → qr' = nI rr ∧ rr ≤ 1000000) : MatS (st, tt, rr, s.2.2.2) (nI st) qt' qr' qn bk fO wz fW pz fK fN fL := ⟨⟨rfl, hst⟩, ht, hr, hM.2.2.2⟩
theorem MatS.cb {s : SM} {qs qt qr qn : Int32} {bk wz pz : Nat} {fO fW fK fN fL : Nat → Int32} (hM : MatS s qs qt qr qn bk fO wz fW pz fK fN fL) (h2 : s.1 = 2) {qn' : Int32} {wz' : Nat} (hn : qn' = nI (s.2.2.2.1 - 1)) (hw : wz' = wz - 1) : MatS (2, s.2.1, s.2.2.1, s.2.2.2.1 - 1, s.2.2.2.2.1, s.2.2.2.2.2.1, s.2.2.2.2.2.2.1 - 1, s.2.2.2.2.2.2.2.1, s.2.2.2.2.2.2.2.2) qs qt qr qn' bk fO wz' fW pz fK fN fL := by
  obtain ⟨a1, a2, a3, ⟨a4, a4b⟩, b1, ⟨c1, c2, c3⟩, d1⟩ := hM
  subst c1
  subst hw
  refine ⟨⟨by rw [a1.1, h2], by show (2 : Nat) ≤ 6; decide⟩, fun _ => a2 (Or.inr h2), fun h => absurd (show (2 : Nat) = 4 from h) (by decide), ⟨hn, ?_⟩, b1, ⟨rfl, fun j hj => c2 j (by omega), fun j hj => c3 j (by omega)⟩, d1⟩
  show s.2.2.2.1 - 1 ≤ s.2.2.2.2.2.2.1 - 1 + pz
  omega
/-- no step of the spec comes to where five blocks are open and a head of a sixth is read -/
theorem stp_nd {s s' : SM} {k n : Nat} (h : stK s k n = some s') (hs : ¬ Doom s) : ¬ Doom s' := by
  rintro ⟨hb, hx⟩
  have key : s.1 = 0 ∨ s.1 = 1 ∨ s.1 = 2 ∨ s.1 = 3 ∨ s.1 = 4 ∨ s.1 = 5 ∨ 5 < s.1 := by omega
  rcases key with h0 | h0 | h0 | h0 | h0 | h0 | h0
  · rw [stp_0 h0] at h
    unfold stp0 at h
    repeat' split at h
    all_goals first | contradiction | (obtain rfl := Option.some.inj h; dsimp only at hb hx; omega)
  · rw [stp_1 h0] at h
    unfold stp1 at h
    repeat' split at h
    all_goals first | contradiction | (obtain rfl := Option.some.inj h; dsimp only at hb hx; exact hs (by unfold Doom; omega))
  · rw [stp_2 h0] at h
    unfold stp2 at h
    repeat' split at h
    all_goals first | contradiction | (obtain rfl := Option.some.inj h; dsimp only at hb hx; exact hs (by unfold Doom; omega))
  · rw [stp_3 h0] at h
    repeat' split at h
    all_goals first | contradiction | (obtain rfl := Option.some.inj h; dsimp only at hb hx; exact hs (by unfold Doom; omega))
  · rw [stp_4 h0] at h
    repeat' split at h
    all_goals first | contradiction | (obtain rfl := Option.some.inj h; dsimp only at hb hx; omega)
  · rw [stp_5 h0] at h
    repeat' split at h
    all_goals first | contradiction | (obtain rfl := Option.some.inj h; dsimp only at hb hx; omega)
  · unfold stK at h
    rw [if_neg (by omega), if_neg (by omega), if_neg (by omega), if_neg (by omega), if_neg (by omega), if_neg (by omega)] at h
    contradiction
theorem tk_out {bt : Nat → Nat} {n p y : Nat} (hA : tkA bt n p = y) (h : n ≤ y) : tkE bt n p = y ∧ tkW bt n p = false ∧ tk0 bt n p = 0 := by
  unfold tkE tkW tk0
  rw [hA]
  exact ⟨if_neg (by omega), by rw [decide_eq_false (by omega)]; rfl, if_neg (by omega)⟩
theorem tk_dg {bt : Nat → Nat} {n p y : Nat} (hA : tkA bt n p = y) (h : y < n) (hd : dgB bt y = true) : tkE bt n p = spE (dgB bt) n y ∧ tkW bt n p = true ∧ tk0 bt n p = if 6 < spE (dgB bt) n y - y then 1 else 2 := by
  have e : tkE bt n p = spE (dgB bt) n y := by
    unfold tkE
    rw [hA, if_pos h, if_pos hd]
  refine ⟨e, ?_, ?_⟩
  · unfold tkW
    rw [hA, decide_eq_true h, hd]
    rfl
  · unfold tk0
    rw [e, hA, if_pos h, if_pos hd]
theorem tk_lt {bt : Nat → Nat} {n p y : Nat} (hA : tkA bt n p = y) (h : y < n) (hd : ¬ dgB bt y = true) (hl : ltB bt y = true) : tkE bt n p = spE (ltB bt) n y ∧ tkW bt n p = true ∧ tk0 bt n p = wdK bt y (spE (ltB bt) n y) := by
  have e : tkE bt n p = spE (ltB bt) n y := by
    unfold tkE
    rw [hA, if_pos h, if_neg hd, if_pos hl]
  refine ⟨e, ?_, ?_⟩
  · unfold tkW
    rw [hA, decide_eq_true h, hl, Bool.or_true]
    rfl
  · unfold tk0
    rw [e, hA, if_pos h, if_neg hd, if_pos hl]
theorem tk_sg {bt : Nat → Nat} {n p y : Nat} (hA : tkA bt n p = y) (h : y < n) (hd : ¬ dgB bt y = true) (hl : ¬ ltB bt y = true) : tkE bt n p = y + 1 ∧ tkW bt n p = false ∧ tk0 bt n p = if sgC (bt y) = true then bt y else 1 := by
  have hd2 := Bool.eq_false_iff.mpr hd
  have hl2 := Bool.eq_false_iff.mpr hl
  refine ⟨?_, ?_, ?_⟩
  · unfold tkE
    rw [hA, if_pos h, if_neg hd, if_neg hl]
  · unfold tkW
    rw [hA, hd2, hl2, Bool.or_false, Bool.and_false]
  · unfold tk0
    rw [hA, if_pos h, if_neg hd, if_neg hl]
theorem tk_t {bt : Nat → Nat} {n p : Nat} {wb : Bool} (h1 : wb = true) (h2 : tkW bt n p = true) (h3 : tkA bt n p = p) : tkK bt n p wb = 1 := if_pos ⟨by rw [h1, h2]; rfl, h3⟩
theorem tk_n {bt : Nat → Nat} {n p : Nat} {wb : Bool} (h : wb = false ∨ tkW bt n p = false ∨ tkA bt n p ≠ p) : tkK bt n p wb = tk0 bt n p := by
  refine if_neg (fun q => ?_)
  rcases h with h | h | h
  · have q1 := q.1
    rw [h] at q1
    cases q1
  · have q1 := q.1
    rw [h, Bool.and_false] at q1
    cases q1
  · exact h q.2
theorem blI {c : Nat} (hc : c ≤ 255) (h : nI c = 10 ∨ nI c = 32) : blC c = true := by
  unfold blC
  rw [decide_eq_true_iff]
  rcases h with h | h
  · exact Or.inl ((nI_eq (b := 10) (by omega) (by decide)).mp h)
  · exact Or.inr ((nI_eq (b := 32) (by omega) (by decide)).mp h)
theorem blN {c : Nat} (h1 : ¬ nI c = 10) (h2 : ¬ nI c = 32) : ¬ blC c = true := fun q => by
  rcases of_decide_eq_true q with h | h
  · exact h1 (congrArg nI h)
  · exact h2 (congrArg nI h)
theorem wo_f {wo : Int32} {wb : Bool} (hw : wo = if wb = true then 1 else 0) (h : wo = 0) : wb = false := by
  cases wb with
  | false => rfl
  | true =>
    rw [h] at hw
    exact absurd hw (by decide)
theorem wo_t {wo : Int32} {wb : Bool} (hw : wo = if wb = true then 1 else 0) (h : ¬ wo = 0) : wb = true := by
  cases wb with
  | true => rfl
  | false => exact absurd hw h
/-! the run over a text, token by token -/
theorem wdK_b (bt : Nat → Nat) (p q : Nat) : wdK bt p q = 1 ∨ (3 ≤ wdK bt p q ∧ wdK bt p q ≤ 11) := by
  unfold wdK
  repeat' split
  all_goals first | (left; rfl) | (right; decide)
theorem tkA_b {bt : Nat → Nat} {n p : Nat} (h : p ≤ n) : p ≤ tkA bt n p ∧ tkA bt n p ≤ n := ⟨sp_ge h, sp_le h⟩
/-- what a token is: the end, a number, a word, a sign -/
theorem tk_cases (bt : Nat → Nat) (n p : Nat) : (n ≤ tkA bt n p ∧ tkE bt n p = tkA bt n p ∧ tkW bt n p = false ∧ tk0 bt n p = 0) ∨ (tkA bt n p < n ∧ dgB bt (tkA bt n p) = true ∧ tkE bt n p = spE (dgB bt) n (tkA bt n p) ∧ tkW bt n p = true ∧ tk0 bt n p = if 6 < spE (dgB bt) n (tkA bt n p) - tkA bt n p then 1 else 2) ∨ (tkA bt n p < n ∧ ¬ dgB bt (tkA bt n p) = true ∧ ltB bt (tkA bt n p) = true ∧ tkE bt n p = spE (ltB bt) n (tkA bt n p) ∧ tkW bt n p = true ∧ tk0 bt n p = wdK bt (tkA bt n p) (spE (ltB bt) n (tkA bt n p))) ∨ (tkA bt n p < n ∧ ¬ dgB bt (tkA bt n p) = true ∧ ¬ ltB bt (tkA bt n p) = true ∧ tkE bt n p = tkA bt n p + 1 ∧ tkW bt n p = false ∧ tk0 bt n p = if sgC (bt (tkA bt n p)) = true then bt (tkA bt n p) else 1) := by
  rcases Nat.lt_or_ge (tkA bt n p) n with h | h
  · right
    by_cases hd : dgB bt (tkA bt n p) = true
    · left
      exact ⟨h, hd, tk_dg rfl h hd⟩
    · right
      by_cases hl : ltB bt (tkA bt n p) = true
      · left
        exact ⟨h, hd, hl, tk_lt rfl h hd hl⟩
      · right
        exact ⟨h, hd, hl, tk_sg rfl h hd hl⟩
  · left
    exact ⟨h, tk_out rfl h⟩
theorem sp_gt {f : Nat → Bool} {n p : Nat} (h : p < n) (hf : f p = true) : p < spE f n p := by
  rw [sp_T h hf]
  exact sp_ge (by omega)
theorem tkE_le {bt : Nat → Nat} {n p : Nat} (h : p ≤ n) : tkE bt n p ≤ n := by
  have ha := tkA_b (bt := bt) h
  rcases tk_cases bt n p with ⟨h1, h2, _⟩ | ⟨h1, h2, h3, _⟩ | ⟨h1, h2, h3, h4, _⟩ | ⟨h1, h2, h3, h4, _⟩
  · omega
  · rw [h3]
    exact sp_le ha.2
  · rw [h4]
    exact sp_le ha.2
  · omega
theorem tkE_ge {bt : Nat → Nat} {n p : Nat} (h : p ≤ n) : tkA bt n p ≤ tkE bt n p := by
  have ha := tkA_b (bt := bt) h
  rcases tk_cases bt n p with ⟨h1, h2, _⟩ | ⟨h1, h2, h3, _⟩ | ⟨h1, h2, h3, h4, _⟩ | ⟨h1, h2, h3, h4, _⟩
  · omega
  · rw [h3]
    exact sp_ge ha.2
  · rw [h4]
    exact sp_ge ha.2
  · omega
theorem tk_pos {bt : Nat → Nat} {n p : Nat} {wb : Bool} (h : p ≤ n) (hk : ¬ tkK bt n p wb = 0) : p < tkE bt n p ∧ tkA bt n p < n := by
  have ha := tkA_b (bt := bt) h
  rcases tk_cases bt n p with ⟨h1, h2, h3, h4⟩ | ⟨h1, h2, h3, _⟩ | ⟨h1, h2, h3, h4, _⟩ | ⟨h1, h2, h3, h4, _⟩
  · exact absurd ((tk_n (Or.inr (Or.inl h3))).trans h4) hk
  · rw [h3]
    have := sp_gt h1 h2
    exact ⟨by omega, h1⟩
  · rw [h4]
    have := sp_gt h1 h3
    exact ⟨by omega, h1⟩
  · exact ⟨by omega, h1⟩
theorem tkK_c (bt : Nat → Nat) (n p : Nat) (wb : Bool) : tkK bt n p wb = 1 ∨ tkK bt n p wb = tk0 bt n p := by
  unfold tkK
  split
  · exact Or.inl rfl
  · exact Or.inr rfl
theorem tkK_le {bt : Nat → Nat} (hb : ∀ j, bt j ≤ 255) (n p : Nat) (wb : Bool) : tkK bt n p wb ≤ 255 := by
  rcases tkK_c bt n p wb with e | e
  · omega
  · rw [e]
    rcases tk_cases bt n p with ⟨_, _, _, h4⟩ | ⟨_, _, _, _, h4⟩ | ⟨_, _, _, _, _, h4⟩ | ⟨_, _, _, _, _, h4⟩
    · omega
    · rw [h4]
      split <;> omega
    · rw [h4]
      rcases wdK_b bt (tkA bt n p) (spE (ltB bt) n (tkA bt n p)) with q | q <;> omega
    · rw [h4]
      have := hb (tkA bt n p)
      split <;> omega
theorem tkK_2 {bt : Nat → Nat} {n p : Nat} {wb : Bool} (h : tkK bt n p wb = 2) : dgB bt (tkA bt n p) = true ∧ tkA bt n p < n ∧ tkE bt n p = spE (dgB bt) n (tkA bt n p) ∧ tkE bt n p - tkA bt n p ≤ 6 := by
  rcases tkK_c bt n p wb with e | e
  · omega
  · rw [e] at h
    rcases tk_cases bt n p with ⟨_, _, _, h4⟩ | ⟨h1, h2, h3, _, h4⟩ | ⟨_, _, _, _, _, h4⟩ | ⟨_, _, _, _, _, h4⟩
    · omega
    · rw [h4] at h
      refine ⟨h2, h1, h3, ?_⟩
      rw [h3]
      by_cases q : 6 < spE (dgB bt) n (tkA bt n p) - tkA bt n p
      · rw [if_pos q] at h
        omega
      · omega
    · rw [h4] at h
      rcases wdK_b bt (tkA bt n p) (spE (ltB bt) n (tkA bt n p)) with q | q <;> omega
    · rw [h4] at h
      by_cases q : sgC (bt (tkA bt n p)) = true
      · rw [if_pos q] at h
        have := of_decide_eq_true q
        omega
      · rw [if_neg q] at h
        omega
theorem nm_lt {bt : Nat → Nat} {p : Nat} : ∀ k, (∀ j, j < k → bt (p + j) ≤ 57) → nmN bt p k < 10 ^ k := by
  intro k
  induction k with
  | zero => intro _; exact Nat.one_pos
  | succ k ih =>
    intro h
    have h1 := ih (fun j hj => h j (by omega))
    have h2 := h k (by omega)
    show nmN bt p k * 10 + (bt (p + k) - 48) < 10 ^ (k + 1)
    rw [Nat.pow_succ]
    omega
theorem tkN_le {bt : Nat → Nat} {n p : Nat} {wb : Bool} (hp : p ≤ n) (h : tkK bt n p wb = 2) : tkN bt n p ≤ 999999 := by
  obtain ⟨h1, h2, h3, h4⟩ := tkK_2 h
  have ha := (tkA_b (bt := bt) hp).2
  unfold tkN
  have q := nm_lt (bt := bt) (p := tkA bt n p) (min 6 (tkE bt n p - tkA bt n p)) (fun j hj => by
    have e := sp_all (f := dgB bt) ha (tkA bt n p + j) (by omega) (by rw [← h3]; omega)
    have := of_decide_eq_true e
    omega)
  have q2 : 10 ^ (min 6 (tkE bt n p - tkA bt n p)) ≤ 10 ^ 6 := Nat.pow_le_pow_right (by decide) (by omega)
  have q3 : (10 : Nat) ^ 6 = 1000000 := by decide
  omega
/-- what the class's parser knows ahead of its y-th token -/
def PInv (bt : Nat → Nat) (tp y : Nat) (sg : SM) (be : Nat) (wb : Bool) (qf : Int32) : Prop := (qf = 0 → ¬ Doom sg → ¬ sg.1 = 6 → readT bt tp = runS bt tp (tp + 1 - y) sg be wb) ∧ (qf = 0 → sg.1 = 6 → readT bt tp = some sg) ∧ (¬ qf = 0 ∨ Doom sg → readT bt tp = none) ∧ (y ≤ be ∨ sg.1 = 6 ∨ ¬ qf = 0)
theorem PInv_0 {bt : Nat → Nat} {tp : Nat} (h : tp ≤ 600) : PInv bt tp 0 sm0 0 false 0 := ⟨fun _ _ _ => if_pos h, fun _ q => absurd (show (0 : Nat) = 6 from q) (by decide), fun q => absurd q (fun q => q.elim (fun q => q rfl) (nDoom (Or.inr (Or.inl rfl)))), Or.inl (Nat.le_refl _)⟩
theorem PInv.step {bt : Nat → Nat} {tp y : Nat} {sg : SM} {be : Nat} {wb : Bool} {qf qg : Int32} {M : SM → Prop} (h : PInv bt tp y sg be wb qf) (hy : y ≤ tp) (h6 : ¬ sg.1 = 6) (hbe : be ≤ tp) (hA : AccP sg (tkK bt tp be wb) (tkN bt tp be) qf qg M) : ∃ s', M s' ∧ PInv bt tp (y + 1) s' (tkE bt tp be) (tkW bt tp be) qg ∧ (¬ qg = 0 → PInv bt tp (y + 1) (6, s'.2) (tkE bt tp be) (tkW bt tp be) qg) := by
  obtain ⟨s', hM, a1, a2, a3, a4⟩ := hA
  obtain ⟨p1, p2, p3, p4⟩ := h
  have run : runS bt tp (tp + 1 - y) sg be wb = match stK sg (tkK bt tp be wb) (tkN bt tp be) with
      | none => none
      | some s' => if s'.1 = 6 then some s' else runS bt tp (tp - y) s' (tkE bt tp be) (tkW bt tp be) := by
    rw [show tp + 1 - y = (tp - y) + 1 by omega]
    rfl
  have bad : ¬ qg = 0 ∨ Doom s' → readT bt tp = none := by
    intro q
    by_cases hq : qf = 0
    · by_cases hd : Doom sg
      · exact p3 (Or.inr hd)
      · rw [p1 hq hd h6, run]
        rcases a1 hq hd with ⟨e, e2⟩ | ⟨e, _⟩
        · rcases q with q | q
          · exact absurd e q
          · exact absurd q (stp_nd e2 hd)
        · rw [e]
    · exact p3 (Or.inl hq)
  have four : y + 1 ≤ tkE bt tp be ∨ s'.1 = 6 ∨ ¬ qg = 0 := by
    by_cases hk : tkK bt tp be wb = 0
    · exact Or.inr (a4 hk)
    · have := (tk_pos hbe hk).1
      rcases p4 with q | q | q
      · exact Or.inl (by omega)
      · exact absurd q h6
      · exact Or.inr (Or.inr (a2 q))
  have good : qg = 0 → ¬ Doom s' → readT bt tp = if s'.1 = 6 then some s' else runS bt tp (tp - y) s' (tkE bt tp be) (tkW bt tp be) := by
    intro hg hd'
    have hq : qf = 0 := Decidable.byContradiction (fun q => a2 q hg)
    have hd : ¬ Doom sg := fun q => (a3 q).elim hd' (fun z => z hg)
    rw [p1 hq hd h6, run]
    rcases a1 hq hd with ⟨_, e⟩ | ⟨_, e⟩
    · rw [e]
    · exact absurd (e.elim (fun z => absurd hg z) id) hd'
  refine ⟨s', hM, ⟨fun hg hd hs => ?_, fun hg hs => ?_, bad, four⟩, fun hg => ⟨fun q => absurd q hg, fun q => absurd q hg, fun _ => bad (Or.inl hg), Or.inr (Or.inl rfl)⟩⟩
  · rw [good hg hd, if_neg hs, show tp + 1 - (y + 1) = tp - y by omega]
  · rw [good hg (nDoom (Or.inr (Or.inr hs))), if_pos hs]
theorem PInv.fin {bt : Nat → Nat} {tp y : Nat} {sg : SM} {be : Nat} {wb : Bool} {qf : Int32} (h : PInv bt tp y sg be wb qf) (hbe : be ≤ tp) (he : sg.1 = 6 ∨ tp < y) : (qf = 0 ∧ readT bt tp = some sg) ∨ (¬ qf = 0 ∧ readT bt tp = none) := by
  obtain ⟨p1, p2, p3, p4⟩ := h
  by_cases hq : qf = 0
  · left
    refine ⟨hq, p2 hq ?_⟩
    rcases he with e | e
    · exact e
    · rcases p4 with q | q | q
      · omega
      · exact q
      · exact absurd hq q
  · exact Or.inr ⟨hq, p3 (Or.inl hq)⟩
/-! the reference's rows beside the class's: r = (how many, kinds, values, where blocks were opened) -/
abbrev RC : Type := Nat × (Nat → Nat) × (Nat → Nat) × (Nat → Nat)
def emR (r : RC) (k v : Nat) : RC := (r.1 + 1, updN r.2.1 r.1 k, updN r.2.2.1 r.1 v, r.2.2.2)
def pkN (k : Nat) : Nat := if k = 43 then 13 else if k = 45 then 14 else if k = 42 then 15 else if k = 47 then 16 else if k = 37 then 17 else 18
def relR (least : Nat) (wN : Nat → Nat) : Nat → RC → RC
  | 0, r => r
  | w + 1, r => if least ≤ strN (wN w) then relR least wN w (emR r (pkN (wN w)) 0) else r
def opR (r : RC) (bk k v : Nat) : RC := emR (emR (r.1, r.2.1, r.2.2.1, updN r.2.2.2 bk r.1) k v) 0 0
def clR (r : RC) (f : Nat) : RC := (r.1 + 1, updN r.2.1 r.1 6, updN (updN r.2.2.1 r.1 f) (f + 1) (r.1 + 1), r.2.2.2)
def stC (t : Nat) : Nat := if t = 4 then 0 else t - 4
def stR (s : SM) (r : RC) (k num : Nat) : RC :=
  if s.1 = 0 then (if k = 93 then clR r (r.2.2.2 (s.2.2.2.2.1 - 1)) else r) else
  if s.1 = 1 then (if k = 2 then emR r 10 num else if k = 10 then emR r 11 0 else if k = 11 then emR r 12 0 else r) else
  if s.1 = 2 then
    (if 0 < strN k then relR (strN k) s.2.2.2.2.2.2.2.1 s.2.2.2.2.2.2.1 r else
     if 0 < s.2.2.2.1 then relR 1 s.2.2.2.2.2.2.2.1 s.2.2.2.2.2.2.1 r else
     if k = 91 then opR (relR 1 s.2.2.2.2.2.2.2.1 s.2.2.2.2.2.2.1 r) s.2.2.2.2.1 5 0 else
     if k = 59 then emR (relR 1 s.2.2.2.2.2.2.2.1 s.2.2.2.2.2.2.1 r) (stC s.2.1) 0 else
     relR 1 s.2.2.2.2.2.2.2.1 s.2.2.2.2.2.2.1 r) else
  if s.1 = 4 then opR r s.2.2.2.2.1 4 s.2.2.1 else r
def runE (bt : Nat → Nat) (n : Nat) : Nat → SM → RC → Nat → Bool → Option (SM × RC)
  | 0, _, _, _, _ => none
  | m + 1, s, r, p, wb => match stK s (tkK bt n p wb) (tkN bt n p) with
    | none => none
    | some s' => if s'.1 = 6 then some (s', stR s r (tkK bt n p wb) (tkN bt n p)) else runE bt n m s' (stR s r (tkK bt n p wb) (tkN bt n p)) (tkE bt n p) (tkW bt n p)
theorem runE_fst (bt : Nat → Nat) (n : Nat) : ∀ m s r p wb, (runE bt n m s r p wb).map Prod.fst = runS bt n m s p wb := by
  intro m
  induction m with
  | zero => intro s r p wb; rfl
  | succ m ih =>
    intro s r p wb
    show Option.map Prod.fst (match stK s (tkK bt n p wb) (tkN bt n p) with
      | none => none
      | some s' => if s'.1 = 6 then some (s', stR s r (tkK bt n p wb) (tkN bt n p)) else runE bt n m s' (stR s r (tkK bt n p wb) (tkN bt n p)) (tkE bt n p) (tkW bt n p)) = match stK s (tkK bt n p wb) (tkN bt n p) with
      | none => none
      | some s' => if s'.1 = 6 then some s' else runS bt n m s' (tkE bt n p) (tkW bt n p)
    cases e : stK s (tkK bt n p wb) (tkN bt n p) with
    | none => rfl
    | some s' =>
      dsimp only
      by_cases h6 : s'.1 = 6
      · rw [if_pos h6, if_pos h6]
        rfl
      · rw [if_neg h6, if_neg h6]
        exact ih _ _ _ _
theorem stK_0 {s s' : SM} {n : Nat} (h : stK s 0 n = some s') : s'.1 = 6 := by
  have key : s.1 = 0 ∨ s.1 = 1 ∨ s.1 = 2 ∨ s.1 = 3 ∨ s.1 = 4 ∨ s.1 = 5 ∨ 5 < s.1 := by omega
  have hz : strN 0 = 0 := by decide
  rcases key with h0 | h0 | h0 | h0 | h0 | h0 | h0
  · rw [stp_0 h0] at h
    unfold stp0 at h
    repeat' split at h
    all_goals first | contradiction | (obtain rfl := Option.some.inj h; first | rfl | (exfalso; omega))
  · rw [stp_1 h0] at h
    unfold stp1 at h
    repeat' split at h
    all_goals first | contradiction | (exfalso; omega)
  · rw [stp_2 h0] at h
    unfold stp2 at h
    repeat' split at h
    all_goals first | contradiction | (exfalso; omega)
  · rw [stp_3 h0] at h
    repeat' split at h
    all_goals first | contradiction | (exfalso; omega)
  · rw [stp_4 h0] at h
    repeat' split at h
    all_goals first | contradiction | (exfalso; omega)
  · rw [stp_5 h0] at h
    repeat' split at h
    all_goals first | contradiction | (exfalso; omega)
  · unfold stK at h
    rw [if_neg (by omega), if_neg (by omega), if_neg (by omega), if_neg (by omega), if_neg (by omega), if_neg (by omega)] at h
    contradiction
theorem runE_fuel (bt : Nat → Nat) (n : Nat) : ∀ m m' s r p wb, p ≤ n → n - p + 1 ≤ m → n - p + 1 ≤ m' → runE bt n m s r p wb = runE bt n m' s r p wb := by
  intro m
  induction m with
  | zero => intro m' s r p wb _ h; omega
  | succ m ih =>
    intro m' s r p wb hp h1 h2
    obtain ⟨m1, rfl⟩ : ∃ q, m' = q + 1 := ⟨m' - 1, by omega⟩
    show (match stK s (tkK bt n p wb) (tkN bt n p) with
      | none => none
      | some s' => if s'.1 = 6 then some (s', stR s r (tkK bt n p wb) (tkN bt n p)) else runE bt n m s' (stR s r (tkK bt n p wb) (tkN bt n p)) (tkE bt n p) (tkW bt n p)) = match stK s (tkK bt n p wb) (tkN bt n p) with
      | none => none
      | some s' => if s'.1 = 6 then some (s', stR s r (tkK bt n p wb) (tkN bt n p)) else runE bt n m1 s' (stR s r (tkK bt n p wb) (tkN bt n p)) (tkE bt n p) (tkW bt n p)
    cases e : stK s (tkK bt n p wb) (tkN bt n p) with
    | none => rfl
    | some s' =>
      dsimp only
      by_cases h6 : s'.1 = 6
      · rw [if_pos h6, if_pos h6]
      · rw [if_neg h6, if_neg h6]
        have hk : ¬ tkK bt n p wb = 0 := fun q => by
          rw [q] at e
          exact h6 (stK_0 e)
        have h3 := (tk_pos hp hk).1
        have h4 := tkE_le (bt := bt) hp
        exact ih _ _ _ _ _ h4 (by omega) (by omega)
def VR (bt : Nat → Nat) (n : Nat) (s : SM) (r : RC) (p : Nat) (wb : Bool) : Option (SM × RC) := runE bt n (n - p + 1) s r p wb
theorem VR_no {bt : Nat → Nat} {n : Nat} {s : SM} {r : RC} {p : Nat} {wb : Bool} {k m : Nat} (h : stK s k m = none) (hk : tkK bt n p wb = k) (hm : tkN bt n p = m) : VR bt n s r p wb = none := by
  subst hk
  subst hm
  show (match stK s (tkK bt n p wb) (tkN bt n p) with
      | none => none
      | some s' => if s'.1 = 6 then some (s', stR s r (tkK bt n p wb) (tkN bt n p)) else runE bt n (n - p) s' (stR s r (tkK bt n p wb) (tkN bt n p)) (tkE bt n p) (tkW bt n p)) = none
  rw [h]
theorem VR_go {bt : Nat → Nat} {n : Nat} {s s' : SM} {r : RC} {p : Nat} {wb : Bool} {k m : Nat} (hp : p ≤ n) (h : stK s k m = some s') (h6 : ¬ s'.1 = 6) (hk : tkK bt n p wb = k) (hm : tkN bt n p = m) : VR bt n s r p wb = VR bt n s' (stR s r k m) (tkE bt n p) (tkW bt n p) := by
  subst hk
  subst hm
  have hk : ¬ tkK bt n p wb = 0 := fun q => by
    rw [q] at h
    exact h6 (stK_0 h)
  have h3 := (tk_pos hp hk).1
  have h4 := tkE_le (bt := bt) hp
  have e : VR bt n s r p wb = runE bt n (n - p) s' (stR s r (tkK bt n p wb) (tkN bt n p)) (tkE bt n p) (tkW bt n p) := by
    show (match stK s (tkK bt n p wb) (tkN bt n p) with
      | none => none
      | some s' => if s'.1 = 6 then some (s', stR s r (tkK bt n p wb) (tkN bt n p)) else runE bt n (n - p) s' (stR s r (tkK bt n p wb) (tkN bt n p)) (tkE bt n p) (tkW bt n p)) = _
    rw [h]
    dsimp only
    rw [if_neg h6]
  rw [e]
  exact runE_fuel bt n _ _ _ _ _ _ h4 (by omega) (Nat.le_refl _)
theorem VR_end {bt : Nat → Nat} {n : Nat} {s s' : SM} {r : RC} {p : Nat} {wb : Bool} {k m : Nat} (h : stK s k m = some s') (h6 : s'.1 = 6) (hk : tkK bt n p wb = k) (hm : tkN bt n p = m) : VR bt n s r p wb = some (s', stR s r k m) := by
  subst hk
  subst hm
  show (match stK s (tkK bt n p wb) (tkN bt n p) with
      | none => none
      | some s' => if s'.1 = 6 then some (s', stR s r (tkK bt n p wb) (tkN bt n p)) else runE bt n (n - p) s' (stR s r (tkK bt n p wb) (tkN bt n p)) (tkE bt n p) (tkW bt n p)) = _
  rw [h]
  dsimp only
  rw [if_pos h6]
def rc0 : RC := (0, (fun _ => 0), (fun _ => 0), (fun _ => 0))
/-- what the whole text is read as, the reference's rows beside the class's -/
def readE (bt : Nat → Nat) (n : Nat) : Option (SM × RC) := if n ≤ 600 then VR bt n sm0 rc0 0 false else none
theorem readE_fst (bt : Nat → Nat) (n : Nat) : (readE bt n).map Prod.fst = readT bt n := by
  unfold readE readT
  by_cases h : n ≤ 600
  · rw [if_pos h, if_pos h]
    exact runE_fst bt n _ _ _ _ _
  · rw [if_neg h, if_neg h]
    rfl
/-! where the reference stands: at is ta, behind the last token p, ahead of the next; ended is en -/
def EnP (en : Int32) (p : Nat) (wb : Bool) : Prop := (wb = true ∧ en = nI p) ∨ (wb = false ∧ (en = -1 ∨ ∃ z, z < p ∧ en = nI z))
theorem sp_id {f : Nat → Bool} {n p q : Nat} (h1 : p ≤ q) (h2 : q ≤ spE f n p) (hp : p ≤ n) : spE f n q = spE f n p := by
  have key : ∀ d q, p ≤ q → q ≤ spE f n p → q - p = d → spE f n q = spE f n p := by
    intro d
    induction d with
    | zero => intro q a b c; rw [show q = p by omega]
    | succ d ih =>
      intro q a b c
      have := sp_le (f := f) hp
      rw [← ih (q - 1) (by omega) (by omega) (by omega), sp_T (p := q - 1) (by omega) (sp_all hp _ (by omega) (by omega)), show q - 1 + 1 = q by omega]
  exact key _ q h1 h2 rfl
theorem tkA_at {bt : Nat → Nat} {n p q : Nat} (h1 : p ≤ q) (h2 : q ≤ tkA bt n p) (hp : p ≤ n) : tkA bt n q = tkA bt n p := sp_id h1 h2 hp
theorem en_t {en : Int32} {p q : Nat} {wb : Bool} (h : EnP en p wb) (hq : p ≤ q) (hq2 : q ≤ 2000) : nI q = en ↔ (wb = true ∧ q = p) := by
  rcases h with ⟨h1, h2⟩ | ⟨h1, h2⟩
  · rw [h2, h1, nI_eq (by omega) (by omega)]
    exact ⟨fun e => ⟨rfl, e⟩, fun e => e.2⟩
  · rw [h1]
    constructor
    · intro e
      exfalso
      rcases h2 with z | ⟨z, hz, e2⟩
      · rw [z] at e
        exact absurd (show (0 : Int32) ≤ -1 from e ▸ nI_pos' (n := q) (by omega)) (by decide)
      · rw [e2, nI_eq (by omega) (by omega)] at e
        omega
    · intro e
      exact absurd e.1 (by decide)
/-- a sign's kind is its byte -/
theorem tk_sgn {bt : Nat → Nat} {n p : Nat} {wb : Bool} {k : Nat} (hk : sgC k = true) : tkK bt n p wb = k ↔ (tkA bt n p < n ∧ bt (tkA bt n p) = k) := by
  have hk2 := of_decide_eq_true hk
  have nd : ¬ dgC k = true := fun q => by
    have := of_decide_eq_true q
    omega
  have nl : ¬ ltC k = true := fun q => by
    have := of_decide_eq_true q
    omega
  constructor
  · intro e
    rcases tkK_c bt n p wb with q | q
    · omega
    · rw [q] at e
      rcases tk_cases bt n p with ⟨_, _, _, h4⟩ | ⟨_, _, _, _, h4⟩ | ⟨_, _, _, _, _, h4⟩ | ⟨h1, _, _, _, _, h4⟩
      · omega
      · rw [h4] at e
        split at e <;> omega
      · rw [h4] at e
        rcases wdK_b bt (tkA bt n p) (spE (ltB bt) n (tkA bt n p)) with q | q <;> omega
      · rw [h4] at e
        split at e
        · exact ⟨h1, e⟩
        · omega
  · rintro ⟨h1, h2⟩
    obtain ⟨_, a2, a3⟩ := tk_sg (bt := bt) (n := n) (p := p) rfl h1 (fun q => nd (by unfold dgB at q; rw [h2] at q; exact q)) (fun q => nl (by unfold ltB at q; rw [h2] at q; exact q))
    rw [tk_n (Or.inr (Or.inl a2)), a3, if_pos (by rw [h2]; exact hk), h2]
theorem tk_sgE {bt : Nat → Nat} {n p : Nat} {wb : Bool} {k : Nat} (hk : sgC k = true) (h : tkK bt n p wb = k) : tkE bt n p = tkA bt n p + 1 ∧ tkW bt n p = false ∧ tkA bt n p < n := by
  have hk2 := of_decide_eq_true hk
  obtain ⟨h1, h2⟩ := (tk_sgn hk).mp h
  have nd : ¬ dgB bt (tkA bt n p) = true := fun q => by
    have := of_decide_eq_true q
    omega
  have nl : ¬ ltB bt (tkA bt n p) = true := fun q => by
    have := of_decide_eq_true q
    omega
  obtain ⟨a1, a2, _⟩ := tk_sg (bt := bt) (n := n) (p := p) rfl h1 nd nl
  exact ⟨a1, a2, h1⟩
/-! words by their numbers -/
def wcN (bt : Nat → Nat) (p : Nat) : Nat → Nat
  | 0 => 0
  | k + 1 => 32 * wcN bt p k + (bt (p + k) - 96)
def wcK (k : Nat) : Nat := if k = 3 then 17076 else if k = 4 then 51 else if k = 5 then 150000 else if k = 6 then 7348 else if k = 7 then 12468 else if k = 8 then 6642 else if k = 9 then 294 else if k = 10 then 9 else 24
theorem fa1 {P : Nat → Prop} : (∀ j, j < 1 → P j) ↔ P 0 := ⟨fun h => h 0 (by decide), fun h j hj => by rw [show j = 0 by omega]; exact h⟩
theorem fa2 {P : Nat → Prop} : (∀ j, j < 2 → P j) ↔ (P 0 ∧ P 1) := ⟨fun h => ⟨h 0 (by decide), h 1 (by decide)⟩, fun h j hj => by
  rcases (show j = 0 ∨ j = 1 by omega) with rfl | rfl
  · exact h.1
  · exact h.2⟩
theorem fa3 {P : Nat → Prop} : (∀ j, j < 3 → P j) ↔ (P 0 ∧ P 1 ∧ P 2) := ⟨fun h => ⟨h 0 (by decide), h 1 (by decide), h 2 (by decide)⟩, fun h j hj => by
  rcases (show j = 0 ∨ j = 1 ∨ j = 2 by omega) with rfl | rfl | rfl
  · exact h.1
  · exact h.2.1
  · exact h.2.2⟩
theorem fa4 {P : Nat → Prop} : (∀ j, j < 4 → P j) ↔ (P 0 ∧ P 1 ∧ P 2 ∧ P 3) := ⟨fun h => ⟨h 0 (by decide), h 1 (by decide), h 2 (by decide), h 3 (by decide)⟩, fun h j hj => by
  rcases (show j = 0 ∨ j = 1 ∨ j = 2 ∨ j = 3 by omega) with rfl | rfl | rfl | rfl
  · exact h.1
  · exact h.2.1
  · exact h.2.2.1
  · exact h.2.2.2⟩
theorem isW_0 {bt : Nat → Nat} {p q : Nat} : isW bt p q (wdS.getD 0 []) ↔ (q - p = 3 ∧ bt (p + 0) = 112 ∧ bt (p + 1) = 117 ∧ bt (p + 2) = 116) := and_congr_right (fun _ => fa3)
theorem isW_1 {bt : Nat → Nat} {p q : Nat} : isW bt p q (wdS.getD 1 []) ↔ (q - p = 2 ∧ bt (p + 0) = 97 ∧ bt (p + 1) = 115) := and_congr_right (fun _ => fa2)
theorem isW_2 {bt : Nat → Nat} {p q : Nat} : isW bt p q (wdS.getD 2 []) ↔ (q - p = 4 ∧ bt (p + 0) = 100 ∧ bt (p + 1) = 114 ∧ bt (p + 2) = 111 ∧ bt (p + 3) = 112) := and_congr_right (fun _ => fa4)
theorem isW_3 {bt : Nat → Nat} {p q : Nat} : isW bt p q (wdS.getD 3 []) ↔ (q - p = 3 ∧ bt (p + 0) = 103 ∧ bt (p + 1) = 101 ∧ bt (p + 2) = 116) := and_congr_right (fun _ => fa3)
theorem isW_4 {bt : Nat → Nat} {p q : Nat} : isW bt p q (wdS.getD 4 []) ↔ (q - p = 3 ∧ bt (p + 0) = 108 ∧ bt (p + 1) = 101 ∧ bt (p + 2) = 116) := and_congr_right (fun _ => fa3)
theorem isW_5 {bt : Nat → Nat} {p q : Nat} : isW bt p q (wdS.getD 5 []) ↔ (q - p = 3 ∧ bt (p + 0) = 102 ∧ bt (p + 1) = 111 ∧ bt (p + 2) = 114) := and_congr_right (fun _ => fa3)
theorem isW_6 {bt : Nat → Nat} {p q : Nat} : isW bt p q (wdS.getD 6 []) ↔ (q - p = 2 ∧ bt (p + 0) = 105 ∧ bt (p + 1) = 102) := and_congr_right (fun _ => fa2)
theorem isW_7 {bt : Nat → Nat} {p q : Nat} : isW bt p q (wdS.getD 7 []) ↔ (q - p = 1 ∧ bt (p + 0) = 105) := and_congr_right (fun _ => fa1)
theorem isW_8 {bt : Nat → Nat} {p q : Nat} : isW bt p q (wdS.getD 8 []) ↔ (q - p = 1 ∧ bt (p + 0) = 120) := and_congr_right (fun _ => fa1)
def wkC (c : Nat) : Nat := if c = 17076 then 3 else if c = 51 then 4 else if c = 150000 then 5 else if c = 7348 then 6 else if c = 12468 then 7 else if c = 6642 then 8 else if c = 294 then 9 else if c = 9 then 10 else if c = 24 then 11 else 1
theorem wc_hi {bt : Nat → Nat} {p : Nat} : ∀ L, (∀ j, j < L → bt (p + j) ≤ 122) → wcN bt p L < 32 ^ L := by
  intro L
  induction L with
  | zero => intro _; exact Nat.one_pos
  | succ L ih =>
    intro h
    have h1 := ih (fun j hj => h j (by omega))
    have h2 := h L (by omega)
    show 32 * wcN bt p L + (bt (p + L) - 96) < 32 ^ (L + 1)
    rw [Nat.pow_succ]
    omega
theorem wc_lo {bt : Nat → Nat} {p : Nat} : ∀ L, (∀ j, j < L + 1 → 97 ≤ bt (p + j)) → 32 ^ L ≤ wcN bt p (L + 1) := by
  intro L
  induction L with
  | zero =>
    intro h
    have := h 0 (by omega)
    show 1 ≤ 32 * 0 + (bt (p + 0) - 96)
    omega
  | succ L ih =>
    intro h
    have h1 := ih (fun j hj => h j (by omega))
    show 32 ^ (L + 1) ≤ 32 * wcN bt p (L + 1) + (bt (p + (L + 1)) - 96)
    rw [Nat.pow_succ]
    omega
theorem ifc {p q : Prop} [Decidable p] [Decidable q] (h : p ↔ q) {a b c : Nat} (hb : b = c) : (if p then a else b) = (if q then a else c) := by
  subst hb
  by_cases z : p
  · rw [if_pos z, if_pos (h.mp z)]
  · rw [if_neg z, if_neg (fun y => z (h.mpr y))]
abbrev wcB (bt : Nat → Nat) (p q : Nat) : Prop := (q - p = 1 ∧ wcN bt p (q - p) < 32) ∨ (q - p = 2 ∧ 32 ≤ wcN bt p (q - p) ∧ wcN bt p (q - p) < 1024) ∨ (q - p = 3 ∧ 1024 ≤ wcN bt p (q - p) ∧ wcN bt p (q - p) < 32768) ∨ (q - p = 4 ∧ 32768 ≤ wcN bt p (q - p) ∧ wcN bt p (q - p) < 1048576) ∨ (q - p = 5 ∧ 1048576 ≤ wcN bt p (q - p))
theorem wcw_0 {bt : Nat → Nat} {p q : Nat} (hl : ∀ j, j < q - p → 97 ≤ bt (p + j) ∧ bt (p + j) ≤ 122) (hb : wcB bt p q) : isW bt p q (wdS.getD 0 []) ↔ wcN bt p (q - p) = 17076 := by
  rw [isW_0]
  constructor
  · rintro ⟨e, a, b, c⟩
    rw [e]
    show 32 * (32 * (32 * 0 + (bt (p + 0) - 96)) + (bt (p + 1) - 96)) + (bt (p + 2) - 96) = 17076
    rw [a, b, c]
  · intro h
    have e : q - p = 3 := by omega
    rw [e] at h hl
    replace h : 32 * (32 * (32 * 0 + (bt (p + 0) - 96)) + (bt (p + 1) - 96)) + (bt (p + 2) - 96) = 17076 := h
    obtain ⟨c0, f0, r0⟩ : ∃ c, bt (p + 0) = c + 96 ∧ (1 ≤ c ∧ c ≤ 26) := ⟨bt (p + 0) - 96, by have := hl 0 (by decide); omega, by have := hl 0 (by decide); omega⟩
    obtain ⟨c1, f1, r1⟩ : ∃ c, bt (p + 1) = c + 96 ∧ (1 ≤ c ∧ c ≤ 26) := ⟨bt (p + 1) - 96, by have := hl 1 (by decide); omega, by have := hl 1 (by decide); omega⟩
    obtain ⟨c2, f2, r2⟩ : ∃ c, bt (p + 2) = c + 96 ∧ (1 ≤ c ∧ c ≤ 26) := ⟨bt (p + 2) - 96, by have := hl 2 (by decide); omega, by have := hl 2 (by decide); omega⟩
    rw [f0, Nat.add_sub_cancel, f1, Nat.add_sub_cancel, f2, Nat.add_sub_cancel] at h
    exact ⟨e, by rw [f0]; omega, by rw [f1]; omega, by rw [f2]; omega⟩
theorem wcw_1 {bt : Nat → Nat} {p q : Nat} (hl : ∀ j, j < q - p → 97 ≤ bt (p + j) ∧ bt (p + j) ≤ 122) (hb : wcB bt p q) : isW bt p q (wdS.getD 1 []) ↔ wcN bt p (q - p) = 51 := by
  rw [isW_1]
  constructor
  · rintro ⟨e, a, b⟩
    rw [e]
    show 32 * (32 * 0 + (bt (p + 0) - 96)) + (bt (p + 1) - 96) = 51
    rw [a, b]
  · intro h
    have e : q - p = 2 := by omega
    rw [e] at h hl
    replace h : 32 * (32 * 0 + (bt (p + 0) - 96)) + (bt (p + 1) - 96) = 51 := h
    obtain ⟨c0, f0, r0⟩ : ∃ c, bt (p + 0) = c + 96 ∧ (1 ≤ c ∧ c ≤ 26) := ⟨bt (p + 0) - 96, by have := hl 0 (by decide); omega, by have := hl 0 (by decide); omega⟩
    obtain ⟨c1, f1, r1⟩ : ∃ c, bt (p + 1) = c + 96 ∧ (1 ≤ c ∧ c ≤ 26) := ⟨bt (p + 1) - 96, by have := hl 1 (by decide); omega, by have := hl 1 (by decide); omega⟩
    rw [f0, Nat.add_sub_cancel, f1, Nat.add_sub_cancel] at h
    exact ⟨e, by rw [f0]; omega, by rw [f1]; omega⟩
theorem wcw_2 {bt : Nat → Nat} {p q : Nat} (hl : ∀ j, j < q - p → 97 ≤ bt (p + j) ∧ bt (p + j) ≤ 122) (hb : wcB bt p q) : isW bt p q (wdS.getD 2 []) ↔ wcN bt p (q - p) = 150000 := by
  rw [isW_2]
  constructor
  · rintro ⟨e, a, b, c, d⟩
    rw [e]
    show 32 * (32 * (32 * (32 * 0 + (bt (p + 0) - 96)) + (bt (p + 1) - 96)) + (bt (p + 2) - 96)) + (bt (p + 3) - 96) = 150000
    rw [a, b, c, d]
  · intro h
    have e : q - p = 4 := by omega
    rw [e] at h hl
    replace h : 32 * (32 * (32 * (32 * 0 + (bt (p + 0) - 96)) + (bt (p + 1) - 96)) + (bt (p + 2) - 96)) + (bt (p + 3) - 96) = 150000 := h
    obtain ⟨c0, f0, r0⟩ : ∃ c, bt (p + 0) = c + 96 ∧ (1 ≤ c ∧ c ≤ 26) := ⟨bt (p + 0) - 96, by have := hl 0 (by decide); omega, by have := hl 0 (by decide); omega⟩
    obtain ⟨c1, f1, r1⟩ : ∃ c, bt (p + 1) = c + 96 ∧ (1 ≤ c ∧ c ≤ 26) := ⟨bt (p + 1) - 96, by have := hl 1 (by decide); omega, by have := hl 1 (by decide); omega⟩
    obtain ⟨c2, f2, r2⟩ : ∃ c, bt (p + 2) = c + 96 ∧ (1 ≤ c ∧ c ≤ 26) := ⟨bt (p + 2) - 96, by have := hl 2 (by decide); omega, by have := hl 2 (by decide); omega⟩
    obtain ⟨c3, f3, r3⟩ : ∃ c, bt (p + 3) = c + 96 ∧ (1 ≤ c ∧ c ≤ 26) := ⟨bt (p + 3) - 96, by have := hl 3 (by decide); omega, by have := hl 3 (by decide); omega⟩
    rw [f0, Nat.add_sub_cancel, f1, Nat.add_sub_cancel, f2, Nat.add_sub_cancel, f3, Nat.add_sub_cancel] at h
    exact ⟨e, by rw [f0]; omega, by rw [f1]; omega, by rw [f2]; omega, by rw [f3]; omega⟩
theorem wcw_3 {bt : Nat → Nat} {p q : Nat} (hl : ∀ j, j < q - p → 97 ≤ bt (p + j) ∧ bt (p + j) ≤ 122) (hb : wcB bt p q) : isW bt p q (wdS.getD 3 []) ↔ wcN bt p (q - p) = 7348 := by
  rw [isW_3]
  constructor
  · rintro ⟨e, a, b, c⟩
    rw [e]
    show 32 * (32 * (32 * 0 + (bt (p + 0) - 96)) + (bt (p + 1) - 96)) + (bt (p + 2) - 96) = 7348
    rw [a, b, c]
  · intro h
    have e : q - p = 3 := by omega
    rw [e] at h hl
    replace h : 32 * (32 * (32 * 0 + (bt (p + 0) - 96)) + (bt (p + 1) - 96)) + (bt (p + 2) - 96) = 7348 := h
    obtain ⟨c0, f0, r0⟩ : ∃ c, bt (p + 0) = c + 96 ∧ (1 ≤ c ∧ c ≤ 26) := ⟨bt (p + 0) - 96, by have := hl 0 (by decide); omega, by have := hl 0 (by decide); omega⟩
    obtain ⟨c1, f1, r1⟩ : ∃ c, bt (p + 1) = c + 96 ∧ (1 ≤ c ∧ c ≤ 26) := ⟨bt (p + 1) - 96, by have := hl 1 (by decide); omega, by have := hl 1 (by decide); omega⟩
    obtain ⟨c2, f2, r2⟩ : ∃ c, bt (p + 2) = c + 96 ∧ (1 ≤ c ∧ c ≤ 26) := ⟨bt (p + 2) - 96, by have := hl 2 (by decide); omega, by have := hl 2 (by decide); omega⟩
    rw [f0, Nat.add_sub_cancel, f1, Nat.add_sub_cancel, f2, Nat.add_sub_cancel] at h
    exact ⟨e, by rw [f0]; omega, by rw [f1]; omega, by rw [f2]; omega⟩
theorem wcw_4 {bt : Nat → Nat} {p q : Nat} (hl : ∀ j, j < q - p → 97 ≤ bt (p + j) ∧ bt (p + j) ≤ 122) (hb : wcB bt p q) : isW bt p q (wdS.getD 4 []) ↔ wcN bt p (q - p) = 12468 := by
  rw [isW_4]
  constructor
  · rintro ⟨e, a, b, c⟩
    rw [e]
    show 32 * (32 * (32 * 0 + (bt (p + 0) - 96)) + (bt (p + 1) - 96)) + (bt (p + 2) - 96) = 12468
    rw [a, b, c]
  · intro h
    have e : q - p = 3 := by omega
    rw [e] at h hl
    replace h : 32 * (32 * (32 * 0 + (bt (p + 0) - 96)) + (bt (p + 1) - 96)) + (bt (p + 2) - 96) = 12468 := h
    obtain ⟨c0, f0, r0⟩ : ∃ c, bt (p + 0) = c + 96 ∧ (1 ≤ c ∧ c ≤ 26) := ⟨bt (p + 0) - 96, by have := hl 0 (by decide); omega, by have := hl 0 (by decide); omega⟩
    obtain ⟨c1, f1, r1⟩ : ∃ c, bt (p + 1) = c + 96 ∧ (1 ≤ c ∧ c ≤ 26) := ⟨bt (p + 1) - 96, by have := hl 1 (by decide); omega, by have := hl 1 (by decide); omega⟩
    obtain ⟨c2, f2, r2⟩ : ∃ c, bt (p + 2) = c + 96 ∧ (1 ≤ c ∧ c ≤ 26) := ⟨bt (p + 2) - 96, by have := hl 2 (by decide); omega, by have := hl 2 (by decide); omega⟩
    rw [f0, Nat.add_sub_cancel, f1, Nat.add_sub_cancel, f2, Nat.add_sub_cancel] at h
    exact ⟨e, by rw [f0]; omega, by rw [f1]; omega, by rw [f2]; omega⟩
theorem wcw_5 {bt : Nat → Nat} {p q : Nat} (hl : ∀ j, j < q - p → 97 ≤ bt (p + j) ∧ bt (p + j) ≤ 122) (hb : wcB bt p q) : isW bt p q (wdS.getD 5 []) ↔ wcN bt p (q - p) = 6642 := by
  rw [isW_5]
  constructor
  · rintro ⟨e, a, b, c⟩
    rw [e]
    show 32 * (32 * (32 * 0 + (bt (p + 0) - 96)) + (bt (p + 1) - 96)) + (bt (p + 2) - 96) = 6642
    rw [a, b, c]
  · intro h
    have e : q - p = 3 := by omega
    rw [e] at h hl
    replace h : 32 * (32 * (32 * 0 + (bt (p + 0) - 96)) + (bt (p + 1) - 96)) + (bt (p + 2) - 96) = 6642 := h
    obtain ⟨c0, f0, r0⟩ : ∃ c, bt (p + 0) = c + 96 ∧ (1 ≤ c ∧ c ≤ 26) := ⟨bt (p + 0) - 96, by have := hl 0 (by decide); omega, by have := hl 0 (by decide); omega⟩
    obtain ⟨c1, f1, r1⟩ : ∃ c, bt (p + 1) = c + 96 ∧ (1 ≤ c ∧ c ≤ 26) := ⟨bt (p + 1) - 96, by have := hl 1 (by decide); omega, by have := hl 1 (by decide); omega⟩
    obtain ⟨c2, f2, r2⟩ : ∃ c, bt (p + 2) = c + 96 ∧ (1 ≤ c ∧ c ≤ 26) := ⟨bt (p + 2) - 96, by have := hl 2 (by decide); omega, by have := hl 2 (by decide); omega⟩
    rw [f0, Nat.add_sub_cancel, f1, Nat.add_sub_cancel, f2, Nat.add_sub_cancel] at h
    exact ⟨e, by rw [f0]; omega, by rw [f1]; omega, by rw [f2]; omega⟩
theorem wcw_6 {bt : Nat → Nat} {p q : Nat} (hl : ∀ j, j < q - p → 97 ≤ bt (p + j) ∧ bt (p + j) ≤ 122) (hb : wcB bt p q) : isW bt p q (wdS.getD 6 []) ↔ wcN bt p (q - p) = 294 := by
  rw [isW_6]
  constructor
  · rintro ⟨e, a, b⟩
    rw [e]
    show 32 * (32 * 0 + (bt (p + 0) - 96)) + (bt (p + 1) - 96) = 294
    rw [a, b]
  · intro h
    have e : q - p = 2 := by omega
    rw [e] at h hl
    replace h : 32 * (32 * 0 + (bt (p + 0) - 96)) + (bt (p + 1) - 96) = 294 := h
    obtain ⟨c0, f0, r0⟩ : ∃ c, bt (p + 0) = c + 96 ∧ (1 ≤ c ∧ c ≤ 26) := ⟨bt (p + 0) - 96, by have := hl 0 (by decide); omega, by have := hl 0 (by decide); omega⟩
    obtain ⟨c1, f1, r1⟩ : ∃ c, bt (p + 1) = c + 96 ∧ (1 ≤ c ∧ c ≤ 26) := ⟨bt (p + 1) - 96, by have := hl 1 (by decide); omega, by have := hl 1 (by decide); omega⟩
    rw [f0, Nat.add_sub_cancel, f1, Nat.add_sub_cancel] at h
    exact ⟨e, by rw [f0]; omega, by rw [f1]; omega⟩
theorem wcw_7 {bt : Nat → Nat} {p q : Nat} (hl : ∀ j, j < q - p → 97 ≤ bt (p + j) ∧ bt (p + j) ≤ 122) (hb : wcB bt p q) : isW bt p q (wdS.getD 7 []) ↔ wcN bt p (q - p) = 9 := by
  rw [isW_7]
  constructor
  · rintro ⟨e, a⟩
    rw [e]
    show 32 * 0 + (bt (p + 0) - 96) = 9
    rw [a]
  · intro h
    have e : q - p = 1 := by omega
    rw [e] at h hl
    replace h : 32 * 0 + (bt (p + 0) - 96) = 9 := h
    obtain ⟨c0, f0, r0⟩ : ∃ c, bt (p + 0) = c + 96 ∧ (1 ≤ c ∧ c ≤ 26) := ⟨bt (p + 0) - 96, by have := hl 0 (by decide); omega, by have := hl 0 (by decide); omega⟩
    rw [f0, Nat.add_sub_cancel] at h
    exact ⟨e, by rw [f0]; omega⟩
theorem wcw_8 {bt : Nat → Nat} {p q : Nat} (hl : ∀ j, j < q - p → 97 ≤ bt (p + j) ∧ bt (p + j) ≤ 122) (hb : wcB bt p q) : isW bt p q (wdS.getD 8 []) ↔ wcN bt p (q - p) = 24 := by
  rw [isW_8]
  constructor
  · rintro ⟨e, a⟩
    rw [e]
    show 32 * 0 + (bt (p + 0) - 96) = 24
    rw [a]
  · intro h
    have e : q - p = 1 := by omega
    rw [e] at h hl
    replace h : 32 * 0 + (bt (p + 0) - 96) = 24 := h
    obtain ⟨c0, f0, r0⟩ : ∃ c, bt (p + 0) = c + 96 ∧ (1 ≤ c ∧ c ≤ 26) := ⟨bt (p + 0) - 96, by have := hl 0 (by decide); omega, by have := hl 0 (by decide); omega⟩
    rw [f0, Nat.add_sub_cancel] at h
    exact ⟨e, by rw [f0]; omega⟩
theorem wd_wc {bt : Nat → Nat} {p q : Nat} (hl : ∀ j, j < q - p → 97 ≤ bt (p + j) ∧ bt (p + j) ≤ 122) (h1 : p < q) (h5 : q - p ≤ 5) : wdK bt p q = wkC (wcN bt p (q - p)) := by
  have hb : wcB bt p q := by
    have a := wc_hi (bt := bt) (p := p) (q - p) (fun j hj => (hl j hj).2)
    have b := wc_lo (bt := bt) (p := p) (q - p - 1) (fun j hj => (hl j (by omega)).1)
    rw [show q - p - 1 + 1 = q - p by omega] at b
    rcases (show q - p = 1 ∨ q - p = 2 ∨ q - p = 3 ∨ q - p = 4 ∨ q - p = 5 by omega) with e | e | e | e | e
    · exact Or.inl ⟨e, by rw [e] at a ⊢; exact a⟩
    · exact Or.inr (Or.inl ⟨e, by rw [e] at b ⊢; exact b, by rw [e] at a ⊢; exact a⟩)
    · exact Or.inr (Or.inr (Or.inl ⟨e, by rw [e] at b ⊢; exact b, by rw [e] at a ⊢; exact a⟩))
    · exact Or.inr (Or.inr (Or.inr (Or.inl ⟨e, by rw [e] at b ⊢; exact b, by rw [e] at a ⊢; exact a⟩)))
    · exact Or.inr (Or.inr (Or.inr (Or.inr ⟨e, by rw [e] at b ⊢; exact b⟩)))
  exact (ifc (wcw_0 hl hb) (ifc (wcw_1 hl hb) (ifc (wcw_2 hl hb) (ifc (wcw_3 hl hb) (ifc (wcw_4 hl hb) (ifc (wcw_5 hl hb) (ifc (wcw_6 hl hb) (ifc (wcw_7 hl hb) (ifc (wcw_8 hl hb) rfl)))))))))
theorem wd_long {bt : Nat → Nat} {p q : Nat} (h5 : 5 < q - p) : wdK bt p q = 1 := by
  unfold wdK
  rw [if_neg (fun h => by rw [isW_0] at h; omega), if_neg (fun h => by rw [isW_1] at h; omega), if_neg (fun h => by rw [isW_2] at h; omega), if_neg (fun h => by rw [isW_3] at h; omega), if_neg (fun h => by rw [isW_4] at h; omega), if_neg (fun h => by rw [isW_5] at h; omega), if_neg (fun h => by rw [isW_6] at h; omega), if_neg (fun h => by rw [isW_7] at h; omega), if_neg (fun h => by rw [isW_8] at h; omega)]
theorem wkC_k {c k : Nat} (hk : 3 ≤ k ∧ k ≤ 11) : wkC c = k ↔ c = wcK k := by
  rcases (show k = 3 ∨ k = 4 ∨ k = 5 ∨ k = 6 ∨ k = 7 ∨ k = 8 ∨ k = 9 ∨ k = 10 ∨ k = 11 by omega) with rfl | rfl | rfl | rfl | rfl | rfl | rfl | rfl | rfl
  · show wkC c = 3 ↔ c = 17076
    constructor
    · intro h
      unfold wkC at h
      repeat' split at h
      all_goals first | assumption | omega
    · rintro rfl
      rfl
  · show wkC c = 4 ↔ c = 51
    constructor
    · intro h
      unfold wkC at h
      repeat' split at h
      all_goals first | assumption | omega
    · rintro rfl
      rfl
  · show wkC c = 5 ↔ c = 150000
    constructor
    · intro h
      unfold wkC at h
      repeat' split at h
      all_goals first | assumption | omega
    · rintro rfl
      rfl
  · show wkC c = 6 ↔ c = 7348
    constructor
    · intro h
      unfold wkC at h
      repeat' split at h
      all_goals first | assumption | omega
    · rintro rfl
      rfl
  · show wkC c = 7 ↔ c = 12468
    constructor
    · intro h
      unfold wkC at h
      repeat' split at h
      all_goals first | assumption | omega
    · rintro rfl
      rfl
  · show wkC c = 8 ↔ c = 6642
    constructor
    · intro h
      unfold wkC at h
      repeat' split at h
      all_goals first | assumption | omega
    · rintro rfl
      rfl
  · show wkC c = 9 ↔ c = 294
    constructor
    · intro h
      unfold wkC at h
      repeat' split at h
      all_goals first | assumption | omega
    · rintro rfl
      rfl
  · show wkC c = 10 ↔ c = 9
    constructor
    · intro h
      unfold wkC at h
      repeat' split at h
      all_goals first | assumption | omega
    · rintro rfl
      rfl
  · show wkC c = 11 ↔ c = 24
    constructor
    · intro h
      unfold wkC at h
      repeat' split at h
      all_goals first | assumption | omega
    · rintro rfl
      rfl
/-- the next token is the word of kind k -/
theorem tk_word {bt : Nat → Nat} {n p : Nat} {wb : Bool} {k : Nat} (hp : p ≤ n) (hk : 3 ≤ k ∧ k ≤ 11) : tkK bt n p wb = k ↔ (tkA bt n p < n ∧ ltB bt (tkA bt n p) = true ∧ ¬ (wb = true ∧ tkA bt n p = p) ∧ spE (ltB bt) n (tkA bt n p) - tkA bt n p ≤ 5 ∧ wcN bt (tkA bt n p) (spE (ltB bt) n (tkA bt n p) - tkA bt n p) = wcK k) := by
  have ha := (tkA_b (bt := bt) hp).2
  constructor
  · intro e
    rcases tkK_c bt n p wb with q | q
    · omega
    · have e0 := e
      rw [q] at e
      rcases tk_cases bt n p with ⟨_, _, _, h4⟩ | ⟨_, _, _, _, h4⟩ | ⟨h1, h2, h3, _, h5, h4⟩ | ⟨_, _, _, _, _, h4⟩
      · omega
      · rw [h4] at e
        split at e <;> omega
      · rw [h4] at e
        have hg := sp_gt h1 h3
        have hs : spE (ltB bt) n (tkA bt n p) - tkA bt n p ≤ 5 := by
          rcases Nat.lt_or_ge 5 (spE (ltB bt) n (tkA bt n p) - tkA bt n p) with z | z
          · rw [wd_long z] at e
            omega
          · exact z
        have hl : ∀ j, j < spE (ltB bt) n (tkA bt n p) - tkA bt n p → 97 ≤ bt (tkA bt n p + j) ∧ bt (tkA bt n p + j) ≤ 122 := fun j hj => of_decide_eq_true (sp_all (f := ltB bt) ha (tkA bt n p + j) (by omega) (by omega))
        rw [wd_wc hl hg hs, wkC_k hk] at e
        refine ⟨h1, h3, fun z => ?_, hs, e⟩
        rw [tk_t z.1 h5 z.2] at e0
        omega
      · rw [h4] at e
        by_cases z : sgC (bt (tkA bt n p)) = true
        · rw [if_pos z] at e
          have := of_decide_eq_true z
          omega
        · rw [if_neg z] at e
          omega
  · rintro ⟨h1, h2, h3, h4, h5⟩
    have nd : ¬ dgB bt (tkA bt n p) = true := fun q => by
      have a := of_decide_eq_true q
      have b := of_decide_eq_true h2
      omega
    obtain ⟨_, a2, a3⟩ := tk_lt (bt := bt) (n := n) (p := p) rfl h1 nd h2
    have hg := sp_gt h1 h2
    have hl : ∀ j, j < spE (ltB bt) n (tkA bt n p) - tkA bt n p → 97 ≤ bt (tkA bt n p + j) ∧ bt (tkA bt n p + j) ≤ 122 := fun j hj => of_decide_eq_true (sp_all (f := ltB bt) ha (tkA bt n p + j) (by omega) (by omega))
    rw [tk_n (by
      cases wb with
      | false => exact Or.inl rfl
      | true => exact Or.inr (Or.inr (fun z => h3 ⟨rfl, z⟩))), a3, wd_wc hl hg h4]
    exact (wkC_k hk).mpr h5
theorem tk_wordE {bt : Nat → Nat} {n p : Nat} {wb : Bool} {k : Nat} (hp : p ≤ n) (hk : 3 ≤ k ∧ k ≤ 11) (h : tkK bt n p wb = k) : tkE bt n p = spE (ltB bt) n (tkA bt n p) ∧ tkW bt n p = true := by
  obtain ⟨h1, h2, _⟩ := (tk_word hp hk).mp h
  have nd : ¬ dgB bt (tkA bt n p) = true := fun q => by
    have a := of_decide_eq_true q
    have b := of_decide_eq_true h2
    omega
  obtain ⟨a1, a2, _⟩ := tk_lt (bt := bt) (n := n) (p := p) rfl h1 nd h2
  exact ⟨a1, a2⟩
/-- the next token is a number -/
theorem tk_num {bt : Nat → Nat} {n p : Nat} {wb : Bool} : tkK bt n p wb = 2 ↔ (tkA bt n p < n ∧ dgB bt (tkA bt n p) = true ∧ ¬ (wb = true ∧ tkA bt n p = p) ∧ spE (dgB bt) n (tkA bt n p) - tkA bt n p ≤ 6) := by
  constructor
  · intro e
    obtain ⟨h1, h2, h3, h4⟩ := tkK_2 e
    refine ⟨h2, h1, fun z => ?_, by rw [← h3]; exact h4⟩
    obtain ⟨_, a2, _⟩ := tk_dg (bt := bt) (n := n) (p := p) rfl h2 h1
    rw [tk_t z.1 a2 z.2] at e
    omega
  · rintro ⟨h1, h2, h3, h4⟩
    obtain ⟨_, a2, a3⟩ := tk_dg (bt := bt) (n := n) (p := p) rfl h1 h2
    rw [tk_n (by
      cases wb with
      | false => exact Or.inl rfl
      | true => exact Or.inr (Or.inr (fun z => h3 ⟨rfl, z⟩))), a3, if_neg (by omega)]
/-! the reference's parser against the spec -/
def TieB (f : Nat → Int32) (fb : Nat → Nat) : Prop := ∀ j, (fb j ≤ 127 → f j = nI (fb j)) ∧ (127 < fb j → (f j).toInt < 0) ∧ fb j ≤ 255
theorem tb_eq {f : Nat → Int32} {fb : Nat → Nat} (h : TieB f fb) {j c : Nat} (hc : c ≤ 127) : f j = nI c ↔ fb j = c := by
  obtain ⟨h1, h2, h3⟩ := h j
  constructor
  · intro e
    rcases Nat.lt_or_ge 127 (fb j) with q | q
    · have := h2 q
      rw [e, nI_toInt (by omega)] at this
      omega
    · rw [h1 q] at e
      exact (nI_eq (by omega) (by omega)).mp e
  · intro e
    rw [h1 (by omega), e]
theorem tb_rg {f : Nat → Int32} {fb : Nat → Nat} (h : TieB f fb) {j lo hi : Nat} (hh : hi ≤ 127) : ((lo : Int) ≤ (f j).toInt ∧ (f j).toInt ≤ hi) ↔ (lo ≤ fb j ∧ fb j ≤ hi) := by
  obtain ⟨h1, h2, h3⟩ := h j
  rcases Nat.lt_or_ge 127 (fb j) with q | q
  · have := h2 q
    omega
  · rw [h1 q, nI_toInt (by omega)]
    omega
def isSg (k : Nat) : Prop := k = 43 ∨ k = 45 ∨ k = 42 ∨ k = 47 ∨ k = 37 ∨ k = 40
def brN (wN : Nat → Nat) : Nat → Nat
  | 0 => 0
  | n + 1 => brN wN n + (if wN n = 40 then 1 else 0)
theorem brN_c {f g : Nat → Nat} : ∀ {n}, (∀ j, j < n → f j = g j) → brN f n = brN g n := by
  intro n
  induction n with
  | zero => intro _; rfl
  | succ n ih =>
    intro h
    show brN f n + (if f n = 40 then 1 else 0) = brN g n + (if g n = 40 then 1 else 0)
    rw [ih (fun j hj => h j (by omega)), h n (by omega)]
def relW (least : Nat) (wN : Nat → Nat) : Nat → Nat
  | 0 => 0
  | w + 1 => if least ≤ strN (wN w) then relW least wN w else w + 1
theorem relP_W (le : Nat) (wN : Nat → Nat) : ∀ (w : Nat) (g : PG), (relP le wN w g).1 = relW le wN w := by
  intro w
  induction w with
  | zero => intro g; rfl
  | succ w ih =>
    intro g
    show (if le ≤ strN (wN w) then relP le wN w (addP g (wN w) 0) else (w + 1, g)).1 = if le ≤ strN (wN w) then relW le wN w else w + 1
    split
    · exact ih _
    · rfl
theorem relW_le (le : Nat) (wN : Nat → Nat) : ∀ w, relW le wN w ≤ w := by
  intro w
  induction w with
  | zero => exact Nat.le_refl _
  | succ w ih =>
    show (if le ≤ strN (wN w) then relW le wN w else w + 1) ≤ w + 1
    split <;> omega
theorem str40 : strN 40 = 0 := by decide
theorem relW_br (le : Nat) (wN : Nat → Nat) (hle : 1 ≤ le) : ∀ w, brN wN w = brN wN (relW le wN w) := by
  intro w
  induction w with
  | zero => rfl
  | succ w ih =>
    show brN wN w + (if wN w = 40 then 1 else 0) = brN wN (if le ≤ strN (wN w) then relW le wN w else w + 1)
    by_cases h : le ≤ strN (wN w)
    · rw [if_pos h, ← ih, if_neg (fun e => by rw [e, str40] at h; omega), Nat.add_zero]
    · rw [if_neg h]
      rfl
theorem relW_top {le : Nat} {wN : Nat → Nat} : ∀ {w}, 0 < relW le wN w → ¬ le ≤ strN (wN (relW le wN w - 1)) := by
  intro w
  induction w with
  | zero => intro h; exact absurd h (Nat.lt_irrefl _)
  | succ w ih =>
    have e : relW le wN (w + 1) = if le ≤ strN (wN w) then relW le wN w else w + 1 := rfl
    intro h
    by_cases q : le ≤ strN (wN w)
    · rw [e, if_pos q] at h ⊢
      exact ih h
    · rw [e, if_neg q]
      exact q
theorem isSg_0 {k : Nat} (h : isSg k) (hs : ¬ 1 ≤ strN k) : k = 40 := by
  rcases h with rfl | rfl | rfl | rfl | rfl | rfl
  · exact absurd (by decide) hs
  · exact absurd (by decide) hs
  · exact absurd (by decide) hs
  · exact absurd (by decide) hs
  · exact absurd (by decide) hs
  · rfl
theorem isSg_18 {k : Nat} (h : isSg k) : pkN k = 18 ↔ k = 40 := by
  rcases h with rfl | rfl | rfl | rfl | rfl | rfl <;> decide
theorem isSg_b {k : Nat} (h : isSg k) : 13 ≤ pkN k ∧ pkN k ≤ 18 := by
  rcases h with rfl | rfl | rfl | rfl | rfl | rfl <;> decide
/-- a pile's sign is worked: by the reference's number and by its strength -/
theorem isSg_le {k le : Nat} (h : isSg k) (hl : le = 1 ∨ le = 2) (h18 : ¬ pkN k = 18) : (if le = 1 then 13 else 15) ≤ pkN k ↔ le ≤ strN k := by
  rcases hl with rfl | rfl
  · rcases h with rfl | rfl | rfl | rfl | rfl | rfl
    · decide
    · decide
    · decide
    · decide
    · decide
    · exact absurd (by decide) h18
  · rcases h with rfl | rfl | rfl | rfl | rfl | rfl
    · decide
    · decide
    · decide
    · decide
    · decide
    · exact absurd (by decide) h18
def MatR (r : RC) (cd : Nat) (fc : Nat → Int32) : Prop := cd = r.1 ∧ ∀ j, j < cd → fc (2 * j) = nI (r.2.1 j) ∧ fc (2 * j + 1) = nI (r.2.2.1 j)
theorem MatR.em {r : RC} {cd : Nat} {fc : Nat → Int32} (h : MatR r cd fc) {k v : Nat} : MatR (emR r k v) (cd + 1) (upd (upd fc (2 * cd) (nI k)) (2 * cd + 1) (nI v)) := by
  obtain ⟨h1, h2⟩ := h
  subst h1
  refine ⟨rfl, fun j hj => ?_⟩
  show _ = nI (updN r.2.1 r.1 k j) ∧ _ = nI (updN r.2.2.1 r.1 v j)
  by_cases e : j = r.1
  · subst e
    rw [pk_un (by omega), pk_us, pk_us]
    simp only [updN, if_pos]
    exact ⟨trivial, trivial⟩
  · rw [pk_un (by omega), pk_un (by omega), pk_un (by omega), pk_un (by omega)]
    simp only [updN, if_neg e]
    exact h2 j (by omega)
theorem MatR.ro {r : RC} {cd : Nat} {fc : Nat → Int32} (h : MatR r cd fc) (o : Nat → Nat) : MatR (r.1, r.2.1, r.2.2.1, o) cd fc := h
theorem MatR.cl {r : RC} {cd f : Nat} {fc : Nat → Int32} (h : MatR r cd fc) (hf : f + 2 ≤ cd) : MatR (clR r f) (cd + 1) (upd (upd (upd fc (2 * cd) (nI 6)) (2 * cd + 1) (nI f)) (2 * f + 3) (nI (cd + 1))) := by
  obtain ⟨h1, h2⟩ := h
  subst h1
  refine ⟨rfl, fun j hj => ?_⟩
  show _ = nI (updN r.2.1 r.1 6 j) ∧ _ = nI (updN (updN r.2.2.1 r.1 f) (f + 1) (r.1 + 1) j)
  by_cases e : j = r.1
  · subst e
    rw [pk_un (by omega), pk_un (by omega), pk_us, pk_un (by omega), pk_us]
    simp only [updN, if_pos, if_neg (show ¬ r.1 = f + 1 by omega)]
    exact ⟨trivial, trivial⟩
  · by_cases e2 : j = f + 1
    · subst e2
      rw [show 2 * (f + 1) + 1 = 2 * f + 3 by omega, pk_us, pk_un (by omega), pk_un (by omega), pk_un (by omega)]
      simp only [updN, if_pos, if_neg e]
      exact ⟨(h2 (f + 1) (by omega)).1, trivial⟩
    · rw [pk_un (by omega), pk_un (by omega), pk_un (by omega), pk_un (by omega), pk_un (by omega), pk_un (by omega)]
      simp only [updN, if_neg e, if_neg e2]
      exact h2 j (by omega)
theorem EqU.mono {n m : Nat} {f : Nat → Int32} {g : Nat → Nat} (h : EqU n f g) (hm : m ≤ n) : EqU m f g := fun j hj => h j (by omega)
theorem relR_o (le : Nat) (wN : Nat → Nat) : ∀ w (r : RC), (relR le wN w r).2.2.2 = r.2.2.2 := by
  intro w
  induction w with
  | zero => intro r; rfl
  | succ w ih =>
    intro r
    show (if le ≤ strN (wN w) then relR le wN w (emR r (pkN (wN w)) 0) else r).2.2.2 = _
    split
    · exact ih _
    · rfl
/-- where the reference stands -/
def RPl (bt : Nat → Nat) (n p : Nat) (wb : Bool) (ta : Nat) (en : Int32) : Prop := p ≤ n ∧ p ≤ ta ∧ ta ≤ tkA bt n p ∧ EnP en p wb
theorem RPl.tk {bt : Nat → Nat} {n p : Nat} {wb : Bool} {ta : Nat} {en : Int32} (h : RPl bt n p wb ta en) : tkA bt n ta = tkA bt n p := tkA_at h.2.1 h.2.2.1 h.1
theorem RPl.nx {bt : Nat → Nat} {n p : Nat} {wb : Bool} {ta : Nat} {en : Int32} (h : RPl bt n p wb ta en) : RPl bt n p wb (tkA bt n ta) en := by
  rw [h.tk]
  exact ⟨h.1, (tkA_b h.1).1, Nat.le_refl _, h.2.2.2⟩
theorem RPl.to {bt : Nat → Nat} {n p : Nat} {wb : Bool} {ta : Nat} {en : Int32} (h : RPl bt n p wb ta en) (hn : n ≤ 1400) : nI (tkA bt n ta) = en ↔ (wb = true ∧ tkA bt n p = p) := by
  rw [h.tk]
  exact en_t h.2.2.2 (tkA_b h.1).1 (by have := (tkA_b (bt := bt) h.1).2; omega)
/-- behind a sign -/
theorem RPl.sg {bt : Nat → Nat} {n p : Nat} {wb : Bool} {ta : Nat} {en : Int32} {k : Nat} (h : RPl bt n p wb ta en) (hk : sgC k = true) (h1 : tkA bt n ta < n) (h2 : bt (tkA bt n ta) = k) : tkK bt n p wb = k ∧ RPl bt n (tkE bt n p) (tkW bt n p) (tkA bt n ta + 1) en := by
  have e := h.tk
  rw [e] at h1 h2 ⊢
  have hk2 := (tk_sgn (wb := wb) hk).mpr ⟨h1, h2⟩
  obtain ⟨a1, a2, a3⟩ := tk_sgE hk hk2
  refine ⟨hk2, ?_⟩
  rw [a1, a2]
  refine ⟨by omega, Nat.le_refl _, (tkA_b (by omega)).1, Or.inr ⟨rfl, ?_⟩⟩
  have hp := (tkA_b (bt := bt) h.1).1
  rcases h.2.2.2 with ⟨_, z⟩ | ⟨_, z | ⟨z, hz, ez⟩⟩
  · exact Or.inr ⟨p, by omega, z⟩
  · exact Or.inl z
  · exact Or.inr ⟨z, by omega, ez⟩
/-! UR: in a sum, its pile with it; SR: behind a sum's last unit, its signs worked; TR: no sum is read -/
def RMp (s : SM) (pl : Nat) (fl : Nat → Int32) (br : Int32) : Prop := pl = s.2.2.2.2.2.2.1 ∧ (∀ j, j < pl → fl j = nI (pkN (s.2.2.2.2.2.2.2.1 j)) ∧ isSg (s.2.2.2.2.2.2.2.1 j)) ∧ br = nI s.2.2.2.1 ∧ s.2.2.2.1 = brN s.2.2.2.2.2.2.2.1 pl ∧ s.2.2.2.1 ≤ 8
def RMt (s : SM) (r : RC) (cd : Nat) (fc : Nat → Int32) (bk : Nat) (fo : Nat → Int32) : Prop := MatR r cd fc ∧ bk = s.2.2.2.2.1 ∧ EqU bk fo r.2.2.2 ∧ ∀ j, j < bk → r.2.2.2 j ≤ cd
def UR (bt : Nat → Nat) (n : Nat) (vz : Option (SM × RC)) (st tt cd : Nat) (fc : Nat → Int32) (bk : Nat) (fo : Nat → Int32) (pl : Nat) (fl : Nat → Int32) (br : Int32) (ta : Nat) (en : Int32) : Prop := ∃ s r p wb, vz = VR bt n s r p wb ∧ RPl bt n p wb ta en ∧ RMt s r cd fc bk fo ∧ RMp s pl fl br ∧ s.1 = st ∧ s.2.1 = tt
def SR (bt : Nat → Nat) (n : Nat) (vz : Option (SM × RC)) (tt cd : Nat) (fc : Nat → Int32) (bk : Nat) (fo : Nat → Int32) (ta : Nat) (en : Int32) : Prop := ∃ s r p wb, vz = VR bt n s r p wb ∧ RPl bt n p wb ta en ∧ RMt s (relR 1 s.2.2.2.2.2.2.2.1 s.2.2.2.2.2.2.1 r) cd fc bk fo ∧ relW 1 s.2.2.2.2.2.2.2.1 s.2.2.2.2.2.2.1 = 0 ∧ s.2.2.2.1 = 0 ∧ ¬ 0 < strN (tkK bt n p wb) ∧ s.1 = 2 ∧ s.2.1 = tt
def TR (bt : Nat → Nat) (n : Nat) (vz : Option (SM × RC)) (st tt cd : Nat) (fc : Nat → Int32) (bk : Nat) (fo : Nat → Int32) (ta : Nat) (en : Int32) : Prop := ∃ s r p wb, vz = VR bt n s r p wb ∧ RPl bt n p wb ta en ∧ RMt s r cd fc bk fo ∧ s.2.2.2.2.2.2.1 = 0 ∧ s.2.2.2.1 = 0 ∧ s.1 = st ∧ (st = 0 ∨ s.2.1 = tt)
/-- the word of kind k is the next token -/
def WdP (bt : Nat → Nat) (n ta : Nat) (en : Int32) (k : Nat) : Prop := tkA bt n ta < n ∧ ltB bt (tkA bt n ta) = true ∧ ¬ nI (tkA bt n ta) = en ∧ spE (ltB bt) n (tkA bt n ta) - tkA bt n ta ≤ 5 ∧ wcN bt (tkA bt n ta) (spE (ltB bt) n (tkA bt n ta) - tkA bt n ta) = wcK k
def NmP (bt : Nat → Nat) (n ta : Nat) (en : Int32) : Prop := tkA bt n ta < n ∧ dgB bt (tkA bt n ta) = true ∧ ¬ nI (tkA bt n ta) = en ∧ spE (dgB bt) n (tkA bt n ta) - tkA bt n ta ≤ 6
abbrev SgP (bt : Nat → Nat) (n ta k : Nat) : Prop := tkA bt n ta < n ∧ bt (tkA bt n ta) = k
theorem RPl.wd {bt : Nat → Nat} {n p : Nat} {wb : Bool} {ta : Nat} {en : Int32} {k : Nat} (h : RPl bt n p wb ta en) (hn : n ≤ 1400) (hk : 3 ≤ k ∧ k ≤ 11) : WdP bt n ta en k ↔ tkK bt n p wb = k := by
  have e := h.tk
  have t := h.to hn
  unfold WdP
  rw [t, e, tk_word h.1 hk]
theorem RPl.nm {bt : Nat → Nat} {n p : Nat} {wb : Bool} {ta : Nat} {en : Int32} (h : RPl bt n p wb ta en) (hn : n ≤ 1400) : NmP bt n ta en ↔ tkK bt n p wb = 2 := by
  have e := h.tk
  have t := h.to hn
  unfold NmP
  rw [t, e, tk_num]
theorem RPl.sn {bt : Nat → Nat} {n p : Nat} {wb : Bool} {ta : Nat} {en : Int32} {k : Nat} (h : RPl bt n p wb ta en) (hk : sgC k = true) : SgP bt n ta k ↔ tkK bt n p wb = k := by
  unfold SgP
  rw [h.tk, tk_sgn hk]
/-- behind a word or a number -/
theorem RPl.wE {bt : Nat → Nat} {n p : Nat} {wb : Bool} {ta : Nat} {en : Int32} {k : Nat} (h : RPl bt n p wb ta en) (hn : n ≤ 1400) (hk : 3 ≤ k ∧ k ≤ 11) (hw : WdP bt n ta en k) : tkK bt n p wb = k ∧ RPl bt n (tkE bt n p) (tkW bt n p) (spE (ltB bt) n (tkA bt n ta)) (nI (spE (ltB bt) n (tkA bt n ta))) := by
  have hk2 := (h.wd hn hk).mp hw
  obtain ⟨a1, a2⟩ := tk_wordE h.1 hk hk2
  have h4 := tkE_le (bt := bt) h.1
  refine ⟨hk2, ?_⟩
  rw [h.tk, ← a1, a2]
  exact ⟨h4, Nat.le_refl _, (tkA_b h4).1, Or.inl ⟨rfl, rfl⟩⟩
theorem RPl.nE {bt : Nat → Nat} {n p : Nat} {wb : Bool} {ta : Nat} {en : Int32} (h : RPl bt n p wb ta en) (hn : n ≤ 1400) (hw : NmP bt n ta en) : tkK bt n p wb = 2 ∧ tkN bt n p = nmN bt (tkA bt n ta) (spE (dgB bt) n (tkA bt n ta) - tkA bt n ta) ∧ RPl bt n (tkE bt n p) (tkW bt n p) (spE (dgB bt) n (tkA bt n ta)) (nI (spE (dgB bt) n (tkA bt n ta))) := by
  have hk2 := (h.nm hn).mp hw
  obtain ⟨b1, b2, b3, b4⟩ := tkK_2 hk2
  obtain ⟨_, a2, _⟩ := tk_dg (bt := bt) (n := n) (p := p) rfl b2 b1
  have h4 := tkE_le (bt := bt) h.1
  refine ⟨hk2, ?_, ?_⟩
  · unfold tkN
    rw [h.tk, ← b3, show min 6 (tkE bt n p - tkA bt n p) = tkE bt n p - tkA bt n p by omega]
  · rw [h.tk, ← b3, a2]
    exact ⟨h4, Nat.le_refl _, (tkA_b h4).1, Or.inl ⟨rfl, rfl⟩⟩
theorem stR_1 {s : SM} {r : RC} {k m : Nat} (h : s.1 = 1) : stR s r k m = if k = 2 then emR r 10 m else if k = 10 then emR r 11 0 else if k = 11 then emR r 12 0 else r := by
  unfold stR
  rw [if_neg (by omega), if_pos h]
theorem stR_2 {s : SM} {r : RC} {k m : Nat} (h : s.1 = 2) : stR s r k m = (if 0 < strN k then relR (strN k) s.2.2.2.2.2.2.2.1 s.2.2.2.2.2.2.1 r else
     if 0 < s.2.2.2.1 then relR 1 s.2.2.2.2.2.2.2.1 s.2.2.2.2.2.2.1 r else
     if k = 91 then opR (relR 1 s.2.2.2.2.2.2.2.1 s.2.2.2.2.2.2.1 r) s.2.2.2.2.1 5 0 else
     if k = 59 then emR (relR 1 s.2.2.2.2.2.2.2.1 s.2.2.2.2.2.2.1 r) (stC s.2.1) 0 else
     relR 1 s.2.2.2.2.2.2.2.1 s.2.2.2.2.2.2.1 r) := by
  unfold stR
  rw [if_neg (by omega), if_neg (by omega), if_pos h]
theorem stR_0 {s : SM} {r : RC} {k m : Nat} (h : s.1 = 0) : stR s r k m = if k = 93 then clR r (r.2.2.2 (s.2.2.2.2.1 - 1)) else r := if_pos h
theorem stR_4 {s : SM} {r : RC} {k m : Nat} (h : s.1 = 4) : stR s r k m = opR r s.2.2.2.2.1 4 s.2.2.1 := by
  unfold stR
  rw [if_neg (by omega), if_neg (by omega), if_neg (by omega), if_pos h]
theorem stR_o {s : SM} {r : RC} {k m : Nat} (h : s.1 = 3 ∨ s.1 = 5) : stR s r k m = r := by
  unfold stR
  rw [if_neg (by omega), if_neg (by omega), if_neg (by omega), if_neg (by omega)]
/-- a bracket is opened -/
theorem UR.par {bt : Nat → Nat} {n : Nat} {vz : Option (SM × RC)} {tt cd : Nat} {fc : Nat → Int32} {bk : Nat} {fo : Nat → Int32} {pl : Nat} {fl : Nat → Int32} {br : Int32} {ta : Nat} {en : Int32} (h : UR bt n vz 1 tt cd fc bk fo pl fl br ta en) (hs : SgP bt n ta 40) : (br = 8 → vz = none) ∧ (¬ br = 8 → UR bt n vz 1 tt cd fc bk fo (pl + 1) (upd fl pl 18) (br + 1) (tkA bt n ta + 1) en) := by
  obtain ⟨s, r, p, wb, hv, hp, hm, ⟨q1, q2, q3, q4, q5⟩, h1, h2⟩ := h
  obtain ⟨hk, hp'⟩ := hp.sg (by decide) hs.1 hs.2
  have e8 : br = 8 ↔ 8 ≤ s.2.2.2.1 := by
    rw [q3, show (8 : Int32) = nI 8 from rfl, nI_eq (by omega) (by decide)]
    omega
  constructor
  · intro e
    rw [hv]
    exact VR_no (m := tkN bt n p) ((st1_p h1).trans (if_pos (e8.mp e))) hk rfl
  · intro e
    have hst := (st1_p (n := tkN bt n p) h1).trans (if_neg (fun z => e (e8.mpr z)))
    subst q1
    refine ⟨_, _, _, _, hv.trans (VR_go hp.1 hst (show ¬ (1 : Nat) = 6 by decide) hk rfl), hp', ?_, ⟨rfl, fun j hj => ?_, ?_, ?_, ?_⟩, rfl, h2⟩
    · rw [stR_1 h1, if_neg (by decide), if_neg (by decide), if_neg (by decide)]
      exact hm
    · show upd fl s.2.2.2.2.2.2.1 18 j = nI (pkN (updN s.2.2.2.2.2.2.2.1 s.2.2.2.2.2.2.1 40 j)) ∧ isSg (updN s.2.2.2.2.2.2.2.1 s.2.2.2.2.2.2.1 40 j)
      by_cases z : j = s.2.2.2.2.2.2.1
      · subst z
        rw [pk_us]
        simp only [updN, if_pos]
        exact ⟨by decide, by unfold isSg; omega⟩
      · rw [pk_un z]
        simp only [updN, if_neg z]
        exact q2 j (by omega)
    · rw [q3]
      exact nI_1 _
    · show s.2.2.2.1 + 1 = brN (updN s.2.2.2.2.2.2.2.1 s.2.2.2.2.2.2.1 40) s.2.2.2.2.2.2.1 + (if updN s.2.2.2.2.2.2.2.1 s.2.2.2.2.2.2.1 40 s.2.2.2.2.2.2.1 = 40 then 1 else 0)
      rw [brN_c (g := s.2.2.2.2.2.2.2.1) (fun j hj => by simp only [updN, if_neg (show ¬ j = s.2.2.2.2.2.2.1 by omega)]), q4]
      simp only [updN, if_pos]
    · show s.2.2.2.1 + 1 ≤ 8
      have : ¬ 8 ≤ s.2.2.2.1 := fun z => e (e8.mpr z)
      omega
/-- a unit is read: a word, a number -/
theorem UR.wrd {bt : Nat → Nat} {n : Nat} {vz : Option (SM × RC)} {tt cd : Nat} {fc : Nat → Int32} {bk : Nat} {fo : Nat → Int32} {pl : Nat} {fl : Nat → Int32} {br : Int32} {ta : Nat} {en : Int32} {k : Nat} (h : UR bt n vz 1 tt cd fc bk fo pl fl br ta en) (hn : n ≤ 1400) (hk : k = 10 ∨ k = 11) (hw : WdP bt n ta en k) : UR bt n vz 2 tt (cd + 1) (upd (upd fc (2 * cd) (nI (k + 1))) (2 * cd + 1) 0) bk fo pl fl br (spE (ltB bt) n (tkA bt n ta)) (nI (spE (ltB bt) n (tkA bt n ta))) := by
  obtain ⟨s, r, p, wb, hv, hp, ⟨m1, m2, m3⟩, hq, h1, h2⟩ := h
  obtain ⟨hk2, hp'⟩ := hp.wE hn (by omega) hw
  have hst := st1_u (n := tkN bt n p) h1 (show k = 2 ∨ k = 10 ∨ k = 11 by omega)
  have er : stR s r k (tkN bt n p) = emR r (k + 1) 0 := by
    rw [stR_1 h1]
    rcases hk with rfl | rfl
    · rfl
    · rfl
  refine ⟨_, _, _, _, hv.trans (VR_go hp.1 hst (show ¬ (2 : Nat) = 6 by decide) hk2 rfl), hp', ⟨?_, m2, ?_⟩, hq, rfl, h2⟩
  · rw [er]
    exact m1.em (v := 0)
  · rw [er]
    exact ⟨m3.1, fun j hj => Nat.le_succ_of_le (m3.2 j hj)⟩
theorem UR.num {bt : Nat → Nat} {n : Nat} {vz : Option (SM × RC)} {tt cd : Nat} {fc : Nat → Int32} {bk : Nat} {fo : Nat → Int32} {pl : Nat} {fl : Nat → Int32} {br : Int32} {ta : Nat} {en : Int32} (h : UR bt n vz 1 tt cd fc bk fo pl fl br ta en) (hn : n ≤ 1400) (hw : NmP bt n ta en) : UR bt n vz 2 tt (cd + 1) (upd (upd fc (2 * cd) 10) (2 * cd + 1) (nI (nmN bt (tkA bt n ta) (spE (dgB bt) n (tkA bt n ta) - tkA bt n ta)))) bk fo pl fl br (spE (dgB bt) n (tkA bt n ta)) (nI (spE (dgB bt) n (tkA bt n ta))) := by
  obtain ⟨s, r, p, wb, hv, hp, ⟨m1, m2, m3⟩, hq, h1, h2⟩ := h
  obtain ⟨hk2, hN, hp'⟩ := hp.nE hn hw
  have hst := st1_u (n := tkN bt n p) h1 (show (2 : Nat) = 2 ∨ (2 : Nat) = 10 ∨ (2 : Nat) = 11 by omega)
  have er : stR s r 2 (tkN bt n p) = emR r 10 (tkN bt n p) := by
    rw [stR_1 h1]
    rfl
  refine ⟨_, _, _, _, hv.trans (VR_go hp.1 hst (show ¬ (2 : Nat) = 6 by decide) hk2 rfl), hp', ⟨?_, m2, ?_⟩, hq, rfl, h2⟩
  · rw [er, ← hN]
    exact m1.em (k := 10)
  · rw [er]
    exact ⟨m3.1, fun j hj => Nat.le_succ_of_le (m3.2 j hj)⟩
theorem UR.uno {bt : Nat → Nat} {n : Nat} {vz : Option (SM × RC)} {tt cd : Nat} {fc : Nat → Int32} {bk : Nat} {fo : Nat → Int32} {pl : Nat} {fl : Nat → Int32} {br : Int32} {ta : Nat} {en : Int32} (h : UR bt n vz 1 tt cd fc bk fo pl fl br ta en) (hn : n ≤ 1400) (a1 : ¬ SgP bt n ta 40) (a2 : ¬ WdP bt n ta en 10) (a3 : ¬ WdP bt n ta en 11) (a4 : ¬ NmP bt n ta en) : vz = none := by
  obtain ⟨s, r, p, wb, hv, hp, hm, hq, h1, h2⟩ := h
  rw [hp.sn (by decide)] at a1
  rw [hp.wd hn (by decide)] at a2 a3
  rw [hp.nm hn] at a4
  rw [hv]
  exact VR_no (st1_no h1 (by omega) a1) rfl rfl
/-- the place moves to the next token -/
theorem UR.nx {bt : Nat → Nat} {n : Nat} {vz : Option (SM × RC)} {st tt cd : Nat} {fc : Nat → Int32} {bk : Nat} {fo : Nat → Int32} {pl : Nat} {fl : Nat → Int32} {br : Int32} {ta : Nat} {en : Int32} (h : UR bt n vz st tt cd fc bk fo pl fl br ta en) : UR bt n vz st tt cd fc bk fo pl fl br (tkA bt n ta) en := by
  obtain ⟨s, r, p, wb, hv, hp, h9⟩ := h
  exact ⟨s, r, p, wb, hv, hp.nx, h9⟩
theorem SR.nx {bt : Nat → Nat} {n : Nat} {vz : Option (SM × RC)} {tt cd : Nat} {fc : Nat → Int32} {bk : Nat} {fo : Nat → Int32} {ta : Nat} {en : Int32} (h : SR bt n vz tt cd fc bk fo ta en) : SR bt n vz tt cd fc bk fo (tkA bt n ta) en := by
  obtain ⟨s, r, p, wb, hv, hp, h9⟩ := h
  exact ⟨s, r, p, wb, hv, hp.nx, h9⟩
theorem TR.nx {bt : Nat → Nat} {n : Nat} {vz : Option (SM × RC)} {st tt cd : Nat} {fc : Nat → Int32} {bk : Nat} {fo : Nat → Int32} {ta : Nat} {en : Int32} (h : TR bt n vz st tt cd fc bk fo ta en) : TR bt n vz st tt cd fc bk fo (tkA bt n ta) en := by
  obtain ⟨s, r, p, wb, hv, hp, h9⟩ := h
  exact ⟨s, r, p, wb, hv, hp.nx, h9⟩
/-- none of + - * / % is the next token -/
def NoSg (bt : Nat → Nat) (n ta : Nat) : Prop := ¬ SgP bt n ta 43 ∧ ¬ SgP bt n ta 45 ∧ ¬ SgP bt n ta 42 ∧ ¬ SgP bt n ta 47 ∧ ¬ SgP bt n ta 37
theorem strN_k {k : Nat} (h : 0 < strN k) : k = 43 ∨ k = 45 ∨ k = 42 ∨ k = 47 ∨ k = 37 := by
  unfold strN at h
  split at h
  · omega
  · split at h
    · omega
    · exact absurd h (Nat.lt_irrefl _)
theorem RPl.ns {bt : Nat → Nat} {n p : Nat} {wb : Bool} {ta : Nat} {en : Int32} (h : RPl bt n p wb ta en) (hs : NoSg bt n ta) : ¬ 0 < strN (tkK bt n p wb) := fun q => by
  obtain ⟨a1, a2, a3, a4, a5⟩ := hs
  rw [h.sn (by decide)] at a1 a2 a3 a4 a5
  have := strN_k q
  omega
theorem relR_cd (le : Nat) (wN : Nat → Nat) : ∀ w (r : RC), r.1 ≤ (relR le wN w r).1 := by
  intro w
  induction w with
  | zero => intro r; exact Nat.le_refl _
  | succ w ih =>
    intro r
    show r.1 ≤ (if le ≤ strN (wN w) then relR le wN w (emR r (pkN (wN w)) 0) else r).1
    split
    · have a := ih (emR r (pkN (wN w)) 0)
      have b : (emR r (pkN (wN w)) 0).1 = r.1 + 1 := rfl
      omega
    · exact Nat.le_refl _
theorem ur_sgn {bt : Nat → Nat} {n : Nat} {vz : Option (SM × RC)} {tt : Nat} {cd : Nat} {fc : Nat → Int32} {bk : Nat} {fo : Nat → Int32} {pl : Nat} {fl : Nat → Int32} {br : Int32} {ta : Nat} {en : Int32} {s : SM} {r : RC} {p : Nat} {wb : Bool} (hv : vz = VR bt n s r p wb) (hp : RPl bt n p wb ta en) (hm : RMt s r cd fc bk fo) (hq : RMp s pl fl br) (h1 : s.1 = 2) (h2 : s.2.1 = tt) {k : Nat} (hk : k = 43 ∨ k = 45 ∨ k = 42 ∨ k = 47 ∨ k = 37) (hs : SgP bt n ta k) {cd' : Nat} {fc' : Nat → Int32} (hr : MatR (relR (strN k) s.2.2.2.2.2.2.2.1 pl r) cd' fc') : UR bt n vz 1 tt cd' fc' bk fo (relW (strN k) s.2.2.2.2.2.2.2.1 pl + 1) (upd fl (relW (strN k) s.2.2.2.2.2.2.2.1 pl) (nI (pkN k))) br (tkA bt n ta + 1) en := by
  obtain ⟨q1, q2, q3, q4, q5⟩ := hq
  obtain ⟨m1, m2, m3, m4⟩ := hm
  have hg : sgC k = true := by rcases hk with rfl | rfl | rfl | rfl | rfl <;> decide
  have h0 : 0 < strN k := by rcases hk with rfl | rfl | rfl | rfl | rfl <;> decide
  obtain ⟨hk2, hp'⟩ := hp.sg hg hs.1 hs.2
  have hst := st2_s (n := tkN bt n p) h1 h0
  subst q1
  have er : stR s r k (tkN bt n p) = relR (strN k) s.2.2.2.2.2.2.2.1 s.2.2.2.2.2.2.1 r := (stR_2 h1).trans (if_pos h0)
  have eW : (rlS (strN k) s).2.2.2.2.2.2.1 = relW (strN k) s.2.2.2.2.2.2.2.1 s.2.2.2.2.2.2.1 := relP_W _ _ _ _
  have hle := relW_le (strN k) s.2.2.2.2.2.2.2.1 s.2.2.2.2.2.2.1
  have hcd := relR_cd (strN k) s.2.2.2.2.2.2.2.1 s.2.2.2.2.2.2.1 r
  rw [eW] at hst
  refine ⟨_, _, _, _, hv.trans (VR_go hp.1 hst (show ¬ (1 : Nat) = 6 by decide) hk2 rfl), hp', ⟨?_, m2, ?_, ?_⟩, ⟨rfl, fun j hj => ?_, q3, ?_, q5⟩, rfl, h2⟩
  · rw [er]
    exact hr
  · rw [er, relR_o]
    exact m3
  · rw [er, relR_o]
    intro j hj
    have := m4 j hj
    have := hr.1
    have := m1.1
    omega
  · show upd fl (relW (strN k) s.2.2.2.2.2.2.2.1 s.2.2.2.2.2.2.1) (nI (pkN k)) j = nI (pkN (updN s.2.2.2.2.2.2.2.1 (relW (strN k) s.2.2.2.2.2.2.2.1 s.2.2.2.2.2.2.1) k j)) ∧ isSg (updN s.2.2.2.2.2.2.2.1 (relW (strN k) s.2.2.2.2.2.2.2.1 s.2.2.2.2.2.2.1) k j)
    by_cases z : j = relW (strN k) s.2.2.2.2.2.2.2.1 s.2.2.2.2.2.2.1
    · subst z
      rw [pk_us]
      simp only [updN, if_pos]
      exact ⟨trivial, by unfold isSg; omega⟩
    · rw [pk_un z]
      simp only [updN, if_neg z]
      exact q2 j (by omega)
  · show s.2.2.2.1 = brN (updN s.2.2.2.2.2.2.2.1 (relW (strN k) s.2.2.2.2.2.2.2.1 s.2.2.2.2.2.2.1) k) (relW (strN k) s.2.2.2.2.2.2.2.1 s.2.2.2.2.2.2.1) + (if updN s.2.2.2.2.2.2.2.1 (relW (strN k) s.2.2.2.2.2.2.2.1 s.2.2.2.2.2.2.1) k (relW (strN k) s.2.2.2.2.2.2.2.1 s.2.2.2.2.2.2.1) = 40 then 1 else 0)
    rw [brN_c (g := s.2.2.2.2.2.2.2.1) (fun j hj => by simp only [updN, if_neg (show ¬ j = relW (strN k) s.2.2.2.2.2.2.2.1 s.2.2.2.2.2.2.1 by omega)]), ← relW_br (strN k) _ h0, ← q4]
    simp only [updN, if_pos]
    rw [if_neg (by omega)]
    rfl
theorem ur_end {bt : Nat → Nat} {n : Nat} {vz : Option (SM × RC)} {tt : Nat} {cd : Nat} {fc : Nat → Int32} {bk : Nat} {fo : Nat → Int32} {pl : Nat} {fl : Nat → Int32} {br : Int32} {ta : Nat} {en : Int32} {s : SM} {r : RC} {p : Nat} {wb : Bool} (hv : vz = VR bt n s r p wb) (hp : RPl bt n p wb ta en) (hm : RMt s r cd fc bk fo) (hq : RMp s pl fl br) (h1 : s.1 = 2) (h2 : s.2.1 = tt) (hn : NoSg bt n ta) {cd' : Nat} {fc' : Nat → Int32} (hr : MatR (relR 1 s.2.2.2.2.2.2.2.1 pl r) cd' fc') (h0 : relW 1 s.2.2.2.2.2.2.2.1 pl = 0) : SR bt n vz tt cd' fc' bk fo (tkA bt n ta) en := by
  obtain ⟨q1, q2, q3, q4, q5⟩ := hq
  obtain ⟨m1, m2, m3, m4⟩ := hm
  subst q1
  have hcd := relR_cd 1 s.2.2.2.2.2.2.2.1 s.2.2.2.2.2.2.1 r
  refine ⟨s, r, p, wb, hv, hp.nx, ⟨hr, m2, ?_, ?_⟩, h0, ?_, hp.ns hn, h1, h2⟩
  · rw [relR_o]
    exact m3
  · rw [relR_o]
    intro j hj
    have := m4 j hj
    have := hr.1
    have := m1.1
    omega
  · rw [q4, relW_br 1 _ (by decide), h0]
    rfl
theorem ur_cl {bt : Nat → Nat} {n : Nat} {vz : Option (SM × RC)} {tt : Nat} {cd : Nat} {fc : Nat → Int32} {bk : Nat} {fo : Nat → Int32} {pl : Nat} {fl : Nat → Int32} {br : Int32} {ta : Nat} {en : Int32} {s : SM} {r : RC} {p : Nat} {wb : Bool} (hv : vz = VR bt n s r p wb) (hp : RPl bt n p wb ta en) (hm : RMt s r cd fc bk fo) (hq : RMp s pl fl br) (h1 : s.1 = 2) (h2 : s.2.1 = tt) (hn : NoSg bt n ta) {cd' : Nat} {fc' : Nat → Int32} (hr : MatR (relR 1 s.2.2.2.2.2.2.2.1 pl r) cd' fc') (h0 : 0 < relW 1 s.2.2.2.2.2.2.2.1 pl) : (SgP bt n ta 41 → UR bt n vz 2 tt cd' fc' bk fo (relW 1 s.2.2.2.2.2.2.2.1 pl - 1) fl (br - 1) (tkA bt n ta + 1) en) ∧ (¬ SgP bt n ta 41 → vz = none) := by
  obtain ⟨q1, q2, q3, q4, q5⟩ := hq
  obtain ⟨m1, m2, m3, m4⟩ := hm
  subst q1
  have hcd := relR_cd 1 s.2.2.2.2.2.2.2.1 s.2.2.2.2.2.2.1 r
  have hle := relW_le 1 s.2.2.2.2.2.2.2.1 s.2.2.2.2.2.2.1
  have ht := relW_top h0
  have h40 := isSg_0 (q2 (relW 1 s.2.2.2.2.2.2.2.1 s.2.2.2.2.2.2.1 - 1) (by omega)).2 ht
  have hb : s.2.2.2.1 = brN s.2.2.2.2.2.2.2.1 (relW 1 s.2.2.2.2.2.2.2.1 s.2.2.2.2.2.2.1 - 1) + 1 := by
    rw [q4, relW_br 1 _ (by decide)]
    obtain ⟨x, ex⟩ : ∃ x, relW 1 s.2.2.2.2.2.2.2.1 s.2.2.2.2.2.2.1 = x + 1 := ⟨_, (Nat.succ_pred_eq_of_pos h0).symm⟩
    rw [ex, Nat.add_sub_cancel] at h40
    rw [ex, Nat.add_sub_cancel]
    show brN s.2.2.2.2.2.2.2.1 x + (if s.2.2.2.2.2.2.2.1 x = 40 then 1 else 0) = brN s.2.2.2.2.2.2.2.1 x + 1
    rw [if_pos h40]
  have hns := hp.ns hn
  constructor
  · intro hs
    obtain ⟨hk2, hp'⟩ := hp.sg (by decide) hs.1 hs.2
    rw [hk2] at hns
    have hst := (st2_c (n := tkN bt n p) h1 hns (show 0 < s.2.2.2.1 by omega)).trans (if_pos rfl)
    have er : stR s r 41 (tkN bt n p) = relR 1 s.2.2.2.2.2.2.2.1 s.2.2.2.2.2.2.1 r := (stR_2 h1).trans ((if_neg hns).trans (if_pos (by omega)))
    have eW : (rlS 1 s).2.2.2.2.2.2.1 = relW 1 s.2.2.2.2.2.2.2.1 s.2.2.2.2.2.2.1 := relP_W _ _ _ _
    rw [eW] at hst
    refine ⟨_, _, _, _, hv.trans (VR_go hp.1 hst (show ¬ (2 : Nat) = 6 by decide) hk2 rfl), hp', ⟨?_, m2, ?_, ?_⟩, ⟨rfl, fun j hj => q2 j (by omega), ?_, ?_, ?_⟩, rfl, h2⟩
    · rw [er]
      exact hr
    · rw [er, relR_o]
      exact m3
    · rw [er, relR_o]
      intro j hj
      have := m4 j hj
      have := hr.1
      have := m1.1
      omega
    · show br - 1 = nI (s.2.2.2.1 - 1)
      rw [q3]
      exact pk_sub (b := 1) (by omega)
    · show s.2.2.2.1 - 1 = brN s.2.2.2.2.2.2.2.1 (relW 1 s.2.2.2.2.2.2.2.1 s.2.2.2.2.2.2.1 - 1)
      omega
    · show s.2.2.2.1 - 1 ≤ 8
      omega
  · intro hs
    rw [hp.sn (by decide)] at hs
    rw [hv]
    exact VR_no ((st2_c h1 hns (show 0 < s.2.2.2.1 by omega)).trans (if_neg hs)) rfl rfl
/-! behind a sum -/
theorem SR.as {bt : Nat → Nat} {n : Nat} {vz : Option (SM × RC)} {cd : Nat} {fc : Nat → Int32} {bk : Nat} {fo : Nat → Int32} {ta : Nat} {en : Int32} (h : SR bt n vz 3 cd fc bk fo ta en) (hn : n ≤ 1400) : (WdP bt n ta en 4 → TR bt n vz 1 4 cd fc bk fo (spE (ltB bt) n (tkA bt n ta)) (nI (spE (ltB bt) n (tkA bt n ta)))) ∧ (¬ WdP bt n ta en 4 → vz = none) := by
  obtain ⟨s, r, p, wb, hv, hp, hm, hw, hb, hns, h1, h2⟩ := h
  constructor
  · intro hq
    obtain ⟨hk2, hp'⟩ := hp.wE hn (by decide) hq
    have hst := st2_as (n := tkN bt n p) h1 (by omega) h2
    have er : stR s r 4 (tkN bt n p) = relR 1 s.2.2.2.2.2.2.2.1 s.2.2.2.2.2.2.1 r := (stR_2 h1).trans ((if_neg (by decide)).trans ((if_neg (by omega)).trans ((if_neg (by decide)).trans (if_neg (by decide)))))
    refine ⟨_, _, _, _, hv.trans (VR_go hp.1 hst (show ¬ (1 : Nat) = 6 by decide) hk2 rfl), hp', ?_, ?_, hb, rfl, Or.inr rfl⟩
    · rw [er]
      exact hm
    · exact (relP_W _ _ _ _).trans hw
  · intro hq
    rw [hp.wd hn (by decide)] at hq
    rw [hv]
    exact VR_no (st2_no h1 hns (by omega) (fun z => hq z.2) (fun z => by omega) (fun z => z.1 h2)) rfl rfl
theorem SR.semi {bt : Nat → Nat} {n : Nat} {vz : Option (SM × RC)} {tt : Nat} {cd : Nat} {fc : Nat → Int32} {bk : Nat} {fo : Nat → Int32} {ta : Nat} {en : Int32} (h : SR bt n vz tt cd fc bk fo ta en) (ht : tt = 4 ∨ tt = 5 ∨ tt = 6 ∨ tt = 7) : (SgP bt n ta 59 → TR bt n vz 0 0 (cd + 1) (upd (upd fc (2 * cd) (nI (stC tt))) (2 * cd + 1) 0) bk fo (tkA bt n ta + 1) en) ∧ (¬ SgP bt n ta 59 → vz = none) := by
  obtain ⟨s, r, p, wb, hv, hp, ⟨m1, m2, m3, m4⟩, hw, hb, hns, h1, h2⟩ := h
  constructor
  · intro hs
    obtain ⟨hk2, hp'⟩ := hp.sg (by decide) hs.1 hs.2
    have hst := st2_sc (n := tkN bt n p) h1 (by omega) (by omega) (by omega)
    have er : stR s r 59 (tkN bt n p) = emR (relR 1 s.2.2.2.2.2.2.2.1 s.2.2.2.2.2.2.1 r) (stC tt) 0 := by
      rw [stR_2 h1, if_neg (by decide), if_neg (by omega), if_neg (by decide), if_pos rfl, h2]
    refine ⟨_, _, _, _, hv.trans (VR_go hp.1 hst (show ¬ (0 : Nat) = 6 by decide) hk2 rfl), hp', ⟨?_, m2, ?_, ?_⟩, ?_, hb, rfl, Or.inl rfl⟩
    · rw [er]
      exact m1.em (v := 0)
    · rw [er]
      exact m3
    · rw [er]
      exact fun j hj => Nat.le_succ_of_le (m4 j hj)
    · exact (relP_W _ _ _ _).trans hw
  · intro hs
    rw [hp.sn (by decide)] at hs
    rw [hv]
    exact VR_no (st2_no h1 hns (by omega) (fun z => by omega) (fun z => by omega) (fun z => hs z.2.2)) rfl rfl
theorem op_mt {r : RC} {cd : Nat} {fc : Nat → Int32} {bk k v : Nat} {fo : Nat → Int32} (m1 : MatR r cd fc) (m3 : EqU bk fo r.2.2.2) (m4 : ∀ j, j < bk → r.2.2.2 j ≤ cd) : MatR (opR r bk k v) (cd + 2) (upd (upd (upd (upd fc (2 * cd) (nI k)) (2 * cd + 1) (nI v)) (2 * (cd + 1)) 0) (2 * (cd + 1) + 1) 0) ∧ EqU (bk + 1) (upd fo bk (nI cd)) (opR r bk k v).2.2.2 ∧ ∀ j, j < bk + 1 → (opR r bk k v).2.2.2 j ≤ cd + 2 := by
  have e := m1.1
  refine ⟨((m1.ro _).em).em (k := 0) (v := 0), ?_, fun j hj => ?_⟩
  · rw [e]
    exact m3.up r.1
  · show updN r.2.2.2 bk r.1 j ≤ cd + 2
    by_cases z : j = bk
    · simp only [updN, if_pos z]
      omega
    · simp only [updN, if_neg z]
      have := m4 j (by omega)
      omega
theorem SR.opn {bt : Nat → Nat} {n : Nat} {vz : Option (SM × RC)} {cd : Nat} {fc : Nat → Int32} {bk : Nat} {fo : Nat → Int32} {ta : Nat} {en : Int32} (h : SR bt n vz 9 cd fc bk fo ta en) : (SgP bt n ta 91 → TR bt n vz 0 0 (cd + 2) (upd (upd (upd (upd fc (2 * cd) 5) (2 * cd + 1) 0) (2 * (cd + 1)) 0) (2 * (cd + 1) + 1) 0) (bk + 1) (upd fo bk (nI cd)) (tkA bt n ta + 1) en) ∧ (¬ SgP bt n ta 91 → vz = none) := by
  obtain ⟨s, r, p, wb, hv, hp, ⟨m1, m2, m3, m4⟩, hw, hb, hns, h1, h2⟩ := h
  constructor
  · intro hs
    obtain ⟨hk2, hp'⟩ := hp.sg (by decide) hs.1 hs.2
    have hst := st2_if (n := tkN bt n p) h1 (by omega) h2
    have er : stR s r 91 (tkN bt n p) = opR (relR 1 s.2.2.2.2.2.2.2.1 s.2.2.2.2.2.2.1 r) bk 5 0 := by
      rw [stR_2 h1, if_neg (by decide), if_neg (by omega), if_pos rfl, m2]
    obtain ⟨o1, o2, o3⟩ := op_mt (k := 5) (v := 0) m1 m3 m4
    refine ⟨_, _, _, _, hv.trans (VR_go hp.1 hst (show ¬ (0 : Nat) = 6 by decide) hk2 rfl), hp', ⟨?_, congrArg (· + 1) m2, ?_, ?_⟩, ?_, hb, rfl, Or.inl rfl⟩
    · rw [er]
      exact o1
    · rw [er]
      exact o2
    · rw [er]
      exact o3
    · exact (relP_W _ _ _ _).trans hw
  · intro hs
    rw [hp.sn (by decide)] at hs
    rw [hv]
    exact VR_no (st2_no h1 hns (by omega) (fun z => by omega) (fun z => hs z.2) (fun z => by omega)) rfl rfl
/-- a for's rounds are read -/
def FR (bt : Nat → Nat) (n : Nat) (vz : Option (SM × RC)) (v cd : Nat) (fc : Nat → Int32) (bk : Nat) (fo : Nat → Int32) (ta : Nat) (en : Int32) : Prop := ∃ s r p wb, vz = VR bt n s r p wb ∧ RPl bt n p wb ta en ∧ RMt s r cd fc bk fo ∧ s.2.2.2.2.2.2.1 = 0 ∧ s.2.2.2.1 = 0 ∧ s.1 = 4 ∧ s.2.2.1 = v
theorem FR.opn {bt : Nat → Nat} {n : Nat} {vz : Option (SM × RC)} {v : Nat} {cd : Nat} {fc : Nat → Int32} {bk : Nat} {fo : Nat → Int32} {ta : Nat} {en : Int32} (h : FR bt n vz v cd fc bk fo ta en) : (SgP bt n ta 91 → TR bt n vz 0 0 (cd + 2) (upd (upd (upd (upd fc (2 * cd) 4) (2 * cd + 1) (nI v)) (2 * (cd + 1)) 0) (2 * (cd + 1) + 1) 0) (bk + 1) (upd fo bk (nI cd)) (tkA bt n ta + 1) en) ∧ (¬ SgP bt n ta 91 → vz = none) := by
  obtain ⟨s, r, p, wb, hv, hp, ⟨m1, m2, m3, m4⟩, hw, hb, h1, h2⟩ := h
  constructor
  · intro hs
    obtain ⟨hk2, hp'⟩ := hp.sg (by decide) hs.1 hs.2
    have hst := (stp_4 (k := 91) (n := tkN bt n p) h1).trans (if_pos rfl)
    have er : stR s r 91 (tkN bt n p) = opR r bk 4 v := by
      rw [stR_4 h1, m2, h2]
    obtain ⟨o1, o2, o3⟩ := op_mt (k := 4) (v := v) m1 m3 m4
    refine ⟨_, _, _, _, hv.trans (VR_go hp.1 hst (show ¬ (0 : Nat) = 6 by decide) hk2 rfl), hp', ⟨?_, congrArg (· + 1) m2, ?_, ?_⟩, hw, hb, rfl, Or.inl rfl⟩
    · rw [er]
      exact o1
    · rw [er]
      exact o2
    · rw [er]
      exact o3
  · intro hs
    rw [hp.sn (by decide)] at hs
    rw [hv]
    exact VR_no ((stp_4 h1).trans (if_neg hs)) rfl rfl
/-! at a statement -/
theorem TR.wrd {bt : Nat → Nat} {n : Nat} {vz : Option (SM × RC)} {cd : Nat} {fc : Nat → Int32} {bk : Nat} {fo : Nat → Int32} {ta : Nat} {en : Int32} (h : TR bt n vz 0 0 cd fc bk fo ta en) (hn : n ≤ 1400) {k : Nat} (hk : k = 3 ∨ k = 5 ∨ k = 6 ∨ k = 7 ∨ k = 8 ∨ k = 9) (hw : WdP bt n ta en k) : (8 ≤ k → bk = 5 → vz = none) ∧ ((8 ≤ k → ¬ bk = 5) → TR bt n vz (if k = 8 then 3 else 1) k cd fc bk fo (spE (ltB bt) n (tkA bt n ta)) (nI (spE (ltB bt) n (tkA bt n ta)))) := by
  obtain ⟨s, r, p, wb, hv, hp, ⟨m1, m2, m3, m4⟩, hz, hb, h1, _⟩ := h
  obtain ⟨hk2, hp'⟩ := hp.wE hn (by omega) hw
  have er : stR s r k (tkN bt n p) = r := (stR_0 h1).trans (if_neg (by omega))
  constructor
  · intro h8 h5
    rw [hv]
    rcases (show k = 8 ∨ k = 9 by omega) with rfl | rfl
    · exact VR_no ((st0_8 h1).trans (if_pos (by omega))) hk2 rfl
    · exact VR_no ((st0_9 h1).trans (if_pos (by omega))) hk2 rfl
  · intro h8
    have hst : stK s k (tkN bt n p) = some (if k = 8 then 3 else 1, k, s.2.2) := by
      rcases hk with rfl | rfl | rfl | rfl | rfl | rfl
      · exact st0_w h1 (by decide)
      · exact st0_w h1 (by decide)
      · exact st0_w h1 (by decide)
      · exact st0_w h1 (by decide)
      · exact (st0_8 h1).trans (if_neg (by have := h8 (by decide); omega))
      · exact (st0_9 h1).trans (if_neg (by have := h8 (by decide); omega))
    refine ⟨_, _, _, _, hv.trans (VR_go hp.1 hst (by show ¬ (if k = 8 then 3 else 1) = 6; split <;> decide) hk2 rfl), hp', ?_, hz, hb, rfl, Or.inr rfl⟩
    rw [er]
    exact ⟨m1, m2, m3, m4⟩
theorem TR.num {bt : Nat → Nat} {n : Nat} {vz : Option (SM × RC)} {cd : Nat} {fc : Nat → Int32} {bk : Nat} {fo : Nat → Int32} {ta : Nat} {en : Int32} (h : TR bt n vz 3 8 cd fc bk fo ta en) (hn : n ≤ 1400) : (NmP bt n ta en → nmN bt (tkA bt n ta) (spE (dgB bt) n (tkA bt n ta) - tkA bt n ta) ≤ 200 → FR bt n vz (nmN bt (tkA bt n ta) (spE (dgB bt) n (tkA bt n ta) - tkA bt n ta)) cd fc bk fo (spE (dgB bt) n (tkA bt n ta)) (nI (spE (dgB bt) n (tkA bt n ta)))) ∧ ((¬ NmP bt n ta en ∨ 200 < nmN bt (tkA bt n ta) (spE (dgB bt) n (tkA bt n ta) - tkA bt n ta)) → vz = none) := by
  obtain ⟨s, r, p, wb, hv, hp, hm, hz, hb, h1, _⟩ := h
  have er : ∀ k, stR s r k (tkN bt n p) = r := fun k => stR_o (Or.inl h1)
  constructor
  · intro hw h2
    obtain ⟨hk2, hN, hp'⟩ := hp.nE hn hw
    have hst := (stp_3 (k := 2) (n := tkN bt n p) h1).trans (if_pos ⟨rfl, by omega⟩)
    refine ⟨_, _, _, _, hv.trans (VR_go hp.1 hst (show ¬ (4 : Nat) = 6 by decide) hk2 rfl), hp', ?_, hz, hb, rfl, hN⟩
    rw [er]
    exact hm
  · intro q
    rw [hv]
    refine VR_no ((stp_3 h1).trans (if_neg ?_)) rfl rfl
    rintro ⟨z1, z2⟩
    have hw := (hp.nm hn).mpr z1
    have hN := (hp.nE hn hw).2.1
    rcases q with q | q
    · exact q hw
    · omega
theorem TR.no {bt : Nat → Nat} {n : Nat} {vz : Option (SM × RC)} {cd : Nat} {fc : Nat → Int32} {bk : Nat} {fo : Nat → Int32} {ta : Nat} {en : Int32} (h : TR bt n vz 0 0 cd fc bk fo ta en) (hn : n ≤ 1400) (a3 : ¬ WdP bt n ta en 3) (a5 : ¬ WdP bt n ta en 5) (a6 : ¬ WdP bt n ta en 6) (a7 : ¬ WdP bt n ta en 7) (a8 : ¬ WdP bt n ta en 8) (a9 : ¬ WdP bt n ta en 9) (hc : ¬ (0 < bk ∧ SgP bt n ta 93)) (he : ¬ (bk = 0 ∧ ¬ tkA bt n ta < n)) : vz = none := by
  obtain ⟨s, r, p, wb, hv, hp, ⟨m1, m2, m3, m4⟩, hz, hb, h1, _⟩ := h
  rw [hp.wd hn (by decide)] at a3 a5 a6 a7 a8 a9
  rw [hp.sn (by decide)] at hc
  rw [hv]
  refine VR_no (st0_no h1 (by omega) (fun z => hc ⟨by omega, z.1⟩) (fun z => he ⟨by omega, fun q => ?_⟩)) rfl rfl
  rw [hp.tk] at q
  rcases tk_cases bt n p with ⟨z1, _⟩ | ⟨_, z2, _, z4, z5⟩ | ⟨_, _, _, _, z4, z5⟩ | ⟨_, _, _, _, z4, z5⟩
  · omega
  · rcases tkK_c bt n p wb with y | y
    · omega
    · rw [y, z5] at z
      split at z <;> omega
  · rcases tkK_c bt n p wb with y | y
    · omega
    · rw [y, z5] at z
      rcases wdK_b bt (tkA bt n p) (spE (ltB bt) n (tkA bt n p)) with w | w <;> omega
  · rcases tkK_c bt n p wb with y | y
    · omega
    · rw [y, z5] at z
      split at z
      · rename_i w
        have := of_decide_eq_true w
        omega
      · omega
theorem TR.cls {bt : Nat → Nat} {n : Nat} {vz : Option (SM × RC)} {cd : Nat} {fc : Nat → Int32} {bk : Nat} {fo : Nat → Int32} {ta : Nat} {en : Int32} (h : TR bt n vz 0 0 cd fc bk fo ta en) (hb1 : 1 ≤ bk) (hs : SgP bt n ta 93) {f : Nat} (hf : fo (bk - 1) = nI f) (hf2 : f + 2 ≤ cd) (hcd : cd ≤ 2000) : TR bt n vz 5 93 (cd + 1) (upd (upd (upd fc (2 * cd) (nI 6)) (2 * cd + 1) (nI f)) (2 * f + 3) (nI (cd + 1))) (bk - 1) fo (tkA bt n ta + 1) en := by
  obtain ⟨s, r, p, wb, hv, hp, ⟨m1, m2, m3, m4⟩, hz, hb, h1, _⟩ := h
  obtain ⟨hk2, hp'⟩ := hp.sg (by decide) hs.1 hs.2
  have hst := st0_cl (n := tkN bt n p) h1 (by omega)
  have ef : r.2.2.2 (bk - 1) = f := by
    have a := m4 (bk - 1) (by omega)
    exact (nI_eq (by omega) (by omega)).mp ((m3 (bk - 1) (by omega)).symm.trans hf)
  have er : stR s r 93 (tkN bt n p) = clR r f := by
    rw [stR_0 h1, if_pos rfl, ← m2, ef]
  refine ⟨_, _, _, _, hv.trans (VR_go hp.1 hst (show ¬ (5 : Nat) = 6 by decide) hk2 rfl), hp', ⟨?_, congrArg (· - 1) m2, ?_, ?_⟩, hz, hb, rfl, Or.inr rfl⟩
  · rw [er]
    exact m1.cl hf2
  · rw [er]
    exact m3.mono (by omega)
  · rw [er]
    exact fun j hj => Nat.le_succ_of_le (m4 j (by omega))
theorem TR.sc {bt : Nat → Nat} {n : Nat} {vz : Option (SM × RC)} {cd : Nat} {fc : Nat → Int32} {bk : Nat} {fo : Nat → Int32} {ta : Nat} {en : Int32} (h : TR bt n vz 5 93 cd fc bk fo ta en) : (SgP bt n ta 59 → TR bt n vz 0 0 cd fc bk fo (tkA bt n ta + 1) en) ∧ (¬ SgP bt n ta 59 → vz = none) := by
  obtain ⟨s, r, p, wb, hv, hp, hm, hz, hb, h1, _⟩ := h
  constructor
  · intro hs
    obtain ⟨hk2, hp'⟩ := hp.sg (by decide) hs.1 hs.2
    have hst := (stp_5 (k := 59) (n := tkN bt n p) h1).trans (if_pos rfl)
    refine ⟨_, _, _, _, hv.trans (VR_go hp.1 hst (show ¬ (0 : Nat) = 6 by decide) hk2 rfl), hp', ?_, hz, hb, rfl, Or.inl rfl⟩
    rw [stR_o (Or.inr h1)]
    exact hm
  · intro hs
    rw [hp.sn (by decide)] at hs
    rw [hv]
    exact VR_no ((stp_5 h1).trans (if_neg hs)) rfl rfl
theorem TR.end {bt : Nat → Nat} {n : Nat} {vz : Option (SM × RC)} {cd : Nat} {fc : Nat → Int32} {bk : Nat} {fo : Nat → Int32} {ta : Nat} {en : Int32} (h : TR bt n vz 0 0 cd fc bk fo ta en) (hb0 : bk = 0) (he : ¬ tkA bt n ta < n) : ∃ s r, vz = some (s, r) ∧ MatR r cd fc := by
  obtain ⟨s, r, p, wb, hv, hp, ⟨m1, m2, m3, m4⟩, hz, hb, h1, _⟩ := h
  rw [hp.tk] at he
  have hk : tkK bt n p wb = 0 := by
    obtain ⟨_, b2, b3⟩ := tk_out (bt := bt) (n := n) (p := p) rfl (by omega)
    rw [tk_n (Or.inr (Or.inl b2)), b3]
  refine ⟨_, _, hv.trans (VR_end (st0_end h1 (by omega)) rfl hk rfl), ?_⟩
  rw [stR_0 h1, if_neg (by decide)]
  exact m1
theorem TR_0 {bt : Nat → Nat} {n : Nat} {fc fo : Nat → Int32} (h : n ≤ 600) : TR bt n (readE bt n) 0 0 0 fc 0 fo 0 (-1) := ⟨sm0, rc0, 0, false, if_pos h, ⟨Nat.zero_le _, Nat.le_refl _, Nat.zero_le _, Or.inr ⟨rfl, Or.inl rfl⟩⟩, ⟨⟨rfl, fun j hj => absurd hj (Nat.not_lt_zero _)⟩, rfl, fun j hj => absurd hj (Nat.not_lt_zero _), fun j hj => absurd hj (Nat.not_lt_zero _)⟩, rfl, rfl, rfl, Or.inl rfl⟩
/-- a sum begins -/
theorem TR.ur {bt : Nat → Nat} {n : Nat} {vz : Option (SM × RC)} {tt : Nat} {cd : Nat} {fc : Nat → Int32} {bk : Nat} {fo : Nat → Int32} {ta : Nat} {en : Int32} (h : TR bt n vz 1 tt cd fc bk fo ta en) (fl : Nat → Int32) : UR bt n vz 1 tt cd fc bk fo 0 fl 0 ta en := by
  obtain ⟨s, r, p, wb, hv, hp, hm, hz, hb, h1, h2⟩ := h
  refine ⟨s, r, p, wb, hv, hp, hm, ⟨hz.symm, fun j hj => absurd hj (Nat.not_lt_zero _), by rw [hb]; rfl, by rw [hb]; rfl, by omega⟩, h1, h2.resolve_left (by omega)⟩
theorem tkA_w {bt : Nat → Nat} {n w ta : Nat} (h : w = tkA bt n ta) (hta : ta ≤ n) : tkA bt n w = tkA bt n ta := by
  rw [h]
  exact tkA_at (tkA_b hta).1 (Nat.le_refl _) hta
theorem SgP_at {bt : Nat → Nat} {n w ta k : Nat} (h : w = tkA bt n ta) (hta : ta ≤ n) : SgP bt n w k ↔ SgP bt n ta k := by
  unfold SgP
  rw [tkA_w h hta]
theorem WdP_at {bt : Nat → Nat} {n w ta k : Nat} {en en' : Int32} (h : w = tkA bt n ta) (hta : ta ≤ n) (he : en' = en) : WdP bt n w en' k ↔ WdP bt n ta en k := by
  unfold WdP
  rw [tkA_w h hta, he]
theorem NmP_at {bt : Nat → Nat} {n w ta : Nat} {en en' : Int32} (h : w = tkA bt n ta) (hta : ta ≤ n) (he : en' = en) : NmP bt n w en' ↔ NmP bt n ta en := by
  unfold NmP
  rw [tkA_w h hta, he]
theorem nm_mx {bt : Nat → Nat} {n ta : Nat} {en : Int32} (hta : ta ≤ n) (h : ¬ NmP bt n ta en ∨ 999999 < nmN bt (tkA bt n ta) (spE (dgB bt) n (tkA bt n ta) - tkA bt n ta)) : ¬ NmP bt n ta en := by
  rcases h with h | h
  · exact h
  · intro q
    have ha := (tkA_b (bt := bt) hta).2
    have a := nm_lt (bt := bt) (p := tkA bt n ta) (spE (dgB bt) n (tkA bt n ta) - tkA bt n ta) (fun j hj => (of_decide_eq_true (sp_all (f := dgB bt) ha (tkA bt n ta + j) (by omega) (by omega))).2)
    have b : 10 ^ (spE (dgB bt) n (tkA bt n ta) - tkA bt n ta) ≤ 10 ^ 6 := Nat.pow_le_pow_right (by decide) q.2.2.2
    have c : (10 : Nat) ^ 6 = 1000000 := by decide
    omega
def sgK (g : Nat) : Nat := if g = 13 then 43 else if g = 14 then 45 else if g = 15 then 42 else if g = 16 then 47 else 37
theorem sgK_k {g : Nat} : sgK g = 43 ∨ sgK g = 45 ∨ sgK g = 42 ∨ sgK g = 47 ∨ sgK g = 37 := by
  unfold sgK
  repeat' split
  all_goals decide
theorem sgK_p {g : Nat} (h : 13 ≤ g ∧ g ≤ 17) : pkN (sgK g) = g := by
  rcases (show g = 13 ∨ g = 14 ∨ g = 15 ∨ g = 16 ∨ g = 17 by omega) with rfl | rfl | rfl | rfl | rfl <;> decide
theorem sgK_1 {g : Nat} (h : 13 ≤ g ∧ g ≤ 17) (h2 : g < 15) : strN (sgK g) = 1 := by
  rcases (show g = 13 ∨ g = 14 by omega) with rfl | rfl <;> decide
theorem sgK_2 {g : Nat} (h : 13 ≤ g ∧ g ≤ 17) (h2 : 15 ≤ g) : strN (sgK g) = 2 := by
  rcases (show g = 15 ∨ g = 16 ∨ g = 17 by omega) with rfl | rfl | rfl <;> decide
/-! steps of a machine -/
def iterO {α : Type} (f : α → Option α) : Nat → α → Option α
  | 0, x => some x
  | n + 1, x => (f x).bind (iterO f n)
def star {α : Type} (f : α → Option α) (x y : α) : Prop := ∃ n, iterO f n x = some y
theorem star_0 {α : Type} {f : α → Option α} (x : α) : star f x x := ⟨0, rfl⟩
theorem star_1 {α : Type} {f : α → Option α} {x y z : α} (h : f x = some y) (hs : star f y z) : star f x z := by
  obtain ⟨n, hn⟩ := hs
  refine ⟨n + 1, ?_⟩
  show (f x).bind (iterO f n) = some z
  rw [h]
  exact hn
theorem star_t {α : Type} {f : α → Option α} {x y z : α} (h1 : star f x y) (h2 : star f y z) : star f x z := by
  obtain ⟨n, hn⟩ := h1
  induction n generalizing x with
  | zero =>
    obtain rfl : x = y := Option.some.inj hn
    exact h2
  | succ n ih =>
    cases e : f x with
    | none =>
      have : (f x).bind (iterO f n) = some y := hn
      rw [e] at this
      contradiction
    | some w =>
      have : (f x).bind (iterO f n) = some y := hn
      rw [e] at this
      exact star_1 e (ih this)
theorem star_end {α : Type} {f : α → Option α} {x y z : α} (h1 : star f x y) (h2 : star f x z) (hy : f y = none) (hz : f z = none) : y = z := by
  obtain ⟨n, hn⟩ := h1
  obtain ⟨m, hm⟩ := h2
  induction n generalizing x m with
  | zero =>
    obtain rfl : x = y := Option.some.inj hn
    cases m with
    | zero => exact Option.some.inj hm
    | succ m =>
      have : (f x).bind (iterO f m) = some z := hm
      rw [hy] at this
      contradiction
  | succ n ih =>
    cases e : f x with
    | none =>
      have : (f x).bind (iterO f n) = some y := hn
      rw [e] at this
      contradiction
    | some w =>
      have a : (f x).bind (iterO f n) = some y := hn
      rw [e] at a
      cases m with
      | zero =>
        obtain rfl : x = z := Option.some.inj hm
        rw [hz] at e
        contradiction
      | succ m =>
        have b : (f x).bind (iterO f m) = some z := hm
        rw [e] at b
        exact ih a m b
/-! what both machines do with numbers and a table -/
def jnD (k : Nat) (u v : Int32) : Int32 := if k = 43 then u + v else if k = 45 then u - v else if k = 42 then u * v else if k = 47 then (if v = 0 then 0 else u / v) else (if v = 0 then 0 else u - u / v * v)
def toK (x : Int32) : Nat := x.toInt.toNat
def isKB (x : Int32) : Bool := decide (0 ≤ x) && decide (x < 2147483647)
def lkD (o : Option Int32) : Int32 := match o with
  | some w => w
  | none => -1
/-- put, drop, get, let (kinds 3, 5, 6, 7) of a number x and a value v: what is latest, the table -/
def actF (k : Nat) (x v la : Int32) (L : List (Nat × Int32)) : Int32 × List (Nat × Int32) :=
  if k = 7 then (x, L) else
  if k = 6 then (if isKB x = true then lkD (lookL L (toK x)) else -1, L) else
  if k = 5 then (la, if isKB x = true then dropL L (toK x) else L) else
  (la, if isKB x = true ∧ fulL L (toK x) = false then putL L (toK x) v else L)
/-! the class's machine: at, ended, steps, latest, the table, rounds of the fors (the innermost first), numbers (the last first) -/
abbrev CC : Type := Nat × Bool × Nat × Int32 × List (Nat × Int32) × List Nat × List Int32
def pshC (os : List Int32) (v : Int32) : List Int32 := if os.length < 64 then v :: os else os
def stpC (g : PG) (c : CC) : Option CC :=
  if c.2.1 = true ∨ g.1 ≤ c.1 then none else some (
  if g.2.1 c.1 = 2 then (c.1 + 1, false, c.2.2.1, c.2.2.2.1, c.2.2.2.2.1, c.2.2.2.2.2.1, pshC c.2.2.2.2.2.2 (nI (g.2.2.1 c.1))) else
  if g.2.1 c.1 = 10 then (c.1 + 1, false, c.2.2.1, c.2.2.2.1, c.2.2.2.2.1, c.2.2.2.2.2.1, pshC c.2.2.2.2.2.2 (nI (c.2.2.2.2.2.1.headD 0))) else
  if g.2.1 c.1 = 11 then (c.1 + 1, false, c.2.2.1, c.2.2.2.1, c.2.2.2.2.1, c.2.2.2.2.2.1, pshC c.2.2.2.2.2.2 c.2.2.2.1) else
  if g.2.1 c.1 = 9 then ((if 0 < c.2.2.2.2.2.2.headD 0 then c.1 + 1 else g.2.2.2 c.1), false, c.2.2.1, c.2.2.2.1, c.2.2.2.2.1, c.2.2.2.2.2.1, c.2.2.2.2.2.2.tail) else
  if g.2.1 c.1 = 8 then
    (if g.2.2.1 c.1 = 0 then (g.2.2.2 c.1 + 1, false, c.2.2) else
     if c.2.2.2.2.2.1.length < 5 then
       (if c.2.2.1 < 300 then (c.1 + 1, false, c.2.2.1 + 1, c.2.2.2.1, c.2.2.2.2.1, 0 :: c.2.2.2.2.2.1, c.2.2.2.2.2.2) else (c.1 + 1, true, c.2.2)) else
     (c.1 + 1, false, c.2.2)) else
  if g.2.1 c.1 = 93 then
    (if c.2.2.2.2.2.1 = [] ∨ ¬ (g.2.2.2 c.1 < g.1 ∧ g.2.1 (g.2.2.2 c.1) = 8) then (c.1 + 1, false, c.2.2) else
     if g.2.2.1 (g.2.2.2 c.1) ≤ c.2.2.2.2.2.1.headD 0 + 1 then (c.1 + 1, false, c.2.2.1, c.2.2.2.1, c.2.2.2.2.1, c.2.2.2.2.2.1.tail, c.2.2.2.2.2.2) else
     if c.2.2.1 < 300 then (g.2.2.2 c.1 + 1, false, c.2.2.1 + 1, c.2.2.2.1, c.2.2.2.2.1, (c.2.2.2.2.2.1.headD 0 + 1) :: c.2.2.2.2.2.1.tail, c.2.2.2.2.2.2) else
     (g.2.2.2 c.1 + 1, true, c.2.2)) else
  if g.2.1 c.1 = 3 ∨ g.2.1 c.1 = 5 ∨ g.2.1 c.1 = 6 ∨ g.2.1 c.1 = 7 then
    (if c.2.2.1 < 300 then
       (if g.2.1 c.1 = 3 then (c.1 + 1, false, c.2.2.1 + 1, (actF 3 (c.2.2.2.2.2.2.tail.headD 0) (c.2.2.2.2.2.2.headD 0) c.2.2.2.1 c.2.2.2.2.1).1, (actF 3 (c.2.2.2.2.2.2.tail.headD 0) (c.2.2.2.2.2.2.headD 0) c.2.2.2.1 c.2.2.2.2.1).2, c.2.2.2.2.2.1, c.2.2.2.2.2.2.tail.tail)
        else (c.1 + 1, false, c.2.2.1 + 1, (actF (g.2.1 c.1) (c.2.2.2.2.2.2.headD 0) 0 c.2.2.2.1 c.2.2.2.2.1).1, (actF (g.2.1 c.1) (c.2.2.2.2.2.2.headD 0) 0 c.2.2.2.1 c.2.2.2.2.1).2, c.2.2.2.2.2.1, c.2.2.2.2.2.2.tail))
     else (c.1 + 1, true, c.2.2)) else
  (c.1 + 1, false, c.2.2.1, c.2.2.2.1, c.2.2.2.2.1, c.2.2.2.2.2.1, pshC c.2.2.2.2.2.2.tail.tail (jnD (g.2.1 c.1) (c.2.2.2.2.2.2.tail.headD 0) (c.2.2.2.2.2.2.headD 0))))
/-! the reference's: at, cut, steps, latest, the table, its blocks (where each began, its round; the innermost first), numbers (the last first) -/
abbrev RR : Type := Nat × Bool × Nat × Int32 × List (Nat × Int32) × List (Nat × Nat) × List Int32
def rndR (rk : Nat → Nat) : List (Nat × Nat) → Nat
  | [] => 0
  | (b, q) :: bs => if rk b = 4 then q else rndR rk bs
def sgR (k : Nat) : Nat := if k = 13 then 43 else if k = 14 then 45 else if k = 15 then 42 else if k = 16 then 47 else 37
def stpR (r : RC) (c : RR) : Option RR :=
  if c.2.1 = true ∨ r.1 ≤ c.1 then none else some (
  if r.2.1 c.1 = 10 then (c.1 + 1, false, c.2.2.1, c.2.2.2.1, c.2.2.2.2.1, c.2.2.2.2.2.1, nI (r.2.2.1 c.1) :: c.2.2.2.2.2.2) else
  if r.2.1 c.1 = 11 then (c.1 + 1, false, c.2.2.1, c.2.2.2.1, c.2.2.2.2.1, c.2.2.2.2.2.1, nI (rndR r.2.1 c.2.2.2.2.2.1) :: c.2.2.2.2.2.2) else
  if r.2.1 c.1 = 12 then (c.1 + 1, false, c.2.2.1, c.2.2.2.1, c.2.2.2.2.1, c.2.2.2.2.2.1, c.2.2.2.1 :: c.2.2.2.2.2.2) else
  if 13 ≤ r.2.1 c.1 then (c.1 + 1, false, c.2.2.1, c.2.2.2.1, c.2.2.2.2.1, c.2.2.2.2.2.1, jnD (sgR (r.2.1 c.1)) (c.2.2.2.2.2.2.tail.headD 0) (c.2.2.2.2.2.2.headD 0) :: c.2.2.2.2.2.2.tail.tail) else
  if r.2.1 c.1 = 4 then
    (if r.2.2.1 c.1 = 0 then (r.2.2.1 (c.1 + 1), false, c.2.2) else
     if c.2.2.1 < 300 then (c.1 + 2, false, c.2.2.1 + 1, c.2.2.2.1, c.2.2.2.2.1, (c.1, 0) :: c.2.2.2.2.2.1, c.2.2.2.2.2.2) else
     (c.1 + 2, true, c.2.2.1, c.2.2.2.1, c.2.2.2.2.1, (c.1, 0) :: c.2.2.2.2.2.1, c.2.2.2.2.2.2)) else
  if r.2.1 c.1 = 5 then
    (if 0 < c.2.2.2.2.2.2.headD 0 then (c.1 + 2, false, c.2.2.1, c.2.2.2.1, c.2.2.2.2.1, (c.1, 0) :: c.2.2.2.2.2.1, c.2.2.2.2.2.2.tail) else
     (r.2.2.1 (c.1 + 1), false, c.2.2.1, c.2.2.2.1, c.2.2.2.2.1, c.2.2.2.2.2.1, c.2.2.2.2.2.2.tail)) else
  if r.2.1 c.1 = 6 then
    (if r.2.1 (r.2.2.1 c.1) = 4 ∧ (c.2.2.2.2.2.1.headD (0, 0)).2 + 1 < r.2.2.1 (r.2.2.1 c.1) then
       (if c.2.2.1 < 300 then (r.2.2.1 c.1 + 2, false, c.2.2.1 + 1, c.2.2.2.1, c.2.2.2.2.1, ((c.2.2.2.2.2.1.headD (0, 0)).1, (c.2.2.2.2.2.1.headD (0, 0)).2 + 1) :: c.2.2.2.2.2.1.tail, c.2.2.2.2.2.2) else
        (r.2.2.1 c.1 + 2, true, c.2.2.1, c.2.2.2.1, c.2.2.2.2.1, ((c.2.2.2.2.2.1.headD (0, 0)).1, (c.2.2.2.2.2.1.headD (0, 0)).2 + 1) :: c.2.2.2.2.2.1.tail, c.2.2.2.2.2.2)) else
     (c.1 + 1, false, c.2.2.1, c.2.2.2.1, c.2.2.2.2.1, c.2.2.2.2.2.1.tail, c.2.2.2.2.2.2)) else
  if c.2.2.1 < 300 then
    (if r.2.1 c.1 = 0 then (c.1 + 1, false, c.2.2.1 + 1, (actF 3 (c.2.2.2.2.2.2.tail.headD 0) (c.2.2.2.2.2.2.headD 0) c.2.2.2.1 c.2.2.2.2.1).1, (actF 3 (c.2.2.2.2.2.2.tail.headD 0) (c.2.2.2.2.2.2.headD 0) c.2.2.2.1 c.2.2.2.2.1).2, c.2.2.2.2.2.1, c.2.2.2.2.2.2.tail.tail)
     else (c.1 + 1, false, c.2.2.1 + 1, (actF (r.2.1 c.1 + 4) (c.2.2.2.2.2.2.headD 0) 0 c.2.2.2.1 c.2.2.2.2.1).1, (actF (r.2.1 c.1 + 4) (c.2.2.2.2.2.2.headD 0) 0 c.2.2.2.1 c.2.2.2.2.1).2, c.2.2.2.2.2.1, c.2.2.2.2.2.2.tail))
  else (c.1 + 1, true, c.2.2))
/-! rows of both sides that are the same program; they run alike -/
theorem c_nn {g : PG} {c : CC} (h1 : c.2.1 = false) (h2 : c.1 < g.1) : ¬ (c.2.1 = true ∨ g.1 ≤ c.1) := fun q => q.elim (fun z => by rw [h1] at z; contradiction) (fun z => by omega)
theorem r_nn {r : RC} {c : RR} (h1 : c.2.1 = false) (h2 : c.1 < r.1) : ¬ (c.2.1 = true ∨ r.1 ≤ c.1) := fun q => q.elim (fun z => by rw [h1] at z; contradiction) (fun z => by omega)
def XRw (g : PG) (r : RC) (i k : Nat) : Prop := (g.2.1 i = 2 ∧ r.2.1 k = 10 ∧ r.2.2.1 k = g.2.2.1 i) ∨ (g.2.1 i = 10 ∧ r.2.1 k = 11) ∨ (g.2.1 i = 11 ∧ r.2.1 k = 12) ∨ ((g.2.1 i = 43 ∨ g.2.1 i = 45 ∨ g.2.1 i = 42 ∨ g.2.1 i = 47 ∨ g.2.1 i = 37) ∧ r.2.1 k = pkN (g.2.1 i))
def ExH (g : PG) (r : RC) (a c : Nat) : Nat → Nat → Prop
  | 0, h => h = 0
  | n + 1, h => ∃ h1, ExH g r a c n h1 ∧ XRw g r (a + n) (c + n) ∧ ((g.2.1 (a + n) ≤ 11 ∧ h = h1 + 1 ∧ h ≤ 64) ∨ (11 < g.2.1 (a + n) ∧ 2 ≤ h1 ∧ h + 1 = h1))
theorem psh_lt {os : List Int32} {v : Int32} (h : os.length < 64) : pshC os v = v :: os := if_pos h
theorem exp_run {g : PG} {r : RC} {a c : Nat} {st : Nat} {la : Int32} {L : List (Nat × Int32)} {lo : List Nat} {bs : List (Nat × Nat)} (hl : lo.headD 0 = rndR r.2.1 bs) : ∀ n h, ExH g r a c n h → a + n ≤ g.1 → c + n ≤ r.1 → ∃ os, os.length = h ∧ star (stpC g) (a, false, st, la, L, lo, []) (a + n, false, st, la, L, lo, os) ∧ star (stpR r) (c, false, st, la, L, bs, []) (c + n, false, st, la, L, bs, os) := by
  intro n
  induction n with
  | zero =>
    intro h hx _ _
    have hx : h = 0 := hx
    subst hx
    exact ⟨[], rfl, star_0 _, star_0 _⟩
  | succ n ih =>
    intro h hx ha hc
    obtain ⟨h1, e1, e2, e3⟩ := hx
    obtain ⟨os, ho, s1, s2⟩ := ih h1 e1 (by omega) (by omega)
    have nC : ¬ (((a + n, false, st, la, L, lo, os) : CC).2.1 = true ∨ g.1 ≤ ((a + n, false, st, la, L, lo, os) : CC).1) := c_nn rfl (by show a + n < g.1; omega)
    have nR : ¬ (((c + n, false, st, la, L, bs, os) : RR).2.1 = true ∨ r.1 ≤ ((c + n, false, st, la, L, bs, os) : RR).1) := r_nn rfl (by show c + n < r.1; omega)
    rcases e2 with ⟨k1, k2, k3⟩ | ⟨k1, k2⟩ | ⟨k1, k2⟩ | ⟨k1, k2⟩
    · rcases e3 with ⟨_, b2, b3⟩ | ⟨b1, _⟩
      · refine ⟨nI (g.2.2.1 (a + n)) :: os, by rw [List.length_cons]; omega, star_t s1 (star_1 ?_ (star_0 _)), star_t s2 (star_1 ?_ (star_0 _))⟩
        · unfold stpC
          rw [if_neg nC]
          dsimp only
          rw [if_pos k1, psh_lt (by omega)]
          rfl
        · unfold stpR
          rw [if_neg nR]
          dsimp only
          rw [if_pos k2, k3]
          rfl
      · omega
    · rcases e3 with ⟨_, b2, b3⟩ | ⟨b1, _⟩
      · refine ⟨nI (lo.headD 0) :: os, by rw [List.length_cons]; omega, star_t s1 (star_1 ?_ (star_0 _)), star_t s2 (star_1 ?_ (star_0 _))⟩
        · unfold stpC
          rw [if_neg nC]
          dsimp only
          rw [if_neg (by omega), if_pos k1, psh_lt (by omega)]
          rfl
        · unfold stpR
          rw [if_neg nR]
          dsimp only
          rw [if_neg (by omega), if_pos k2, hl]
          rfl
      · omega
    · rcases e3 with ⟨_, b2, b3⟩ | ⟨b1, _⟩
      · refine ⟨la :: os, by rw [List.length_cons]; omega, star_t s1 (star_1 ?_ (star_0 _)), star_t s2 (star_1 ?_ (star_0 _))⟩
        · unfold stpC
          rw [if_neg nC]
          dsimp only
          rw [if_neg (by omega), if_neg (by omega), if_pos k1, psh_lt (by omega)]
          rfl
        · unfold stpR
          rw [if_neg nR]
          dsimp only
          rw [if_neg (by omega), if_neg (by omega), if_pos k2]
          rfl
      · omega
    · rcases e3 with ⟨b1, _⟩ | ⟨_, b2, b3⟩
      · omega
      · have hpk : 13 ≤ pkN (g.2.1 (a + n)) ∧ sgR (pkN (g.2.1 (a + n))) = g.2.1 (a + n) := by
          rcases k1 with e | e | e | e | e <;> rw [e] <;> decide
        have hln : os.tail.tail.length < 64 → os.tail.tail.length = h1 - 2 := fun _ => by
          rw [List.length_tail, List.length_tail]
          omega
        have hl2 : os.tail.tail.length = h1 - 2 := by
          rw [List.length_tail, List.length_tail]
          omega
        have hb64 : h1 ≤ 64 := by
          have key : ∀ m q, ExH g r a c m q → q ≤ 64 := by
            intro m
            induction m with
            | zero => intro q hq; have hq : q = 0 := hq; omega
            | succ m ih2 =>
              intro q hq
              obtain ⟨q1, f1, _, f3⟩ := hq
              have := ih2 q1 f1
              omega
          exact key n h1 e1
        refine ⟨jnD (g.2.1 (a + n)) (os.tail.headD 0) (os.headD 0) :: os.tail.tail, by rw [List.length_cons]; omega, star_t s1 (star_1 ?_ (star_0 _)), star_t s2 (star_1 ?_ (star_0 _))⟩
        · unfold stpC
          rw [if_neg nC]
          dsimp only
          rw [if_neg (by omega), if_neg (by omega), if_neg (by omega), if_neg (by omega), if_neg (by omega), if_neg (by omega), if_neg (by omega), psh_lt (by omega)]
          rfl
        · unfold stpR
          rw [if_neg nR]
          dsimp only
          rw [if_neg (by omega), if_neg (by omega), if_neg (by omega), if_pos (by omega), k2, hpk.2]
          rfl
/-! what comes of both: the same, or both are cut alike -/
def CutB (g : PG) (r : RC) (x : CC) (y : RR) : Prop := ∃ u v, star (stpC g) x u ∧ star (stpR r) y v ∧ u.2.1 = true ∧ v.2.1 = true ∧ u.2.2.1 = v.2.2.1 ∧ u.2.2.2.2.1 = v.2.2.2.2.1
def OutB (g : PG) (r : RC) (x : CC) (y : RR) (a c : Nat) (lo : List Nat) (bs : List (Nat × Nat)) : Prop := (∃ st la L, st ≤ 300 ∧ star (stpC g) x (a, false, st, la, L, lo, []) ∧ star (stpR r) y (c, false, st, la, L, bs, [])) ∨ CutB g r x y
theorem CutB.pre {g : PG} {r : RC} {x x' : CC} {y y' : RR} (h1 : star (stpC g) x x') (h2 : star (stpR r) y y') (h : CutB g r x' y') : CutB g r x y := by
  obtain ⟨u, v, a, b, h9⟩ := h
  exact ⟨u, v, star_t h1 a, star_t h2 b, h9⟩
theorem OutB.pre {g : PG} {r : RC} {x x' : CC} {y y' : RR} {a c : Nat} {lo : List Nat} {bs : List (Nat × Nat)} (h1 : star (stpC g) x x') (h2 : star (stpR r) y y') (h : OutB g r x' y' a c lo bs) : OutB g r x y a c lo bs := by
  rcases h with ⟨st, la, L, h0, s1, s2⟩ | h
  · exact Or.inl ⟨st, la, L, h0, star_t h1 s1, star_t h2 s2⟩
  · exact Or.inr (h.pre h1 h2)
theorem OutB.bind {g : PG} {r : RC} {x : CC} {y : RR} {a c a' c' : Nat} {lo lo' : List Nat} {bs bs' : List (Nat × Nat)} (h : OutB g r x y a c lo bs) (hn : ∀ st la L, st ≤ 300 → OutB g r (a, false, st, la, L, lo, []) (c, false, st, la, L, bs, []) a' c' lo' bs') : OutB g r x y a' c' lo' bs' := by
  rcases h with ⟨st, la, L, h0, s1, s2⟩ | h
  · exact (hn st la L h0).pre s1 s2
  · exact Or.inr h
/-! statements -/
def Smp (g : PG) (r : RC) (a a' c c' : Nat) : Prop := ∃ n h, ExH g r a c n h ∧ a' = a + n + 1 ∧ c' = c + n + 1 ∧ ((g.2.1 (a + n) = 3 ∧ r.2.1 (c + n) = 0 ∧ h = 2) ∨ ((g.2.1 (a + n) = 5 ∨ g.2.1 (a + n) = 6 ∨ g.2.1 (a + n) = 7) ∧ r.2.1 (c + n) + 4 = g.2.1 (a + n) ∧ h = 1))
def FrS (g : PG) (r : RC) (B : Nat → Nat → Nat → Nat → Prop) (a a' c c' : Nat) : Prop := g.2.1 a = 8 ∧ r.2.1 c = 4 ∧ r.2.2.1 c = g.2.2.1 a ∧ ∃ e f, B (a + 1) e (c + 2) f ∧ a' = e + 1 ∧ c' = f + 1 ∧ g.2.2.2 a = e ∧ g.2.1 e = 93 ∧ g.2.2.2 e = a ∧ r.2.2.1 (c + 1) = f + 1 ∧ r.2.1 f = 6 ∧ r.2.2.1 f = c
def IfS (g : PG) (r : RC) (B : Nat → Nat → Nat → Nat → Prop) (a a' c c' : Nat) : Prop := ∃ n, ExH g r a c n 1 ∧ g.2.1 (a + n) = 9 ∧ r.2.1 (c + n) = 5 ∧ ∃ f, B (a + n + 1) a' (c + n + 2) f ∧ c' = f + 1 ∧ g.2.2.2 (a + n) = a' ∧ r.2.2.1 (c + n + 1) = f + 1 ∧ r.2.1 f = 6 ∧ r.2.2.1 f = c + n
def ChN (S : Nat → Nat → Nat → Nat → Prop) : Nat → Nat → Nat → Nat → Nat → Prop
  | 0, a, b, c, e => a = b ∧ c = e
  | m + 1, a, b, c, e => ∃ a' c', S a a' c c' ∧ ChN S m a' b c' e
def Ch (S : Nat → Nat → Nat → Nat → Prop) (a b c e : Nat) : Prop := ∃ m, ChN S m a b c e
def StD (g : PG) (r : RC) : Nat → Nat → Nat → Nat → Nat → Prop
  | 0 => Smp g r
  | d + 1 => fun a a' c c' => Smp g r a a' c c' ∨ FrS g r (Ch (StD g r d)) a a' c c' ∨ IfS g r (Ch (StD g r d)) a a' c c'
theorem ChN_le {S : Nat → Nat → Nat → Nat → Prop} (hS : ∀ a a' c c', S a a' c c' → a < a' ∧ c < c') : ∀ m a b c e, ChN S m a b c e → a ≤ b ∧ c ≤ e := by
  intro m
  induction m with
  | zero => intro a b c e h; have h : a = b ∧ c = e := h; omega
  | succ m ih =>
    intro a b c e h
    obtain ⟨a', c', h1, h2⟩ := h
    have := hS _ _ _ _ h1
    have := ih _ _ _ _ h2
    omega
theorem Smp_le {g : PG} {r : RC} {a a' c c' : Nat} (h : Smp g r a a' c c') : a < a' ∧ c < c' := by
  obtain ⟨n, hh, _, e1, e2, _⟩ := h
  omega
theorem StD_le {g : PG} {r : RC} : ∀ d a a' c c', StD g r d a a' c c' → a < a' ∧ c < c' := by
  intro d
  induction d with
  | zero => intro a a' c c' h; exact Smp_le h
  | succ d ih =>
    intro a a' c c' h
    rcases h with h | ⟨_, _, _, e, f, ⟨m, h1⟩, e1, e2, _⟩ | ⟨n, _, _, _, f, ⟨m, h1⟩, e1, _⟩
    · exact Smp_le h
    · have := ChN_le ih _ _ _ _ _ h1
      omega
    · have := ChN_le ih _ _ _ _ _ h1
      omega
theorem smp_run {g : PG} {r : RC} {a a' c c' : Nat} (h : Smp g r a a' c c') (ha : a' ≤ g.1) (hc : c' ≤ r.1) {st : Nat} {la : Int32} {L : List (Nat × Int32)} {lo : List Nat} {bs : List (Nat × Nat)} (hl : lo.headD 0 = rndR r.2.1 bs) (hst : st ≤ 300) : OutB g r (a, false, st, la, L, lo, []) (c, false, st, la, L, bs, []) a' c' lo bs := by
  obtain ⟨n, h, hx, rfl, rfl, hk⟩ := h
  obtain ⟨os, ho, s1, s2⟩ := exp_run (st := st) (la := la) (L := L) hl n h hx (by omega) (by omega)
  refine OutB.pre s1 s2 ?_
  have nC : ¬ (((a + n, false, st, la, L, lo, os) : CC).2.1 = true ∨ g.1 ≤ ((a + n, false, st, la, L, lo, os) : CC).1) := c_nn rfl (by show a + n < g.1; omega)
  have nR : ¬ (((c + n, false, st, la, L, bs, os) : RR).2.1 = true ∨ r.1 ≤ ((c + n, false, st, la, L, bs, os) : RR).1) := r_nn rfl (by show c + n < r.1; omega)
  by_cases h3 : st < 300
  · rcases hk with ⟨k1, k2, k3⟩ | ⟨k1, k2, k3⟩
    · have hos : os.tail.tail = [] := List.eq_nil_of_length_eq_zero (by rw [List.length_tail, List.length_tail]; omega)
      refine Or.inl ⟨st + 1, (actF 3 (os.tail.headD 0) (os.headD 0) la L).1, (actF 3 (os.tail.headD 0) (os.headD 0) la L).2, by omega, star_1 ?_ (star_0 _), star_1 ?_ (star_0 _)⟩
      · unfold stpC
        rw [if_neg nC]
        dsimp only
        rw [if_neg (by omega), if_neg (by omega), if_neg (by omega), if_neg (by omega), if_neg (by omega), if_neg (by omega), if_pos (by omega), if_pos h3, if_pos k1, hos]
      · unfold stpR
        rw [if_neg nR]
        dsimp only
        rw [if_neg (by omega), if_neg (by omega), if_neg (by omega), if_neg (by omega), if_neg (by omega), if_neg (by omega), if_neg (by omega), if_pos h3, if_pos k2, hos]
    · have hos : os.tail = [] := List.eq_nil_of_length_eq_zero (by rw [List.length_tail]; omega)
      refine Or.inl ⟨st + 1, (actF (g.2.1 (a + n)) (os.headD 0) 0 la L).1, (actF (g.2.1 (a + n)) (os.headD 0) 0 la L).2, by omega, star_1 ?_ (star_0 _), star_1 ?_ (star_0 _)⟩
      · unfold stpC
        rw [if_neg nC]
        dsimp only
        rw [if_neg (by omega), if_neg (by omega), if_neg (by omega), if_neg (by omega), if_neg (by omega), if_neg (by omega), if_pos (by omega), if_pos h3, if_neg (by omega), hos]
      · unfold stpR
        rw [if_neg nR]
        dsimp only
        rw [if_neg (by omega), if_neg (by omega), if_neg (by omega), if_neg (by omega), if_neg (by omega), if_neg (by omega), if_neg (by omega), if_pos h3, if_neg (by omega), k2, hos]
  · refine Or.inr ⟨(a + n + 1, true, st, la, L, lo, os), (c + n + 1, true, st, la, L, bs, os), star_1 ?_ (star_0 _), star_1 ?_ (star_0 _), rfl, rfl, rfl, rfl⟩
    · unfold stpC
      rw [if_neg nC]
      dsimp only
      rw [if_neg (by omega), if_neg (by omega), if_neg (by omega), if_neg (by omega), if_neg (by omega), if_neg (by omega), if_pos (by omega), if_neg h3]
    · unfold stpR
      rw [if_neg nR]
      dsimp only
      rw [if_neg (by omega), if_neg (by omega), if_neg (by omega), if_neg (by omega), if_neg (by omega), if_neg (by omega), if_neg (by omega), if_neg h3]
def Runs (g : PG) (r : RC) (S : Nat → Nat → Nat → Nat → Prop) (d : Nat) : Prop := ∀ a a' c c', S a a' c c' → a' ≤ g.1 → c' ≤ r.1 → ∀ st la L lo bs, lo.headD 0 = rndR r.2.1 bs → lo.length + d ≤ 5 → st ≤ 300 → OutB g r (a, false, st, la, L, lo, []) (c, false, st, la, L, bs, []) a' c' lo bs
theorem ch_run {g : PG} {r : RC} {S : Nat → Nat → Nat → Nat → Prop} {d : Nat} (hle : ∀ a a' c c', S a a' c c' → a < a' ∧ c < c') (h : Runs g r S d) : Runs g r (Ch S) d := by
  intro a b c e hc ha hr
  obtain ⟨m, hm⟩ := hc
  induction m generalizing a c with
  | zero =>
    intro st la L lo bs hl hd hst
    obtain ⟨rfl, rfl⟩ : a = b ∧ c = e := hm
    exact Or.inl ⟨st, la, L, hst, star_0 _, star_0 _⟩
  | succ m ih =>
    intro st la L lo bs hl hd hst
    obtain ⟨a', c', h1, h2⟩ := hm
    have l2 := ChN_le hle _ _ _ _ _ h2
    exact (h _ _ _ _ h1 (by omega) (by omega) st la L lo bs hl hd hst).bind (fun st' la' L' h0 => ih a' c' h2 st' la' L' lo bs hl hd h0)
theorem fr_run {g : PG} {r : RC} {B : Nat → Nat → Nat → Nat → Prop} {d : Nat} (hle : ∀ a a' c c', B a a' c c' → a ≤ a' ∧ c ≤ c') (hB : Runs g r B d) : Runs g r (FrS g r B) (d + 1) := by
  intro a a' c c' hF ha hc st la L lo bs hl hd hst
  obtain ⟨k1, k2, k3, e, f, hb, rfl, rfl, g1, g2, g3, r1, r2, r3⟩ := hF
  have l1 := hle _ _ _ _ hb
  have loop : ∀ k q, q + k + 1 = g.2.2.1 a → ∀ st la L, st ≤ 300 → OutB g r (a + 1, false, st, la, L, q :: lo, []) (c + 2, false, st, la, L, (c, q) :: bs, []) (e + 1) (f + 1) lo bs := by
    intro k
    induction k with
    | zero =>
      intro q hq st la L h0
      refine (hB _ _ _ _ hb (by omega) (by omega) st la L (q :: lo) ((c, q) :: bs) (by show q = if r.2.1 c = 4 then q else rndR r.2.1 bs; rw [if_pos k2]) (by rw [List.length_cons]; omega) h0).bind (fun st' la' L' h1 => ?_)
      refine Or.inl ⟨st', la', L', h1, star_1 ?_ (star_0 _), star_1 ?_ (star_0 _)⟩
      · unfold stpC
        rw [if_neg (c_nn rfl (by show e < g.1; omega))]
        dsimp only
        rw [if_neg (by omega), if_neg (by omega), if_neg (by omega), if_neg (by omega), if_neg (by omega), if_pos g2, if_neg (fun z => z.elim (fun y => by contradiction) (fun y => y ⟨by omega, by rw [g3]; exact k1⟩)), if_pos (by rw [g3]; show g.2.2.1 a ≤ q + 1; omega)]
        rfl
      · unfold stpR
        rw [if_neg (r_nn rfl (by show f < r.1; omega))]
        dsimp only
        rw [if_neg (by omega), if_neg (by omega), if_neg (by omega), if_neg (by omega), if_neg (by omega), if_neg (by omega), if_pos r2, if_neg (fun z => by
          have y : q + 1 < r.2.2.1 (r.2.2.1 f) := z.2
          rw [r3, k3] at y
          omega)]
        rfl
    | succ k ih =>
      intro q hq st la L h0
      refine (hB _ _ _ _ hb (by omega) (by omega) st la L (q :: lo) ((c, q) :: bs) (by show q = if r.2.1 c = 4 then q else rndR r.2.1 bs; rw [if_pos k2]) (by rw [List.length_cons]; omega) h0).bind (fun st' la' L' h1 => ?_)
      have nC : ¬ (((e, false, st', la', L', q :: lo, []) : CC).2.1 = true ∨ g.1 ≤ ((e, false, st', la', L', q :: lo, []) : CC).1) := c_nn rfl (by show e < g.1; omega)
      have nR : ¬ (((f, false, st', la', L', (c, q) :: bs, []) : RR).2.1 = true ∨ r.1 ≤ ((f, false, st', la', L', (c, q) :: bs, []) : RR).1) := r_nn rfl (by show f < r.1; omega)
      by_cases h3 : st' < 300
      · refine OutB.pre (x' := (a + 1, false, st' + 1, la', L', (q + 1) :: lo, [])) (y' := (c + 2, false, st' + 1, la', L', (c, q + 1) :: bs, [])) (star_1 ?_ (star_0 _)) (star_1 ?_ (star_0 _)) (ih (q + 1) (by omega) (st' + 1) la' L' (by omega))
        · unfold stpC
          rw [if_neg nC]
          dsimp only
          rw [if_neg (by omega), if_neg (by omega), if_neg (by omega), if_neg (by omega), if_neg (by omega), if_pos g2, if_neg (fun z => z.elim (fun y => by contradiction) (fun y => y ⟨by omega, by rw [g3]; exact k1⟩)), if_neg (by rw [g3]; show ¬ g.2.2.1 a ≤ q + 1; omega), if_pos h3, g3]
          rfl
        · unfold stpR
          rw [if_neg nR]
          dsimp only
          rw [if_neg (by omega), if_neg (by omega), if_neg (by omega), if_neg (by omega), if_neg (by omega), if_neg (by omega), if_pos r2, if_pos (⟨by rw [r3]; exact k2, by show q + 1 < r.2.2.1 (r.2.2.1 f); rw [r3, k3]; omega⟩), if_pos h3, r3]
          rfl
      · refine Or.inr ⟨(a + 1, true, st', la', L', q :: lo, []), (c + 2, true, st', la', L', (c, q + 1) :: bs, []), star_1 ?_ (star_0 _), star_1 ?_ (star_0 _), rfl, rfl, rfl, rfl⟩
        · unfold stpC
          rw [if_neg nC]
          dsimp only
          rw [if_neg (by omega), if_neg (by omega), if_neg (by omega), if_neg (by omega), if_neg (by omega), if_pos g2, if_neg (fun z => z.elim (fun y => by contradiction) (fun y => y ⟨by omega, by rw [g3]; exact k1⟩)), if_neg (by rw [g3]; show ¬ g.2.2.1 a ≤ q + 1; omega), if_neg h3, g3]
        · unfold stpR
          rw [if_neg nR]
          dsimp only
          rw [if_neg (by omega), if_neg (by omega), if_neg (by omega), if_neg (by omega), if_neg (by omega), if_neg (by omega), if_pos r2, if_pos (⟨by rw [r3]; exact k2, by show q + 1 < r.2.2.1 (r.2.2.1 f); rw [r3, k3]; omega⟩), if_neg h3, r3]
          rfl
  have nC : ¬ (((a, false, st, la, L, lo, []) : CC).2.1 = true ∨ g.1 ≤ ((a, false, st, la, L, lo, []) : CC).1) := c_nn rfl (by show a < g.1; omega)
  have nR : ¬ (((c, false, st, la, L, bs, []) : RR).2.1 = true ∨ r.1 ≤ ((c, false, st, la, L, bs, []) : RR).1) := r_nn rfl (by show c < r.1; omega)
  by_cases h0 : g.2.2.1 a = 0
  · refine Or.inl ⟨st, la, L, hst, star_1 ?_ (star_0 _), star_1 ?_ (star_0 _)⟩
    · unfold stpC
      rw [if_neg nC]
      dsimp only
      rw [if_neg (by omega), if_neg (by omega), if_neg (by omega), if_neg (by omega), if_pos k1, if_pos h0, g1]
    · unfold stpR
      rw [if_neg nR]
      dsimp only
      rw [if_neg (by omega), if_neg (by omega), if_neg (by omega), if_neg (by omega), if_pos k2, if_pos (by omega), r1]
  · by_cases h3 : st < 300
    · refine OutB.pre (x' := (a + 1, false, st + 1, la, L, 0 :: lo, [])) (y' := (c + 2, false, st + 1, la, L, (c, 0) :: bs, [])) (star_1 ?_ (star_0 _)) (star_1 ?_ (star_0 _)) (loop (g.2.2.1 a - 1) 0 (by omega) (st + 1) la L (by omega))
      · unfold stpC
        rw [if_neg nC]
        dsimp only
        rw [if_neg (by omega), if_neg (by omega), if_neg (by omega), if_neg (by omega), if_pos k1, if_neg h0, if_pos (by omega), if_pos h3]
      · unfold stpR
        rw [if_neg nR]
        dsimp only
        rw [if_neg (by omega), if_neg (by omega), if_neg (by omega), if_neg (by omega), if_pos k2, if_neg (by omega), if_pos h3]
    · refine Or.inr ⟨(a + 1, true, st, la, L, lo, []), (c + 2, true, st, la, L, (c, 0) :: bs, []), star_1 ?_ (star_0 _), star_1 ?_ (star_0 _), rfl, rfl, rfl, rfl⟩
      · unfold stpC
        rw [if_neg nC]
        dsimp only
        rw [if_neg (by omega), if_neg (by omega), if_neg (by omega), if_neg (by omega), if_pos k1, if_neg h0, if_pos (by omega), if_neg h3]
      · unfold stpR
        rw [if_neg nR]
        dsimp only
        rw [if_neg (by omega), if_neg (by omega), if_neg (by omega), if_neg (by omega), if_pos k2, if_neg (by omega), if_neg h3]
theorem if_run {g : PG} {r : RC} {B : Nat → Nat → Nat → Nat → Prop} {d : Nat} (hle : ∀ a a' c c', B a a' c c' → a ≤ a' ∧ c ≤ c') (hB : Runs g r B d) : Runs g r (IfS g r B) (d + 1) := by
  intro a a' c c' hF ha hc st la L lo bs hl hd hst
  obtain ⟨n, hx, k1, k2, f, hb, rfl, g1, r1, r2, r3⟩ := hF
  have l1 := hle _ _ _ _ hb
  obtain ⟨os, ho, s1, s2⟩ := exp_run (st := st) (la := la) (L := L) hl n 1 hx (by omega) (by omega)
  have hos : os.tail = [] := List.eq_nil_of_length_eq_zero (by rw [List.length_tail]; omega)
  refine OutB.pre s1 s2 ?_
  have nC : ¬ (((a + n, false, st, la, L, lo, os) : CC).2.1 = true ∨ g.1 ≤ ((a + n, false, st, la, L, lo, os) : CC).1) := c_nn rfl (by show a + n < g.1; omega)
  have nR : ¬ (((c + n, false, st, la, L, bs, os) : RR).2.1 = true ∨ r.1 ≤ ((c + n, false, st, la, L, bs, os) : RR).1) := r_nn rfl (by show c + n < r.1; omega)
  by_cases h0 : 0 < os.headD 0
  · refine OutB.pre (x' := (a + n + 1, false, st, la, L, lo, [])) (y' := (c + n + 2, false, st, la, L, (c + n, 0) :: bs, [])) (star_1 ?_ (star_0 _)) (star_1 ?_ (star_0 _)) ?_
    · unfold stpC
      rw [if_neg nC]
      dsimp only
      rw [if_neg (by omega), if_neg (by omega), if_neg (by omega), if_pos k1, if_pos h0, hos]
    · unfold stpR
      rw [if_neg nR]
      dsimp only
      rw [if_neg (by omega), if_neg (by omega), if_neg (by omega), if_neg (by omega), if_neg (by omega), if_pos k2, if_pos h0, hos]
    · refine (hB _ _ _ _ hb (by omega) (by omega) st la L lo ((c + n, 0) :: bs) (by show lo.headD 0 = if r.2.1 (c + n) = 4 then 0 else rndR r.2.1 bs; rw [if_neg (by omega)]; exact hl) (by omega) hst).bind (fun st' la' L' h1 => ?_)
      refine Or.inl ⟨st', la', L', h1, star_0 _, star_1 ?_ (star_0 _)⟩
      unfold stpR
      rw [if_neg (r_nn rfl (by show f < r.1; omega))]
      dsimp only
      rw [if_neg (by omega), if_neg (by omega), if_neg (by omega), if_neg (by omega), if_neg (by omega), if_neg (by omega), if_pos r2, if_neg (fun z => by
        have y := z.1
        rw [r3, k2] at y
        contradiction)]
      rfl
  · refine Or.inl ⟨st, la, L, hst, star_1 ?_ (star_0 _), star_1 ?_ (star_0 _)⟩
    · unfold stpC
      rw [if_neg nC]
      dsimp only
      rw [if_neg (by omega), if_neg (by omega), if_neg (by omega), if_pos k1, if_neg h0, hos, g1]
    · unfold stpR
      rw [if_neg nR]
      dsimp only
      rw [if_neg (by omega), if_neg (by omega), if_neg (by omega), if_neg (by omega), if_neg (by omega), if_pos k2, if_neg h0, hos, r1]
theorem Ch_le {g : PG} {r : RC} {d a b c e : Nat} (h : Ch (StD g r d) a b c e) : a ≤ b ∧ c ≤ e := by
  obtain ⟨m, hm⟩ := h
  exact ChN_le (StD_le d) _ _ _ _ _ hm
theorem st_run {g : PG} {r : RC} : ∀ d, Runs g r (StD g r d) d := by
  intro d
  induction d with
  | zero => intro a a' c c' h ha hc st la L lo bs hl hd hst; exact smp_run h ha hc hl hst
  | succ d ih =>
    intro a a' c c' h ha hc st la L lo bs hl hd hst
    rcases h with h | h | h
    · exact smp_run h ha hc hl hst
    · exact fr_run (fun _ _ _ _ z => Ch_le z) (ch_run (StD_le d) ih) _ _ _ _ h ha hc st la L lo bs hl hd hst
    · exact if_run (fun _ _ _ _ z => Ch_le z) (ch_run (StD_le d) ih) _ _ _ _ h ha hc st la L lo bs hl hd hst
/-- both machines from the start to the end: the same steps, the same table -/
theorem run_same {g : PG} {r : RC} (h : Ch (StD g r 5) 0 g.1 0 r.1) {L : List (Nat × Int32)} {u : CC} {v : RR} (hu : star (stpC g) (0, false, 0, 0, L, [], []) u) (hv : star (stpR r) (0, false, 0, 0, L, [], []) v) (eu : stpC g u = none) (ev : stpR r v = none) : u.2.2.1 = v.2.2.1 ∧ u.2.2.2.2.1 = v.2.2.2.2.1 := by
  have hr := ch_run (StD_le 5) (st_run 5) _ _ _ _ h (Nat.le_refl _) (Nat.le_refl _) 0 0 L [] [] rfl (by decide) (by decide)
  rcases hr with ⟨st, la, L', _, s1, s2⟩ | ⟨x, y, s1, s2, b1, b2, b3, b4⟩
  · have e1 := star_end hu s1 eu (by unfold stpC; exact if_pos (Or.inr (Nat.le_refl _)))
    have e2 := star_end hv s2 ev (by unfold stpR; exact if_pos (Or.inr (Nat.le_refl _)))
    rw [e1, e2]
    exact ⟨rfl, rfl⟩
  · have e1 := star_end hu s1 eu (by unfold stpC; exact if_pos (Or.inl b1))
    have e2 := star_end hv s2 ev (by unfold stpR; exact if_pos (Or.inl b2))
    rw [e1, e2]
    exact ⟨b3, b4⟩
/-! rows that stay as they are, from lo on -/
def AgC (g g' : PG) (lo N : Nat) : Prop := ∀ i, lo ≤ i → i < N → g'.2.1 i = g.2.1 i ∧ g'.2.2.1 i = g.2.2.1 i ∧ g'.2.2.2 i = g.2.2.2 i
def AgR (r r' : RC) (lo M : Nat) : Prop := ∀ i, lo ≤ i → i < M → r'.2.1 i = r.2.1 i ∧ r'.2.2.1 i = r.2.2.1 i
theorem AgC.le {g g' : PG} {lo N K : Nat} (h : AgC g g' lo N) (hk : K ≤ N) : AgC g g' lo K := fun i h0 hi => h i h0 (by omega)
theorem AgR.le {r r' : RC} {lo N K : Nat} (h : AgR r r' lo N) (hk : K ≤ N) : AgR r r' lo K := fun i h0 hi => h i h0 (by omega)
theorem AgC.rf (g : PG) (lo N : Nat) : AgC g g lo N := fun _ _ _ => ⟨rfl, rfl, rfl⟩
theorem AgR.rf (r : RC) (lo N : Nat) : AgR r r lo N := fun _ _ _ => ⟨rfl, rfl⟩
theorem AgC.tr {g g' g'' : PG} {lo N : Nat} (h1 : AgC g g' lo N) (h2 : AgC g' g'' lo N) : AgC g g'' lo N := fun i h0 hi => ⟨(h2 i h0 hi).1.trans (h1 i h0 hi).1, (h2 i h0 hi).2.1.trans (h1 i h0 hi).2.1, (h2 i h0 hi).2.2.trans (h1 i h0 hi).2.2⟩
theorem AgR.tr {r r' r'' : RC} {lo N : Nat} (h1 : AgR r r' lo N) (h2 : AgR r' r'' lo N) : AgR r r'' lo N := fun i h0 hi => ⟨(h2 i h0 hi).1.trans (h1 i h0 hi).1, (h2 i h0 hi).2.trans (h1 i h0 hi).2⟩
theorem updN_n {f : Nat → Nat} {k v j : Nat} (h : j ≠ k) : updN f k v j = f j := if_neg h
theorem updN_s (f : Nat → Nat) (k v : Nat) : updN f k v k = v := if_pos rfl
theorem AgC_add (g : PG) (k n lo : Nat) : AgC g (addP g k n) lo g.1 := fun i _ hi => ⟨updN_n (by omega), updN_n (by omega), updN_n (by omega)⟩
theorem AgR_em (r : RC) (k v lo : Nat) : AgR r (emR r k v) lo r.1 := fun i _ hi => ⟨updN_n (by omega), updN_n (by omega)⟩
theorem XRw.ag {g g' : PG} {r r' : RC} {lo lr i k : Nat} (h : XRw g r i k) (h1 : AgC g g' lo (i + 1)) (h2 : AgR r r' lr (k + 1)) (l1 : lo ≤ i) (l2 : lr ≤ k) : XRw g' r' i k := by
  obtain ⟨a1, a2, _⟩ := h1 i l1 (by omega)
  obtain ⟨b1, b2⟩ := h2 k l2 (by omega)
  unfold XRw
  rw [a1, a2, b1, b2]
  exact h
theorem ExH.ag {g g' : PG} {r r' : RC} {lo lr a c : Nat} (l1 : lo ≤ a) (l2 : lr ≤ c) : ∀ n h, ExH g r a c n h → AgC g g' lo (a + n) → AgR r r' lr (c + n) → ExH g' r' a c n h := by
  intro n
  induction n with
  | zero => intro h hx _ _; exact hx
  | succ n ih =>
    intro h hx h1 h2
    obtain ⟨q, e1, e2, e3⟩ := hx
    refine ⟨q, ih q e1 (h1.le (by omega)) (h2.le (by omega)), e2.ag (h1.le (by omega)) (h2.le (by omega)) (by omega) (by omega), ?_⟩
    rw [(h1 (a + n) (by omega) (by omega)).1]
    exact e3
theorem Smp.ag {g g' : PG} {r r' : RC} {lo lr a a' c c' : Nat} (h : Smp g r a a' c c') (l1 : lo ≤ a) (l2 : lr ≤ c) (h1 : AgC g g' lo a') (h2 : AgR r r' lr c') : Smp g' r' a a' c c' := by
  obtain ⟨n, q, hx, e1, e2, hk⟩ := h
  refine ⟨n, q, ExH.ag l1 l2 _ _ hx (h1.le (by omega)) (h2.le (by omega)), e1, e2, ?_⟩
  rw [(h1 (a + n) (by omega) (by omega)).1, (h2 (c + n) (by omega) (by omega)).1]
  exact hk
theorem ChN_ag {S T : Nat → Nat → Nat → Nat → Prop} {lo lr N M : Nat} (hle : ∀ a a' c c', S a a' c c' → a < a' ∧ c < c') (hS : ∀ a a' c c', S a a' c c' → lo ≤ a → lr ≤ c → a' ≤ N → c' ≤ M → T a a' c c') : ∀ m a b c e, ChN S m a b c e → lo ≤ a → lr ≤ c → b ≤ N → e ≤ M → ChN T m a b c e := by
  intro m
  induction m with
  | zero => intro a b c e h _ _ _ _; exact h
  | succ m ih =>
    intro a b c e h l1 l2 hb he
    obtain ⟨a', c', h1, h2⟩ := h
    have q := ChN_le hle _ _ _ _ _ h2
    have q2 := hle _ _ _ _ h1
    exact ⟨a', c', hS _ _ _ _ h1 l1 l2 (by omega) (by omega), ih _ _ _ _ h2 (by omega) (by omega) hb he⟩
theorem StD.ag {g g' : PG} {r r' : RC} {lo lr N M : Nat} (h1 : AgC g g' lo N) (h2 : AgR r r' lr M) : ∀ d a a' c c', StD g r d a a' c c' → lo ≤ a → lr ≤ c → a' ≤ N → c' ≤ M → StD g' r' d a a' c c' := by
  intro d
  induction d with
  | zero => intro a a' c c' h l1 l2 ha hc; exact Smp.ag h l1 l2 (h1.le ha) (h2.le hc)
  | succ d ih =>
    intro a a' c c' h l1 l2 ha hc
    rcases h with h | ⟨k1, k2, k3, e, f, ⟨m, hb⟩, e1, e2, g1, g2, g3, r1, r2, r3⟩ | ⟨n, hx, k1, k2, f, ⟨m, hb⟩, e2, g1, r1, r2, r3⟩
    · exact Or.inl (h.ag l1 l2 (h1.le ha) (h2.le hc))
    · have l := ChN_le (StD_le d) _ _ _ _ _ hb
      refine Or.inr (Or.inl ⟨?_, ?_, ?_, e, f, ⟨m, ChN_ag (StD_le d) ih _ _ _ _ _ hb (by omega) (by omega) (by omega) (by omega)⟩, e1, e2, ?_, ?_, ?_, ?_, ?_, ?_⟩)
      · rw [(h1 a (by omega) (by omega)).1]; exact k1
      · rw [(h2 c (by omega) (by omega)).1]; exact k2
      · rw [(h2 c (by omega) (by omega)).2, (h1 a (by omega) (by omega)).2.1]; exact k3
      · rw [(h1 a (by omega) (by omega)).2.2]; exact g1
      · rw [(h1 e (by omega) (by omega)).1]; exact g2
      · rw [(h1 e (by omega) (by omega)).2.2]; exact g3
      · rw [(h2 (c + 1) (by omega) (by omega)).2]; exact r1
      · rw [(h2 f (by omega) (by omega)).1]; exact r2
      · rw [(h2 f (by omega) (by omega)).2]; exact r3
    · have l := ChN_le (StD_le d) _ _ _ _ _ hb
      refine Or.inr (Or.inr ⟨n, ExH.ag l1 l2 _ _ hx (h1.le (by omega)) (h2.le (by omega)), ?_, ?_, f, ⟨m, ChN_ag (StD_le d) ih _ _ _ _ _ hb (by omega) (by omega) (by omega) (by omega)⟩, e2, ?_, ?_, ?_, ?_⟩)
      · rw [(h1 (a + n) (by omega) (by omega)).1]; exact k1
      · rw [(h2 (c + n) (by omega) (by omega)).1]; exact k2
      · rw [(h1 (a + n) (by omega) (by omega)).2.2]; exact g1
      · rw [(h2 (c + n + 1) (by omega) (by omega)).2]; exact r1
      · rw [(h2 f (by omega) (by omega)).1]; exact r2
      · rw [(h2 f (by omega) (by omega)).2]; exact r3
theorem Ch.ag {g g' : PG} {r r' : RC} {lo lr d a b c e : Nat} (h : Ch (StD g r d) a b c e) (l1 : lo ≤ a) (l2 : lr ≤ c) (h1 : AgC g g' lo b) (h2 : AgR r r' lr e) : Ch (StD g' r' d) a b c e := by
  obtain ⟨m, hm⟩ := h
  exact ⟨m, ChN_ag (StD_le d) (StD.ag h1 h2 d) _ _ _ _ _ hm l1 l2 (Nat.le_refl _) (Nat.le_refl _)⟩
theorem ChN_app {S : Nat → Nat → Nat → Nat → Prop} : ∀ m a b c e b' e', ChN S m a b c e → S b b' e e' → ChN S (m + 1) a b' c e' := by
  intro m
  induction m with
  | zero =>
    intro a b c e b' e' h hs
    obtain ⟨rfl, rfl⟩ : a = b ∧ c = e := h
    exact ⟨b', e', hs, rfl, rfl⟩
  | succ m ih =>
    intro a b c e b' e' h hs
    obtain ⟨a', c', h1, h2⟩ := h
    exact ⟨a', c', h1, ih _ _ _ _ _ _ h2 hs⟩
theorem Ch.app {S : Nat → Nat → Nat → Nat → Prop} {a b c e b' e' : Nat} (h : Ch S a b c e) (hs : S b b' e e') : Ch S a b' c e' := by
  obtain ⟨m, hm⟩ := h
  exact ⟨m + 1, ChN_app _ _ _ _ _ _ _ hm hs⟩
theorem Smp.st {g : PG} {r : RC} {a a' c c' : Nat} (h : Smp g r a a' c c') : ∀ d, StD g r d a a' c c'
  | 0 => h
  | _ + 1 => Or.inl h
/-! signs that wait -/
def sgN (wN : Nat → Nat) : Nat → Nat
  | 0 => 0
  | n + 1 => sgN wN n + (if wN n = 40 then 0 else 1)
def tpS (wN : Nat → Nat) : Nat → Nat
  | 0 => 0
  | n + 1 => strN (wN n)
def WOk (wN : Nat → Nat) (w nn : Nat) : Prop := (∀ j, j < w → isSg (wN j)) ∧ nn = brN wN w ∧ nn ≤ 8 ∧ ∀ q, q ≤ w → sgN wN q ≤ 2 * brN wN q + tpS wN q
theorem strN_2 (k : Nat) : strN k ≤ 2 := by
  unfold strN
  split
  · decide
  · split <;> decide
theorem tpS_2 (wN : Nat → Nat) : ∀ w, tpS wN w ≤ 2
  | 0 => Nat.zero_le _
  | w + 1 => strN_2 _
theorem sgN_c {f g : Nat → Nat} : ∀ {n}, (∀ j, j < n → f j = g j) → sgN f n = sgN g n := by
  intro n
  induction n with
  | zero => intro _; rfl
  | succ n ih =>
    intro h
    show sgN f n + (if f n = 40 then 0 else 1) = sgN g n + (if g n = 40 then 0 else 1)
    rw [ih (fun j hj => h j (by omega)), h n (by omega)]
theorem tpS_c {f g : Nat → Nat} : ∀ {n}, (∀ j, j < n → f j = g j) → tpS f n = tpS g n := by
  intro n h
  cases n with
  | zero => rfl
  | succ n =>
    show strN (f n) = strN (g n)
    rw [h n (by omega)]
theorem WOk.psh {wN : Nat → Nat} {w nn k : Nat} (h : WOk wN w nn) {w' : Nat} (hw : w' ≤ w) (hk : isSg k) (hb : brN wN w' = nn) (ht : k = 40 ∨ tpS wN w' < strN k) {nn' : Nat} (hn : nn' = nn + (if k = 40 then 1 else 0)) (hn8 : nn' ≤ 8) : WOk (updN wN w' k) (w' + 1) nn' := by
  obtain ⟨h1, h2, h3, h4⟩ := h
  have cg : ∀ q, q ≤ w' → ∀ j, j < q → updN wN w' k j = wN j := fun q hq j hj => updN_n (by omega)
  refine ⟨fun j hj => ?_, ?_, hn8, fun q hq => ?_⟩
  · by_cases e : j = w'
    · subst e
      rw [updN_s]
      exact hk
    · rw [updN_n e]
      exact h1 j (by omega)
  · show nn' = brN (updN wN w' k) w' + (if updN wN w' k w' = 40 then 1 else 0)
    rw [brN_c (cg w' (Nat.le_refl _)), updN_s, hb, hn]
  · by_cases e : q = w' + 1
    · subst e
      show sgN (updN wN w' k) w' + (if updN wN w' k w' = 40 then 0 else 1) ≤ 2 * (brN (updN wN w' k) w' + (if updN wN w' k w' = 40 then 1 else 0)) + strN (updN wN w' k w')
      rw [sgN_c (cg w' (Nat.le_refl _)), brN_c (cg w' (Nat.le_refl _)), updN_s]
      have a := h4 w' hw
      have b := tpS_2 wN w'
      rcases ht with rfl | ht
      · rw [if_pos rfl, if_pos rfl]
        omega
      · rw [if_neg (fun z => by rw [z, str40] at ht; omega), if_neg (fun z => by rw [z, str40] at ht; omega)]
        omega
    · rw [sgN_c (cg q (by omega)), brN_c (cg q (by omega)), tpS_c (cg q (by omega))]
      exact h4 q (by omega)
theorem WOk.rel {wN : Nat → Nat} {w nn le : Nat} (h : WOk wN w nn) (hle : 1 ≤ le) : WOk wN (relW le wN w) nn ∧ tpS wN (relW le wN w) < le := by
  have hl := relW_le le wN w
  obtain ⟨h1, h2, h3, h4⟩ := h
  refine ⟨⟨fun j hj => h1 j (by omega), by rw [h2]; exact relW_br le wN hle w, h3, fun q hq => h4 q (by omega)⟩, ?_⟩
  cases e : relW le wN w with
  | zero => show 0 < le; omega
  | succ x =>
    have t := relW_top (le := le) (wN := wN) (w := w) (by omega)
    rw [e, Nat.add_sub_cancel] at t
    show strN (wN x) < le
    omega
theorem WOk.le {wN : Nat → Nat} {w nn : Nat} (h : WOk wN w nn) : sgN wN w ≤ 18 := by
  obtain ⟨h1, h2, h3, h4⟩ := h
  have a := h4 w (Nat.le_refl _)
  have b := tpS_2 wN w
  omega
theorem relW_0 {wN : Nat → Nat} : ∀ {w}, (∀ j, j < w → isSg (wN j)) → brN wN w = 0 → relW 1 wN w = 0 := by
  intro w
  induction w with
  | zero => intro _ _; rfl
  | succ w ih =>
    intro h1 h2
    have h2 : brN wN w + (if wN w = 40 then 1 else 0) = 0 := h2
    show (if 1 ≤ strN (wN w) then relW 1 wN w else w + 1) = 0
    by_cases e : wN w = 40
    · rw [if_pos e] at h2
      omega
    · rw [if_pos (Decidable.byContradiction (fun z => e (isSg_0 (h1 w (by omega)) z)))]
      exact ih (fun j hj => h1 j (by omega)) (by omega)
/-- signs are worked: the statement's rows grow -/
theorem rel_ex {a c base : Nat} {wN : Nat → Nat} {le : Nat} (hle : 1 ≤ le) : ∀ w (g : PG) (r : RC) n, (∀ j, j < w → isSg (wN j)) → ExH g r a c n (base + sgN wN w + 1) → g.1 = a + n → r.1 = c + n → ∃ n', n ≤ n' ∧ (relP le wN w g).2.1 = a + n' ∧ (relR le wN w r).1 = c + n' ∧ ExH (relP le wN w g).2 (relR le wN w r) a c n' (base + sgN wN (relW le wN w) + 1) ∧ AgC g (relP le wN w g).2 0 g.1 ∧ AgR r (relR le wN w r) 0 r.1 := by
  intro w
  induction w with
  | zero => intro g r n _ hx h1 h2; exact ⟨n, Nat.le_refl _, h1, h2, hx, AgC.rf _ _ _, AgR.rf _ _ _⟩
  | succ w ih =>
    intro g r n hs hx h1 h2
    show ∃ n', n ≤ n' ∧ (if le ≤ strN (wN w) then relP le wN w (addP g (wN w) 0) else (w + 1, g)).2.1 = a + n' ∧ (if le ≤ strN (wN w) then relR le wN w (emR r (pkN (wN w)) 0) else r).1 = c + n' ∧ ExH (if le ≤ strN (wN w) then relP le wN w (addP g (wN w) 0) else (w + 1, g)).2 (if le ≤ strN (wN w) then relR le wN w (emR r (pkN (wN w)) 0) else r) a c n' (base + sgN wN (if le ≤ strN (wN w) then relW le wN w else w + 1) + 1) ∧ AgC g (if le ≤ strN (wN w) then relP le wN w (addP g (wN w) 0) else (w + 1, g)).2 0 g.1 ∧ AgR r (if le ≤ strN (wN w) then relR le wN w (emR r (pkN (wN w)) 0) else r) 0 r.1
    by_cases h : le ≤ strN (wN w)
    · rw [if_pos h, if_pos h, if_pos h]
      have h40 : ¬ wN w = 40 := fun z => by rw [z, str40] at h; omega
      have hsg : sgN wN (w + 1) = sgN wN w + 1 := by
        show sgN wN w + (if wN w = 40 then 0 else 1) = _
        rw [if_neg h40]
      have hk := hs w (by omega)
      have a1 := AgC_add g (wN w) 0 0
      have a2 := AgR_em r (pkN (wN w)) 0 0
      have e1 : (addP g (wN w) 0).2.1 (a + n) = wN w := by rw [← h1]; exact updN_s _ _ _
      have e2 : (emR r (pkN (wN w)) 0).2.1 (c + n) = pkN (wN w) := by rw [← h2]; exact updN_s _ _ _
      obtain ⟨n', b1, b2, b3, b4, b5, b6⟩ := ih (addP g (wN w) 0) (emR r (pkN (wN w)) 0) (n + 1) (fun j hj => hs j (by omega)) ⟨base + sgN wN (w + 1) + 1, ExH.ag (Nat.zero_le _) (Nat.zero_le _) _ _ hx (a1.le (by omega)) (a2.le (by omega)), Or.inr (Or.inr (Or.inr ⟨by rw [e1]; unfold isSg at hk; omega, by rw [e1, e2]⟩)), Or.inr ⟨by rw [e1]; unfold isSg at hk; omega, by omega, by omega⟩⟩ (by show g.1 + 1 = _; omega) (by show r.1 + 1 = _; omega)
      exact ⟨n', by omega, b2, b3, b4, a1.tr (b5.le (by show g.1 ≤ g.1 + 1; omega)), a2.tr (b6.le (by show r.1 ≤ r.1 + 1; omega))⟩
    · rw [if_neg h, if_neg h, if_neg h]
      exact ⟨n, Nat.le_refl _, h1, h2, hx, AgC.rf _ _ _, AgR.rf _ _ _⟩
/-! what has been read is such a program -/
def Aq (o : Nat → Nat) : Nat → Nat
  | 0 => 0
  | j + 1 => o j + 1
def Cq (o : Nat → Nat) : Nat → Nat
  | 0 => 0
  | j + 1 => o j + 2
theorem Aq_c {o o' : Nat → Nat} : ∀ {j}, (∀ i, i < j → o' i = o i) → Aq o' j = Aq o j := by
  intro j h
  cases j with
  | zero => rfl
  | succ j => show o' j + 1 = o j + 1; rw [h j (by omega)]
theorem Cq_c {o o' : Nat → Nat} : ∀ {j}, (∀ i, i < j → o' i = o i) → Cq o' j = Cq o j := by
  intro j h
  cases j with
  | zero => rfl
  | succ j => show o' j + 2 = o j + 2; rw [h j (by omega)]
/-- an open block: what is ahead of it in its block, its head -/
def Lv (g : PG) (r : RC) (oN ro ha hc : Nat → Nat) (j : Nat) : Prop := Ch (StD g r (5 - j)) (Aq oN j) (ha j) (Cq ro j) (hc j) ∧ ((ha j = oN j ∧ hc j = ro j ∧ g.2.1 (oN j) = 8 ∧ r.2.1 (ro j) = 4 ∧ r.2.2.1 (ro j) = g.2.2.1 (oN j)) ∨ (∃ n, oN j = ha j + n ∧ ro j = hc j + n ∧ ExH g r (ha j) (hc j) n 1 ∧ g.2.1 (oN j) = 9 ∧ r.2.1 (ro j) = 5))
theorem Lv.ag {g g' : PG} {r r' : RC} {oN ro ha hc : Nat → Nat} {j : Nat} (h : Lv g r oN ro ha hc j) (h1 : AgC g g' 0 (oN j + 1)) (h2 : AgR r r' 0 (ro j + 1)) : Lv g' r' oN ro ha hc j := by
  obtain ⟨a, b⟩ := h
  rcases b with ⟨b1, b2, b3, b4, b5⟩ | ⟨n, b1, b2, b3, b4, b5⟩
  · refine ⟨a.ag (Nat.zero_le _) (Nat.zero_le _) (h1.le (by omega)) (h2.le (by omega)), Or.inl ⟨b1, b2, ?_, ?_, ?_⟩⟩
    · rw [(h1 _ (Nat.zero_le _) (by omega)).1]; exact b3
    · rw [(h2 _ (Nat.zero_le _) (by omega)).1]; exact b4
    · rw [(h2 _ (Nat.zero_le _) (by omega)).2, (h1 _ (Nat.zero_le _) (by omega)).2.1]; exact b5
  · refine ⟨a.ag (Nat.zero_le _) (Nat.zero_le _) (h1.le (by omega)) (h2.le (by omega)), Or.inr ⟨n, b1, b2, ExH.ag (Nat.zero_le _) (Nat.zero_le _) _ _ b3 (h1.le (by omega)) (h2.le (by omega)), ?_, ?_⟩⟩
    · rw [(h1 _ (Nat.zero_le _) (by omega)).1]; exact b4
    · rw [(h2 _ (Nat.zero_le _) (by omega)).1]; exact b5
theorem Lv.o {g : PG} {r : RC} {oN ro ha hc oN' ro' ha' hc' : Nat → Nat} {j : Nat} (h : Lv g r oN ro ha hc j) (h1 : ∀ i, i ≤ j → oN' i = oN i) (h2 : ∀ i, i ≤ j → ro' i = ro i) (h3 : ha' j = ha j) (h4 : hc' j = hc j) : Lv g r oN' ro' ha' hc' j := by
  unfold Lv
  rw [Aq_c (fun i hi => h1 i (by omega)), Cq_c (fun i hi => h2 i (by omega)), h1 j (Nat.le_refl _), h2 j (Nat.le_refl _), h3, h4]
  exact h
def bsN (t : Nat) : Nat := if t = 4 then 1 else 0
/-- the statement that is read now: it began at a, c -/
def Cur (s : SM) (r : RC) (a c : Nat) : Prop :=
  ((s.1 = 0 ∨ s.1 = 3 ∨ s.1 = 4 ∨ s.1 = 5 ∨ s.1 = 6) ∧ a = s.2.2.2.2.2.2.2.2.1 ∧ c = r.1 ∧ s.2.2.2.2.2.2.1 = 0 ∧ s.2.2.2.1 = 0) ∨
  ((s.1 = 1 ∨ s.1 = 2) ∧ (s.2.1 = 3 ∨ s.2.1 = 4 ∨ s.2.1 = 5 ∨ s.2.1 = 6 ∨ s.2.1 = 7 ∨ s.2.1 = 9) ∧ WOk s.2.2.2.2.2.2.2.1 s.2.2.2.2.2.2.1 s.2.2.2.1 ∧ ∃ n, s.2.2.2.2.2.2.2.2.1 = a + n ∧ r.1 = c + n ∧ ExH s.2.2.2.2.2.2.2.2 r a c n (bsN s.2.1 + sgN s.2.2.2.2.2.2.2.1 s.2.2.2.2.2.2.1 + (if s.1 = 2 then 1 else 0)))
def Blk (g : PG) (r : RC) (bk : Nat) (oN ro ha hc : Nat → Nat) (a c : Nat) : Prop := bk ≤ 5 ∧ (∀ j, j < bk → Lv g r oN ro ha hc j) ∧ (∀ i j, i < j → j < bk → oN i < ha j ∧ ro i + 1 < hc j) ∧ (∀ i, i < bk → oN i < a ∧ ro i + 1 < c) ∧ Ch (StD g r (5 - bk)) (Aq oN bk) a (Cq ro bk) c
def INV (s : SM) (r : RC) : Prop := ¬ Doom s ∧ ∃ ha hc a c, a ≤ s.2.2.2.2.2.2.2.2.1 ∧ c ≤ r.1 ∧ Blk s.2.2.2.2.2.2.2.2 r s.2.2.2.2.1 s.2.2.2.2.2.1 r.2.2.2 ha hc a c ∧ Cur s r a c
theorem Blk.ag {g g' : PG} {r r' : RC} {bk : Nat} {oN ro ha hc : Nat → Nat} {a c : Nat} (h : Blk g r bk oN ro ha hc a c) (h1 : AgC g g' 0 a) (h2 : AgR r r' 0 c) : Blk g' r' bk oN ro ha hc a c := by
  obtain ⟨b0, b1, b2, b3, b4⟩ := h
  exact ⟨b0, fun j hj => (b1 j hj).ag (h1.le (b3 j hj).1) (h2.le (by have := (b3 j hj).2; omega)), b2, b3, b4.ag (Nat.zero_le _) (Nat.zero_le _) h1 h2⟩
theorem INV_0 : INV sm0 rc0 := ⟨nDoom (Or.inr (Or.inl rfl)), fun _ => 0, fun _ => 0, 0, 0, Nat.le_refl _, Nat.le_refl _, ⟨Nat.zero_le _, fun j hj => absurd hj (Nat.not_lt_zero _), fun i j _ hj => absurd hj (Nat.not_lt_zero _), fun i hi => absurd hi (Nat.not_lt_zero _), 0, rfl, rfl⟩, Or.inl ⟨Or.inl rfl, rfl, rfl, rfl, rfl⟩⟩
theorem Cur.at {s : SM} {r : RC} {a c : Nat} (h : Cur s r a c) (h1 : s.1 = 0 ∨ s.1 = 3 ∨ s.1 = 4 ∨ s.1 = 5) : a = s.2.2.2.2.2.2.2.2.1 ∧ c = r.1 ∧ s.2.2.2.2.2.2.1 = 0 ∧ s.2.2.2.1 = 0 := by
  rcases h with ⟨_, h⟩ | ⟨h, _⟩
  · exact h
  · omega
theorem Cur.in {s : SM} {r : RC} {a c : Nat} (h : Cur s r a c) (h1 : s.1 = 1 ∨ s.1 = 2) : (s.2.1 = 3 ∨ s.2.1 = 4 ∨ s.2.1 = 5 ∨ s.2.1 = 6 ∨ s.2.1 = 7 ∨ s.2.1 = 9) ∧ WOk s.2.2.2.2.2.2.2.1 s.2.2.2.2.2.2.1 s.2.2.2.1 ∧ ∃ n, s.2.2.2.2.2.2.2.2.1 = a + n ∧ r.1 = c + n ∧ ExH s.2.2.2.2.2.2.2.2 r a c n (bsN s.2.1 + sgN s.2.2.2.2.2.2.2.1 s.2.2.2.2.2.2.1 + (if s.1 = 2 then 1 else 0)) := by
  rcases h with ⟨h, _⟩ | ⟨_, h⟩
  · omega
  · exact h
/-- a block is opened: its head's row is g's last, its statement began at a, c -/
theorem Blk.opn {g g' : PG} {r r' : RC} {bk : Nat} {oN ro ha hc : Nat → Nat} {a c n : Nat} (h : Blk g r bk oN ro ha hc a c) (h1 : AgC g g' 0 g.1) (h2 : AgR r r' 0 r.1) (hg : g.1 = a + n) (hr : r.1 = c + n) (hb : bk < 5) (hd : (n = 0 ∧ g'.2.1 g.1 = 8 ∧ r'.2.1 r.1 = 4 ∧ r'.2.2.1 r.1 = g'.2.2.1 g.1) ∨ (ExH g r a c n 1 ∧ g'.2.1 g.1 = 9 ∧ r'.2.1 r.1 = 5)) : Blk g' r' (bk + 1) (updN oN bk g.1) (updN ro bk r.1) (updN ha bk a) (updN hc bk c) (g.1 + 1) (r.1 + 2) := by
  obtain ⟨b0, b1, b2, b3, b4⟩ := h
  refine ⟨by omega, fun j hj => ?_, fun i j hij hj => ?_, fun i hi => ?_, ⟨0, ?_, ?_⟩⟩
  · by_cases e : j = bk
    · subst e
      unfold Lv
      rw [Aq_c (o := oN) (fun i hi => updN_n (by omega)), Cq_c (o := ro) (fun i hi => updN_n (by omega)), updN_s, updN_s, updN_s, updN_s]
      refine ⟨b4.ag (Nat.zero_le _) (Nat.zero_le _) (h1.le (by omega)) (h2.le (by omega)), ?_⟩
      rcases hd with ⟨d1, d2, d3, d4⟩ | ⟨d1, d2, d3⟩
      · exact Or.inl ⟨by omega, by omega, d2, d3, d4⟩
      · exact Or.inr ⟨n, by omega, by omega, ExH.ag (Nat.zero_le _) (Nat.zero_le _) _ _ d1 (h1.le (by omega)) (h2.le (by omega)), d2, d3⟩
    · have q := b3 j (by omega)
      exact ((b1 j (by omega)).ag (h1.le (by omega)) (h2.le (by omega))).o (fun i hi => updN_n (by omega)) (fun i hi => updN_n (by omega)) (updN_n e) (updN_n e)
  · rw [updN_n (show i ≠ bk by omega), updN_n (show i ≠ bk by omega)]
    by_cases e : j = bk
    · subst e
      rw [updN_s, updN_s]
      exact b3 i hij
    · rw [updN_n e, updN_n e]
      exact b2 i j hij (by omega)
  · by_cases e : i = bk
    · subst e
      rw [updN_s, updN_s]
      omega
    · rw [updN_n e, updN_n e]
      have := b3 i (by omega)
      omega
  · show updN oN bk g.1 bk + 1 = g.1 + 1
    rw [updN_s]
  · show updN ro bk r.1 bk + 2 = r.1 + 2
    rw [updN_s]
theorem clsP_ag {g : PG} {f i : Nat} (h1 : i ≠ f) (h2 : i < g.1) : (clsP g f).2.1 i = g.2.1 i ∧ (clsP g f).2.2.1 i = g.2.2.1 i ∧ (clsP g f).2.2.2 i = g.2.2.2 i := by
  unfold clsP
  split
  · show updN g.2.1 g.1 93 i = g.2.1 i ∧ updN g.2.2.1 g.1 0 i = g.2.2.1 i ∧ updN (updN (updN g.2.2.2 f g.1) g.1 0) g.1 f i = g.2.2.2 i
    rw [updN_n (by omega), updN_n (by omega), updN_n (by omega), updN_n (by omega), updN_n h1]
    exact ⟨rfl, rfl, rfl⟩
  · show g.2.1 i = g.2.1 i ∧ g.2.2.1 i = g.2.2.1 i ∧ updN g.2.2.2 f g.1 i = g.2.2.2 i
    rw [updN_n h1]
    exact ⟨rfl, rfl, rfl⟩
theorem clsP_8 {g : PG} {f : Nat} (h : g.2.1 f = 8) (hf : f < g.1) : (clsP g f).1 = g.1 + 1 ∧ (clsP g f).2.1 f = 8 ∧ (clsP g f).2.2.1 f = g.2.2.1 f ∧ (clsP g f).2.2.2 f = g.1 ∧ (clsP g f).2.1 g.1 = 93 ∧ (clsP g f).2.2.2 g.1 = f := by
  unfold clsP
  rw [if_pos h]
  show g.1 + 1 = g.1 + 1 ∧ updN g.2.1 g.1 93 f = 8 ∧ updN g.2.2.1 g.1 0 f = g.2.2.1 f ∧ updN (updN (updN g.2.2.2 f g.1) g.1 0) g.1 f f = g.1 ∧ updN g.2.1 g.1 93 g.1 = 93 ∧ updN (updN (updN g.2.2.2 f g.1) g.1 0) g.1 f g.1 = f
  rw [updN_n (by omega), updN_n (by omega), updN_n (by omega), updN_n (by omega), updN_s, updN_s, updN_s]
  exact ⟨rfl, h, rfl, rfl, rfl, rfl⟩
theorem clsP_9 {g : PG} {f : Nat} (h : ¬ g.2.1 f = 8) : (clsP g f).1 = g.1 ∧ (clsP g f).2.1 f = g.2.1 f ∧ (clsP g f).2.2.2 f = g.1 := by
  unfold clsP
  rw [if_neg h]
  exact ⟨rfl, rfl, updN_s _ _ _⟩
theorem clR_ag {r : RC} {f i : Nat} (h1 : i ≠ f + 1) (h2 : i < r.1) : (clR r f).2.1 i = r.2.1 i ∧ (clR r f).2.2.1 i = r.2.2.1 i := by
  show updN r.2.1 r.1 6 i = r.2.1 i ∧ updN (updN r.2.2.1 r.1 f) (f + 1) (r.1 + 1) i = r.2.2.1 i
  rw [updN_n (by omega), updN_n h1, updN_n (by omega)]
  exact ⟨rfl, rfl⟩
theorem clR_f {r : RC} {f : Nat} (hf : f + 1 < r.1) : (clR r f).2.1 r.1 = 6 ∧ (clR r f).2.2.1 r.1 = f ∧ (clR r f).2.2.1 (f + 1) = r.1 + 1 := by
  show updN r.2.1 r.1 6 r.1 = 6 ∧ updN (updN r.2.2.1 r.1 f) (f + 1) (r.1 + 1) r.1 = f ∧ updN (updN r.2.2.1 r.1 f) (f + 1) (r.1 + 1) (f + 1) = r.1 + 1
  rw [updN_s, updN_n (by omega), updN_s, updN_s]
  exact ⟨rfl, rfl, rfl⟩
/-- a block is closed -/
theorem Blk.cls {g : PG} {r : RC} {bk : Nat} {oN ro ha hc : Nat → Nat} (h : Blk g r bk oN ro ha hc g.1 r.1) (hb : 1 ≤ bk) : Blk (clsP g (oN (bk - 1))) (clR r (ro (bk - 1))) (bk - 1) oN ro ha hc (clsP g (oN (bk - 1))).1 (r.1 + 1) := by
  obtain ⟨b0, b1, b2, b3, b4⟩ := h
  obtain ⟨x, rfl⟩ : ∃ x, bk = x + 1 := ⟨bk - 1, by omega⟩
  rw [Nat.add_sub_cancel]
  obtain ⟨q1, q2⟩ := b3 x (by omega)
  obtain ⟨l1, l2⟩ := b1 x (by omega)
  have lle := Ch_le l1
  have hao : ha x ≤ oN x ∧ hc x ≤ ro x := by
    rcases l2 with ⟨z1, z2, _⟩ | ⟨n, z1, z2, _⟩
    · omega
    · omega
  have gA : AgC g (clsP g (oN x)) 0 (oN x) := fun i _ hi => clsP_ag (by omega) (by omega)
  have gB : AgC g (clsP g (oN x)) (oN x + 1) g.1 := fun i h0 hi => clsP_ag (by omega) hi
  have rA : AgR r (clR r (ro x)) 0 (ro x + 1) := fun i _ hi => clR_ag (by omega) (by omega)
  have rB : AgR r (clR r (ro x)) (ro x + 2) r.1 := fun i h0 hi => clR_ag (by omega) hi
  have body : Ch (StD (clsP g (oN x)) (clR r (ro x)) (5 - (x + 1))) (oN x + 1) g.1 (ro x + 2) r.1 := b4.ag (Nat.le_refl _) (Nat.le_refl _) gB rB
  have e5 : 5 - x = (5 - (x + 1)) + 1 := by omega
  obtain ⟨c1, c2, c3⟩ := clR_f q2
  refine ⟨by omega, fun j hj => ?_, fun i j hij hj => b2 i j hij (by omega), fun i hi => ?_, ?_⟩
  · have z := b2 j x hj (by omega)
    exact (b1 j (by omega)).ag (gA.le (by omega)) (rA.le (by omega))
  · have z := b3 i (by omega)
    have z2 : g.1 ≤ (clsP g (oN x)).1 := clsP_1 g (oN x)
    omega
  · refine (l1.ag (Nat.zero_le _) (Nat.zero_le _) (gA.le (by omega)) (rA.le (by omega))).app ?_
    rw [e5]
    rcases l2 with ⟨z1, z2, z3, z4, z5⟩ | ⟨n, z1, z2, z3, z4, z5⟩
    · obtain ⟨p1, p2, p3, p4, p5, p6⟩ := clsP_8 z3 q1
      rw [p1, z1, z2]
      refine Or.inr (Or.inl ⟨p2, ?_, ?_, g.1, r.1, body, rfl, rfl, p4, p5, p6, c3, c1, c2⟩)
      · rw [(rA (ro x) (Nat.zero_le _) (by omega)).1]
        exact z4
      · rw [(rA (ro x) (Nat.zero_le _) (by omega)).2, p3]
        exact z5
    · obtain ⟨p1, p2, p3⟩ := clsP_9 (g := g) (f := oN x) (by omega)
      rw [p1]
      refine Or.inr (Or.inr ⟨n, ExH.ag (Nat.zero_le _) (Nat.zero_le _) _ _ z3 (gA.le (by omega)) (rA.le (by omega)), ?_, ?_, r.1, ?_, rfl, ?_, ?_, c1, ?_⟩)
      · rw [← z1, p2]
        exact z4
      · rw [← z2, (rA (ro x) (Nat.zero_le _) (by omega)).1]
        exact z5
      · rw [← z1, ← z2]
        exact body
      · rw [← z1]
        exact p3
      · rw [← z2]
        exact c3
      · rw [← z2]
        exact c2
/-- the statement's part of INV, by its pieces -/
theorem INV_mk {st tt rr nn bk : Nat} {oN : Nat → Nat} {wz : Nat} {wN : Nat → Nat} {g : PG} {r : RC} {ha hc : Nat → Nat} {a c : Nat} (hd : ¬ Doom (st, tt, rr, nn, bk, oN, wz, wN, g)) (h1 : a ≤ g.1) (h2 : c ≤ r.1) (h3 : Blk g r bk oN r.2.2.2 ha hc a c) (h4 : Cur (st, tt, rr, nn, bk, oN, wz, wN, g) r a c) : INV (st, tt, rr, nn, bk, oN, wz, wN, g) r := ⟨hd, ha, hc, a, c, h1, h2, h3, h4⟩
theorem Cur_0 {st tt rr nn bk : Nat} {oN : Nat → Nat} {wz : Nat} {wN : Nat → Nat} {g : PG} {r : RC} {a c : Nat} (h : st = 0 ∨ st = 3 ∨ st = 4 ∨ st = 5 ∨ st = 6) (h1 : a = g.1) (h2 : c = r.1) (h3 : wz = 0) (h4 : nn = 0) : Cur (st, tt, rr, nn, bk, oN, wz, wN, g) r a c := Or.inl ⟨h, h1, h2, h3, h4⟩
theorem Cur_1 {st tt rr nn bk : Nat} {oN : Nat → Nat} {wz : Nat} {wN : Nat → Nat} {g : PG} {r : RC} {a c n h : Nat} (h0 : st = 1 ∨ st = 2) (ht : tt = 3 ∨ tt = 4 ∨ tt = 5 ∨ tt = 6 ∨ tt = 7 ∨ tt = 9) (hw : WOk wN wz nn) (h1 : g.1 = a + n) (h2 : r.1 = c + n) (hx : ExH g r a c n h) (hh : h = bsN tt + sgN wN wz + (if st = 2 then 1 else 0)) : Cur (st, tt, rr, nn, bk, oN, wz, wN, g) r a c := Or.inr ⟨h0, ht, hw, n, h1, h2, by subst hh; exact hx⟩
theorem WOk_0 (wN : Nat → Nat) : WOk wN 0 0 := ⟨fun j hj => absurd hj (Nat.not_lt_zero _), rfl, by decide, fun q hq => by
  rw [show q = 0 by omega]
  exact Nat.zero_le _⟩
theorem bsN_1 (t : Nat) : bsN t ≤ 1 := by
  unfold bsN
  split <;> decide
theorem inv_st0 {s s' : SM} {r : RC} {k n : Nat} (h : INV s r) (h0 : s.1 = 0) (hs : stK s k n = some s') : INV s' (stR s r k n) := by
  have nd := stp_nd hs h.1
  obtain ⟨_, ha, hc, a, c, e1, e2, hB, hC⟩ := h
  obtain ⟨q1, q2, q3, q4⟩ := hC.at (Or.inl h0)
  obtain ⟨st, tt, rr, nn, bk, oN, wz, wN, g⟩ := s
  dsimp only at h0 q1 q2 q3 q4 e1 hB
  subst q3 q4
  rw [stR_0 h0]
  rw [stp_0 h0] at hs
  unfold stp0 at hs
  dsimp only at hs
  split at hs
  · rename_i hk
    obtain rfl := Option.some.inj hs
    rw [if_neg (by omega)]
    exact INV_mk nd e1 e2 hB (Cur_1 (n := 0) (h := 0) (Or.inl rfl) (by omega) (WOk_0 _) q1.symm q2.symm rfl (by unfold bsN; rw [if_neg (by omega)]; rfl))
  · split at hs
    · rename_i hk
      subst hk
      split at hs
      · contradiction
      · obtain rfl := Option.some.inj hs
        rw [if_neg (by decide)]
        exact INV_mk nd e1 e2 hB (Cur_1 (n := 0) (h := 0) (Or.inl rfl) (by decide) (WOk_0 _) q1.symm q2.symm rfl rfl)
    · split at hs
      · rename_i hk
        subst hk
        split at hs
        · contradiction
        · obtain rfl := Option.some.inj hs
          rw [if_neg (by decide)]
          exact INV_mk nd e1 e2 hB (Cur_0 (by decide) q1 q2 rfl rfl)
      · split at hs
        · rename_i hk
          obtain rfl := Option.some.inj hs
          rw [if_pos hk.1]
          subst q1 q2
          exact INV_mk nd (Nat.le_refl _) (Nat.le_refl _) (hB.cls hk.2) (Cur_0 (by decide) rfl rfl rfl rfl)
        · split at hs
          · rename_i hk
            obtain rfl := Option.some.inj hs
            rw [if_neg (by omega)]
            exact INV_mk nd e1 e2 hB (Cur_0 (by decide) q1 q2 rfl rfl)
          · contradiction
theorem inv_st1 {s s' : SM} {r : RC} {k n : Nat} (h : INV s r) (h0 : s.1 = 1) (hs : stK s k n = some s') : INV s' (stR s r k n) := by
  have nd := stp_nd hs h.1
  obtain ⟨_, ha, hc, a, c, e1, e2, hB, hC⟩ := h
  obtain ⟨q1, q2, m, q3, q4, q5⟩ := hC.in (Or.inl h0)
  obtain ⟨st, tt, rr, nn, bk, oN, wz, wN, g⟩ := s
  dsimp only at h0 q1 q2 q3 q4 q5 e1 hB
  rw [if_neg (by omega)] at q5
  have hw := q2.le
  have hbs := bsN_1 tt
  rw [stR_1 h0]
  rw [stp_1 h0] at hs
  unfold stp1 at hs
  dsimp only at hs
  have unit : ∀ k' v, XRw (addP g k n) (emR r k' v) (a + m) (c + m) → k ≤ 11 → ¬ Doom (2, tt, rr, nn, bk, oN, wz, wN, addP g k n) → INV (2, tt, rr, nn, bk, oN, wz, wN, addP g k n) (emR r k' v) := by
    intro k' v hX hk nd
    have a1 := AgC_add g k n 0
    have a2 := AgR_em r k' v 0
    refine INV_mk nd (by show a ≤ g.1 + 1; omega) (by show c ≤ r.1 + 1; omega) (hB.ag (a1.le e1) (a2.le e2)) (Cur_1 (n := m + 1) (h := bsN tt + sgN wN wz + 1) (Or.inr rfl) q1 q2 (by show g.1 + 1 = _; omega) (by show r.1 + 1 = _; omega) ⟨bsN tt + sgN wN wz, ExH.ag (Nat.zero_le _) (Nat.zero_le _) _ _ q5 (a1.le (by omega)) (a2.le (by omega)), hX, Or.inl ⟨?_, rfl, by omega⟩⟩ rfl)
    have : (addP g k n).2.1 (a + m) = k := by rw [← q3]; exact updN_s _ _ _
    omega
  have ek : (addP g k n).2.1 (a + m) = k := by rw [← q3]; exact updN_s _ _ _
  have en : (addP g k n).2.2.1 (a + m) = n := by rw [← q3]; exact updN_s _ _ _
  have er : ∀ k' v, (emR r k' v).2.1 (c + m) = k' := fun k' v => by rw [← q4]; exact updN_s _ _ _
  have ev : ∀ k' v, (emR r k' v).2.2.1 (c + m) = v := fun k' v => by rw [← q4]; exact updN_s _ _ _
  split at hs
  · rename_i hk
    obtain rfl := Option.some.inj hs
    rcases hk with rfl | rfl | rfl
    · rw [if_pos rfl]
      exact unit _ _ (Or.inl ⟨ek, er _ _, by rw [ev, en]⟩) (by decide) nd
    · rw [if_neg (by decide), if_pos rfl]
      exact unit _ _ (Or.inr (Or.inl ⟨ek, er _ _⟩)) (by decide) nd
    · rw [if_neg (by decide), if_neg (by decide), if_pos rfl]
      exact unit _ _ (Or.inr (Or.inr (Or.inl ⟨ek, er _ _⟩))) (by decide) nd
  · split at hs
    · rename_i hk
      subst hk
      split at hs
      · contradiction
      · rename_i h8
        obtain rfl := Option.some.inj hs
        rw [if_neg (by decide), if_neg (by decide), if_neg (by decide)]
        refine INV_mk nd e1 e2 hB (Cur_1 (n := m) (h := bsN tt + sgN wN wz) (Or.inl rfl) q1 (q2.psh (Nat.le_refl _) (by unfold isSg; omega) q2.2.1.symm (Or.inl rfl) rfl (by omega)) q3 q4 q5 ?_)
        show bsN tt + sgN wN wz = bsN tt + (sgN (updN wN wz 40) wz + (if updN wN wz 40 wz = 40 then 0 else 1)) + 0
        rw [updN_s, if_pos rfl, sgN_c (g := wN) (fun j hj => updN_n (by omega))]
        rfl
    · contradiction
theorem relR_em_o (r : RC) (bk k v : Nat) : (opR r bk k v).2.2.2 = updN r.2.2.2 bk r.1 := rfl
theorem AgR_op (r : RC) (bk k v : Nat) : AgR r (opR r bk k v) 0 r.1 := fun i _ hi => ⟨by
  show updN (updN r.2.1 r.1 k) (r.1 + 1) 0 i = r.2.1 i
  rw [updN_n (by omega), updN_n (by omega)], by
  show updN (updN r.2.2.1 r.1 v) (r.1 + 1) 0 i = r.2.2.1 i
  rw [updN_n (by omega), updN_n (by omega)]⟩
theorem op_row (r : RC) (bk k v : Nat) : (opR r bk k v).2.1 r.1 = k ∧ (opR r bk k v).2.2.1 r.1 = v := ⟨by
  show updN (updN r.2.1 r.1 k) (r.1 + 1) 0 r.1 = k
  rw [updN_n (by omega), updN_s], by
  show updN (updN r.2.2.1 r.1 v) (r.1 + 1) 0 r.1 = v
  rw [updN_n (by omega), updN_s]⟩
theorem inv_st2 {s s' : SM} {r : RC} {k n : Nat} (h : INV s r) (h0 : s.1 = 2) (hs : stK s k n = some s') : INV s' (stR s r k n) := by
  have nd0 := h.1
  have nd := stp_nd hs h.1
  obtain ⟨_, ha, hc, a, c, e1, e2, hB, hC⟩ := h
  obtain ⟨q1, q2, m, q3, q4, q5⟩ := hC.in (Or.inr h0)
  obtain ⟨st, tt, rr, nn, bk, oN, wz, wN, g⟩ := s
  dsimp only at h0 q1 q2 q3 q4 q5 e1 hB
  rw [if_pos h0] at q5
  have hbs := bsN_1 tt
  rw [stR_2 h0]
  rw [stp_2 h0] at hs
  unfold stp2 at hs
  dsimp only at hs ⊢
  by_cases hk : 0 < strN k
  · rw [if_pos hk] at hs ⊢
    obtain rfl := Option.some.inj hs
    obtain ⟨n', b1, b2, b3, b4, b5, b6⟩ := rel_ex (base := bsN tt) (le := strN k) hk wz g r m q2.1 q5 q3 q4
    obtain ⟨w1, w2⟩ := q2.rel hk
    have eW := relP_W (strN k) wN wz g
    have hB2 := hB.ag (b5.le e1) (b6.le e2)
    have hkk := strN_k hk
    rw [eW] at nd ⊢
    refine INV_mk nd (by omega) (by omega) (by rw [relR_o]; exact hB2) (Cur_1 (n := n') (Or.inl rfl) q1 (w1.psh (Nat.le_refl _) (by unfold isSg; omega) w1.2.1.symm (Or.inr w2) (by rw [if_neg (by omega)]; rfl) q2.2.2.1) b2 b3 b4 ?_)
    show bsN tt + sgN wN (relW (strN k) wN wz) + 1 = bsN tt + (sgN (updN wN (relW (strN k) wN wz) k) (relW (strN k) wN wz) + (if updN wN (relW (strN k) wN wz) k (relW (strN k) wN wz) = 40 then 0 else 1)) + 0
    rw [updN_s, if_neg (by omega), sgN_c (g := wN) (fun j hj => updN_n (by omega))]
    rfl
  · rw [if_neg hk] at hs ⊢
    obtain ⟨n', b1, b2, b3, b4, b5, b6⟩ := rel_ex (base := bsN tt) (le := 1) (Nat.le_refl _) wz g r m q2.1 q5 q3 q4
    obtain ⟨w1, w2⟩ := q2.rel (le := 1) (Nat.le_refl _)
    have eW := relP_W 1 wN wz g
    have hB2 := hB.ag (b5.le e1) (b6.le e2)
    by_cases hn : 0 < nn
    · rw [if_pos hn] at hs ⊢
      split at hs
      · obtain rfl := Option.some.inj hs
        rw [eW] at nd ⊢
        have hpos : 0 < relW 1 wN wz := by
          rcases Nat.eq_zero_or_pos (relW 1 wN wz) with z | z
          · have := w1.2.1
            rw [z] at this
            have h9 : nn = 0 := this
            omega
          · exact z
        obtain ⟨x, ex⟩ : ∃ x, relW 1 wN wz = x + 1 := ⟨relW 1 wN wz - 1, by omega⟩
        rw [ex, Nat.add_sub_cancel] at nd ⊢
        rw [ex] at w1 w2 b4
        have h40 : wN x = 40 := isSg_0 (w1.1 x (by omega)) (by
          have : strN (wN x) < 1 := w2
          omega)
        have hbr : nn = brN wN x + 1 := by
          have := w1.2.1
          rw [show brN wN (x + 1) = brN wN x + (if wN x = 40 then 1 else 0) from rfl, if_pos h40] at this
          exact this
        have hsg : sgN wN (x + 1) = sgN wN x := by
          rw [show sgN wN (x + 1) = sgN wN x + (if wN x = 40 then 0 else 1) from rfl, if_pos h40]
          rfl
        rw [hsg] at b4
        exact INV_mk nd (by omega) (by omega) (by rw [relR_o]; exact hB2) (Cur_1 (n := n') (Or.inr rfl) q1 ⟨fun j hj => w1.1 j (by omega), by omega, by have := w1.2.2.1; omega, fun q hq => w1.2.2.2 q (by omega)⟩ b2 b3 b4 rfl)
      · contradiction
    · rw [if_neg hn] at hs ⊢
      have hn0 : nn = 0 := by omega
      have hw0 : relW 1 wN wz = 0 := relW_0 q2.1 (by rw [← q2.2.1]; exact hn0)
      rw [hw0] at b4
      have hs0 : sgN wN 0 = 0 := rfl
      rw [hs0] at b4
      split at hs
      · rename_i h3
        obtain rfl := Option.some.inj hs
        rw [if_neg (by omega), if_neg (by omega)]
        rw [eW, hw0] at nd ⊢
        subst hn0
        rw [h3.1] at b4
        exact INV_mk nd (by omega) (by omega) (by rw [relR_o]; exact hB2) (Cur_1 (n := n') (Or.inl rfl) (by decide) (WOk_0 _) b2 b3 b4 rfl)
      · split at hs
        · rename_i h9
          obtain rfl := Option.some.inj hs
          rw [if_pos h9.2]
          rw [eW, hw0] at nd ⊢
          have hb4 : bk < 5 := by
            have b0 := hB.1
            have : ¬ bk = 5 := fun z => nd0 ⟨z, Or.inr (Or.inr ⟨Or.inr h0, h9.1⟩)⟩
            omega
          rw [h9.1] at b4
          have hop := hB2.opn (n := n') (AgC_add (relP 1 wN wz g).2 9 0 0) (AgR_op (relR 1 wN wz r) bk 5 0) b2 b3 hb4 (Or.inr ⟨b4, updN_s _ _ _, (op_row _ _ _ _).1⟩)
          exact INV_mk nd (Nat.le_refl _) (Nat.le_refl _) (by rw [relR_em_o, relR_o]; exact hop) (Cur_0 (by decide) rfl rfl rfl hn0)
        · split at hs
          · rename_i h59
            obtain rfl := Option.some.inj hs
            rw [if_neg (show ¬ k = 91 by omega), if_pos h59.2.2]
            rw [eW, hw0] at nd ⊢
            obtain ⟨v1, v2, v3, v4, v5⟩ := hB2
            have a1 := AgC_add (relP 1 wN wz g).2 (if tt = 4 then 3 else tt) 0 0
            have a2 := AgR_em (relR 1 wN wz r) (stC tt) 0 0
            have ek : (addP (relP 1 wN wz g).2 (if tt = 4 then 3 else tt) 0).2.1 (a + n') = if tt = 4 then 3 else tt := by rw [← b2]; exact updN_s _ _ _
            have er : (emR (relR 1 wN wz r) (stC tt) 0).2.1 (c + n') = stC tt := by rw [← b3]; exact updN_s _ _ _
            have hsm : Smp (addP (relP 1 wN wz g).2 (if tt = 4 then 3 else tt) 0) (emR (relR 1 wN wz r) (stC tt) 0) a ((relP 1 wN wz g).2.1 + 1) c ((relR 1 wN wz r).1 + 1) := by
              refine ⟨n', _, ExH.ag (Nat.zero_le _) (Nat.zero_le _) _ _ b4 (a1.le (by omega)) (a2.le (by omega)), by omega, by omega, ?_⟩
              rw [ek, er]
              by_cases h4 : tt = 4
              · subst h4
                exact Or.inl ⟨rfl, rfl, rfl⟩
              · rw [if_neg h4]
                refine Or.inr ⟨by omega, ?_, ?_⟩
                · unfold stC
                  rw [if_neg h4]
                  omega
                · unfold bsN
                  rw [if_neg h4]
            have hB3 : Blk (addP (relP 1 wN wz g).2 (if tt = 4 then 3 else tt) 0) (emR (relR 1 wN wz r) (stC tt) 0) bk oN r.2.2.2 ha hc ((relP 1 wN wz g).2.1 + 1) ((relR 1 wN wz r).1 + 1) := by
              refine ⟨v1, fun j hj => (v2 j hj).ag (a1.le (by have := v4 j hj; omega)) (a2.le (by have := v4 j hj; omega)), v3, fun i hi => by have := v4 i hi; omega, ?_⟩
              exact (v5.ag (Nat.zero_le _) (Nat.zero_le _) (a1.le (by omega)) (a2.le (by omega))).app (hsm.st _)
            exact INV_mk nd (Nat.le_refl _) (Nat.le_refl _) (by
              rw [show (emR (relR 1 wN wz r) (stC tt) 0).2.2.2 = (relR 1 wN wz r).2.2.2 from rfl, relR_o]
              exact hB3) (Cur_0 (by decide) rfl rfl rfl hn0)
          · contradiction
theorem INV.step {s s' : SM} {r : RC} {k n : Nat} (h : INV s r) (hs : stK s k n = some s') : INV s' (stR s r k n) := by
  have key : s.1 = 0 ∨ s.1 = 1 ∨ s.1 = 2 ∨ s.1 = 3 ∨ s.1 = 4 ∨ s.1 = 5 ∨ 5 < s.1 := by omega
  rcases key with h0 | h0 | h0 | h0 | h0 | h0 | h0
  · exact inv_st0 h h0 hs
  · exact inv_st1 h h0 hs
  · exact inv_st2 h h0 hs
  · have nd := stp_nd hs h.1
    obtain ⟨_, ha, hc, a, c, e1, e2, hB, hC⟩ := h
    obtain ⟨q1, q2, q3, q4⟩ := hC.at (Or.inr (Or.inl h0))
    rw [stR_o (Or.inl h0)]
    rw [stp_3 h0] at hs
    split at hs
    · obtain rfl := Option.some.inj hs
      exact ⟨nd, ha, hc, a, c, e1, e2, hB, Or.inl ⟨by show (4 : Nat) = 0 ∨ (4 : Nat) = 3 ∨ (4 : Nat) = 4 ∨ (4 : Nat) = 5 ∨ (4 : Nat) = 6; decide, q1, q2, q3, q4⟩⟩
    · contradiction
  · have nd0 := h.1
    have nd := stp_nd hs h.1
    obtain ⟨_, ha, hc, a, c, e1, e2, hB, hC⟩ := h
    obtain ⟨q1, q2, q3, q4⟩ := hC.at (Or.inr (Or.inr (Or.inl h0)))
    rw [stR_4 h0]
    rw [stp_4 h0] at hs
    split at hs
    · obtain rfl := Option.some.inj hs
      have hb4 : s.2.2.2.2.1 < 5 := by
        have b0 := hB.1
        have : ¬ s.2.2.2.2.1 = 5 := fun z => nd0 ⟨z, Or.inr (Or.inl h0)⟩
        omega
      have hop := hB.opn (n := 0) (AgC_add s.2.2.2.2.2.2.2.2 8 s.2.2.1 0) (AgR_op r s.2.2.2.2.1 4 s.2.2.1) q1.symm q2.symm hb4 (Or.inl ⟨rfl, updN_s _ _ _, (op_row _ _ _ _).1, (op_row _ _ _ _).2.trans (updN_s _ _ _).symm⟩)
      exact INV_mk nd (Nat.le_refl _) (Nat.le_refl _) hop (Cur_0 (by decide) rfl rfl q3 q4)
    · contradiction
  · have nd := stp_nd hs h.1
    obtain ⟨_, ha, hc, a, c, e1, e2, hB, hC⟩ := h
    obtain ⟨q1, q2, q3, q4⟩ := hC.at (Or.inr (Or.inr (Or.inr h0)))
    rw [stR_o (Or.inr h0)]
    rw [stp_5 h0] at hs
    split at hs
    · obtain rfl := Option.some.inj hs
      exact ⟨nd, ha, hc, a, c, e1, e2, hB, Or.inl ⟨Or.inl rfl, q1, q2, q3, q4⟩⟩
    · contradiction
  · unfold stK at hs
    rw [if_neg (by omega), if_neg (by omega), if_neg (by omega), if_neg (by omega), if_neg (by omega), if_neg (by omega)] at hs
    contradiction
theorem stK_6 {s s' : SM} {k n : Nat} (h : stK s k n = some s') (h6 : s'.1 = 6) : s'.2.2.2.2.1 = 0 := by
  have key : s.1 = 0 ∨ s.1 = 1 ∨ s.1 = 2 ∨ s.1 = 3 ∨ s.1 = 4 ∨ s.1 = 5 ∨ 5 < s.1 := by omega
  rcases key with h0 | h0 | h0 | h0 | h0 | h0 | h0
  · rw [stp_0 h0] at h
    unfold stp0 at h
    repeat' split at h
    all_goals first | contradiction | (obtain rfl := Option.some.inj h; dsimp only at h6 ⊢; omega)
  · rw [stp_1 h0] at h
    unfold stp1 at h
    repeat' split at h
    all_goals first | contradiction | (obtain rfl := Option.some.inj h; dsimp only at h6; omega)
  · rw [stp_2 h0] at h
    unfold stp2 at h
    repeat' split at h
    all_goals first | contradiction | (obtain rfl := Option.some.inj h; dsimp only at h6; omega)
  · rw [stp_3 h0] at h
    repeat' split at h
    all_goals first | contradiction | (obtain rfl := Option.some.inj h; dsimp only at h6; omega)
  · rw [stp_4 h0] at h
    repeat' split at h
    all_goals first | contradiction | (obtain rfl := Option.some.inj h; dsimp only at h6; omega)
  · rw [stp_5 h0] at h
    repeat' split at h
    all_goals first | contradiction | (obtain rfl := Option.some.inj h; dsimp only at h6; omega)
  · unfold stK at h
    rw [if_neg (by omega), if_neg (by omega), if_neg (by omega), if_neg (by omega), if_neg (by omega), if_neg (by omega)] at h
    contradiction
theorem runE_inv (bt : Nat → Nat) (n : Nat) : ∀ m s r p wb s' r', INV s r → runE bt n m s r p wb = some (s', r') → INV s' r' ∧ s'.1 = 6 ∧ s'.2.2.2.2.1 = 0 := by
  intro m
  induction m with
  | zero => intro s r p wb s' r' _ h; contradiction
  | succ m ih =>
    intro s r p wb s' r' hI h
    have h : (match stK s (tkK bt n p wb) (tkN bt n p) with
      | none => none
      | some s' => if s'.1 = 6 then some (s', stR s r (tkK bt n p wb) (tkN bt n p)) else runE bt n m s' (stR s r (tkK bt n p wb) (tkN bt n p)) (tkE bt n p) (tkW bt n p)) = some (s', r') := h
    cases e : stK s (tkK bt n p wb) (tkN bt n p) with
    | none => rw [e] at h; contradiction
    | some w =>
      rw [e] at h
      dsimp only at h
      have hI2 := hI.step e
      by_cases h6 : w.1 = 6
      · rw [if_pos h6] at h
        obtain ⟨rfl, rfl⟩ := Prod.mk.inj (Option.some.inj h)
        exact ⟨hI2, h6, stK_6 e h6⟩
      · rw [if_neg h6] at h
        exact ih _ _ _ _ _ _ hI2 h
/-- what a text is read as, on both sides, is one program -/
theorem readE_ch {bt : Nat → Nat} {n : Nat} {s : SM} {r : RC} (h : readE bt n = some (s, r)) : Ch (StD s.2.2.2.2.2.2.2.2 r 5) 0 s.2.2.2.2.2.2.2.2.1 0 r.1 := by
  unfold readE at h
  by_cases hn : n ≤ 600
  · rw [if_pos hn] at h
    obtain ⟨⟨_, ha, hc, a, c, e1, e2, ⟨b0, b1, b2, b3, b4⟩, hC⟩, h6, hb⟩ := runE_inv bt n _ _ _ _ _ _ _ INV_0 h
    rcases hC with ⟨_, q1, q2, _⟩ | ⟨q, _⟩
    · rw [hb, q1, q2] at b4
      exact b4
    · omega
  · rw [if_neg hn] at h
    contradiction
/-! a for's and an if's links point ahead, once they are closed -/
def FwS (g : PG) (bk : Nat) (oN : Nat → Nat) : Prop := ∀ j, j < g.1 → g.2.1 j = 8 ∨ g.2.1 j = 9 → j < g.2.2.2 j ∨ ∃ i, i < bk ∧ oN i = j
theorem FwS.add {g : PG} {bk : Nat} {oN : Nat → Nat} (h : FwS g bk oN) {k n : Nat} (hk : ¬ (k = 8 ∨ k = 9)) : FwS (addP g k n) bk oN := by
  intro j hj hkj
  have hj : j < g.1 + 1 := hj
  have hkj : updN g.2.1 g.1 k j = 8 ∨ updN g.2.1 g.1 k j = 9 := hkj
  by_cases e : j = g.1
  · subst e
    rw [updN_s] at hkj
    exact absurd hkj hk
  · rw [updN_n e] at hkj
    show j < updN g.2.2.2 g.1 0 j ∨ _
    rw [updN_n e]
    exact h j (by omega) hkj
theorem FwS.opn {g : PG} {bk : Nat} {oN : Nat → Nat} (h : FwS g bk oN) (k n : Nat) : FwS (addP g k n) (bk + 1) (updN oN bk g.1) := by
  intro j hj hkj
  have hj : j < g.1 + 1 := hj
  have hkj : updN g.2.1 g.1 k j = 8 ∨ updN g.2.1 g.1 k j = 9 := hkj
  by_cases e : j = g.1
  · subst e
    exact Or.inr ⟨bk, by omega, updN_s _ _ _⟩
  · rw [updN_n e] at hkj
    show j < updN g.2.2.2 g.1 0 j ∨ _
    rw [updN_n e]
    rcases h j (by omega) hkj with z | ⟨i, hi, z⟩
    · exact Or.inl z
    · exact Or.inr ⟨i, by omega, by rw [updN_n (by omega)]; exact z⟩
theorem FwS.rel {bk le : Nat} {oN wN : Nat → Nat} (hle : 1 ≤ le) : ∀ w (g : PG), FwS g bk oN → FwS (relP le wN w g).2 bk oN := by
  intro w
  induction w with
  | zero => intro g h; exact h
  | succ w ih =>
    intro g h
    show FwS (if le ≤ strN (wN w) then relP le wN w (addP g (wN w) 0) else (w + 1, g)).2 bk oN
    by_cases q : le ≤ strN (wN w)
    · rw [if_pos q]
      have z := strN_k (k := wN w) (by omega)
      exact ih _ (h.add (by omega))
    · rw [if_neg q]
      exact h
theorem FwS.cls {g : PG} {bk : Nat} {oN : Nat → Nat} (h : FwS g bk oN) (hb : 0 < bk) (hf : oN (bk - 1) < g.1) : FwS (clsP g (oN (bk - 1))) (bk - 1) oN := by
  intro j hj hkj
  by_cases e : j = oN (bk - 1)
  · subst e
    refine Or.inl ?_
    by_cases h8 : g.2.1 (oN (bk - 1)) = 8
    · rw [(clsP_8 h8 hf).2.2.2.1]
      exact hf
    · rw [(clsP_9 h8).2.2]
      exact hf
  · by_cases e2 : j < g.1
    · obtain ⟨a1, a2, a3⟩ := clsP_ag (g := g) e e2
      rw [a1] at hkj
      rw [a3]
      rcases h j e2 hkj with z | ⟨i, hi, z⟩
      · exact Or.inl z
      · refine Or.inr ⟨i, ?_, z⟩
        rcases Nat.lt_or_ge i (bk - 1) with y | y
        · exact y
        · exact absurd (by rw [← z, show i = bk - 1 by omega]) e
    · exfalso
      by_cases h8 : g.2.1 (oN (bk - 1)) = 8
      · obtain ⟨p1, _, _, _, p5, _⟩ := clsP_8 h8 hf
        rw [p1] at hj
        rw [show j = g.1 by omega, p5] at hkj
        omega
      · rw [(clsP_9 h8).1] at hj
        omega
def FwI (s : SM) : Prop := FwS s.2.2.2.2.2.2.2.2 s.2.2.2.2.1 s.2.2.2.2.2.1 ∧ ((s.1 = 1 ∨ s.1 = 2) → s.2.1 = 3 ∨ s.2.1 = 4 ∨ s.2.1 = 5 ∨ s.2.1 = 6 ∨ s.2.1 = 7 ∨ s.2.1 = 9) ∧ ∀ i, i < s.2.2.2.2.1 → s.2.2.2.2.2.1 i < s.2.2.2.2.2.2.2.2.1
theorem relP_ge (le : Nat) (wN : Nat → Nat) : ∀ w (g : PG), g.1 ≤ (relP le wN w g).2.1 := by
  intro w
  induction w with
  | zero => intro g; exact Nat.le_refl _
  | succ w ih =>
    intro g
    show g.1 ≤ (if le ≤ strN (wN w) then relP le wN w (addP g (wN w) 0) else (w + 1, g)).2.1
    split
    · have a := ih (addP g (wN w) 0)
      have b : (addP g (wN w) 0).1 = g.1 + 1 := rfl
      omega
    · exact Nat.le_refl _
theorem FwI.step {s s' : SM} {k n : Nat} (h : FwI s) (hs : stK s k n = some s') : FwI s' := by
  obtain ⟨f1, f2, f3⟩ := h
  obtain ⟨st, tt, rr, nn, bk, oN, wz, wN, g⟩ := s
  dsimp only at f1 f2 f3
  have key : st = 0 ∨ st = 1 ∨ st = 2 ∨ st = 3 ∨ st = 4 ∨ st = 5 ∨ 5 < st := by omega
  rcases key with h0 | h0 | h0 | h0 | h0 | h0 | h0
  · rw [stp_0 h0] at hs
    unfold stp0 at hs
    dsimp only at hs
    split at hs
    · obtain rfl := Option.some.inj hs
      exact ⟨f1, fun _ => by show k = 3 ∨ k = 4 ∨ k = 5 ∨ k = 6 ∨ k = 7 ∨ k = 9; omega, f3⟩
    · split at hs
      · split at hs
        · contradiction
        · obtain rfl := Option.some.inj hs
          exact ⟨f1, fun _ => by show k = 3 ∨ k = 4 ∨ k = 5 ∨ k = 6 ∨ k = 7 ∨ k = 9; omega, f3⟩
      · split at hs
        · split at hs
          · contradiction
          · obtain rfl := Option.some.inj hs
            exact ⟨f1, fun q => absurd (show (3 : Nat) = 1 ∨ (3 : Nat) = 2 from q) (by decide), f3⟩
        · split at hs
          · rename_i hk
            obtain rfl := Option.some.inj hs
            exact ⟨f1.cls hk.2 (f3 _ (by omega)), fun q => absurd (show (5 : Nat) = 1 ∨ (5 : Nat) = 2 from q) (by decide), fun i hi => by
              have a := f3 i (by have hi : i < bk - 1 := hi; omega)
              have b := clsP_1 g (oN (bk - 1))
              show oN i < (clsP g (oN (bk - 1))).1
              omega⟩
          · split at hs
            · obtain rfl := Option.some.inj hs
              exact ⟨f1, fun q => absurd (show (6 : Nat) = 1 ∨ (6 : Nat) = 2 from q) (by decide), f3⟩
            · contradiction
  · rw [stp_1 h0] at hs
    unfold stp1 at hs
    dsimp only at hs
    split at hs
    · obtain rfl := Option.some.inj hs
      exact ⟨f1.add (by omega), fun _ => f2 (Or.inl h0), fun i hi => Nat.lt_succ_of_lt (f3 i hi)⟩
    · split at hs
      · split at hs
        · contradiction
        · obtain rfl := Option.some.inj hs
          exact ⟨f1, fun _ => f2 (Or.inl h0), f3⟩
      · contradiction
  · have t2 := f2 (Or.inr h0)
    rw [stp_2 h0] at hs
    unfold stp2 at hs
    dsimp only at hs
    split at hs
    · rename_i hk
      obtain rfl := Option.some.inj hs
      exact ⟨FwS.rel hk _ _ f1, fun _ => t2, fun i hi => Nat.lt_of_lt_of_le (f3 i hi) (relP_ge _ _ _ _)⟩
    · have g1 := FwS.rel (le := 1) (wN := wN) (Nat.le_refl _) wz g f1
      have g3 : ∀ i, i < bk → oN i < (relP 1 wN wz g).2.1 := fun i hi => Nat.lt_of_lt_of_le (f3 i hi) (relP_ge _ _ _ _)
      split at hs
      · split at hs
        · obtain rfl := Option.some.inj hs
          exact ⟨g1, fun _ => t2, g3⟩
        · contradiction
      · split at hs
        · obtain rfl := Option.some.inj hs
          exact ⟨g1, fun _ => by show (4 : Nat) = 3 ∨ (4 : Nat) = 4 ∨ (4 : Nat) = 5 ∨ (4 : Nat) = 6 ∨ (4 : Nat) = 7 ∨ (4 : Nat) = 9; decide, g3⟩
        · split at hs
          · obtain rfl := Option.some.inj hs
            refine ⟨g1.opn 9 0, fun q => absurd (show (0 : Nat) = 1 ∨ (0 : Nat) = 2 from q) (by decide), fun i hi => ?_⟩
            show updN oN bk (relP 1 wN wz g).2.1 i < (relP 1 wN wz g).2.1 + 1
            by_cases e : i = bk
            · subst e
              rw [updN_s]
              omega
            · rw [updN_n e]
              have hi : i < bk + 1 := hi
              have := g3 i (by omega)
              omega
          · split at hs
            · rename_i h59
              obtain rfl := Option.some.inj hs
              refine ⟨g1.add (by split <;> omega), fun q => absurd (show (0 : Nat) = 1 ∨ (0 : Nat) = 2 from q) (by decide), fun i hi => Nat.lt_succ_of_lt (g3 i hi)⟩
            · contradiction
  · rw [stp_3 h0] at hs
    split at hs
    · obtain rfl := Option.some.inj hs
      exact ⟨f1, fun q => absurd (show (4 : Nat) = 1 ∨ (4 : Nat) = 2 from q) (by decide), f3⟩
    · contradiction
  · rw [stp_4 h0] at hs
    split at hs
    · obtain rfl := Option.some.inj hs
      refine ⟨f1.opn 8 rr, fun q => absurd (show (0 : Nat) = 1 ∨ (0 : Nat) = 2 from q) (by decide), fun i hi => ?_⟩
      show updN oN bk g.1 i < g.1 + 1
      by_cases e : i = bk
      · subst e
        rw [updN_s]
        omega
      · rw [updN_n e]
        have hi : i < bk + 1 := hi
        have := f3 i (by omega)
        omega
    · contradiction
  · rw [stp_5 h0] at hs
    split at hs
    · obtain rfl := Option.some.inj hs
      exact ⟨f1, fun q => absurd (show (0 : Nat) = 1 ∨ (0 : Nat) = 2 from q) (by decide), f3⟩
    · contradiction
  · unfold stK at hs
    rw [if_neg (by show ¬ st = 0; omega), if_neg (by show ¬ st = 1; omega), if_neg (by show ¬ st = 2; omega), if_neg (by show ¬ st = 3; omega), if_neg (by show ¬ st = 4; omega), if_neg (by show ¬ st = 5; omega)] at hs
    contradiction
theorem FwI_0 : FwI sm0 := ⟨fun j hj => absurd hj (Nat.not_lt_zero _), fun q => absurd (show (0 : Nat) = 1 ∨ (0 : Nat) = 2 from q) (by decide), fun i hi => absurd hi (Nat.not_lt_zero _)⟩
theorem runS_fw (bt : Nat → Nat) (n : Nat) : ∀ m s p wb s', FwI s → runS bt n m s p wb = some s' → FwI s' ∧ s'.2.2.2.2.1 = 0 := by
  intro m
  induction m with
  | zero => intro s p wb s' _ h; contradiction
  | succ m ih =>
    intro s p wb s' hI h
    have h : (match stK s (tkK bt n p wb) (tkN bt n p) with
      | none => none
      | some s' => if s'.1 = 6 then some s' else runS bt n m s' (tkE bt n p) (tkW bt n p)) = some s' := h
    cases e : stK s (tkK bt n p wb) (tkN bt n p) with
    | none => rw [e] at h; contradiction
    | some w =>
      rw [e] at h
      dsimp only at h
      by_cases h6 : w.1 = 6
      · rw [if_pos h6] at h
        obtain rfl := Option.some.inj h
        exact ⟨hI.step e, stK_6 e h6⟩
      · rw [if_neg h6] at h
        exact ih _ _ _ _ (hI.step e) h
/-- in what is read every for and every if points ahead -/
theorem readT_fw {bt : Nat → Nat} {n : Nat} {s : SM} (h : readT bt n = some s) : ∀ j, j < s.2.2.2.2.2.2.2.2.1 → s.2.2.2.2.2.2.2.2.2.1 j = 8 ∨ s.2.2.2.2.2.2.2.2.2.1 j = 9 → j < s.2.2.2.2.2.2.2.2.2.2.2 j := by
  unfold readT at h
  by_cases hn : n ≤ 600
  · rw [if_pos hn] at h
    obtain ⟨⟨f1, _, _⟩, hb⟩ := runS_fw bt n _ _ _ _ _ FwI_0 h
    intro j hj hk
    rcases f1 j hj hk with z | ⟨i, hi, _⟩
    · exact z
    · omega
  · rw [if_neg hn] at h
    contradiction
/-! the reference's rows are small -/
theorem nmN_b {bt : Nat → Nat} (hb : ∀ j, bt j ≤ 255) (p : Nat) : ∀ k, nmN bt p k + 23 ≤ 23 * 10 ^ k := by
  intro k
  induction k with
  | zero => show 0 + 23 ≤ 23 * 1; omega
  | succ k ih =>
    have a := hb (p + k)
    show nmN bt p k * 10 + (bt (p + k) - 48) + 23 ≤ 23 * (10 ^ k * 10)
    omega
theorem tkN_b {bt : Nat → Nat} (hb : ∀ j, bt j ≤ 255) (n p : Nat) : tkN bt n p ≤ 23000000 := by
  have a := nmN_b hb (tkA bt n p) (min 6 (tkE bt n p - tkA bt n p))
  have b : 10 ^ (min 6 (tkE bt n p - tkA bt n p)) ≤ 10 ^ 6 := Nat.pow_le_pow_right (by decide) (Nat.min_le_left _ _)
  have c : (10 : Nat) ^ 6 = 1000000 := by decide
  unfold tkN
  omega
def RcB (r : RC) : Prop := (∀ j, r.2.1 j ≤ 18 ∧ r.2.2.1 j ≤ 23000000 + r.1) ∧ ∀ j, r.2.2.2 j ≤ r.1
theorem updN_le {f : Nat → Nat} {i v b j : Nat} (h : f j ≤ b) (hv : v ≤ b) : updN f i v j ≤ b := by
  unfold updN
  split
  · exact hv
  · exact h
theorem RcB_0 : RcB rc0 := ⟨fun _ => ⟨Nat.zero_le _, Nat.zero_le _⟩, fun _ => Nat.zero_le _⟩
theorem RcB.em {r : RC} {k v : Nat} (h : RcB r) (hk : k ≤ 18) (hv : v ≤ 23000000) : RcB (emR r k v) := ⟨fun j => ⟨updN_le (h.1 j).1 hk, updN_le (by have := (h.1 j).2; show r.2.2.1 j ≤ 23000000 + (r.1 + 1); omega) (by show v ≤ 23000000 + (r.1 + 1); omega)⟩, fun j => Nat.le_succ_of_le (h.2 j)⟩
theorem pkN_b (k : Nat) : pkN k ≤ 18 := by
  unfold pkN
  repeat' split
  all_goals decide
theorem RcB.rel (le : Nat) (wN : Nat → Nat) : ∀ w (r : RC), RcB r → RcB (relR le wN w r) := by
  intro w
  induction w with
  | zero => intro r h; exact h
  | succ w ih =>
    intro r h
    show RcB (if le ≤ strN (wN w) then relR le wN w (emR r (pkN (wN w)) 0) else r)
    split
    · exact ih _ (h.em (pkN_b _) (Nat.zero_le _))
    · exact h
theorem RcB.op {r : RC} {bk k v : Nat} (h : RcB r) (hk : k ≤ 18) (hv : v ≤ 23000000) : RcB (opR r bk k v) := by
  have h0 : RcB (r.1, r.2.1, r.2.2.1, updN r.2.2.2 bk r.1) := ⟨h.1, fun j => updN_le (h.2 j) (Nat.le_refl _)⟩
  exact (h0.em hk hv).em (Nat.zero_le _) (Nat.zero_le _)
theorem RcB.cl {r : RC} {f : Nat} (h : RcB r) (hf : f ≤ r.1) : RcB (clR r f) := ⟨fun j => ⟨updN_le (h.1 j).1 (by decide), updN_le (updN_le (by have := (h.1 j).2; show r.2.2.1 j ≤ 23000000 + (r.1 + 1); omega) (by show f ≤ 23000000 + (r.1 + 1); omega)) (by show r.1 + 1 ≤ 23000000 + (r.1 + 1); omega)⟩, fun j => Nat.le_succ_of_le (h.2 j)⟩
theorem RcB.step {s : SM} {r : RC} {k n : Nat} (h : RcB r) (h4 : s.1 = 4 → s.2.2.1 ≤ 200) (h2 : s.1 = 2 → s.2.1 ≤ 9) (hn : n ≤ 23000000) : RcB (stR s r k n) := by
  unfold stR
  split
  · split
    · exact h.cl (h.2 _)
    · exact h
  · split
    · split
      · exact h.em (by decide) hn
      · split
        · exact h.em (by decide) (Nat.zero_le _)
        · split
          · exact h.em (by decide) (Nat.zero_le _)
          · exact h
    · split
      · rename_i hs2
        split
        · exact h.rel _ _ _
        · split
          · exact h.rel _ _ _
          · split
            · exact (h.rel _ _ _).op (by decide) (Nat.zero_le _)
            · split
              · exact (h.rel _ _ _).em (by have := h2 hs2; unfold stC; split <;> omega) (Nat.zero_le _)
              · exact h.rel _ _ _
      · split
        · rename_i hs4
          exact h.op (by decide) (by have := h4 hs4; omega)
        · exact h
theorem stK_4n {s s' : SM} {k n : Nat} (h : stK s k n = some s') (h4 : s'.1 = 4) : s'.2.2.1 ≤ 200 := by
  have key : s.1 = 0 ∨ s.1 = 1 ∨ s.1 = 2 ∨ s.1 = 3 ∨ s.1 = 4 ∨ s.1 = 5 ∨ 5 < s.1 := by omega
  rcases key with h0 | h0 | h0 | h0 | h0 | h0 | h0
  · rw [stp_0 h0] at h
    unfold stp0 at h
    repeat' split at h
    all_goals first | contradiction | (obtain rfl := Option.some.inj h; first | (dsimp only at h4; done) | (dsimp only at h4; omega))
  · rw [stp_1 h0] at h
    unfold stp1 at h
    repeat' split at h
    all_goals first | contradiction | (obtain rfl := Option.some.inj h; first | (dsimp only at h4; done) | (dsimp only at h4; omega))
  · rw [stp_2 h0] at h
    unfold stp2 at h
    repeat' split at h
    all_goals first | contradiction | (obtain rfl := Option.some.inj h; first | (dsimp only at h4; done) | (dsimp only at h4; omega))
  · rw [stp_3 h0] at h
    split at h
    · rename_i hk
      obtain rfl := Option.some.inj h
      exact hk.2
    · contradiction
  · rw [stp_4 h0] at h
    repeat' split at h
    all_goals first | contradiction | (obtain rfl := Option.some.inj h; first | (dsimp only at h4; done) | (dsimp only at h4; omega))
  · rw [stp_5 h0] at h
    repeat' split at h
    all_goals first | contradiction | (obtain rfl := Option.some.inj h; first | (dsimp only at h4; done) | (dsimp only at h4; omega))
  · unfold stK at h
    rw [if_neg (by omega), if_neg (by omega), if_neg (by omega), if_neg (by omega), if_neg (by omega), if_neg (by omega)] at h
    contradiction
theorem runE_rb {bt : Nat → Nat} (hb : ∀ j, bt j ≤ 255) (n : Nat) : ∀ m s r p wb s' r', FwI s → (s.1 = 4 → s.2.2.1 ≤ 200) → RcB r → runE bt n m s r p wb = some (s', r') → RcB r' := by
  intro m
  induction m with
  | zero => intro s r p wb s' r' _ _ _ h; contradiction
  | succ m ih =>
    intro s r p wb s' r' hI h4 hr h
    have h : (match stK s (tkK bt n p wb) (tkN bt n p) with
      | none => none
      | some s' => if s'.1 = 6 then some (s', stR s r (tkK bt n p wb) (tkN bt n p)) else runE bt n m s' (stR s r (tkK bt n p wb) (tkN bt n p)) (tkE bt n p) (tkW bt n p)) = some (s', r') := h
    have hst : RcB (stR s r (tkK bt n p wb) (tkN bt n p)) := hr.step h4 (fun q => by have := hI.2.1 (Or.inr q); omega) (tkN_b hb _ _)
    cases e : stK s (tkK bt n p wb) (tkN bt n p) with
    | none => rw [e] at h; contradiction
    | some w =>
      rw [e] at h
      dsimp only at h
      by_cases h6 : w.1 = 6
      · rw [if_pos h6] at h
        have h7 := Option.some.inj h
        have h8 : stR s r (tkK bt n p wb) (tkN bt n p) = r' := congrArg Prod.snd h7
        rw [← h8]
        exact hst
      · rw [if_neg h6] at h
        exact ih _ _ _ _ _ _ (hI.step e) (stK_4n e) hst h
theorem readE_b {bt : Nat → Nat} (hb : ∀ j, bt j ≤ 255) {n : Nat} {s : SM} {r : RC} (h : readE bt n = some (s, r)) : ∀ j, r.2.1 j ≤ 18 ∧ r.2.2.1 j ≤ 23000000 + r.1 := by
  unfold readE at h
  by_cases hn : n ≤ 600
  · rw [if_pos hn] at h
    exact (runE_rb hb n _ _ _ _ _ _ _ FwI_0 (fun q => absurd (show (0 : Nat) = 4 from q) (by decide)) RcB_0 h).1
  · rw [if_neg hn] at h
    contradiction
/-! the class's machine: its rows as lists (the last first) -/
def OsM : List Int32 → (Nat → Int32) → Prop
  | [], _ => True
  | v :: t, f => f t.length = v ∧ OsM t f
def LoM : List Nat → (Nat → Int32) → Prop
  | [], _ => True
  | q :: t, f => f t.length = nI q ∧ LoM t f
theorem OsM_up : ∀ (os : List Int32) (f : Nat → Int32) (n : Nat) (v : Int32), os.length ≤ n → OsM os f → OsM os (upd f n v)
  | [], _, _, _, _, _ => trivial
  | w :: t, f, n, v, hn, h => by
    rw [List.length_cons] at hn
    exact ⟨by rw [pk_un (by omega)]; exact h.1, OsM_up t f n v (by omega) h.2⟩
theorem OsM_psh {os : List Int32} {oz : Nat} {f : Nat → Int32} {v : Int32} (e : oz = os.length) (h : OsM os f) : OsM (v :: os) (upd f oz v) := by
  subst e
  exact ⟨pk_us, OsM_up os f _ v (Nat.le_refl _) h⟩
theorem LoM_up : ∀ (lo : List Nat) (f : Nat → Int32) (n : Nat) (v : Int32), lo.length ≤ n → LoM lo f → LoM lo (upd f n v)
  | [], _, _, _, _, _ => trivial
  | w :: t, f, n, v, hn, h => by
    rw [List.length_cons] at hn
    exact ⟨by rw [pk_un (by omega)]; exact h.1, LoM_up t f n v (by omega) h.2⟩
theorem LoM_psh {lo : List Nat} {z : Nat} {f : Nat → Int32} {q : Nat} (e : z = lo.length) (h : LoM lo f) : LoM (q :: lo) (upd f z (nI q)) := by
  subst e
  exact ⟨pk_us, LoM_up lo f _ _ (Nat.le_refl _) h⟩
theorem psh_ge {os : List Int32} {v : Int32} (h : ¬ os.length < 64) : pshC os v = os := if_neg h
theorem OsM_pop {os : List Int32} {oz : Nat} {f : Nat → Int32} (e : oz = os.length) (h : OsM os f) (h1 : 1 ≤ oz) : f (oz - 1) = os.headD 0 ∧ oz - 1 = os.tail.length ∧ OsM os.tail f := by
  cases os with
  | nil => subst e; exact absurd h1 (by decide)
  | cons v t =>
    subst e
    rw [List.length_cons, Nat.add_sub_cancel]
    exact ⟨h.1, rfl, h.2⟩
theorem OsM_pop0 {os : List Int32} {oz : Nat} {f : Nat → Int32} (e : oz = os.length) (h0 : oz = 0) : (0 : Int32) = os.headD 0 ∧ oz = os.tail.length ∧ OsM os.tail f := by
  cases os with
  | nil => exact ⟨rfl, e, trivial⟩
  | cons v t => rw [List.length_cons] at e; omega
def BlM : List (Nat × Nat) → (Nat → Int32) → (Nat → Int32) → Prop
  | [], _, _ => True
  | p :: t, f, h => f t.length = nI p.1 ∧ h t.length = nI p.2 ∧ BlM t f h
/-- the blocks' rows in the code -/
def BlC (rk : Nat → Nat) (fc : Nat → Int32) (bs : List (Nat × Nat)) : Prop := ∀ p, p ∈ bs → fc (2 * p.1) = nI (rk p.1) ∧ rk p.1 ≤ 255 ∧ p.1 ≤ 990
/-! a step of the reference's machine, kind by kind -/
theorem sR_10 {r : RC} {k st : Nat} {lt : Int32} {T : List (Nat × Int32)} {bS : List (Nat × Nat)} {oS : List Int32} (hx : k < r.1) (hk : r.2.1 k = 10) : stpR r (k, false, st, lt, T, bS, oS) = some (k + 1, false, st, lt, T, bS, nI (r.2.2.1 k) :: oS) := by
  unfold stpR
  rw [if_neg (r_nn rfl hx)]
  dsimp only
  rw [if_pos hk]
theorem sR_11 {r : RC} {k st : Nat} {lt : Int32} {T : List (Nat × Int32)} {bS : List (Nat × Nat)} {oS : List Int32} (hx : k < r.1) (hk : r.2.1 k = 11) : stpR r (k, false, st, lt, T, bS, oS) = some (k + 1, false, st, lt, T, bS, nI (rndR r.2.1 bS) :: oS) := by
  unfold stpR
  rw [if_neg (r_nn rfl hx)]
  dsimp only
  rw [if_neg (by omega), if_pos hk]
theorem sR_12 {r : RC} {k st : Nat} {lt : Int32} {T : List (Nat × Int32)} {bS : List (Nat × Nat)} {oS : List Int32} (hx : k < r.1) (hk : r.2.1 k = 12) : stpR r (k, false, st, lt, T, bS, oS) = some (k + 1, false, st, lt, T, bS, lt :: oS) := by
  unfold stpR
  rw [if_neg (r_nn rfl hx)]
  dsimp only
  rw [if_neg (by omega), if_neg (by omega), if_pos hk]
theorem sR_s {r : RC} {k st : Nat} {lt : Int32} {T : List (Nat × Int32)} {bS : List (Nat × Nat)} {oS : List Int32} (hx : k < r.1) (hk : 13 ≤ r.2.1 k) : stpR r (k, false, st, lt, T, bS, oS) = some (k + 1, false, st, lt, T, bS, jnD (sgR (r.2.1 k)) (oS.tail.headD 0) (oS.headD 0) :: oS.tail.tail) := by
  unfold stpR
  rw [if_neg (r_nn rfl hx)]
  dsimp only
  rw [if_neg (by omega), if_neg (by omega), if_neg (by omega), if_pos hk]
theorem sR_4z {r : RC} {k st : Nat} {lt : Int32} {T : List (Nat × Int32)} {bS : List (Nat × Nat)} {oS : List Int32} (hx : k < r.1) (hk : r.2.1 k = 4) (hn : r.2.2.1 k = 0) : stpR r (k, false, st, lt, T, bS, oS) = some (r.2.2.1 (k + 1), false, st, lt, T, bS, oS) := by
  unfold stpR
  rw [if_neg (r_nn rfl hx)]
  dsimp only
  rw [if_neg (by omega), if_neg (by omega), if_neg (by omega), if_neg (by omega), if_pos hk, if_pos hn]
theorem sR_4 {r : RC} {k st : Nat} {lt : Int32} {T : List (Nat × Int32)} {bS : List (Nat × Nat)} {oS : List Int32} (hx : k < r.1) (hk : r.2.1 k = 4) (hn : ¬ r.2.2.1 k = 0) (h3 : st < 300) : stpR r (k, false, st, lt, T, bS, oS) = some (k + 2, false, st + 1, lt, T, (k, 0) :: bS, oS) := by
  unfold stpR
  rw [if_neg (r_nn rfl hx)]
  dsimp only
  rw [if_neg (by omega), if_neg (by omega), if_neg (by omega), if_neg (by omega), if_pos hk, if_neg hn, if_pos h3]
theorem sR_4c {r : RC} {k st : Nat} {lt : Int32} {T : List (Nat × Int32)} {bS : List (Nat × Nat)} {oS : List Int32} (hx : k < r.1) (hk : r.2.1 k = 4) (hn : ¬ r.2.2.1 k = 0) (h3 : ¬ st < 300) : stpR r (k, false, st, lt, T, bS, oS) = some (k + 2, true, st, lt, T, (k, 0) :: bS, oS) := by
  unfold stpR
  rw [if_neg (r_nn rfl hx)]
  dsimp only
  rw [if_neg (by omega), if_neg (by omega), if_neg (by omega), if_neg (by omega), if_pos hk, if_neg hn, if_neg h3]
theorem sR_5 {r : RC} {k st : Nat} {lt : Int32} {T : List (Nat × Int32)} {bS : List (Nat × Nat)} {oS : List Int32} (hx : k < r.1) (hk : r.2.1 k = 5) (h0 : 0 < oS.headD 0) : stpR r (k, false, st, lt, T, bS, oS) = some (k + 2, false, st, lt, T, (k, 0) :: bS, oS.tail) := by
  unfold stpR
  rw [if_neg (r_nn rfl hx)]
  dsimp only
  rw [if_neg (by omega), if_neg (by omega), if_neg (by omega), if_neg (by omega), if_neg (by omega), if_pos hk, if_pos h0]
theorem sR_5n {r : RC} {k st : Nat} {lt : Int32} {T : List (Nat × Int32)} {bS : List (Nat × Nat)} {oS : List Int32} (hx : k < r.1) (hk : r.2.1 k = 5) (h0 : ¬ 0 < oS.headD 0) : stpR r (k, false, st, lt, T, bS, oS) = some (r.2.2.1 (k + 1), false, st, lt, T, bS, oS.tail) := by
  unfold stpR
  rw [if_neg (r_nn rfl hx)]
  dsimp only
  rw [if_neg (by omega), if_neg (by omega), if_neg (by omega), if_neg (by omega), if_neg (by omega), if_pos hk, if_neg h0]
theorem sR_6 {r : RC} {k st : Nat} {lt : Int32} {T : List (Nat × Int32)} {bS : List (Nat × Nat)} {oS : List Int32} (hx : k < r.1) (hk : r.2.1 k = 6) (hq : (r.2.1 (r.2.2.1 k) = 4 ∧ (bS.headD (0, 0)).2 + 1 < r.2.2.1 (r.2.2.1 k))) (h3 : st < 300) : stpR r (k, false, st, lt, T, bS, oS) = some (r.2.2.1 k + 2, false, st + 1, lt, T, ((bS.headD (0, 0)).1, (bS.headD (0, 0)).2 + 1) :: bS.tail, oS) := by
  unfold stpR
  rw [if_neg (r_nn rfl hx)]
  dsimp only
  rw [if_neg (by omega), if_neg (by omega), if_neg (by omega), if_neg (by omega), if_neg (by omega), if_neg (by omega), if_pos hk, if_pos hq, if_pos h3]
theorem sR_6c {r : RC} {k st : Nat} {lt : Int32} {T : List (Nat × Int32)} {bS : List (Nat × Nat)} {oS : List Int32} (hx : k < r.1) (hk : r.2.1 k = 6) (hq : (r.2.1 (r.2.2.1 k) = 4 ∧ (bS.headD (0, 0)).2 + 1 < r.2.2.1 (r.2.2.1 k))) (h3 : ¬ st < 300) : stpR r (k, false, st, lt, T, bS, oS) = some (r.2.2.1 k + 2, true, st, lt, T, ((bS.headD (0, 0)).1, (bS.headD (0, 0)).2 + 1) :: bS.tail, oS) := by
  unfold stpR
  rw [if_neg (r_nn rfl hx)]
  dsimp only
  rw [if_neg (by omega), if_neg (by omega), if_neg (by omega), if_neg (by omega), if_neg (by omega), if_neg (by omega), if_pos hk, if_pos hq, if_neg h3]
theorem sR_6o {r : RC} {k st : Nat} {lt : Int32} {T : List (Nat × Int32)} {bS : List (Nat × Nat)} {oS : List Int32} (hx : k < r.1) (hk : r.2.1 k = 6) (hq : ¬ (r.2.1 (r.2.2.1 k) = 4 ∧ (bS.headD (0, 0)).2 + 1 < r.2.2.1 (r.2.2.1 k))) : stpR r (k, false, st, lt, T, bS, oS) = some (k + 1, false, st, lt, T, bS.tail, oS) := by
  unfold stpR
  rw [if_neg (r_nn rfl hx)]
  dsimp only
  rw [if_neg (by omega), if_neg (by omega), if_neg (by omega), if_neg (by omega), if_neg (by omega), if_neg (by omega), if_pos hk, if_neg hq]
theorem sR_a0 {r : RC} {k st : Nat} {lt : Int32} {T : List (Nat × Int32)} {bS : List (Nat × Nat)} {oS : List Int32} (hx : k < r.1) (hk : r.2.1 k = 0) (h3 : st < 300) : stpR r (k, false, st, lt, T, bS, oS) = some (k + 1, false, st + 1, (actF 3 (oS.tail.headD 0) (oS.headD 0) lt T).1, (actF 3 (oS.tail.headD 0) (oS.headD 0) lt T).2, bS, oS.tail.tail) := by
  unfold stpR
  rw [if_neg (r_nn rfl hx)]
  dsimp only
  rw [if_neg (by omega), if_neg (by omega), if_neg (by omega), if_neg (by omega), if_neg (by omega), if_neg (by omega), if_neg (by omega), if_pos h3, if_pos hk]
theorem sR_a {r : RC} {k st : Nat} {lt : Int32} {T : List (Nat × Int32)} {bS : List (Nat × Nat)} {oS : List Int32} (hx : k < r.1) (hk : 1 ≤ r.2.1 k ∧ r.2.1 k ≤ 3) (h3 : st < 300) : stpR r (k, false, st, lt, T, bS, oS) = some (k + 1, false, st + 1, (actF (r.2.1 k + 4) (oS.headD 0) 0 lt T).1, (actF (r.2.1 k + 4) (oS.headD 0) 0 lt T).2, bS, oS.tail) := by
  unfold stpR
  rw [if_neg (r_nn rfl hx)]
  dsimp only
  rw [if_neg (by omega), if_neg (by omega), if_neg (by omega), if_neg (by omega), if_neg (by omega), if_neg (by omega), if_neg (by omega), if_pos h3, if_neg (by omega)]
theorem sR_ac {r : RC} {k st : Nat} {lt : Int32} {T : List (Nat × Int32)} {bS : List (Nat × Nat)} {oS : List Int32} (hx : k < r.1) (hk : r.2.1 k ≤ 3) (h3 : ¬ st < 300) : stpR r (k, false, st, lt, T, bS, oS) = some (k + 1, true, st, lt, T, bS, oS) := by
  unfold stpR
  rw [if_neg (r_nn rfl hx)]
  dsimp only
  rw [if_neg (by omega), if_neg (by omega), if_neg (by omega), if_neg (by omega), if_neg (by omega), if_neg (by omega), if_neg (by omega), if_neg h3]
theorem BlM_up : ∀ (bs : List (Nat × Nat)) (f h : Nat → Int32) (n : Nat) (v w : Int32), bs.length ≤ n → BlM bs f h → BlM bs (upd f n v) (upd h n w)
  | [], _, _, _, _, _, _, _ => trivial
  | p :: t, f, h, n, v, w, hn, q => by
    rw [List.length_cons] at hn
    exact ⟨by rw [pk_un (by omega)]; exact q.1, by rw [pk_un (by omega)]; exact q.2.1, BlM_up t f h n v w (by omega) q.2.2⟩
theorem BlM_upq : ∀ (bs : List (Nat × Nat)) (f h : Nat → Int32) (n : Nat) (w : Int32), bs.length ≤ n → BlM bs f h → BlM bs f (upd h n w)
  | [], _, _, _, _, _, _ => trivial
  | p :: t, f, h, n, w, hn, q => by
    rw [List.length_cons] at hn
    exact ⟨q.1, by rw [pk_un (by omega)]; exact q.2.1, BlM_upq t f h n w (by omega) q.2.2⟩
theorem BlM_psh {bs : List (Nat × Nat)} {f h : Nat → Int32} {n kk : Nat} (e : n = bs.length) (q : BlM bs f h) : BlM ((kk, 0) :: bs) (upd f n (nI kk)) (upd h n 0) := by
  subst e
  exact ⟨pk_us, pk_us, BlM_up bs f h _ _ _ (Nat.le_refl _) q⟩
theorem BlM_hd {bs : List (Nat × Nat)} {f h : Nat → Int32} {n : Nat} (e : n = bs.length) (q : BlM bs f h) (h1 : 1 ≤ n) : f (n - 1) = nI (bs.headD (0, 0)).1 ∧ h (n - 1) = nI (bs.headD (0, 0)).2 ∧ n - 1 = bs.tail.length ∧ BlM bs.tail f h ∧ bs ≠ [] := by
  cases bs with
  | nil => subst e; exact absurd h1 (by decide)
  | cons p t =>
    subst e
    rw [List.length_cons, Nat.add_sub_cancel]
    exact ⟨q.1, q.2.1, rfl, q.2.2, List.cons_ne_nil _ _⟩
theorem BlM_set {bs : List (Nat × Nat)} {f h : Nat → Int32} {n : Nat} (e : n = bs.length) (q : BlM bs f h) (h1 : 1 ≤ n) : BlM (((bs.headD (0, 0)).1, (bs.headD (0, 0)).2 + 1) :: bs.tail) f (upd h (n - 1) (h (n - 1) + 1)) ∧ n = (((bs.headD (0, 0)).1, (bs.headD (0, 0)).2 + 1) :: bs.tail).length := by
  obtain ⟨a, b, c, d, _⟩ := BlM_hd e q h1
  refine ⟨⟨by rw [← c]; exact a, by rw [← c, pk_us, b]; exact nI_1 _, BlM_upq _ _ _ _ _ (by omega) d⟩, by rw [List.length_cons]; omega⟩
/-! what a program does to a table -/
theorem isK_KB {x : Int32} : isK x ↔ isKB x = true := by
  unfold isKB
  rw [Bool.and_eq_true, decide_eq_true_iff, decide_eq_true_iff]
  constructor
  · rintro ⟨n, hn, rfl⟩
    exact ⟨nI_pos' (by omega), nI_lt (b := 2147483647) hn (by decide)⟩
  · rintro ⟨h0, h1⟩
    refine isK_of.mp ?_
    rw [show (2147483646 : Int64) = (2147483646 : Int32).toInt64 from by decide, show (0 : Int64) = (0 : Int32).toInt64 from by decide, w64_le, w64_le]
    refine ⟨h0, ?_⟩
    rw [Int32.le_iff_toInt_le]
    rw [Int32.lt_iff_toInt_lt] at h1
    have e1 : (2147483647 : Int32).toInt = 2147483647 := by decide
    have e2 : (2147483646 : Int32).toInt = 2147483646 := by decide
    omega
theorem toK_nI {n : Nat} (h : n < 2147483647) : toK (nI n) = n := by
  unfold toK
  rw [nI_toInt (by omega)]
  rfl
theorem act_put {x v la : Int32} {L : List (Nat × Int32)} {kx : Nat} (hx : kx < 2147483647) (e : nI kx = x) (hf : fulL L kx = false) : actF 3 x v la L = (la, putL L kx v) := by
  subst e
  show (la, if isKB (nI kx) = true ∧ fulL L (toK (nI kx)) = false then putL L (toK (nI kx)) v else L) = _
  rw [toK_nI hx, if_pos ⟨isK_KB.mp ⟨kx, hx, rfl⟩, hf⟩]
theorem act_full {x v la : Int32} {L : List (Nat × Int32)} {kx : Nat} (hx : kx < 2147483647) (e : nI kx = x) (hf : fulL L kx = true) : actF 3 x v la L = (la, L) := by
  subst e
  show (la, if isKB (nI kx) = true ∧ fulL L (toK (nI kx)) = false then putL L (toK (nI kx)) v else L) = _
  rw [toK_nI hx, if_neg (fun q => by rw [hf] at q; exact absurd q.2 (by decide))]
theorem act_nk {x y v la : Int32} {L : List (Nat × Int32)} {k : Nat} (hk : k = 3 ∨ k = 5) (h : ¬ isK y) (e : y = x) : actF k x v la L = (la, L) := by
  subst e
  rcases hk with rfl | rfl
  · show (la, if isKB y = true ∧ fulL L (toK y) = false then putL L (toK y) v else L) = _
    rw [if_neg (fun q => h (isK_KB.mpr q.1))]
  · show (la, if isKB y = true then dropL L (toK y) else L) = _
    rw [if_neg (fun q => h (isK_KB.mpr q))]
theorem act_drop {x v la : Int32} {L : List (Nat × Int32)} {kx : Nat} (hx : kx < 2147483647) (e : nI kx = x) : actF 5 x v la L = (la, dropL L kx) := by
  subst e
  show (la, if isKB (nI kx) = true then dropL L (toK (nI kx)) else L) = _
  rw [toK_nI hx, if_pos (isK_KB.mp ⟨kx, hx, rfl⟩)]
theorem act_get {x y v la : Int32} {L : List (Nat × Int32)} (e : y = x) : actF 6 x v la L = (if isKB y = true then lkD (lookL L (toK y)) else -1, L) := by
  subst e
  rfl
theorem act_let {x v la : Int32} {L : List (Nat × Int32)} : actF 7 x v la L = (x, L) := rfl
/-! the reference's machine as it runs -/
def dsF (x : Nat) (fw : Nat → Int32) (la : Int32) (L : List (Nat × Int32)) : Int32 × List (Nat × Int32) := if x = 0 then actF 3 (fw 0) (fw 1) la L else actF (x + 4) (fw 0) 0 la L
def RnI (r : RC) (fc : Nat → Int32) (L0 : List (Nat × Int32)) (kk sp : Nat) (la : Int32) (L : List (Nat × Int32)) (ns : Nat) (gx gq : Nat → Int32) (wm : Nat) (gw : Nat → Int32) : Prop := ∃ bs os, star (stpR r) (0, false, 0, 0, L0, [], []) (kk, false, sp, la, L, bs, os) ∧ ns = bs.length ∧ BlM bs gx gq ∧ BlC r.2.1 fc bs ∧ (∀ p, p ∈ bs → p.2 ≤ 23000600) ∧ wm = os.length ∧ OsM os gw
def RnC (r : RC) (L0 : List (Nat × Int32)) (sp : Nat) (L : List (Nat × Int32)) : Prop := ∃ z, star (stpR r) (0, false, 0, 0, L0, [], []) z ∧ stpR r z = none ∧ z.2.2.1 = sp ∧ z.2.2.2.2.1 = L
def RkB (r : RC) : Prop := ∀ j, r.2.1 j ≤ 18 ∧ r.2.2.1 j ≤ 23000600
theorem RnI_0 (r : RC) (fc : Nat → Int32) (L0 : List (Nat × Int32)) (gx gq gw : Nat → Int32) : RnI r fc L0 0 0 0 L0 0 gx gq 0 gw := ⟨[], [], star_0 _, rfl, trivial, fun p hp => absurd hp (List.not_mem_nil), fun p hp => absurd hp (List.not_mem_nil), rfl, trivial⟩
theorem rk_of {r : RC} {cd : Nat} {fc : Nat → Int32} {j x : Nat} (hm : MatR r cd fc) (hB : RkB r) (hj : j < cd) (hx : x ≤ 255) (e : fc (2 * j) = nI x) : r.2.1 j = x := (nI_eq (by have := (hB j).1; omega) (by omega)).mp ((hm.2 j hj).1.symm.trans e)
theorem rv_of {r : RC} {cd : Nat} {fc : Nat → Int32} {j x : Nat} (hm : MatR r cd fc) (hB : RkB r) (hj : j < cd) (hx : x < 2147483648) (e : fc (2 * j + 1) = nI x) : r.2.2.1 j = x := (nI_eq (by have := (hB j).2; omega) hx).mp ((hm.2 j hj).2.symm.trans e)
theorem RnC_cut {r : RC} {L0 : List (Nat × Int32)} {y : RR} (s : star (stpR r) (0, false, 0, 0, L0, [], []) y) (h : y.2.1 = true) : RnC r L0 y.2.2.1 y.2.2.2.2.1 := ⟨y, s, by unfold stpR; exact if_pos (Or.inl h), rfl, rfl⟩
theorem RnI.fin {r : RC} {fc : Nat → Int32} {L0 : List (Nat × Int32)} {kk sp : Nat} {la : Int32} {L : List (Nat × Int32)} {ns : Nat} {gx gq : Nat → Int32} {wm cd : Nat} {gw : Nat → Int32} (h : RnI r fc L0 kk sp la L ns gx gq wm gw) (hm : MatR r cd fc) (hk : cd ≤ kk) : RnC r L0 sp L := by
  obtain ⟨bs, os, s, _⟩ := h
  exact ⟨_, s, by unfold stpR; exact if_pos (Or.inr (by show r.1 ≤ kk; rw [← hm.1]; exact hk)), rfl, rfl⟩
theorem RnI.works {r : RC} {fc : Nat → Int32} {L0 : List (Nat × Int32)} {kk sp : Nat} {la : Int32} {L : List (Nat × Int32)} {ns : Nat} {gx gq : Nat → Int32} {wm cd : Nat} {gw : Nat → Int32} (h : RnI r fc L0 kk sp la L ns gx gq wm gw) (hm : MatR r cd fc) (hB : RkB r) (hj : kk < cd) {x wq : Nat} {gz : Nat → Int32} (e : fc (2 * kk) = nI x) (hx : 10 ≤ x) (hx7 : x ≤ 17) (hw : ∀ rk bs os, wm = os.length → OsM os gw → ns = bs.length → BlM bs gx gq → BlC rk fc bs → ∃ oQ, wq = oQ.length ∧ OsM oQ gz ∧ ((x = 10 ∧ oQ = fc (2 * kk + 1) :: os) ∨ (x = 11 ∧ oQ = nI (rndR rk bs) :: os) ∨ (¬ x = 10 ∧ ¬ x = 11 ∧ x ≤ 12 ∧ oQ = la :: os) ∨ (13 ≤ x ∧ oQ = jnD (sgR x) (os.tail.headD 0) (os.headD 0) :: os.tail.tail))) : RnI r fc L0 (kk + 1) sp la L ns gx gq wq gz := by
  obtain ⟨bs, os, s, e1, e2, e3, e6, e4, e5⟩ := h
  obtain ⟨oQ, f1, f2, f3⟩ := hw r.2.1 bs os e4 e5 e1 e2 e3
  have hk : r.2.1 kk = x := rk_of hm hB hj (by omega) e
  have hl : kk < r.1 := by rw [← hm.1]; exact hj
  refine ⟨bs, oQ, star_t s (star_1 ?_ (star_0 _)), e1, e2, e3, e6, f1, f2⟩
  rcases f3 with ⟨q, rfl⟩ | ⟨q, rfl⟩ | ⟨q1, q2, q3, rfl⟩ | ⟨q, rfl⟩
  · rw [(hm.2 kk hj).2]
    exact sR_10 hl (hk.trans q)
  · exact sR_11 hl (hk.trans q)
  · exact sR_12 hl (by omega)
  · rw [← hk]
    exact sR_s hl (by omega)
theorem len1 {os : List Int32} (h : 1 = os.length) : ∃ v, os = [v] := List.length_eq_one_iff.mp h.symm
theorem len2 {os : List Int32} (h : 2 = os.length) : ∃ v w, os = [v, w] := by
  cases os with
  | nil => exact absurd h (by decide)
  | cons v t =>
    obtain ⟨w, rfl⟩ := len1 (os := t) (by rw [List.length_cons] at h; omega)
    exact ⟨v, w, rfl⟩
theorem len0 {os : List Int32} (h : 0 = os.length) : os = [] := List.eq_nil_of_length_eq_zero h.symm
theorem RnI.acts {r : RC} {fc : Nat → Int32} {L0 : List (Nat × Int32)} {kk sp : Nat} {la : Int32} {L : List (Nat × Int32)} {ns : Nat} {gx gq : Nat → Int32} {wm cd : Nat} {gw gz : Nat → Int32} (h : RnI r fc L0 kk sp la L ns gx gq wm gw) (hm : MatR r cd fc) (hB : RkB r) (hj : kk < cd) {x : Nat} (e : fc (2 * kk) = nI x) (hx : x ≤ 3) (hw : (x = 0 ∧ wm = 2) ∨ (x ≠ 0 ∧ wm = 1)) (hs : sp < 300) : RnI r fc L0 (kk + 1) (sp + 1) (dsF x gw la L).1 (dsF x gw la L).2 ns gx gq 0 gz := by
  obtain ⟨bs, os, s, e1, e2, e3, e6, e4, e5⟩ := h
  have hk : r.2.1 kk = x := rk_of hm hB hj (by omega) e
  have hl : kk < r.1 := by rw [← hm.1]; exact hj
  refine ⟨bs, [], star_t s (star_1 ?_ (star_0 _)), e1, e2, e3, e6, rfl, trivial⟩
  rcases hw with ⟨rfl, rfl⟩ | ⟨hx0, rfl⟩
  · obtain ⟨v, w, rfl⟩ := len2 e4
    have a : gw 1 = v := e5.1
    have b : gw 0 = w := e5.2.1
    rw [show dsF 0 gw la L = actF 3 w v la L from by unfold dsF; rw [if_pos rfl, a, b]]
    exact sR_a0 hl hk hs
  · obtain ⟨v, rfl⟩ := len1 e4
    have a : gw 0 = v := e5.1
    rw [show dsF x gw la L = actF (x + 4) v 0 la L from by unfold dsF; rw [if_neg hx0, a]]
    rw [← hk]
    exact sR_a hl (by omega) hs
theorem RnI.actc {r : RC} {fc : Nat → Int32} {L0 : List (Nat × Int32)} {kk sp : Nat} {la : Int32} {L : List (Nat × Int32)} {ns : Nat} {gx gq : Nat → Int32} {wm cd : Nat} {gw : Nat → Int32} (h : RnI r fc L0 kk sp la L ns gx gq wm gw) (hm : MatR r cd fc) (hB : RkB r) (hj : kk < cd) {x : Nat} (e : fc (2 * kk) = nI x) (hx : x ≤ 3) (hs : 300 ≤ sp) : RnC r L0 sp L := by
  obtain ⟨bs, os, s, e1, e2, e3, e6, e4, e5⟩ := h
  have hk : r.2.1 kk = x := rk_of hm hB hj (by omega) e
  have hl : kk < r.1 := by rw [← hm.1]; exact hj
  exact RnC_cut (star_t s (star_1 (sR_ac hl (by omega) (by omega)) (star_0 _))) rfl
theorem nI_p {n : Nat} (h : n < 2147483648) : (0 : Int32) < nI n ↔ 0 < n := by
  rw [show (0 : Int32) = nI 0 from rfl]
  exact nI_ltI (by decide) h
theorem RnI.begA {r : RC} {fc : Nat → Int32} {L0 : List (Nat × Int32)} {kk sp : Nat} {la : Int32} {L : List (Nat × Int32)} {ns : Nat} {gx gq : Nat → Int32} {wm cd : Nat} {gw gz : Nat → Int32} (h : RnI r fc L0 kk sp la L ns gx gq wm gw) (hm : MatR r cd fc) (hB : RkB r) (hj : kk + 1 < cd) {x bh : Nat} (e : fc (2 * kk) = nI x) (hbh : fc (2 * kk + 3) = nI bh) (hb9 : bh < 2147483648) (hw : wm + 4 = x) (h9 : (x = 4 ∧ ¬ 0 < fc (2 * kk + 1)) ∨ (x = 5 ∧ ¬ 0 < gw (wm - 1))) : RnI r fc L0 bh sp la L ns gx gq 0 gz := by
  obtain ⟨bs, os, s, e1, e2, e3, e6, e4, e5⟩ := h
  have hk : r.2.1 kk = x := rk_of hm hB (by omega) (by omega) e
  have hl : kk < r.1 := by rw [← hm.1]; omega
  have hv : r.2.2.1 (kk + 1) = bh := rv_of hm hB hj hb9 hbh
  rcases h9 with ⟨rfl, q⟩ | ⟨rfl, q⟩
  · obtain rfl : wm = 0 := by omega
    obtain rfl := len0 e4
    refine ⟨bs, [], star_t s (star_1 ?_ (star_0 _)), e1, e2, e3, e6, rfl, trivial⟩
    have h0 : r.2.2.1 kk = 0 := by
      rw [(hm.2 kk (by omega)).2, nI_p (by have := (hB kk).2; omega)] at q
      omega
    have := sR_4z (st := sp) (lt := la) (T := L) (bS := bs) (oS := []) hl hk h0
    rw [hv] at this
    exact this
  · obtain rfl : wm = 1 := by omega
    obtain ⟨v, rfl⟩ := len1 e4
    have a : gw 0 = v := e5.1
    refine ⟨bs, [], star_t s (star_1 ?_ (star_0 _)), e1, e2, e3, e6, rfl, trivial⟩
    have := sR_5n (st := sp) (lt := la) (T := L) (bS := bs) (oS := [v]) hl hk (by rw [← show gw (1 - 1) = v from a]; exact q)
    rw [hv] at this
    exact this
theorem BlC_psh {rk : Nat → Nat} {fc : Nat → Int32} {bs : List (Nat × Nat)} {kk q : Nat} (h : BlC rk fc bs) (e : fc (2 * kk) = nI (rk kk)) (h1 : rk kk ≤ 255) (h2 : kk ≤ 990) : BlC rk fc ((kk, q) :: bs) := by
  intro p hp
  rcases List.mem_cons.mp hp with rfl | hp
  · exact ⟨e, h1, h2⟩
  · exact h p hp
theorem RnI.begB {r : RC} {fc : Nat → Int32} {L0 : List (Nat × Int32)} {kk sp : Nat} {la : Int32} {L : List (Nat × Int32)} {ns : Nat} {gx gq : Nat → Int32} {wm cd : Nat} {gw gz : Nat → Int32} (h : RnI r fc L0 kk sp la L ns gx gq wm gw) (hm : MatR r cd fc) (hB : RkB r) (hj : kk < cd) (hkk : kk ≤ 990) {x sq : Nat} {ic : Int32} (e : fc (2 * kk) = nI x) (hx : x ≤ 5) (hw : wm + 4 = x) (h9 : (x = 4 ∧ 0 < fc (2 * kk + 1) ∧ ((sp < 300 ∧ sq = sp + 1 ∧ ic = 0) ∨ (300 ≤ sp ∧ sq = sp ∧ ic = 1))) ∨ (x = 5 ∧ 0 < gw (wm - 1) ∧ sq = sp ∧ ic = 0)) : (ic = 0 → RnI r fc L0 (kk + 2) sq la L (ns + 1) (upd gx ns (nI kk)) (upd gq ns 0) 0 gz) ∧ (¬ ic = 0 → RnC r L0 sq L) := by
  obtain ⟨bs, os, s, e1, e2, e3, e6, e4, e5⟩ := h
  have hk : r.2.1 kk = x := rk_of hm hB (by omega) (by omega) e
  have hl : kk < r.1 := by rw [← hm.1]; omega
  have hbs : BlC r.2.1 fc ((kk, 0) :: bs) := BlC_psh e3 (by rw [hk]; exact e) (by omega) hkk
  have hq0 : ∀ p, p ∈ (kk, 0) :: bs → p.2 ≤ 23000600 := fun p hp => by
    rcases List.mem_cons.mp hp with rfl | hp
    · exact Nat.zero_le _
    · exact e6 p hp
  rcases h9 with ⟨rfl, q, h9⟩ | ⟨rfl, q, rfl, rfl⟩
  · obtain rfl : wm = 0 := by omega
    obtain rfl := len0 e4
    have h0 : ¬ r.2.2.1 kk = 0 := by
      rw [(hm.2 kk (by omega)).2, nI_p (by have := (hB kk).2; omega)] at q
      omega
    rcases h9 with ⟨h3, rfl, rfl⟩ | ⟨h3, rfl, rfl⟩
    · refine ⟨fun _ => ⟨(kk, 0) :: bs, [], star_t s (star_1 (sR_4 hl hk h0 h3) (star_0 _)), by rw [List.length_cons]; omega, BlM_psh e1 e2, hbs, hq0, rfl, trivial⟩, fun q => absurd rfl q⟩
    · refine ⟨fun q => absurd q (by decide), fun _ => RnC_cut (star_t s (star_1 (sR_4c hl hk h0 (by omega)) (star_0 _))) rfl⟩
  · obtain rfl : wm = 1 := by omega
    obtain ⟨v, rfl⟩ := len1 e4
    have a : gw 0 = v := e5.1
    refine ⟨fun _ => ⟨(kk, 0) :: bs, [], star_t s (star_1 (sR_5 (oS := [v]) hl hk (by rw [← show gw (1 - 1) = v from a]; exact q)) (star_0 _)), by rw [List.length_cons]; omega, BlM_psh e1 e2, hbs, hq0, rfl, trivial⟩, fun q => absurd rfl q⟩
theorem cl_q {r : RC} {cd : Nat} {fc : Nat → Int32} {fm a : Nat} (hm : MatR r cd fc) (hB : RkB r) (hf : fm < cd) (ha : a ≤ 23000600) : (fc (2 * fm) = 4 ∧ nI a + 1 < fc (2 * fm + 1)) ↔ (r.2.1 fm = 4 ∧ a + 1 < r.2.2.1 fm) := by
  have b1 := (hB fm).1
  have b2 := (hB fm).2
  rw [(hm.2 fm hf).1, (hm.2 fm hf).2, nI_1, show (4 : Int32) = nI 4 from rfl, nI_eq (by omega) (by decide), nI_ltI (by omega) (by omega)]
theorem RnI.clo {r : RC} {fc : Nat → Int32} {L0 : List (Nat × Int32)} {kk sp : Nat} {la : Int32} {L : List (Nat × Int32)} {ns : Nat} {gx gq : Nat → Int32} {wm cd : Nat} {gw : Nat → Int32} (h : RnI r fc L0 kk sp la L ns gx gq wm gw) (hm : MatR r cd fc) (hB : RkB r) (hj : kk < cd) {fm : Nat} (e : fc (2 * kk) = nI 6) (ef : fc (2 * kk + 1) = nI fm) (hf : fm < cd) (hc9 : cd ≤ 600) (hn : 1 ≤ ns) (hq : ¬ (fc (2 * fm) = 4 ∧ gq (ns - 1) + 1 < fc (2 * fm + 1))) {nq : Nat} (hnq : nq + 1 = ns) : RnI r fc L0 (kk + 1) sp la L nq gx gq wm gw := by
  obtain ⟨bs, os, s, e1, e2, e3, e6, e4, e5⟩ := h
  have hk : r.2.1 kk = 6 := rk_of hm hB hj (by decide) e
  have hl : kk < r.1 := by rw [← hm.1]; omega
  have hv : r.2.2.1 kk = fm := rv_of hm hB hj (by omega) ef
  obtain ⟨b1, b2, b3, b4, b5⟩ := BlM_hd e1 e2 hn
  obtain ⟨p0, bt, rfl⟩ := List.exists_cons_of_ne_nil b5
  rw [b2] at hq
  have hq : ¬ (fc (2 * fm) = 4 ∧ nI p0.2 + 1 < fc (2 * fm + 1)) := hq
  rw [cl_q hm hB hf (e6 p0 List.mem_cons_self), ← hv] at hq
  exact ⟨bt, os, star_t s (star_1 (sR_6o hl hk hq) (star_0 _)), by have b3 : ns - 1 = bt.length := b3; omega, b4, fun p hp => e3 p (List.mem_cons_of_mem _ hp), fun p hp => e6 p (List.mem_cons_of_mem _ hp), e4, e5⟩
theorem RnI.clb {r : RC} {fc : Nat → Int32} {L0 : List (Nat × Int32)} {kk sp : Nat} {la : Int32} {L : List (Nat × Int32)} {ns : Nat} {gx gq : Nat → Int32} {wm cd : Nat} {gw : Nat → Int32} (h : RnI r fc L0 kk sp la L ns gx gq wm gw) (hm : MatR r cd fc) (hB : RkB r) (hj : kk < cd) {fm : Nat} (e : fc (2 * kk) = nI 6) (ef : fc (2 * kk + 1) = nI fm) (hf : fm < cd) (hc9 : cd ≤ 600) (hn : 1 ≤ ns) (hq : fc (2 * fm) = 4 ∧ gq (ns - 1) + 1 < fc (2 * fm + 1)) : (sp < 300 → RnI r fc L0 (fm + 2) (sp + 1) la L ns gx (upd gq (ns - 1) (gq (ns - 1) + 1)) wm gw) ∧ (300 ≤ sp → RnC r L0 sp L) := by
  obtain ⟨bs, os, s, e1, e2, e3, e6, e4, e5⟩ := h
  have hk : r.2.1 kk = 6 := rk_of hm hB hj (by decide) e
  have hl : kk < r.1 := by rw [← hm.1]; omega
  have hv : r.2.2.1 kk = fm := rv_of hm hB hj (by omega) ef
  obtain ⟨b1, b2, b3, b4, b5⟩ := BlM_hd e1 e2 hn
  obtain ⟨c1, c2⟩ := BlM_set e1 e2 hn
  obtain ⟨p0, bt, rfl⟩ := List.exists_cons_of_ne_nil b5
  have hq2 := hq
  rw [b2] at hq2
  have hq2 : fc (2 * fm) = 4 ∧ nI p0.2 + 1 < fc (2 * fm + 1) := hq2
  rw [cl_q hm hB hf (e6 p0 List.mem_cons_self), ← hv] at hq2
  constructor
  · intro h3
    have := sR_6 (st := sp) (lt := la) (T := L) (bS := p0 :: bt) (oS := os) hl hk hq2 h3
    rw [hv] at this
    refine ⟨_, os, star_t s (star_1 this (star_0 _)), c2, c1, fun p hp => ?_, fun p hp => ?_, e4, e5⟩
    · rcases List.mem_cons.mp hp with rfl | hp
      · exact e3 p0 List.mem_cons_self
      · exact e3 p (List.mem_cons_of_mem _ hp)
    · rcases List.mem_cons.mp hp with rfl | hp
      · have b9 := (hB (r.2.2.1 kk)).2
        have h2 : p0.2 + 1 < r.2.2.1 (r.2.2.1 kk) := hq2.2
        show p0.2 + 1 ≤ 23000600
        omega
      · exact e6 p (List.mem_cons_of_mem _ hp)
  · intro h3
    exact RnC_cut (star_t s (star_1 (sR_6c hl hk hq2 (by omega)) (star_0 _))) rfl
/-! run: what it answers and leaves -/
def runP (bt : Nat → Nat) (tp : Nat) (L L' : List (Nat × Int32)) (r : Int32) : Prop := (∃ s y st, readE bt tp = some (s, y) ∧ RnC y L st L' ∧ r = nI st) ∨ (readE bt tp = none ∧ L' = L ∧ r = -1)
def runQ (th : Prop) (bt : Nat → Nat) (tp : Nat) (Ls Ls' : Nat → List (Nat × Int32)) (z r : Int32) : Prop := (th ∧ ∃ L', Ls' = updS Ls (ixN z) L' ∧ runP bt tp (Ls (ixN z)) L' r) ∨ (¬ th ∧ Ls' = Ls ∧ r = -2)
theorem runQ_1 {th : Prop} {bt : Nat → Nat} {tp k : Nat} {Ls Lt : Nat → List (Nat × Int32)} {r : Int32} (hk : k < 4) (ht : th) (h : ∃ L', Lt = updS Ls k L' ∧ runP bt tp (Ls k) L' r) : runQ th bt tp Ls Lt (nI k) r := Or.inl ⟨ht, by rw [ixN_k (by omega)]; exact h⟩

