/-! the tape's bytes, as numbers -/
def rdN (fb : Nat → Nat) (x : Nat) : Nat → Nat
  | 0 => 0
  | q + 1 => rdN fb x q * 256 + fb (x + q)
def ckN (fb : Nat → Nat) : Nat → Nat
  | 0 => 7
  | n + 1 => (5 * ckN fb n + fb n) % 253
def keyN (fb : Nat → Nat) (j : Nat) : Nat := rdN fb (13 + 8 * j) 4
def RsN (fb : Nat → Nat) (n : Nat) : Prop := (∀ j, j < n → keyN fb j < 2147483647) ∧ ∀ j, j + 1 < n → keyN fb j < keyN fb (j + 1)
def IMG (fb : Nat → Nat) (tp : Nat) : Prop := tp = 14 + 8 * fb 12 ∧ fb 12 ≤ 160 ∧ (8 ≤ fb 0 ∧ fb 0 ≤ 64) ∧ (25 ≤ rdN fb 1 2 ∧ rdN fb 1 2 ≤ 400) ∧ fb 3 ≤ 200 ∧ RsN fb (fb 12) ∧ fb (tp - 1) = ckN fb (tp - 1)
theorem RsN_0 (fb : Nat → Nat) : RsN fb 0 := ⟨fun j h => absurd h (Nat.not_lt_zero _), fun j h => absurd h (Nat.not_lt_zero _)⟩
theorem RsN_s {fb : Nat → Nat} {n : Nat} (h : RsN fb n) (h1 : keyN fb n < 2147483647) (h2 : ∀ m, n = m + 1 → keyN fb m < keyN fb n) : RsN fb (n + 1) := by
  refine ⟨fun j hj => ?_, fun j hj => ?_⟩
  · by_cases e : j = n
    · subst e
      exact h1
    · exact h.1 j (by omega)
  · by_cases e : j + 1 = n
    · rw [e]
      exact h2 j e.symm
    · exact h.2 j (by omega)
theorem RsN_m {fb : Nat → Nat} {n m : Nat} (h : RsN fb n) (hm : m ≤ n) : RsN fb m := ⟨fun j hj => h.1 j (by omega), fun j hj => h.2 j (by omega)⟩
theorem rdN_lt {fb : Nat → Nat} (hb : ∀ j, fb j ≤ 255) (x : Nat) : ∀ q, rdN fb x q < 256 ^ q := by
  intro q
  induction q with
  | zero => exact Nat.one_pos
  | succ q ih =>
    have h1 := hb (x + q)
    show rdN fb x q * 256 + fb (x + q) < 256 ^ q * 256
    omega
theorem keyN_lt {fb : Nat → Nat} (hb : ∀ j, fb j ≤ 255) (j : Nat) : keyN fb j < 4294967296 := rdN_lt hb _ 4
theorem ckN_lt (fb : Nat → Nat) : ∀ n, ckN fb n < 253 := by
  intro n
  cases n with
  | zero => show 7 < 253; decide
  | succ n => exact Nat.mod_lt _ (by decide)
theorem or8 {n c : Nat} (hc : c ≤ 255) : n * 256 ||| c = n * 256 + c := by
  have h := Nat.shiftLeft_add_eq_or_of_lt (a := n) (b := c) (i := 8) (by omega)
  rw [Nat.shiftLeft_eq] at h
  exact h.symm
theorem nI_or8 {n c : Nat} (hn : n < 16777216) (hc : c ≤ 255) : nI n <<< ((8 : Int32) &&& 31) ||| nI c = nI (n * 256 + c) := by
  apply Int32.toBitVec_inj.mp
  apply BitVec.eq_of_toNat_eq
  show ((BitVec.ofNat 32 n) <<< 8 ||| BitVec.ofNat 32 c).toNat = (BitVec.ofNat 32 (n * 256 + c)).toNat
  rw [BitVec.toNat_or, BitVec.toNat_shiftLeft, BitVec.toNat_ofNat, BitVec.toNat_ofNat, BitVec.toNat_ofNat, Nat.mod_eq_of_lt (a := n) (by omega), Nat.mod_eq_of_lt (a := c) (by omega), Nat.shiftLeft_eq, Nat.mod_eq_of_lt (a := n * 2 ^ 8) (by omega), Nat.mod_eq_of_lt (by omega)]
  exact or8 hc
theorem lN_or8 {n c : Nat} (hn : n < 16777216) (hc : c ≤ 255) : lN n <<< ((Int32.toInt64 8) &&& 63) ||| lN c = lN (n * 256 + c) := by
  apply Int64.toBitVec_inj.mp
  apply BitVec.eq_of_toNat_eq
  show ((BitVec.ofNat 64 n) <<< 8 ||| BitVec.ofNat 64 c).toNat = (BitVec.ofNat 64 (n * 256 + c)).toNat
  rw [BitVec.toNat_or, BitVec.toNat_shiftLeft, BitVec.toNat_ofNat, BitVec.toNat_ofNat, BitVec.toNat_ofNat, Nat.mod_eq_of_lt (a := n) (by omega), Nat.mod_eq_of_lt (a := c) (by omega), Nat.shiftLeft_eq, Nat.mod_eq_of_lt (a := n * 2 ^ 8) (by omega), Nat.mod_eq_of_lt (by omega)]
  exact or8 hc
theorem ck_rem {c b : Nat} (hc : c < 253) (hb : b ≤ 255) : (5 * nI c + nI b) - (5 * nI c + nI b) / 253 * 253 = nI ((5 * c + b) % 253) := by
  have e : (5 : Int32) * nI c + nI b = nI (5 * c + b) := by
    rw [show (5 : Int32) = nI 5 from rfl, pk_mul, nI_add]
  rw [e]
  exact pk_rem (d := 253) (by omega) (by decide) (by decide)
theorem nI_ne {a b : Nat} (ha : a < 2147483648) (hb : b < 4294967296) (h : nI b = nI a) : b = a := by
  have h1 := congrArg (fun z : Int32 => z.toBitVec.toNat) h
  have h2 : b % 2 ^ 32 = a % 2 ^ 32 := h1
  omega
def TieC (fT : Nat → Int32) (fb : Nat → Nat) : Prop := ∀ j, fT j = nI (fb j) ∧ fb j ≤ 255
def TieR (f : Nat → Int32) (fb : Nat → Nat) : Prop := ∀ j, f j &&& 255 = nI (fb j) ∧ fb j ≤ 255
def byN (z : Int32) (i : Nat) : Nat := z.toBitVec.toNat / 2 ^ (24 - 8 * i) % 256
theorem byN_le (z : Int32) (i : Nat) : byN z i ≤ 255 := by
  have := Nat.mod_lt (z.toBitVec.toNat / 2 ^ (24 - 8 * i)) (show 0 < 256 by decide)
  show z.toBitVec.toNat / 2 ^ (24 - 8 * i) % 256 ≤ 255
  omega
def updN (f : Nat → Nat) (i v : Nat) : Nat → Nat := fun j => if j = i then v else f j
def wr4 (fb : Nat → Nat) (x : Nat) (z : Int32) : Nat → Nat := updN (updN (updN (updN fb (x + 0) (byN z 0)) (x + 1) (byN z 1)) (x + 2) (byN z 2)) (x + 3) (byN z 3)
def wrI (f : Nat → Int32) (x : Nat) (z : Int32) : Nat → Int32 := upd (upd (upd (upd f (x + 0) (nI (byN z 0))) (x + 1) (nI (byN z 1))) (x + 2) (nI (byN z 2))) (x + 3) (nI (byN z 3))
theorem TieC.up {fT : Nat → Int32} {fb : Nat → Nat} (h : TieC fT fb) (i : Nat) {v : Nat} (hv : v ≤ 255) : TieC (upd fT i (nI v)) (updN fb i v) := by
  intro j
  by_cases e : j = i
  · subst e
    rw [pk_us]
    simp only [updN, if_true]
    exact ⟨trivial, hv⟩
  · rw [pk_un e]
    simp only [updN, if_neg e]
    exact h j
theorem TieC.wr {fT : Nat → Int32} {fb : Nat → Nat} (h : TieC fT fb) (x : Nat) (z : Int32) : TieC (wrI fT x z) (wr4 fb x z) := (((h.up _ (byN_le z 0)).up _ (byN_le z 1)).up _ (byN_le z 2)).up _ (byN_le z 3)
theorem TieR.up {fT : Nat → Int32} {fb : Nat → Nat} (h : TieR fT fb) (i : Nat) {w : Int32} {v : Nat} (hw : w &&& 255 = nI v) (hv : v ≤ 255) : TieR (upd fT i w) (updN fb i v) := by
  intro j
  by_cases e : j = i
  · subst e
    rw [pk_us]
    simp only [updN, if_true]
    exact ⟨hw, hv⟩
  · rw [pk_un e]
    simp only [updN, if_neg e]
    exact h j
theorem by_c0 (z : Int32) : ((z.toUInt32 >>> (Int32.toUInt32 24 &&& Int32.toUInt32 31)).toInt32) &&& 255 = nI (byN z 0) := by
  rw [pk_and _ 8 (by decide), pk_ushr z 24 24 (by decide)]
  rfl
theorem by_c1 (z : Int32) : ((z.toUInt32 >>> (Int32.toUInt32 16 &&& Int32.toUInt32 31)).toInt32) &&& 255 = nI (byN z 1) := by
  rw [pk_and _ 8 (by decide), pk_ushr z 16 16 (by decide)]
  rfl
theorem by_c2 (z : Int32) : ((z.toUInt32 >>> (Int32.toUInt32 8 &&& Int32.toUInt32 31)).toInt32) &&& 255 = nI (byN z 2) := by
  rw [pk_and _ 8 (by decide), pk_ushr z 8 8 (by decide)]
  rfl
theorem by_c3 (z : Int32) : ((z.toUInt32 >>> (Int32.toUInt32 0 &&& Int32.toUInt32 31)).toInt32) &&& 255 = nI (byN z 3) := by
  rw [pk_and _ 8 (by decide), pk_ushr z 0 0 (by decide)]
  rfl
theorem b8 (x : Int32) : x.toInt8.toInt32.toBitVec.toNat % 256 = x.toBitVec.toNat % 256 := by
  show (BitVec.signExtend 32 (x.toBitVec.signExtend 8)).toNat % 256 = _
  rw [BitVec.toNat_signExtend, BitVec.toNat_setWidth]
  have h : (BitVec.signExtend 8 x.toBitVec).toNat = x.toBitVec.toNat % 256 := by
    rw [BitVec.signExtend_eq_setWidth_of_le _ (by decide), BitVec.toNat_setWidth]
  rw [h]
  split <;> omega
theorem shr8 (z s : Int32) (k : Nat) (hk : k = 0 ∨ k = 8 ∨ k = 16 ∨ k = 24) (hs : (s.toBitVec.smod 32).toNat = k) : (z >>> s).toBitVec.toNat % 256 = z.toBitVec.toNat / 2 ^ k % 256 := by
  have h := pk_shr z s k hs
  rw [Int.shiftRight_eq_div_pow] at h
  have e1 : ∀ y : Int32, y.toInt = if 2 * y.toBitVec.toNat < 4294967296 then (y.toBitVec.toNat : Int) else (y.toBitVec.toNat : Int) - 4294967296 := fun y => BitVec.toInt_eq_toNat_cond _
  rw [e1, e1] at h
  have hz := z.toBitVec.isLt
  have hy := (z >>> s).toBitVec.isLt
  generalize z.toBitVec.toNat = n at h hz ⊢
  generalize (z >>> s).toBitVec.toNat = w at h hy ⊢
  rcases hk with rfl | rfl | rfl | rfl
  · simp only [Nat.pow_zero, Nat.div_one]
    simp only [show ((2 ^ 0 : Nat) : Int) = 1 from rfl, Int.ediv_one] at h
    split at h <;> split at h <;> omega
  · rw [show ((2 ^ 8 : Nat) : Int) = 256 from rfl] at h
    rw [show 2 ^ 8 = 256 from rfl]
    split at h <;> split at h <;> omega
  · rw [show ((2 ^ 16 : Nat) : Int) = 65536 from rfl] at h
    rw [show 2 ^ 16 = 65536 from rfl]
    split at h <;> split at h <;> omega
  · rw [show ((2 ^ 24 : Nat) : Int) = 16777216 from rfl] at h
    rw [show 2 ^ 24 = 16777216 from rfl]
    split at h <;> split at h <;> omega
def bvM (z : Int32) : Nat → Int32
  | 0 => vp_nar .byte ((Int32.toInt8 (z >>> (24 &&& 31))).toInt32)
  | 1 => vp_nar .byte ((Int32.toInt8 (z >>> (16 &&& 31))).toInt32)
  | 2 => vp_nar .byte ((Int32.toInt8 (z >>> (8 &&& 31))).toInt32)
  | _ => vp_nar .byte ((Int32.toInt8 (z >>> (0 &&& 31))).toInt32)
theorem bvA (x : Int32) {n : Nat} (h : x.toBitVec.toNat % 256 = n) : vp_nar .byte (x.toInt8.toInt32) &&& 255 = nI n := by
  rw [vp_nar_byte, pk_and _ 8 (by decide)]
  show nI (_ % 256) = nI n
  rw [b8, b8, h]
theorem bvM0 (z : Int32) : bvM z 0 &&& 255 = nI (byN z 0) := bvA _ (shr8 z _ 24 (by decide) (by decide))
theorem bvM1 (z : Int32) : bvM z 1 &&& 255 = nI (byN z 1) := bvA _ (shr8 z _ 16 (by decide) (by decide))
theorem bvM2 (z : Int32) : bvM z 2 &&& 255 = nI (byN z 2) := bvA _ (shr8 z _ 8 (by decide) (by decide))
theorem bvM3 (z : Int32) : bvM z 3 &&& 255 = nI (byN z 3) := bvA _ (shr8 z _ 0 (by decide) (by decide))
def wrM (f : Nat → Int32) (x : Nat) (z : Int32) : Nat → Int32 := upd (upd (upd (upd f (x + 0) (bvM z 0)) (x + 1) (bvM z 1)) (x + 2) (bvM z 2)) (x + 3) (bvM z 3)
theorem TieR.wr {fT : Nat → Int32} {fb : Nat → Nat} (h : TieR fT fb) (x : Nat) (z : Int32) : TieR (wrM fT x z) (wr4 fb x z) := (((h.up _ (bvM0 z) (byN_le z 0)).up _ (bvM1 z) (byN_le z 1)).up _ (bvM2 z) (byN_le z 2)).up _ (bvM3 z) (byN_le z 3)
def wrM5 (f : Nat → Int32) (x : Nat) (z1 z2 z3 z4 z5 : Int32) : Nat → Int32 := wrM (wrM (wrM (wrM (wrM f x z1) (x + 4) z2) (x + 8) z3) (x + 12) z4) (x + 16) z5
def wrI5 (f : Nat → Int32) (x : Nat) (z1 z2 z3 z4 z5 : Int32) : Nat → Int32 := wrI (wrI (wrI (wrI (wrI f x z1) (x + 4) z2) (x + 8) z3) (x + 12) z4) (x + 16) z5
def wr5 (f : Nat → Nat) (x : Nat) (z1 z2 z3 z4 z5 : Int32) : Nat → Nat := wr4 (wr4 (wr4 (wr4 (wr4 f x z1) (x + 4) z2) (x + 8) z3) (x + 12) z4) (x + 16) z5
theorem TieR.wr5 {f : Nat → Int32} {fb : Nat → Nat} (h : TieR f fb) (x : Nat) (z1 z2 z3 z4 z5 : Int32) : TieR (wrM5 f x z1 z2 z3 z4 z5) (wr5 fb x z1 z2 z3 z4 z5) := ((((h.wr _ _).wr _ _).wr _ _).wr _ _).wr _ _
theorem TieC.wr5 {f : Nat → Int32} {fb : Nat → Nat} (h : TieC f fb) (x : Nat) (z1 z2 z3 z4 z5 : Int32) : TieC (wrI5 f x z1 z2 z3 z4 z5) (wr5 fb x z1 z2 z3 z4 z5) := ((((h.wr _ _).wr _ _).wr _ _).wr _ _).wr _ _
/-! where tables are -/
def SameT (fn gn : Nat → Int64) : Prop := ∀ k, k < 4 → gn (17 * k + 0) = fn (17 * k + 0)
theorem SameT.rfl {fn : Nat → Int64} : SameT fn fn := fun _ _ => Eq.refl _
theorem SameT.trans {a b c : Nat → Int64} (h1 : SameT a b) (h2 : SameT b c) : SameT a c := fun k hk => (h2 k hk).trans (h1 k hk)
theorem SameT.of {k : Nat} {fn gn : Nat → Int64} (e1 : ∀ x, (x < 17 * k ∨ 17 * k + 17 ≤ x) → gn x = fn x) (e0 : gn (17 * k + 0) = fn (17 * k + 0)) : SameT fn gn := by
  intro j hj
  by_cases e : j = k
  · subst e
    exact e0
  · exact e1 _ (by omega)
/-- the table k is there now, the others as before -/
def NewT (fn gn : Nat → Int64) (k : Nat) : Prop := gn (17 * k + 0) = 1 ∧ ∀ j, j < 4 → j ≠ k → gn (17 * j + 0) = fn (17 * j + 0)
theorem NewT.of {k : Nat} {fn gn : Nat → Int64} (e1 : ∀ x, (x < 17 * k ∨ 17 * k + 17 ≤ x) → gn x = fn x) (e0 : gn (17 * k + 0) = 1) : NewT fn gn k := ⟨e0, fun j hj e => e1 _ (by omega)⟩
