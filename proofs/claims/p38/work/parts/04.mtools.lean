def gM (a : Nat → Nat) (i : Nat → Int32) (g : Nat → Int64) : List Value := [.int (i 0), .ref (a 1), .int (i 2), .ref (a 3), .ref (a 4), .ref (a 5), .ref (a 6), .ref (a 7), .ref (a 8), .ref (a 9), .ref (a 10), .ref (a 11), .long (g 12), .long (g 13), .long (g 14), .int (i 15), .ref (a 16), .int (i 17), .int (i 18), .ref (a 19), .int (i 20), .int (i 21), .int (i 22), .int (i 23), .int (i 24), .int (i 25), .int (i 26), .int (i 27), .ref (a 28), .ref (a 29), .int (i 30), .int (i 31), .int (i 32), .int (i 33), .int (i 34), .int (i 35), .int (i 36), .int (i 37), .ref (a 38), .int (i 39), .ref (a 40), .ref (a 41), .int (i 42), .int (i 43), .int (i 44), .ref (a 45), .int (i 46)]
def there (fn : Nat → Int64) (z : Int32) : Prop := ∃ k, k < 4 ∧ z = nI k ∧ fn (17 * k + 0) = 1
theorem there_in {fn : Nat → Int64} {z : Int32} (h : there fn z) : (0 : Int32) ≤ z ∧ z < 4 := by
  obtain ⟨k, hk, rfl, -⟩ := h
  exact ⟨nI_pos' (by omega), nI_lt (b := 4) hk (by decide)⟩
theorem there_eq {fn : Nat → Int64} {k : Nat} (hk : k < 4) (h : there fn (nI k)) : fn (17 * k + 0) = 1 := by
  obtain ⟨j, hj, e, h⟩ := h
  have : k = j := (nI_eq (by omega) (by omega)).mp e
  subst this
  exact h
def isK (z : Int32) : Prop := ∃ x, x < 2147483647 ∧ z = nI x
theorem isK_of {z : Int32} : ((0 : Int64) ≤ z.toInt64 ∧ z.toInt64 ≤ 2147483646) ↔ isK z := by
  rw [show (2147483646 : Int64) = (2147483646 : Int32).toInt64 from by decide, show (0 : Int64) = (0 : Int32).toInt64 from by decide, w64_le, w64_le]
  constructor
  · intro h
    obtain ⟨j, hj, e⟩ := nI_of2 (x := z) (M := 2147483646) (n := 2147483646) (by decide) (Int32.not_lt.mpr h.1) h.2
    exact ⟨j, by omega, e⟩
  · rintro ⟨x, hx, rfl⟩
    exact ⟨nI_pos' (by omega), nI_le (b := 2147483646) (by omega) (by decide)⟩
theorem pl_ne {q : Nat} (h0 : 0 < q) (h1 : q < 2147483648) : ¬ lN q = 0 := fun e => by
  have := (lN_eq (a := q) (b := 0) (by omega) (by decide)).mp e
  omega
theorem pl_lt {A B x : Nat} (hA : A < 2147483647) (hB : B < 2147483647) (hx : x < 2147483648) : A * x + B < 9223372036854775808 := by
  have h1 : A * x ≤ 2147483647 * 2147483648 := Nat.mul_le_mul (by omega) (by omega)
  omega
theorem pl_rem {A B x : Nat} (hA : A < 2147483647) (hB : B < 2147483647) (hx : x < 2147483648) : lN (A * x + B) - lN (A * x + B) / 2147483647 * 2147483647 = lN ((A * x + B) % 2147483647) := pk_lRem (b := 2147483647) (pl_lt hA hB hx) (by decide) (by decide)
def hi33 (x : Int64) : Nat := uN x / 8589934592
def RQf (f : Int64 → Int64) (u : Int64 → Nat) (q : Nat) (x : Int64) (cc : Nat) : Prop := u (f (itf f q x)) = cc
theorem RQf_0 {f : Int64 → Int64} {u : Int64 → Nat} {x : Int64} {cc : Nat} (h : RQf f u 0 x cc) : u (f x) = cc := h
theorem RQf_s {f : Int64 → Int64} {u : Int64 → Nat} {q : Nat} {x : Int64} {cc : Nat} (h : RQf f u (q + 1) x cc) : RQf f u q (f (f x)) cc := h
theorem RQf_of (f : Int64 → Int64) (A C q r : Nat) (h : ∀ x, uN (f x) = (A * uN x + C) % 18446744073709551616) (hQ : A * A = 8 * q + 1) (hR : A * C + C = 4 * r + 2) (x : Int64) {c : Nat} (hc : c < 2147483646) : ∃ k, RQf f hi33 k x c := reach_gen f A C q r h hQ hR x hc
def sdn (x : Int64) : Int64 := nxS (nxS x)
theorem sdn_eq (x : Int64) : sdn x = nxS (nxS x) := rfl
def aOf (x : Int64) : Nat := 1 + hi33 (nxS x) % 2147483646
def RQ (q : Nat) (x : Int64) (cc : Nat) : Prop := RQf nxS hi33 q x cc
theorem RQ_of (x : Int64) {cc : Nat} (hc : cc < 2147483646) : ∃ q, RQ q x cc := RQf_of nxS 6364136223846793005 1442695040888963407 5062778734459864725340512327914616253 2295376942421395552456462499159382860 uN_nx (by decide +kernel) (by decide +kernel) x hc
theorem RQ_0 {x : Int64} {cc : Nat} (h : RQ 0 x cc) (hc : cc < 2147483646) : aOf x = cc + 1 := by
  unfold aOf
  rw [RQf_0 (f := nxS) (u := hi33) h]
  omega
theorem RQ_s {q : Nat} {x : Int64} {cc : Nat} (h : RQ (q + 1) x cc) : RQ q (sdn x) cc := by
  rw [sdn_eq]
  exact RQf_s (f := nxS) (u := hi33) h
theorem dp_lt1 (n : Nat) : 1 + n % 2147483646 < 2147483647 := by omega
theorem dp_lt2 (n : Nat) : n % 2147483647 < 2147483647 := by omega
theorem sh33_lt (x : Int64) : hi33 x < 2 ^ 63 := by
  have := uN_lt x
  have e : 2 ^ 63 = 9223372036854775808 := by decide
  unfold hi33
  omega
theorem sh33 (x : Int64) : (x.toUInt64 >>> ((Int32.toInt64 33).toUInt64 &&& Int64.toUInt64 63)).toInt64 = lN (hi33 x) := by
  have h : ((Int32.toInt64 33).toUInt64 &&& Int64.toUInt64 63) = 33 := by decide
  rw [h]
  have h1 : (x.toUInt64 >>> (33 : UInt64)).toNat = hi33 x := by
    rw [UInt64.toNat_shiftRight, Nat.shiftRight_eq_div_pow]
    rfl
  show (x.toUInt64 >>> 33).toInt64 = (UInt64.ofNat (hi33 x)).toInt64
  rw [← h1, UInt64.ofNat_toNat]
