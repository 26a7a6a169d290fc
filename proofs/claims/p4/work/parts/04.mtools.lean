def gM (a : Nat → Nat) (i : Nat → Int32) (g : Nat → Int64) : List Value := [.int (i 0), .ref (a 1), .int (i 2), .ref (a 3), .ref (a 4), .ref (a 5), .ref (a 6), .ref (a 7), .ref (a 8), .ref (a 9), .ref (a 10), .ref (a 11), .long (g 12), .long (g 13), .long (g 14), .int (i 15), .ref (a 16), .int (i 17), .int (i 18), .ref (a 19), .int (i 20), .int (i 21), .int (i 22), .int (i 23), .int (i 24), .int (i 25), .int (i 26), .int (i 27), .ref (a 28), .ref (a 29), .int (i 30), .int (i 31), .int (i 32), .int (i 33), .int (i 34), .int (i 35), .int (i 36), .int (i 37), .ref (a 38), .int (i 39), .ref (a 40), .ref (a 41), .int (i 42), .int (i 43), .int (i 44), .ref (a 45), .int (i 46)]
def there (fn : Nat → Int64) (z : Int32) : Prop := ∃ k, k < 4 ∧ z = nI k ∧ fn (17 * k + 0) = 1
theorem there_in {fn : Nat → Int64} {z : Int32} (h : there fn z) : (0 : Int32) ≤ z ∧ z < 4 := by
  obtain ⟨k, hk, rfl, -⟩ := h
  exact ⟨nI_pos' (by omega), nI_lt (b := 4) hk (by decide)⟩
theorem there_eq {fn : Nat → Int64} {k : Nat} (hk : k < 4) (h : there fn (nI k)) : fn (17 * k + 0) = 1 := by
  obtain ⟨j, hj, e, h⟩ := h
  have : k = j := (nI_eq (by omega) (by omega)).mp e
  subst this
  exact h
def isK (z : Int32) : Prop := ∃ x, x < 2147483647 ∧ z = nI x
theorem isK_of {z : Int32} : ((0 : Int64) ≤ z.toInt64 ∧ z.toInt64 ≤ 2147483646) ↔ isK z := by
  rw [show (2147483646 : Int64) = (2147483646 : Int32).toInt64 from by decide, show (0 : Int64) = (0 : Int32).toInt64 from by decide, w64_le, w64_le]
  constructor
  · intro h
    obtain ⟨j, hj, e⟩ := nI_of2 (x := z) (M := 2147483646) (n := 2147483646) (by decide) (Int32.not_lt.mpr h.1) h.2
    exact ⟨j, by omega, e⟩
  · rintro ⟨x, hx, rfl⟩
    exact ⟨nI_pos' (by omega), nI_le (b := 2147483646) (by omega) (by decide)⟩
theorem pl_ne {q : Nat} (h0 : 0 < q) (h1 : q < 2147483648) : ¬ lN q = 0 := fun e => by
  have := (lN_eq (a := q) (b := 0) (by omega) (by decide)).mp e
  omega
theorem pl_lt {A B x : Nat} (hA : A < 2147483647) (hB : B < 2147483647) (hx : x < 2147483648) : A * x + B < 9223372036854775808 := by
  have h1 : A * x ≤ 2147483647 * 2147483648 := Nat.mul_le_mul (by omega) (by omega)
  omega
theorem pl_rem {A B x : Nat} (hA : A < 2147483647) (hB : B < 2147483647) (hx : x < 2147483648) : lN (A * x + B) - lN (A * x + B) / 2147483647 * 2147483647 = lN ((A * x + B) % 2147483647) := pk_lRem (b := 2147483647) (pl_lt hA hB hx) (by decide) (by decide)
theorem dp_lt1 (n : Nat) : 1 + n % 2147483646 < 2147483647 := by omega
theorem dp_lt2 (n : Nat) : n % 2147483647 < 2147483647 := by omega
theorem sh33_lt (x : Int64) : uN x / 8589934592 < 2 ^ 63 := by
  have := uN_lt x
  have e : 2 ^ 63 = 9223372036854775808 := by decide
  omega
theorem sh33 (x : Int64) : (x.toUInt64 >>> ((Int32.toInt64 33).toUInt64 &&& Int64.toUInt64 63)).toInt64 = lN (uN x / 8589934592) := by
  have h : ((Int32.toInt64 33).toUInt64 &&& Int64.toUInt64 63) = 33 := by decide
  rw [h]
  have h1 : (x.toUInt64 >>> (33 : UInt64)).toNat = uN x / 8589934592 := by
    rw [UInt64.toNat_shiftRight, Nat.shiftRight_eq_div_pow]
    rfl
  show (x.toUInt64 >>> 33).toInt64 = (UInt64.ofNat (uN x / 8589934592)).toInt64
  rw [← h1, UInt64.ofNat_toNat]
