theorem dX11_isFine_0 : decode cX11_isFine 0 = .ok (.aload_n 0, 1) := by decide +kernel
theorem dX11_isFine_1 : decode cX11_isFine 1 = .ok (.getfield 280, 3) := by decide +kernel
theorem dX11_isFine_4 : decode cX11_isFine 4 = .ok (.ifCond .ne 7, 3) := by decide +kernel
theorem dX11_isFine_7 : decode cX11_isFine 7 = .ok (.iconst 1, 1) := by decide +kernel
theorem dX11_isFine_8 : decode cX11_isFine 8 = .ok (.goto 4, 3) := by decide +kernel
theorem dX11_isFine_11 : decode cX11_isFine 11 = .ok (.iconst 0, 1) := by decide +kernel
theorem dX11_isFine_12 : decode cX11_isFine 12 = .ok (.ireturn, 1) := by decide +kernel
theorem dX11_fail_0 : decode cX11_fail 0 = .ok (.aload_n 0, 1) := by decide +kernel
theorem dX11_fail_1 : decode cX11_fail 1 = .ok (.getfield 280, 3) := by decide +kernel
theorem dX11_fail_4 : decode cX11_fail 4 = .ok (.ifCond .eq 4, 3) := by decide +kernel
theorem dX11_fail_7 : decode cX11_fail 7 = .ok (.return_, 1) := by decide +kernel
theorem dX11_fail_8 : decode cX11_fail 8 = .ok (.aload_n 0, 1) := by decide +kernel
theorem dX11_fail_9 : decode cX11_fail 9 = .ok (.iload_n 1, 1) := by decide +kernel
theorem dX11_fail_10 : decode cX11_fail 10 = .ok (.putfield 280, 3) := by decide +kernel
theorem dX11_fail_13 : decode cX11_fail 13 = .ok (.aload_n 0, 1) := by decide +kernel
theorem dX11_fail_14 : decode cX11_fail 14 = .ok (.iload_n 2, 1) := by decide +kernel
theorem dX11_fail_15 : decode cX11_fail 15 = .ok (.putfield 283, 3) := by decide +kernel
theorem dX11_fail_18 : decode cX11_fail 18 = .ok (.aload_n 0, 1) := by decide +kernel
theorem dX11_fail_19 : decode cX11_fail 19 = .ok (.aload_n 0, 1) := by decide +kernel
theorem dX11_fail_20 : decode cX11_fail 20 = .ok (.getfield 286, 3) := by decide +kernel
theorem dX11_fail_23 : decode cX11_fail 23 = .ok (.putfield 289, 3) := by decide +kernel
theorem dX11_fail_26 : decode cX11_fail 26 = .ok (.return_, 1) := by decide +kernel
theorem dX11_isLetter_0 : decode cX11_isLetter 0 = .ok (.iload_n 1, 1) := by decide +kernel
theorem dX11_isLetter_1 : decode cX11_isLetter 1 = .ok (.aload_n 0, 1) := by decide +kernel
theorem dX11_isLetter_2 : decode cX11_isLetter 2 = .ok (.getfield 292, 3) := by decide +kernel
theorem dX11_isLetter_5 : decode cX11_isLetter 5 = .ok (.if_icmp .ge 26, 3) := by decide +kernel
theorem dX11_isLetter_8 : decode cX11_isLetter 8 = .ok (.aload_n 0, 1) := by decide +kernel
theorem dX11_isLetter_9 : decode cX11_isLetter 9 = .ok (.getfield 7, 3) := by decide +kernel
theorem dX11_isLetter_12 : decode cX11_isLetter 12 = .ok (.iload_n 1, 1) := by decide +kernel
theorem dX11_isLetter_13 : decode cX11_isLetter 13 = .ok (.baload, 1) := by decide +kernel
theorem dX11_isLetter_14 : decode cX11_isLetter 14 = .ok (.i2l, 1) := by decide +kernel
theorem dX11_isLetter_15 : decode cX11_isLetter 15 = .ok (.ldc2_w 295, 3) := by decide +kernel
theorem dX11_isLetter_18 : decode cX11_isLetter 18 = .ok (.ldc2_w 297, 3) := by decide +kernel
theorem dX11_isLetter_21 : decode cX11_isLetter 21 = .ok (.invokestatic 83, 3) := by decide +kernel
theorem dX11_isLetter_24 : decode cX11_isLetter 24 = .ok (.ifCond .eq 7, 3) := by decide +kernel
theorem dX11_isLetter_27 : decode cX11_isLetter 27 = .ok (.iconst 1, 1) := by decide +kernel
theorem dX11_isLetter_28 : decode cX11_isLetter 28 = .ok (.goto 4, 3) := by decide +kernel
theorem dX11_isLetter_31 : decode cX11_isLetter 31 = .ok (.iconst 0, 1) := by decide +kernel
theorem dX11_isLetter_32 : decode cX11_isLetter 32 = .ok (.ireturn, 1) := by decide +kernel
theorem dX11_isDigit_0 : decode cX11_isDigit 0 = .ok (.iload_n 1, 1) := by decide +kernel
theorem dX11_isDigit_1 : decode cX11_isDigit 1 = .ok (.aload_n 0, 1) := by decide +kernel
theorem dX11_isDigit_2 : decode cX11_isDigit 2 = .ok (.getfield 292, 3) := by decide +kernel
theorem dX11_isDigit_5 : decode cX11_isDigit 5 = .ok (.if_icmp .ge 26, 3) := by decide +kernel
theorem dX11_isDigit_8 : decode cX11_isDigit 8 = .ok (.aload_n 0, 1) := by decide +kernel
theorem dX11_isDigit_9 : decode cX11_isDigit 9 = .ok (.getfield 7, 3) := by decide +kernel
theorem dX11_isDigit_12 : decode cX11_isDigit 12 = .ok (.iload_n 1, 1) := by decide +kernel
theorem dX11_isDigit_13 : decode cX11_isDigit 13 = .ok (.baload, 1) := by decide +kernel
theorem dX11_isDigit_14 : decode cX11_isDigit 14 = .ok (.i2l, 1) := by decide +kernel
theorem dX11_isDigit_15 : decode cX11_isDigit 15 = .ok (.ldc2_w 299, 3) := by decide +kernel
theorem dX11_isDigit_18 : decode cX11_isDigit 18 = .ok (.ldc2_w 301, 3) := by decide +kernel
theorem dX11_isDigit_21 : decode cX11_isDigit 21 = .ok (.invokestatic 83, 3) := by decide +kernel
theorem dX11_isDigit_24 : decode cX11_isDigit 24 = .ok (.ifCond .eq 7, 3) := by decide +kernel
theorem dX11_isDigit_27 : decode cX11_isDigit 27 = .ok (.iconst 1, 1) := by decide +kernel
theorem dX11_isDigit_28 : decode cX11_isDigit 28 = .ok (.goto 4, 3) := by decide +kernel
theorem dX11_isDigit_31 : decode cX11_isDigit 31 = .ok (.iconst 0, 1) := by decide +kernel
theorem dX11_isDigit_32 : decode cX11_isDigit 32 = .ok (.ireturn, 1) := by decide +kernel
theorem dX11_next_0 : decode cX11_next 0 = .ok (.aload_n 0, 1) := by decide +kernel
theorem dX11_next_1 : decode cX11_next 1 = .ok (.getfield 303, 3) := by decide +kernel
theorem dX11_next_4 : decode cX11_next 4 = .ok (.aload_n 0, 1) := by decide +kernel
theorem dX11_next_5 : decode cX11_next 5 = .ok (.getfield 292, 3) := by decide +kernel
theorem dX11_next_8 : decode cX11_next 8 = .ok (.if_icmp .ge 44, 3) := by decide +kernel
theorem dX11_next_11 : decode cX11_next 11 = .ok (.aload_n 0, 1) := by decide +kernel
theorem dX11_next_12 : decode cX11_next 12 = .ok (.getfield 7, 3) := by decide +kernel
theorem dX11_next_15 : decode cX11_next 15 = .ok (.aload_n 0, 1) := by decide +kernel
theorem dX11_next_16 : decode cX11_next 16 = .ok (.getfield 303, 3) := by decide +kernel
theorem dX11_next_19 : decode cX11_next 19 = .ok (.baload, 1) := by decide +kernel
theorem dX11_next_20 : decode cX11_next 20 = .ok (.bipush 32, 2) := by decide +kernel
theorem dX11_next_22 : decode cX11_next 22 = .ok (.if_icmp .eq 17, 3) := by decide +kernel
theorem dX11_next_25 : decode cX11_next 25 = .ok (.aload_n 0, 1) := by decide +kernel
theorem dX11_next_26 : decode cX11_next 26 = .ok (.getfield 7, 3) := by decide +kernel
theorem dX11_next_29 : decode cX11_next 29 = .ok (.aload_n 0, 1) := by decide +kernel
theorem dX11_next_30 : decode cX11_next 30 = .ok (.getfield 303, 3) := by decide +kernel
theorem dX11_next_33 : decode cX11_next 33 = .ok (.baload, 1) := by decide +kernel
theorem dX11_next_34 : decode cX11_next 34 = .ok (.bipush 10, 2) := by decide +kernel
theorem dX11_next_36 : decode cX11_next 36 = .ok (.if_icmp .ne 16, 3) := by decide +kernel
theorem dX11_next_39 : decode cX11_next 39 = .ok (.aload_n 0, 1) := by decide +kernel
theorem dX11_next_40 : decode cX11_next 40 = .ok (.dup, 1) := by decide +kernel
theorem dX11_next_41 : decode cX11_next 41 = .ok (.getfield 303, 3) := by decide +kernel
theorem dX11_next_44 : decode cX11_next 44 = .ok (.iconst 1, 1) := by decide +kernel
theorem dX11_next_45 : decode cX11_next 45 = .ok (.iadd, 1) := by decide +kernel
theorem dX11_next_46 : decode cX11_next 46 = .ok (.putfield 303, 3) := by decide +kernel
theorem dX11_next_49 : decode cX11_next 49 = .ok (.goto (-49), 3) := by decide +kernel
theorem dX11_next_52 : decode cX11_next 52 = .ok (.aload_n 0, 1) := by decide +kernel
theorem dX11_next_53 : decode cX11_next 53 = .ok (.getfield 303, 3) := by decide +kernel
theorem dX11_next_56 : decode cX11_next 56 = .ok (.ireturn, 1) := by decide +kernel
theorem dX11_unlike_0 : decode cX11_unlike 0 = .ok (.aload_n 0, 1) := by decide +kernel
theorem dX11_unlike_1 : decode cX11_unlike 1 = .ok (.iconst 1, 1) := by decide +kernel
theorem dX11_unlike_2 : decode cX11_unlike 2 = .ok (.aload_n 0, 1) := by decide +kernel
theorem dX11_unlike_3 : decode cX11_unlike 3 = .ok (.invokevirtual 306, 3) := by decide +kernel
theorem dX11_unlike_6 : decode cX11_unlike 6 = .ok (.invokevirtual 310, 3) := by decide +kernel
theorem dX11_unlike_9 : decode cX11_unlike 9 = .ok (.return_, 1) := by decide +kernel
theorem dX11_isSign_0 : decode cX11_isSign 0 = .ok (.aload_n 0, 1) := by decide +kernel
theorem dX11_isSign_1 : decode cX11_isSign 1 = .ok (.invokevirtual 306, 3) := by decide +kernel
theorem dX11_isSign_4 : decode cX11_isSign 4 = .ok (.aload_n 0, 1) := by decide +kernel
theorem dX11_isSign_5 : decode cX11_isSign 5 = .ok (.getfield 292, 3) := by decide +kernel
theorem dX11_isSign_8 : decode cX11_isSign 8 = .ok (.if_icmp .ge 20, 3) := by decide +kernel
theorem dX11_isSign_11 : decode cX11_isSign 11 = .ok (.aload_n 0, 1) := by decide +kernel
theorem dX11_isSign_12 : decode cX11_isSign 12 = .ok (.getfield 7, 3) := by decide +kernel
theorem dX11_isSign_15 : decode cX11_isSign 15 = .ok (.aload_n 0, 1) := by decide +kernel
theorem dX11_isSign_16 : decode cX11_isSign 16 = .ok (.getfield 303, 3) := by decide +kernel
theorem dX11_isSign_19 : decode cX11_isSign 19 = .ok (.baload, 1) := by decide +kernel
theorem dX11_isSign_20 : decode cX11_isSign 20 = .ok (.iload_n 1, 1) := by decide +kernel
theorem dX11_isSign_21 : decode cX11_isSign 21 = .ok (.if_icmp .ne 7, 3) := by decide +kernel
theorem dX11_isSign_24 : decode cX11_isSign 24 = .ok (.iconst 1, 1) := by decide +kernel
theorem dX11_isSign_25 : decode cX11_isSign 25 = .ok (.goto 4, 3) := by decide +kernel
theorem dX11_isSign_28 : decode cX11_isSign 28 = .ok (.iconst 0, 1) := by decide +kernel
theorem dX11_isSign_29 : decode cX11_isSign 29 = .ok (.ireturn, 1) := by decide +kernel
theorem dX11_needsSign_0 : decode cX11_needsSign 0 = .ok (.aload_n 0, 1) := by decide +kernel
theorem dX11_needsSign_1 : decode cX11_needsSign 1 = .ok (.invokevirtual 313, 3) := by decide +kernel
theorem dX11_needsSign_4 : decode cX11_needsSign 4 = .ok (.ifCond .ne 4, 3) := by decide +kernel
theorem dX11_needsSign_7 : decode cX11_needsSign 7 = .ok (.return_, 1) := by decide +kernel
theorem dX11_needsSign_8 : decode cX11_needsSign 8 = .ok (.aload_n 0, 1) := by decide +kernel
theorem dX11_needsSign_9 : decode cX11_needsSign 9 = .ok (.iload_n 1, 1) := by decide +kernel
theorem dX11_needsSign_10 : decode cX11_needsSign 10 = .ok (.invokevirtual 317, 3) := by decide +kernel
theorem dX11_needsSign_13 : decode cX11_needsSign 13 = .ok (.ifCond .eq 16, 3) := by decide +kernel
theorem dX11_needsSign_16 : decode cX11_needsSign 16 = .ok (.aload_n 0, 1) := by decide +kernel
theorem dX11_needsSign_17 : decode cX11_needsSign 17 = .ok (.dup, 1) := by decide +kernel
theorem dX11_needsSign_18 : decode cX11_needsSign 18 = .ok (.getfield 303, 3) := by decide +kernel
theorem dX11_needsSign_21 : decode cX11_needsSign 21 = .ok (.iconst 1, 1) := by decide +kernel
theorem dX11_needsSign_22 : decode cX11_needsSign 22 = .ok (.iadd, 1) := by decide +kernel
theorem dX11_needsSign_23 : decode cX11_needsSign 23 = .ok (.putfield 303, 3) := by decide +kernel
theorem dX11_needsSign_26 : decode cX11_needsSign 26 = .ok (.goto 7, 3) := by decide +kernel
theorem dX11_needsSign_29 : decode cX11_needsSign 29 = .ok (.aload_n 0, 1) := by decide +kernel
theorem dX11_needsSign_30 : decode cX11_needsSign 30 = .ok (.invokevirtual 320, 3) := by decide +kernel
theorem dX11_needsSign_33 : decode cX11_needsSign 33 = .ok (.return_, 1) := by decide +kernel
def gP (a : Nat → Nat) (i : Nat → Int32) (g : Nat → Int64) (cd zs ta en bd bp bq bk pl br : Int32) : List Value := [.int (i 0), .ref (a 1), .int (i 2), .ref (a 3), .ref (a 4), .ref (a 5), .ref (a 6), .ref (a 7), .ref (a 8), .ref (a 9), .ref (a 10), .ref (a 11), .long (g 12), .long (g 13), .long (g 14), .int (i 15), .ref (a 16), .int (i 17), .int (i 18), .ref (a 19), .int cd, .int zs, .int ta, .int en, .int bd, .int bp, .int bq, .int bk, .ref (a 28), .ref (a 29), .int pl, .int br, .int (i 32), .int (i 33), .int (i 34), .int (i 35), .int (i 36), .int (i 37), .ref (a 38), .int (i 39), .ref (a 40), .ref (a 41), .int (i 42), .int (i 43), .int (i 44), .ref (a 45), .int (i 46)]
def LetP (fT : Nat → Int32) (zs x : Nat) : Prop := x < zs ∧ (97 : Int64) ≤ (fT x).toInt64 ∧ (fT x).toInt64 ≤ 122
def DigP (fT : Nat → Int32) (zs x : Nat) : Prop := x < zs ∧ (48 : Int64) ≤ (fT x).toInt64 ∧ (fT x).toInt64 ≤ 57
theorem mif {yd ye : Int32} {x y N : Nat} (hm : (if yd = 0 then x + 1 else 0) < N + 1) (h0 : yd = 0) (h : ye = 0 → y < x) : (if ye = 0 then y + 1 else 0) < N := by
  rw [if_pos h0] at hm
  by_cases q : ye = 0
  · rw [if_pos q]
    have := h q
    omega
  · rw [if_neg q]
    omega
theorem anyNI (x : Int32) : ∃ n, x = nI n := by
  refine ⟨x.toBitVec.toNat, ?_⟩
  apply Int32.toBitVec_inj.mp
  show x.toBitVec = BitVec.ofNat 32 x.toBitVec.toNat
  rw [BitVec.ofNat_toNat, BitVec.setWidth_eq]
theorem lt64 {x : Int32} {c : Int64} : c ≤ x.toInt64 ↔ c.toInt ≤ x.toInt := by rw [Int64.le_iff_toInt_le, Int32.toInt_toInt64]
theorem gt64 {x : Int32} {c : Int64} : x.toInt64 ≤ c ↔ x.toInt ≤ c.toInt := by rw [Int64.le_iff_toInt_le, Int32.toInt_toInt64]
theorem letP {f : Nat → Int32} {bt : Nat → Nat} (h : TieB f bt) {zs x : Nat} : LetP f zs x ↔ (x < zs ∧ ltB bt x = true) := by
  unfold LetP ltB ltC
  rw [lt64, gt64, decide_eq_true_iff, show (97 : Int64).toInt = ((97 : Nat) : Int) from by decide, show (122 : Int64).toInt = ((122 : Nat) : Int) from by decide, tb_rg h (by decide)]
theorem digP {f : Nat → Int32} {bt : Nat → Nat} (h : TieB f bt) {zs x : Nat} : DigP f zs x ↔ (x < zs ∧ dgB bt x = true) := by
  unfold DigP dgB dgC
  rw [lt64, gt64, decide_eq_true_iff, show (48 : Int64).toInt = ((48 : Nat) : Int) from by decide, show (57 : Int64).toInt = ((57 : Nat) : Int) from by decide, tb_rg h (by decide)]
theorem tb_bl {f : Nat → Int32} {bt : Nat → Nat} (h : TieB f bt) {j : Nat} (e : f j = 32 ∨ f j = 10) : blB bt j = true := by
  unfold blB blC
  rw [decide_eq_true_iff]
  rcases e with e | e
  · exact Or.inr ((tb_eq h (c := 32) (by decide)).mp e)
  · exact Or.inl ((tb_eq h (c := 10) (by decide)).mp e)
theorem tb_nb {f : Nat → Int32} {bt : Nat → Nat} (h : TieB f bt) {j : Nat} (a : ¬ f j = 32) (b : ¬ f j = 10) : ¬ blB bt j = true := by
  unfold blB blC
  rw [decide_eq_true_iff]
  rintro (q | q)
  · exact b ((tb_eq h (c := 10) (by decide)).mpr q)
  · exact a ((tb_eq h (c := 32) (by decide)).mpr q)
theorem wc_step {a c : Nat} (h : 96 ≤ c) : (32 * nI a + nI c) - 96 = nI (32 * a + (c - 96)) := by
  rw [show (32 : Int32) = nI 32 from rfl, pk_mul, nI_add, show (96 : Int32) = nI 96 from rfl, pk_sub (by omega)]
  exact congrArg nI (by omega)
/-- a row of the reference's code: h the height ahead of it, d its depth (above 5: no row begins there), O: its block is still open -/
def RowW (fc : Nat → Int32) (cd : Nat) (h d : Nat → Nat) (O : Nat → Prop) (k : Nat) : Prop :=
  (∃ x, fc (2 * k) = nI x ∧ 10 ≤ x ∧ x ≤ 12 ∧ h (k + 1) = h k + 1 ∧ d (k + 1) = d k) ∨
  (∃ x, fc (2 * k) = nI x ∧ 13 ≤ x ∧ x ≤ 17 ∧ 2 ≤ h k ∧ h (k + 1) + 1 = h k ∧ d (k + 1) = d k) ∨
  (∃ x, fc (2 * k) = nI x ∧ x ≤ 3 ∧ ((x = 0 ∧ h k = 2) ∨ (x ≠ 0 ∧ h k = 1)) ∧ h (k + 1) = 0 ∧ d (k + 1) = d k) ∨
  (∃ x, fc (2 * k) = nI x ∧ (x = 4 ∨ x = 5) ∧ h k + 4 = x ∧ k + 2 ≤ cd ∧ 5 < d (k + 1) ∧ h (k + 2) = 0 ∧ d (k + 2) = d k + 1 ∧ d k ≤ 4 ∧ (O k ∨ ∃ b, fc (2 * k + 3) = nI b ∧ k + 2 ≤ b ∧ b ≤ cd ∧ h b = 0 ∧ d b = d k)) ∨
  (∃ f, fc (2 * k) = nI 6 ∧ fc (2 * k + 1) = nI f ∧ h k = 0 ∧ 1 ≤ d k ∧ f + 2 ≤ k ∧ h (f + 2) = 0 ∧ d (f + 2) = d k ∧ h (k + 1) = 0 ∧ d (k + 1) + 1 = d k)
theorem RowW.mono {fc gc : Nat → Int32} {cd ce : Nat} {h d h' d' : Nat → Nat} {O O' : Nat → Prop} {k : Nat} (r : RowW fc cd h d O k) (hk : k < cd) (hc : cd ≤ ce) (e0 : gc (2 * k) = fc (2 * k)) (e1 : gc (2 * k + 1) = fc (2 * k + 1)) (e3 : k + 2 ≤ cd → gc (2 * k + 3) = fc (2 * k + 3)) (eh : ∀ j, j ≤ cd → h' j = h j) (ed : ∀ j, j ≤ cd → d' j = d j) (hO : O k → O' k) : RowW gc ce h' d' O' k := by
  rcases r with ⟨x, a1, a2, a3, a4, a5⟩ | ⟨x, a1, a2, a3, a4, a5, a6⟩ | ⟨x, a1, a2, a3, a4, a5⟩ | ⟨x, a1, a2, a3, a4, a5, a6, a7, a8, a9⟩ | ⟨f, a1, a2, a3, a4, a5, a6, a7, a8, a9⟩
  · exact Or.inl ⟨x, e0.trans a1, a2, a3, by rw [eh _ (by omega), eh _ (by omega)]; exact a4, by rw [ed _ (by omega), ed _ (by omega)]; exact a5⟩
  · exact Or.inr (Or.inl ⟨x, e0.trans a1, a2, a3, by rw [eh _ (by omega)]; exact a4, by rw [eh _ (by omega), eh _ (by omega)]; exact a5, by rw [ed _ (by omega), ed _ (by omega)]; exact a6⟩)
  · exact Or.inr (Or.inr (Or.inl ⟨x, e0.trans a1, a2, by rw [eh _ (by omega)]; exact a3, by rw [eh _ (by omega)]; exact a4, by rw [ed _ (by omega), ed _ (by omega)]; exact a5⟩))
  · refine Or.inr (Or.inr (Or.inr (Or.inl ⟨x, e0.trans a1, a2, by rw [eh _ (by omega)]; exact a3, by omega, by rw [ed _ (by omega)]; exact a5, by rw [eh _ (by omega)]; exact a6, by rw [ed _ (by omega), ed _ (by omega)]; exact a7, by rw [ed _ (by omega)]; exact a8, ?_⟩)))
    rcases a9 with z | ⟨b, b1, b2, b3, b4, b5⟩
    · exact Or.inl (hO z)
    · exact Or.inr ⟨b, (e3 a4).trans b1, b2, by omega, by rw [eh _ (by omega)]; exact b4, by rw [ed _ (by omega), ed _ (by omega)]; exact b5⟩
  · exact Or.inr (Or.inr (Or.inr (Or.inr ⟨f, e0.trans a1, e1.trans a2, by rw [eh _ (by omega)]; exact a3, by rw [ed _ (by omega)]; exact a4, a5, by rw [eh _ (by omega)]; exact a6, by rw [ed _ (by omega), ed _ (by omega)]; exact a7, by rw [eh _ (by omega)]; exact a8, by rw [ed _ (by omega), ed _ (by omega)]; exact a9⟩)))
/-- the code so far: cd rows, bk blocks open, height H behind it -/
def PSt (fc fo : Nat → Int32) (cd bk H : Nat) : Prop := ∃ op h d : Nat → Nat, h 0 = 0 ∧ d 0 = 0 ∧ h cd = H ∧ d cd = bk ∧ bk ≤ 5 ∧ (∀ k, k ≤ cd → d k ≤ 5 → h k ≤ k) ∧ (∀ k, k < cd → d k ≤ 5 → RowW fc cd h d (fun x => ∃ j, j < bk ∧ op j = x) k) ∧ ∀ j, j < bk → fo j = nI (op j) ∧ op j + 2 ≤ cd ∧ h (op j + 2) = 0 ∧ d (op j) = j ∧ 5 < d (op j + 1) ∧ d (op j + 2) = j + 1
theorem PSt_0 (fc fo : Nat → Int32) : PSt fc fo 0 0 0 := ⟨fun _ => 0, fun _ => 0, fun _ => 0, rfl, rfl, rfl, rfl, by omega, fun k _ _ => Nat.zero_le _, fun k hk _ => absurd hk (Nat.not_lt_zero _), fun j hj => absurd hj (Nat.not_lt_zero _)⟩
def setN (f : Nat → Nat) (k v : Nat) : Nat → Nat := fun j => if j = k then v else f j
theorem setN_s (f : Nat → Nat) (k v : Nat) : setN f k v k = v := if_pos rfl
theorem setN_n {f : Nat → Nat} {k v j : Nat} (h : j ≠ k) : setN f k v j = f j := if_neg h
theorem PSt_app {fc fo : Nat → Int32} {cd bk H x H' : Nat} {v : Int32} (p : PSt fc fo cd bk H) (hr : (10 ≤ x ∧ x ≤ 12 ∧ H' = H + 1) ∨ (13 ≤ x ∧ x ≤ 17 ∧ 2 ≤ H ∧ H' + 1 = H) ∨ (x ≤ 3 ∧ ((x = 0 ∧ H = 2) ∨ (x ≠ 0 ∧ H = 1)) ∧ H' = 0)) : PSt (upd (upd fc (2 * cd) (nI x)) (2 * cd + 1) v) fo (cd + 1) bk H' := by
  obtain ⟨op, h, d, h0, d0, hc, dc, hb, hle, hrow, hop⟩ := p
  have hHc : H ≤ cd := by
    have := hle cd (Nat.le_refl _) (by omega)
    omega
  refine ⟨op, setN h (cd + 1) H', setN d (cd + 1) bk, ?_, ?_, setN_s _ _ _, setN_s _ _ _, hb, ?_, ?_, ?_⟩
  · rw [setN_n (by omega)]
    exact h0
  · rw [setN_n (by omega)]
    exact d0
  · intro k hk hd
    by_cases e : k = cd + 1
    · subst e
      rw [setN_s]
      omega
    · rw [setN_n e] at hd ⊢
      exact hle k (by omega) hd
  · intro k hk hd
    rw [setN_n (by omega)] at hd
    by_cases e : k = cd
    · subst e
      have e0 : upd (upd fc (2 * k) (nI x)) (2 * k + 1) v (2 * k) = nI x := by
        rw [pk_un (by omega), pk_us]
      rcases hr with ⟨r1, r2, r3⟩ | ⟨r1, r2, r3, r4⟩ | ⟨r1, r2, r3⟩
      · exact Or.inl ⟨x, e0, r1, r2, by rw [setN_s, setN_n (by omega)]; omega, by rw [setN_s, setN_n (by omega)]; omega⟩
      · exact Or.inr (Or.inl ⟨x, e0, r1, r2, by rw [setN_n (by omega)]; omega, by rw [setN_s, setN_n (by omega)]; omega, by rw [setN_s, setN_n (by omega)]; omega⟩)
      · exact Or.inr (Or.inr (Or.inl ⟨x, e0, r1, by rw [setN_n (by omega)]; omega, by rw [setN_s]; omega, by rw [setN_s, setN_n (by omega)]; omega⟩))
    · exact (hrow k (by omega) hd).mono (by omega) (by omega) (by rw [pk_un (by omega), pk_un (by omega)]) (by rw [pk_un (by omega), pk_un (by omega)]) (fun z => by rw [pk_un (by omega), pk_un (by omega)]) (fun j hj => setN_n (by omega)) (fun j hj => setN_n (by omega)) (fun z => z)
  · intro j hj
    obtain ⟨a1, a2, a3, a4, a5, a6⟩ := hop j hj
    exact ⟨a1, by omega, by rw [setN_n (by omega)]; exact a3, by rw [setN_n (by omega)]; exact a4, by rw [setN_n (by omega)]; exact a5, by rw [setN_n (by omega)]; exact a6⟩
theorem PSt_open {fc fo : Nat → Int32} {cd bk H x : Nat} {v : Int32} (p : PSt fc fo cd bk H) (hx : x = 4 ∨ x = 5) (hH : H + 4 = x) (hb4 : bk ≤ 4) : PSt (upd (upd (upd (upd fc (2 * cd) (nI x)) (2 * cd + 1) v) (2 * (cd + 1)) 0) (2 * (cd + 1) + 1) 0) (upd fo bk (nI cd)) (cd + 2) (bk + 1) 0 := by
  obtain ⟨op, h, d, h0, d0, hc, dc, hb, hle, hrow, hop⟩ := p
  refine ⟨setN op bk cd, setN h (cd + 2) 0, setN (setN d (cd + 1) 100) (cd + 2) (bk + 1), ?_, ?_, setN_s _ _ _, setN_s _ _ _, by omega, ?_, ?_, ?_⟩
  · rw [setN_n (by omega)]
    exact h0
  · rw [setN_n (by omega), setN_n (by omega)]
    exact d0
  · intro k hk hd
    by_cases e : k = cd + 2
    · subst e
      rw [setN_s]
      omega
    · rw [setN_n e] at hd ⊢
      by_cases e2 : k = cd + 1
      · subst e2
        rw [setN_s] at hd
        omega
      · rw [setN_n e2] at hd
        exact hle k (by omega) hd
  · intro k hk hd
    rw [setN_n (by omega)] at hd
    by_cases e2 : k = cd + 1
    · subst e2
      rw [setN_s] at hd
      omega
    · rw [setN_n e2] at hd
      by_cases e : k = cd
      · subst e
        refine Or.inr (Or.inr (Or.inr (Or.inl ⟨x, by rw [pk_un (by omega), pk_un (by omega), pk_un (by omega), pk_us], hx, by rw [setN_n (by omega)]; omega, by omega, by rw [setN_n (by omega), setN_s]; omega, setN_s _ _ _, by rw [setN_s, setN_n (by omega), setN_n (by omega)]; omega, by rw [setN_n (by omega), setN_n (by omega)]; omega, Or.inl ⟨bk, by omega, setN_s _ _ _⟩⟩)))
      · refine (hrow k (by omega) hd).mono (by omega) (by omega) (by rw [pk_un (by omega), pk_un (by omega), pk_un (by omega), pk_un (by omega)]) (by rw [pk_un (by omega), pk_un (by omega), pk_un (by omega), pk_un (by omega)]) (fun z => by rw [pk_un (by omega), pk_un (by omega), pk_un (by omega), pk_un (by omega)]) (fun j hj => setN_n (by omega)) (fun j hj => by rw [setN_n (by omega), setN_n (by omega)]) (fun z => ?_)
        obtain ⟨j, hj, ej⟩ := z
        exact ⟨j, by omega, by rw [setN_n (by omega)]; exact ej⟩
  · intro j hj
    by_cases e : j = bk
    · subst e
      refine ⟨by rw [pk_us, setN_s], by rw [setN_s]; omega, by rw [setN_s]; exact setN_s _ _ _, by rw [setN_s, setN_n (by omega), setN_n (by omega)]; exact dc, by rw [setN_s, setN_n (by omega), setN_s]; omega, by rw [setN_s]; exact setN_s _ _ _⟩
    · obtain ⟨a1, a2, a3, a4, a5, a6⟩ := hop j (by omega)
      rw [setN_n e]
      exact ⟨by rw [pk_un e]; exact a1, by omega, by rw [setN_n (by omega)]; exact a3, by rw [setN_n (by omega), setN_n (by omega)]; exact a4, by rw [setN_n (by omega), setN_n (by omega)]; exact a5, by rw [setN_n (by omega), setN_n (by omega)]; exact a6⟩
theorem PSt_close {fc fo : Nat → Int32} {cd bk : Nat} (p : PSt fc fo cd bk 0) (hb1 : 1 ≤ bk) : ∃ f, fo (bk - 1) = nI f ∧ f + 2 ≤ cd ∧ PSt (upd (upd (upd fc (2 * cd) (nI 6)) (2 * cd + 1) (nI f)) (2 * f + 3) (nI (cd + 1))) fo (cd + 1) (bk - 1) 0 := by
  obtain ⟨op, h, d, h0, d0, hc, dc, hb, hle, hrow, hop⟩ := p
  obtain ⟨b1, b2, b3, b4, b5, b6⟩ := hop (bk - 1) (by omega)
  refine ⟨op (bk - 1), b1, b2, op, setN h (cd + 1) 0, setN d (cd + 1) (bk - 1), ?_, ?_, setN_s _ _ _, setN_s _ _ _, by omega, ?_, ?_, ?_⟩
  · rw [setN_n (by omega)]
    exact h0
  · rw [setN_n (by omega)]
    exact d0
  · intro k hk hd
    by_cases e : k = cd + 1
    · subst e
      rw [setN_s]
      omega
    · rw [setN_n e] at hd ⊢
      exact hle k (by omega) hd
  · intro k hk hd
    rw [setN_n (by omega)] at hd
    by_cases e : k = cd
    · subst e
      exact Or.inr (Or.inr (Or.inr (Or.inr ⟨op (bk - 1), by rw [pk_un (by omega), pk_un (by omega), pk_us], by rw [pk_un (by omega), pk_us], by rw [setN_n (by omega)]; exact hc, by rw [setN_n (by omega)]; omega, b2, by rw [setN_n (by omega)]; exact b3, by rw [setN_n (by omega), setN_n (by omega)]; omega, setN_s _ _ _, by rw [setN_s, setN_n (by omega)]; omega⟩)))
    · by_cases e2 : k = op (bk - 1)
      · subst e2
        have e0 : upd (upd (upd fc (2 * cd) (nI 6)) (2 * cd + 1) (nI (op (bk - 1)))) (2 * op (bk - 1) + 3) (nI (cd + 1)) (2 * op (bk - 1)) = fc (2 * op (bk - 1)) := by
          rw [pk_un (by omega), pk_un (by omega), pk_un (by omega)]
        rcases hrow _ (by omega) hd with ⟨x, a1, a2, a3, a4, a5⟩ | ⟨x, a1, a2, a3, a4, a5, a6⟩ | ⟨x, a1, a2, a3, a4, a5⟩ | ⟨x, a1, a2, a3, a4, a5, a6, a7, a8, a9⟩ | ⟨f, a1, a2, a3, a4, a5, a6, a7, a8, a9⟩
        · omega
        · omega
        · omega
        · exact Or.inr (Or.inr (Or.inr (Or.inl ⟨x, e0.trans a1, a2, by rw [setN_n (by omega)]; exact a3, by omega, by rw [setN_n (by omega)]; exact a5, by rw [setN_n (by omega)]; exact a6, by rw [setN_n (by omega), setN_n (by omega)]; exact a7, by rw [setN_n (by omega)]; exact a8, Or.inr ⟨cd + 1, pk_us, by omega, by omega, setN_s _ _ _, by rw [setN_s, setN_n (by omega)]; omega⟩⟩)))
        · omega
      · have e3 : k ≠ op (bk - 1) + 1 := fun z => by
          subst z
          omega
        refine (hrow k (by omega) hd).mono (by omega) (by omega) (by rw [pk_un (by omega), pk_un (by omega), pk_un (by omega)]) (by rw [pk_un (by omega), pk_un (by omega), pk_un (by omega)]) (fun z => by rw [pk_un (by omega), pk_un (by omega), pk_un (by omega)]) (fun j hj => setN_n (by omega)) (fun j hj => setN_n (by omega)) (fun z => ?_)
        obtain ⟨j, hj, ej⟩ := z
        have : j ≠ bk - 1 := fun y => by
          subst y
          exact e2 ej.symm
        exact ⟨j, by omega, ej⟩
  · intro j hj
    obtain ⟨a1, a2, a3, a4, a5, a6⟩ := hop j (by omega)
    exact ⟨a1, by omega, by rw [setN_n (by omega)]; exact a3, by rw [setN_n (by omega)]; exact a4, by rw [setN_n (by omega)]; exact a5, by rw [setN_n (by omega)]; exact a6⟩
/-- the pile -/
def PlS (fl : Nat → Int32) (pl : Nat) : Prop := ∀ j, j < pl → ∃ x, fl j = nI x ∧ 13 ≤ x ∧ x ≤ 18
def nops (fl : Nat → Int32) : Nat → Nat
  | 0 => 0
  | n + 1 => nops fl n + (if fl n = 18 then 0 else 1)
theorem nops_s (fl : Nat → Int32) (n : Nat) : nops fl (n + 1) = nops fl n + (if fl n = 18 then 0 else 1) := rfl
theorem nops_congr {f g : Nat → Int32} : ∀ n, (∀ j, j < n → f j = g j) → nops f n = nops g n
  | 0, _ => rfl
  | n + 1, h => by rw [nops_s, nops_s, nops_congr n (fun j hj => h j (by omega)), h n (by omega)]
theorem PlS_push {fl : Nat → Int32} {pl x : Nat} (h : PlS fl pl) (h1 : 13 ≤ x) (h2 : x ≤ 18) : PlS (upd fl pl (nI x)) (pl + 1) := by
  intro j hj
  by_cases e : j = pl
  · subst e
    exact ⟨x, pk_us, h1, h2⟩
  · rw [pk_un e]
    exact h j (by omega)
theorem PlS_le {fl : Nat → Int32} {pl q : Nat} (h : PlS fl pl) (hq : q ≤ pl) : PlS fl q := fun j hj => h j (by omega)
theorem nops_push (fl : Nat → Int32) (pl : Nat) {x : Nat} (hx : x ≤ 18) : nops (upd fl pl (nI x)) (pl + 1) = nops fl pl + (if x = 18 then 0 else 1) := by
  rw [nops_s, pk_us, nops_congr pl (fun j hj => pk_un (by omega))]
  by_cases e : x = 18
  · subst e
    rfl
  · rw [if_neg e, if_neg (show ¬ nI x = 18 from fun z => e ((nI_eq (b := 18) (by omega) (by decide)).mp z))]
theorem nops_pop {fl : Nat → Int32} {pl : Nat} (h : 0 < pl) (hx : ¬ fl (pl - 1) = 18) : nops fl pl = nops fl (pl - 1) + 1 := by
  have e := nops_s fl (pl - 1)
  rw [show pl - 1 + 1 = pl by omega, if_neg hx] at e
  exact e
theorem nops_br {fl : Nat → Int32} {pl : Nat} (h : 0 < pl) (hx : fl (pl - 1) = 18) : nops fl pl = nops fl (pl - 1) := by
  have e := nops_s fl (pl - 1)
  rw [show pl - 1 + 1 = pl by omega, if_pos hx] at e
  exact e
def own_c_isFine : List Cond := [.fieldLink RX11 280 "ClashFreeModel" "bad" "I"]
def wp_c_isFine : List Cond := .code yX11_isFine cX11_isFine 1 (some .boolean) :: (own_c_isFine ++ (wsX110 ++ ([] : List Cond)))
set_option maxRecDepth 20000 in
theorem inown_c_isFine : ∀ w ∈ own_c_isFine, w ∈ lw_tbl := mem_places [1240] (by decide +kernel)
set_option maxRecDepth 20000 in
theorem in_c_isFine : ∀ w ∈ wp_c_isFine, w ∈ lw_tbl := List.forall_mem_cons.mpr ⟨List.mem_of_getElem? (i := 1672) (by decide +kernel), List.forall_mem_append.mpr ⟨inown_c_isFine, List.forall_mem_append.mpr ⟨lwb_X11, fun _ h => absurd h List.not_mem_nil⟩⟩⟩
set_option maxRecDepth 20000 in
theorem good_c_isFine : wp_c_isFine.all goodWord = true := by decide +kernel
set_option maxHeartbeats 4000000 in
set_option maxRecDepth 100000 in
theorem c_isFine (l : Launch) (D : va_G) (sz : Nat) (h0 : Nat) (a : Nat → Nat) (cm : Nat → ClassId) (i : Nat → Int32) (g : Nat → Int64) (cd : Nat) (zs : Nat) (ta : Nat) (en : Int32) (bd : Int32) (bp : Int32) (bq : Int32) (bk : Nat) (pl : Nat) (br : Int32)  : Met l yX11_isFine wp_c_isFine ({ frames := 0, cells := 0, slots := 0, locals := 0 }) (PcR D [.ref h0] sz [(h0, .inr (11, gP a i g (nI cd) (nI zs) (nI ta) en bd bp bq (nI bk) (nI pl) br))] []) (va_Qi (fun (r : Int32) (u : Unit) => (r = 1 ∧ bd = 0) ∨ (r = 0 ∧ ¬ bd = 0)) (fun (_ : Unit) _ => True) (va_A [] sz)) 0 0 (va_A [] sz) := by
  refine Met.ofW (cc := cX11_isFine) (maxL := 1) (ret := (some .boolean)) (by decide) rfl ?_
  intro p e s m args below meth c s₁ B hml hv
  obtain ⟨rfl, hsz, hP, hK⟩ := hv
  have hx := B.exec
  have hb := B.bytes
  have hr := B.returns
  have hts := atoms_spec (ws := wp_c_isFine) B.pre
  have hin_X11 : ∀ w ∈ wsX110, w ∈ wp_c_isFine := fun _ h => (List.mem_cons_of_mem _ (List.mem_append_right _ (List.mem_append_left _ h)))
  have hown : s.vm.findClass RX11 = some m.cls := findClass_of_methodNamed B.named
  have hlocks := B.notSynchronized
  subst hsz
  generalize hAe : va_A [] s.heap.size = A at ⊢
  have hA : ∀ q : Nat, s.heap.size ≤ q → A q := fun q h => by rw [← hAe]; exact Or.inr h
  have hS : va_S A s.heap s.heap [] := va_S.rf
  have hP : va_P D vwCl [(h0, .inr (11, gP a i g (nI cd) (nI zs) (nI ta) en bd bp bq (nI bk) (nI pl) br))] s.heap := hP
  have hl := lv_entry ([.ref h0]) (n := 1) (Nat.le_of_ble_eq_true rfl)
  rw [lg_entry_eq]
  generalize (lg_sl ([.ref h0]) ++ List.replicate (1 - (lg_sl ([.ref h0])).length) Slot.unset).toArray = ls at hl ⊢
  have hl : lv_has ls 1 [(0, .ref h0)] := hl
  refine lv_aload_n hx hb dX11_isFine_0 rfl (lv_at hl 0 rfl) ?_
  refine va_get (D := D) (ci := 11) (v := .int bd) (C := RX11) (T := TX11) (N := 47) hx hb hts hin_X11 hown hK hP 0 rfl rfl 24 (by decide) (hts (.fieldLink RX11 280 "ClashFreeModel" "bad" "I") (List.mem_of_getElem? (i := 1) rfl)) (fun _ h9 => h9) rfl dX11_isFine_1 ?_
  refine lv_if_ne (tgt := 11) hx hb dX11_isFine_4 (by decide) (fun hc1 => ?_) (fun hc1 => ?_)
  ·
    refine lv_iconst (v := 0) hx hb dX11_isFine_11 (by decide) ?_
    exact W.zret (v := 0) hx hb hr rfl (fun t ht hW => ⟨⟨0, (), rfl, Or.inr ⟨rfl, hc1⟩, trivial⟩, hS.F ht⟩) hS.2.2 dX11_isFine_12
  ·
    refine lv_iconst (v := 1) hx hb dX11_isFine_7 (by decide) ?_
    refine lv_goto (tgt := 12) hx hb dX11_isFine_8 (by decide) ?_
    exact W.zret (v := 1) hx hb hr rfl (fun t ht hW => ⟨⟨1, (), rfl, Or.inl ⟨rfl, hc1⟩, trivial⟩, hS.F ht⟩) hS.2.2 dX11_isFine_12

def own_c_fail : List Cond := [.fieldLink RX11 280 "ClashFreeModel" "bad" "I", .fieldLink RX11 283 "ClashFreeModel" "badPlace" "I", .fieldLink RX11 286 "ClashFreeModel" "blocks" "I", .fieldLink RX11 289 "ClashFreeModel" "badDepth" "I"]
def wp_c_fail : List Cond := .code yX11_fail cX11_fail 3 none :: (own_c_fail ++ (wsX110 ++ ([] : List Cond)))
set_option maxRecDepth 20000 in
theorem inown_c_fail : ∀ w ∈ own_c_fail, w ∈ lw_tbl := mem_places [1240, 1241, 1243, 1242] (by decide +kernel)
set_option maxRecDepth 20000 in
theorem in_c_fail : ∀ w ∈ wp_c_fail, w ∈ lw_tbl := List.forall_mem_cons.mpr ⟨List.mem_of_getElem? (i := 1668) (by decide +kernel), List.forall_mem_append.mpr ⟨inown_c_fail, List.forall_mem_append.mpr ⟨lwb_X11, fun _ h => absurd h List.not_mem_nil⟩⟩⟩
set_option maxRecDepth 20000 in
theorem good_c_fail : wp_c_fail.all goodWord = true := by decide +kernel
set_option maxHeartbeats 4000000 in
set_option maxRecDepth 100000 in
theorem c_fail (l : Launch) (D : va_G) (sz : Nat) (h0 : Nat) (a : Nat → Nat) (cm : Nat → ClassId) (i : Nat → Int32) (g : Nat → Int64) (cd : Nat) (zs : Nat) (ta : Nat) (en : Int32) (bd : Int32) (bp : Int32) (bq : Int32) (bk : Nat) (pl : Nat) (br : Int32) (z1 : Int32) (z2 : Int32) (hz : ¬ z1 = 0) : Met l yX11_fail wp_c_fail ({ frames := 0, cells := 0, slots := 0, locals := 0 }) (PcW D [.ref h0, .int z1, .int z2] sz [(h0, .inr (11, gP a i g (nI cd) (nI zs) (nI ta) en bd bp bq (nI bk) (nI pl) br))] []) (va_Qv (fun (u : (Int32) × (Int32) × (Int32)) => ¬ u.1 = 0) (fun (u : (Int32) × (Int32) × (Int32)) t => va_P D vwCl [(h0, .inr (11, gP a i g (nI cd) (nI zs) (nI ta) en u.1 u.2.1 u.2.2 (nI bk) (nI pl) br))] t.heap ∧ va_K D vwCl [] t ∧ va_D (va_A [(h0, .inr (11, gP a i g (nI cd) (nI zs) (nI ta) en bd bp bq (nI bk) (nI pl) br))] sz) [(h0, .inr (11, gP a i g (nI cd) (nI zs) (nI ta) en u.1 u.2.1 u.2.2 (nI bk) (nI pl) br))]) (va_A [(h0, .inr (11, gP a i g (nI cd) (nI zs) (nI ta) en bd bp bq (nI bk) (nI pl) br))] sz)) 0 0 (va_A [(h0, .inr (11, gP a i g (nI cd) (nI zs) (nI ta) en bd bp bq (nI bk) (nI pl) br))] sz) := by
  refine Met.ofW (cc := cX11_fail) (maxL := 3) (ret := none) (by decide) rfl ?_
  intro p e s m args below meth c s₁ B hml hv
  obtain ⟨rfl, hsz, hP, hK, hD0⟩ := hv
  have hx := B.exec
  have hb := B.bytes
  have hr := B.returns
  have hts := atoms_spec (ws := wp_c_fail) B.pre
  have hin_X11 : ∀ w ∈ wsX110, w ∈ wp_c_fail := fun _ h => (List.mem_cons_of_mem _ (List.mem_append_right _ (List.mem_append_left _ h)))
  have hown : s.vm.findClass RX11 = some m.cls := findClass_of_methodNamed B.named
  have hlocks := B.notSynchronized
  subst hsz
  have hD := hD0.self (sz := s.heap.size)
  generalize hAe : va_A [(h0, .inr (11, gP a i g (nI cd) (nI zs) (nI ta) en bd bp bq (nI bk) (nI pl) br))] s.heap.size = A at hD ⊢
  have hA : ∀ q : Nat, s.heap.size ≤ q → A q := fun q h => by rw [← hAe]; exact Or.inr h
  have hS : va_S A s.heap s.heap [] := va_S.rf
  have hP : va_P D vwCl [(h0, .inr (11, gP a i g (nI cd) (nI zs) (nI ta) en bd bp bq (nI bk) (nI pl) br))] s.heap := hP
  have hl := lv_entry ([.ref h0, .int z1, .int z2]) (n := 3) (Nat.le_of_ble_eq_true rfl)
  rw [lg_entry_eq]
  generalize (lg_sl ([.ref h0, .int z1, .int z2]) ++ List.replicate (3 - (lg_sl ([.ref h0, .int z1, .int z2])).length) Slot.unset).toArray = ls at hl ⊢
  have hl : lv_has ls 3 [(0, .ref h0), (1, .int z1), (2, .int z2)] := hl
  refine lv_aload_n hx hb dX11_fail_0 rfl (lv_at hl 0 rfl) ?_
  refine va_get (D := D) (ci := 11) (v := .int bd) (C := RX11) (T := TX11) (N := 47) hx hb hts hin_X11 hown hK hP 0 rfl rfl 24 (by decide) (hts (.fieldLink RX11 280 "ClashFreeModel" "bad" "I") (List.mem_of_getElem? (i := 1) rfl)) (fun _ h9 => h9) rfl dX11_fail_1 ?_
  refine lv_if_eq (tgt := 8) hx hb dX11_fail_4 (by decide) (fun hc1 => ?_) (fun hc1 => ?_)
  ·
    refine lv_aload_n hx hb dX11_fail_8 rfl (lv_at hl 0 rfl) ?_
    refine lv_iload_n hx hb dX11_fail_9 rfl (lv_at hl 1 rfl) ?_
    refine va_put (D := D) (ci := 11) (v := .int z1) (ty := .int) (C := RX11) (T := TX11) (N := 47) hx hb hts hin_X11 tyX11 tyX11_ok nmX11 hown hK hP hD hS 0 rfl rfl 24 (by decide) (hts (.fieldLink RX11 280 "ClashFreeModel" "bad" "I") (List.mem_of_getElem? (i := 1) rfl)) (fun _ h9 => h9) rfl (by decide +kernel) rfl rfl (Nat.le_of_ble_eq_true rfl) dX11_fail_10 (fun H locs hP hD hS => ?_)
    have hP : va_P D vwCl [(h0, .inr (11, gP a i g (nI cd) (nI zs) (nI ta) en z1 bp bq (nI bk) (nI pl) br))] H := hP
    have hD : va_D A [(h0, .inr (11, gP a i g (nI cd) (nI zs) (nI ta) en z1 bp bq (nI bk) (nI pl) br))] := hD
    refine lv_aload_n hx hb dX11_fail_13 rfl (lv_at hl 0 rfl) ?_
    refine lv_iload_n hx hb dX11_fail_14 rfl (lv_at hl 2 rfl) ?_
    refine va_put (D := D) (ci := 11) (v := .int z2) (ty := .int) (C := RX11) (T := TX11) (N := 47) hx hb hts hin_X11 tyX11 tyX11_ok nmX11 hown hK hP hD hS 0 rfl rfl 25 (by decide) (hts (.fieldLink RX11 283 "ClashFreeModel" "badPlace" "I") (List.mem_of_getElem? (i := 2) rfl)) (fun _ h9 => h9) rfl (by decide +kernel) rfl rfl (Nat.le_of_ble_eq_true rfl) dX11_fail_15 (fun H locs hP hD hS => ?_)
    have hP : va_P D vwCl [(h0, .inr (11, gP a i g (nI cd) (nI zs) (nI ta) en z1 z2 bq (nI bk) (nI pl) br))] H := hP
    have hD : va_D A [(h0, .inr (11, gP a i g (nI cd) (nI zs) (nI ta) en z1 z2 bq (nI bk) (nI pl) br))] := hD
    refine lv_aload_n hx hb dX11_fail_18 rfl (lv_at hl 0 rfl) ?_
    refine lv_aload_n hx hb dX11_fail_19 rfl (lv_at hl 0 rfl) ?_
    refine va_get (D := D) (ci := 11) (v := .int (nI bk)) (C := RX11) (T := TX11) (N := 47) hx hb hts hin_X11 hown hK hP 0 rfl rfl 27 (by decide) (hts (.fieldLink RX11 286 "ClashFreeModel" "blocks" "I") (List.mem_of_getElem? (i := 3) rfl)) (fun _ h9 => h9) rfl dX11_fail_20 ?_
    refine va_put (D := D) (ci := 11) (v := .int (nI bk)) (ty := .int) (C := RX11) (T := TX11) (N := 47) hx hb hts hin_X11 tyX11 tyX11_ok nmX11 hown hK hP hD hS 0 rfl rfl 26 (by decide) (hts (.fieldLink RX11 289 "ClashFreeModel" "badDepth" "I") (List.mem_of_getElem? (i := 4) rfl)) (fun _ h9 => h9) rfl (by decide +kernel) rfl rfl (Nat.le_of_ble_eq_true rfl) dX11_fail_23 (fun H locs hP hD hS => ?_)
    have hP : va_P D vwCl [(h0, .inr (11, gP a i g (nI cd) (nI zs) (nI ta) en z1 z2 (nI bk) (nI bk) (nI pl) br))] H := hP
    have hD : va_D A [(h0, .inr (11, gP a i g (nI cd) (nI zs) (nI ta) en z1 z2 (nI bk) (nI bk) (nI pl) br))] := hD
    exact W.vret hx hb hr (fun t ht hW => ⟨⟨(z1, z2, (nI bk)), rfl, (by (try dsimp only); exact hz), by rw [ht]; exact hP.sub [0] rfl, va_K.moved hW.alike (hK.sub [] rfl), hD.sub [0] (by decide) rfl⟩, hS.F ht⟩) hS.2.2 dX11_fail_26
  ·
    exact W.vret hx hb hr (fun t ht hW => ⟨⟨(bd, bp, bq), rfl, (by (try dsimp only); exact hc1), by rw [ht]; exact hP.sub [0] rfl, va_K.moved hW.alike (hK.sub [] rfl), hD.sub [0] (by decide) rfl⟩, hS.F ht⟩) hS.2.2 dX11_fail_7

def own_c_isLetter : List Cond := [.fieldLink RX11 292 "ClashFreeModel" "size" "I", .fieldLink RX11 7 "ClashFreeModel" "tape" "[B", .constantLong RX11 295 (97), .constantLong RX11 297 (122), .methodLink RX11 83 yX11_isIn, .static yX11_isIn, .initialized RX11]
def wp_c_isLetter : List Cond := .code yX11_isLetter cX11_isLetter 2 (some .boolean) :: (own_c_isLetter ++ (wp_c_isIn ++ (wsX110 ++ ([] : List Cond))))
set_option maxRecDepth 20000 in
theorem inown_c_isLetter : ∀ w ∈ own_c_isLetter, w ∈ lw_tbl := mem_places [1237, 1217, 1709, 1710, 1371, 1372, 115] (by decide +kernel)
set_option maxRecDepth 20000 in
theorem in_c_isLetter : ∀ w ∈ wp_c_isLetter, w ∈ lw_tbl := List.forall_mem_cons.mpr ⟨List.mem_of_getElem? (i := 1708) (by decide +kernel), List.forall_mem_append.mpr ⟨inown_c_isLetter, List.forall_mem_append.mpr ⟨in_c_isIn, List.forall_mem_append.mpr ⟨lwb_X11, fun _ h => absurd h List.not_mem_nil⟩⟩⟩⟩
set_option maxRecDepth 20000 in
theorem good_c_isLetter : wp_c_isLetter.all goodWord = true := by decide +kernel
set_option maxRecDepth 20000 in
theorem g_c_isLetter_c_isIn_83 : GoodIn wp_c_isLetter (va_wsS RX11 83 yX11_isIn wp_c_isIn) := goodIn_sub (List.forall_mem_append.mpr ⟨List.forall_mem_cons.mpr ⟨(List.mem_of_getElem? (i := 5) rfl), List.forall_mem_cons.mpr ⟨(List.mem_of_getElem? (i := 6) rfl), List.forall_mem_cons.mpr ⟨(List.mem_of_getElem? (i := 7) rfl), fun _ h => absurd h List.not_mem_nil⟩⟩⟩, (fun _ h => (List.mem_cons_of_mem _ (List.mem_append_right _ (List.mem_append_left _ h))))⟩) (by decide +kernel)
set_option maxHeartbeats 4000000 in
set_option maxRecDepth 100000 in
theorem c_isLetter (l : Launch) (D : va_G) (sz : Nat) (h0 : Nat) (a : Nat → Nat) (cm : Nat → ClassId) (i : Nat → Int32) (g : Nat → Int64) (fT : Nat → Int32) (cd : Nat) (zs : Nat) (ta : Nat) (en : Int32) (bd : Int32) (bp : Int32) (bq : Int32) (bk : Nat) (pl : Nat) (br : Int32) (x : Nat) (hzs : zs ≤ 1400) (hx0 : x < 2147483648) : Met l yX11_isLetter wp_c_isLetter ({ frames := 1, cells := 0, slots := 0, locals := 25 }) (PcR D [.ref h0, .int (nI x)] sz [(h0, .inr (11, gP a i g (nI cd) (nI zs) (nI ta) en bd bp bq (nI bk) (nI pl) br)), (a 1, .inl (cm 1, 1400, .inl fT))] [(cm 1, .byte)]) (va_Qi (fun (r : Int32) (u : Unit) => (r = 1 ∧ LetP fT zs x) ∨ (r = 0 ∧ ¬ LetP fT zs x)) (fun (_ : Unit) _ => True) (va_A [] sz)) 0 0 (va_A [] sz) := by
  refine Met.ofW (cc := cX11_isLetter) (maxL := 2) (ret := (some .boolean)) (by decide) rfl ?_
  intro p e s m args below meth c s₁ B hml hv
  obtain ⟨rfl, hsz, hP, hK⟩ := hv
  have hx := B.exec
  have hb := B.bytes
  have hr := B.returns
  have hts := atoms_spec (ws := wp_c_isLetter) B.pre
  have hin_X11 : ∀ w ∈ wsX110, w ∈ wp_c_isLetter := fun _ h => (List.mem_cons_of_mem _ (List.mem_append_right _ (List.mem_append_right _ (List.mem_append_left _ h))))
  have hown : s.vm.findClass RX11 = some m.cls := findClass_of_methodNamed B.named
  have hlocks := B.notSynchronized
  subst hsz
  generalize hAe : va_A [] s.heap.size = A at ⊢
  have hA : ∀ q : Nat, s.heap.size ≤ q → A q := fun q h => by rw [← hAe]; exact Or.inr h
  have hS : va_S A s.heap s.heap [] := va_S.rf
  have hP : va_P D vwCl [(h0, .inr (11, gP a i g (nI cd) (nI zs) (nI ta) en bd bp bq (nI bk) (nI pl) br)), (a 1, .inl (cm 1, 1400, .inl fT))] s.heap := hP
  have hl := lv_entry ([.ref h0, .int (nI x)]) (n := 2) (Nat.le_of_ble_eq_true rfl)
  rw [lg_entry_eq]
  generalize (lg_sl ([.ref h0, .int (nI x)]) ++ List.replicate (2 - (lg_sl ([.ref h0, .int (nI x)])).length) Slot.unset).toArray = ls at hl ⊢
  have hl : lv_has ls 2 [(0, .ref h0), (1, .int (nI x))] := hl
  refine lv_iload_n hx hb dX11_isLetter_0 rfl (lv_at hl 1 rfl) ?_
  refine lv_aload_n hx hb dX11_isLetter_1 rfl (lv_at hl 0 rfl) ?_
  refine va_get (D := D) (ci := 11) (v := .int (nI zs)) (C := RX11) (T := TX11) (N := 47) hx hb hts hin_X11 hown hK hP 0 rfl rfl 21 (by decide) (hts (.fieldLink RX11 292 "ClashFreeModel" "size" "I") (List.mem_of_getElem? (i := 1) rfl)) (fun _ h9 => h9) rfl dX11_isLetter_2 ?_
  refine lv_icmp_ge (tgt := 31) hx hb dX11_isLetter_5 (by decide) (fun hc1 => ?_) (fun hc1 => ?_)
  ·
    have hlt : zs ≤ x := (nI_leI (by omega) (by omega)).mp hc1
    refine lv_iconst (v := 0) hx hb dX11_isLetter_31 (by decide) ?_
    exact W.zret (v := 0) hx hb hr rfl (fun t ht hW => ⟨⟨0, (), rfl, Or.inr ⟨rfl, fun h => absurd h.1 (by omega)⟩, trivial⟩, hS.F ht⟩) hS.2.2 dX11_isLetter_32
  ·
    have hlt : x < zs := by
      rcases Nat.lt_or_ge x (zs) with z | z
      · exact z
      · exact absurd (nI_le z (by omega)) hc1
    refine lv_aload_n hx hb dX11_isLetter_8 rfl (lv_at hl 0 rfl) ?_
    refine va_get (D := D) (ci := 11) (v := .ref (a 1)) (C := RX11) (T := TX11) (N := 47) hx hb hts hin_X11 hown hK hP 0 rfl rfl 1 (by decide) (hts (.fieldLink RX11 7 "ClashFreeModel" "tape" "[B") (List.mem_of_getElem? (i := 2) rfl)) (fun _ h9 => h9) rfl dX11_isLetter_9 ?_
    refine lv_iload_n hx hb dX11_isLetter_12 rfl (lv_at hl 1 rfl) ?_
    refine va_bald hx hb hK hP 1 0 rfl rfl (vp_in_nI (by omega) (by decide)) dX11_isLetter_13 ?_
    refine lv_topi (fun v2 ev2 => ?_)
    obtain rfl : v2 = fT x := ev2.trans (by rw [nI_clamp (by omega)])
    refine lv_i2l hx hb dX11_isLetter_14 rfl ?_
    refine lv_ldc2 (v := 97) hx hb hown (hts (.constantLong RX11 295 (97)) (List.mem_of_getElem? (i := 3) rfl)) dX11_isLetter_15 ?_
    refine lv_ldc2 (v := 122) hx hb hown (hts (.constantLong RX11 297 (122)) (List.mem_of_getElem? (i := 4) rfl)) dX11_isLetter_18 ?_
    have hPc := hP.sub (ws' := []) [] rfl
    have hKc := hK.sub (tys' := []) [] rfl
    have hFc := va_free0 hS hA
    refine va_calli (va_runS (As := [.long (Int32.toInt64 (fT x)), .long 97, .long 122]) (rest := []) ⟨hx, hb, hml, hown, hts⟩ (c_isIn l D _ (Int32.toInt64 (fT x)) 97 122) (va_cwS 3 hts g_c_isLetter_c_isIn_83 rfl rfl rfl (by decide +kernel) ⟨(Nat.le_of_ble_eq_true rfl), (Nat.le_of_ble_eq_true rfl)⟩) (PcR_S hPc hKc) rfl rfl hl.1 rfl (lv_room (Nat.le_of_ble_eq_true rfl)) dX11_isLetter_21 ⟨(Nat.le_of_ble_eq_true rfl), (Nat.le_of_ble_eq_true rfl)⟩) hS (fun q _ h => hFc q h) hFc (fun r3 uu tt H locs htt hvm hw hB hz1 hk1 hS => ?_)
    have hP := va_keep hP hk1
    try dsimp only at hw
    clear hB hz1 hk1 hFc hPc hKc
    rcases hw with ⟨rfl, hA_r3⟩ | ⟨rfl, hA_r3⟩
    ·
      refine lv_if_eq (tgt := 31) hx hb dX11_isLetter_24 (by decide) (fun hc => absurd hc (by decide)) (fun hc => ?_)
      refine lv_iconst (v := 1) hx hb dX11_isLetter_27 (by decide) ?_
      refine lv_goto (tgt := 32) hx hb dX11_isLetter_28 (by decide) ?_
      exact W.zret (v := 1) hx hb hr rfl (fun t ht hW => ⟨⟨1, (), rfl, Or.inl ⟨rfl, hlt, hA_r3⟩, trivial⟩, hS.F ht⟩) hS.2.2 dX11_isLetter_32
    ·
      refine lv_if_eq (tgt := 31) hx hb dX11_isLetter_24 (by decide) (fun hc => ?_) (fun hc => absurd (by decide) hc)
      refine lv_iconst (v := 0) hx hb dX11_isLetter_31 (by decide) ?_
      exact W.zret (v := 0) hx hb hr rfl (fun t ht hW => ⟨⟨0, (), rfl, Or.inr ⟨rfl, fun h => hA_r3 h.2⟩, trivial⟩, hS.F ht⟩) hS.2.2 dX11_isLetter_32

def own_c_isDigit : List Cond := [.fieldLink RX11 292 "ClashFreeModel" "size" "I", .fieldLink RX11 7 "ClashFreeModel" "tape" "[B", .constantLong RX11 299 (48), .constantLong RX11 301 (57), .methodLink RX11 83 yX11_isIn, .static yX11_isIn, .initialized RX11]
def wp_c_isDigit : List Cond := .code yX11_isDigit cX11_isDigit 2 (some .boolean) :: (own_c_isDigit ++ (wp_c_isIn ++ (wsX110 ++ ([] : List Cond))))
set_option maxRecDepth 20000 in
theorem inown_c_isDigit : ∀ w ∈ own_c_isDigit, w ∈ lw_tbl := mem_places [1237, 1217, 1728, 1729, 1371, 1372, 115] (by decide +kernel)
set_option maxRecDepth 20000 in
theorem in_c_isDigit : ∀ w ∈ wp_c_isDigit, w ∈ lw_tbl := List.forall_mem_cons.mpr ⟨List.mem_of_getElem? (i := 1727) (by decide +kernel), List.forall_mem_append.mpr ⟨inown_c_isDigit, List.forall_mem_append.mpr ⟨in_c_isIn, List.forall_mem_append.mpr ⟨lwb_X11, fun _ h => absurd h List.not_mem_nil⟩⟩⟩⟩
set_option maxRecDepth 20000 in
theorem good_c_isDigit : wp_c_isDigit.all goodWord = true := by decide +kernel
set_option maxRecDepth 20000 in
theorem g_c_isDigit_c_isIn_83 : GoodIn wp_c_isDigit (va_wsS RX11 83 yX11_isIn wp_c_isIn) := goodIn_sub (List.forall_mem_append.mpr ⟨List.forall_mem_cons.mpr ⟨(List.mem_of_getElem? (i := 5) rfl), List.forall_mem_cons.mpr ⟨(List.mem_of_getElem? (i := 6) rfl), List.forall_mem_cons.mpr ⟨(List.mem_of_getElem? (i := 7) rfl), fun _ h => absurd h List.not_mem_nil⟩⟩⟩, (fun _ h => (List.mem_cons_of_mem _ (List.mem_append_right _ (List.mem_append_left _ h))))⟩) (by decide +kernel)
set_option maxHeartbeats 4000000 in
set_option maxRecDepth 100000 in
theorem c_isDigit (l : Launch) (D : va_G) (sz : Nat) (h0 : Nat) (a : Nat → Nat) (cm : Nat → ClassId) (i : Nat → Int32) (g : Nat → Int64) (fT : Nat → Int32) (cd : Nat) (zs : Nat) (ta : Nat) (en : Int32) (bd : Int32) (bp : Int32) (bq : Int32) (bk : Nat) (pl : Nat) (br : Int32) (x : Nat) (hzs : zs ≤ 1400) (hx0 : x < 2147483648) : Met l yX11_isDigit wp_c_isDigit ({ frames := 1, cells := 0, slots := 0, locals := 25 }) (PcR D [.ref h0, .int (nI x)] sz [(h0, .inr (11, gP a i g (nI cd) (nI zs) (nI ta) en bd bp bq (nI bk) (nI pl) br)), (a 1, .inl (cm 1, 1400, .inl fT))] [(cm 1, .byte)]) (va_Qi (fun (r : Int32) (u : Unit) => (r = 1 ∧ DigP fT zs x) ∨ (r = 0 ∧ ¬ DigP fT zs x)) (fun (_ : Unit) _ => True) (va_A [] sz)) 0 0 (va_A [] sz) := by
  refine Met.ofW (cc := cX11_isDigit) (maxL := 2) (ret := (some .boolean)) (by decide) rfl ?_
  intro p e s m args below meth c s₁ B hml hv
  obtain ⟨rfl, hsz, hP, hK⟩ := hv
  have hx := B.exec
  have hb := B.bytes
  have hr := B.returns
  have hts := atoms_spec (ws := wp_c_isDigit) B.pre
  have hin_X11 : ∀ w ∈ wsX110, w ∈ wp_c_isDigit := fun _ h => (List.mem_cons_of_mem _ (List.mem_append_right _ (List.mem_append_right _ (List.mem_append_left _ h))))
  have hown : s.vm.findClass RX11 = some m.cls := findClass_of_methodNamed B.named
  have hlocks := B.notSynchronized
  subst hsz
  generalize hAe : va_A [] s.heap.size = A at ⊢
  have hA : ∀ q : Nat, s.heap.size ≤ q → A q := fun q h => by rw [← hAe]; exact Or.inr h
  have hS : va_S A s.heap s.heap [] := va_S.rf
  have hP : va_P D vwCl [(h0, .inr (11, gP a i g (nI cd) (nI zs) (nI ta) en bd bp bq (nI bk) (nI pl) br)), (a 1, .inl (cm 1, 1400, .inl fT))] s.heap := hP
  have hl := lv_entry ([.ref h0, .int (nI x)]) (n := 2) (Nat.le_of_ble_eq_true rfl)
  rw [lg_entry_eq]
  generalize (lg_sl ([.ref h0, .int (nI x)]) ++ List.replicate (2 - (lg_sl ([.ref h0, .int (nI x)])).length) Slot.unset).toArray = ls at hl ⊢
  have hl : lv_has ls 2 [(0, .ref h0), (1, .int (nI x))] := hl
  refine lv_iload_n hx hb dX11_isDigit_0 rfl (lv_at hl 1 rfl) ?_
  refine lv_aload_n hx hb dX11_isDigit_1 rfl (lv_at hl 0 rfl) ?_
  refine va_get (D := D) (ci := 11) (v := .int (nI zs)) (C := RX11) (T := TX11) (N := 47) hx hb hts hin_X11 hown hK hP 0 rfl rfl 21 (by decide) (hts (.fieldLink RX11 292 "ClashFreeModel" "size" "I") (List.mem_of_getElem? (i := 1) rfl)) (fun _ h9 => h9) rfl dX11_isDigit_2 ?_
  refine lv_icmp_ge (tgt := 31) hx hb dX11_isDigit_5 (by decide) (fun hc1 => ?_) (fun hc1 => ?_)
  ·
    have hlt : zs ≤ x := (nI_leI (by omega) (by omega)).mp hc1
    refine lv_iconst (v := 0) hx hb dX11_isDigit_31 (by decide) ?_
    exact W.zret (v := 0) hx hb hr rfl (fun t ht hW => ⟨⟨0, (), rfl, Or.inr ⟨rfl, fun h => absurd h.1 (by omega)⟩, trivial⟩, hS.F ht⟩) hS.2.2 dX11_isDigit_32
  ·
    have hlt : x < zs := by
      rcases Nat.lt_or_ge x (zs) with z | z
      · exact z
      · exact absurd (nI_le z (by omega)) hc1
    refine lv_aload_n hx hb dX11_isDigit_8 rfl (lv_at hl 0 rfl) ?_
    refine va_get (D := D) (ci := 11) (v := .ref (a 1)) (C := RX11) (T := TX11) (N := 47) hx hb hts hin_X11 hown hK hP 0 rfl rfl 1 (by decide) (hts (.fieldLink RX11 7 "ClashFreeModel" "tape" "[B") (List.mem_of_getElem? (i := 2) rfl)) (fun _ h9 => h9) rfl dX11_isDigit_9 ?_
    refine lv_iload_n hx hb dX11_isDigit_12 rfl (lv_at hl 1 rfl) ?_
    refine va_bald hx hb hK hP 1 0 rfl rfl (vp_in_nI (by omega) (by decide)) dX11_isDigit_13 ?_
    refine lv_topi (fun v2 ev2 => ?_)
    obtain rfl : v2 = fT x := ev2.trans (by rw [nI_clamp (by omega)])
    refine lv_i2l hx hb dX11_isDigit_14 rfl ?_
    refine lv_ldc2 (v := 48) hx hb hown (hts (.constantLong RX11 299 (48)) (List.mem_of_getElem? (i := 3) rfl)) dX11_isDigit_15 ?_
    refine lv_ldc2 (v := 57) hx hb hown (hts (.constantLong RX11 301 (57)) (List.mem_of_getElem? (i := 4) rfl)) dX11_isDigit_18 ?_
    have hPc := hP.sub (ws' := []) [] rfl
    have hKc := hK.sub (tys' := []) [] rfl
    have hFc := va_free0 hS hA
    refine va_calli (va_runS (As := [.long (Int32.toInt64 (fT x)), .long 48, .long 57]) (rest := []) ⟨hx, hb, hml, hown, hts⟩ (c_isIn l D _ (Int32.toInt64 (fT x)) 48 57) (va_cwS 3 hts g_c_isDigit_c_isIn_83 rfl rfl rfl (by decide +kernel) ⟨(Nat.le_of_ble_eq_true rfl), (Nat.le_of_ble_eq_true rfl)⟩) (PcR_S hPc hKc) rfl rfl hl.1 rfl (lv_room (Nat.le_of_ble_eq_true rfl)) dX11_isDigit_21 ⟨(Nat.le_of_ble_eq_true rfl), (Nat.le_of_ble_eq_true rfl)⟩) hS (fun q _ h => hFc q h) hFc (fun r3 uu tt H locs htt hvm hw hB hz1 hk1 hS => ?_)
    have hP := va_keep hP hk1
    try dsimp only at hw
    clear hB hz1 hk1 hFc hPc hKc
    rcases hw with ⟨rfl, hA_r3⟩ | ⟨rfl, hA_r3⟩
    ·
      refine lv_if_eq (tgt := 31) hx hb dX11_isDigit_24 (by decide) (fun hc => absurd hc (by decide)) (fun hc => ?_)
      refine lv_iconst (v := 1) hx hb dX11_isDigit_27 (by decide) ?_
      refine lv_goto (tgt := 32) hx hb dX11_isDigit_28 (by decide) ?_
      exact W.zret (v := 1) hx hb hr rfl (fun t ht hW => ⟨⟨1, (), rfl, Or.inl ⟨rfl, hlt, hA_r3⟩, trivial⟩, hS.F ht⟩) hS.2.2 dX11_isDigit_32
    ·
      refine lv_if_eq (tgt := 31) hx hb dX11_isDigit_24 (by decide) (fun hc => ?_) (fun hc => absurd (by decide) hc)
      refine lv_iconst (v := 0) hx hb dX11_isDigit_31 (by decide) ?_
      exact W.zret (v := 0) hx hb hr rfl (fun t ht hW => ⟨⟨0, (), rfl, Or.inr ⟨rfl, fun h => hA_r3 h.2⟩, trivial⟩, hS.F ht⟩) hS.2.2 dX11_isDigit_32

def own_c_next : List Cond := [.fieldLink RX11 303 "ClashFreeModel" "at" "I", .fieldLink RX11 292 "ClashFreeModel" "size" "I", .fieldLink RX11 7 "ClashFreeModel" "tape" "[B"]
def wp_c_next : List Cond := .code yX11_next cX11_next 1 (some .int) :: (own_c_next ++ (wsX110 ++ ([] : List Cond)))
set_option maxRecDepth 20000 in
theorem inown_c_next : ∀ w ∈ own_c_next, w ∈ lw_tbl := mem_places [1238, 1237, 1217] (by decide +kernel)
set_option maxRecDepth 20000 in
theorem in_c_next : ∀ w ∈ wp_c_next, w ∈ lw_tbl := List.forall_mem_cons.mpr ⟨List.mem_of_getElem? (i := 1676) (by decide +kernel), List.forall_mem_append.mpr ⟨inown_c_next, List.forall_mem_append.mpr ⟨lwb_X11, fun _ h => absurd h List.not_mem_nil⟩⟩⟩
set_option maxRecDepth 20000 in
theorem good_c_next : wp_c_next.all goodWord = true := by decide +kernel
set_option maxHeartbeats 4000000 in
set_option maxRecDepth 100000 in
theorem lp_next (l : Launch) {p : Program} {e : Env} {s : State} {m : MethodId} {args : Array Value} {below : List Frame} {meth : Method} {c : Code} {Q : State → Prop} {A : Nat → Prop} (D : va_G) (h0 : Nat) (a : Nat → Nat) (cm : Nat → ClassId) (i : Nat → Int32) (g : Nat → Int64) (fT : Nat → Int32) (cd : Nat) (zs : Nat) (ta : Nat) (en : Int32) (bd : Int32) (bp : Int32) (bq : Int32) (bk : Nat) (pl : Nat) (br : Int32) (bt : Nat → Nat) (hzs : zs ≤ 1400) (hbt : TieB fT bt) (hx : p.tables.exec = Jvm.exec) (hb : c.code = cX11_next) (hml : c.maxLocals = 1) (hown : s.vm.findClass RX11 = some m.cls) (hts : ∀ w ∈ wp_c_next, w.before args s = true) (hA : ∀ q, s.heap.size ≤ q → A q) (hK : va_K D vwCl [(cm 1, .byte)] s) (kx52 : ∀ (y : Nat), (ta ≤ y) → (y ≤ zs) → (spE (blB bt) zs ta = spE (blB bt) zs y) → (spE (blB bt) zs y = y) → ∀ (H : Heap) (locs : List Loc) (ls : Array Slot), va_P D vwCl [(h0, .inr (11, gP a i g (nI cd) (nI zs) (nI y) en bd bp bq (nI bk) (nI pl) br)), (a 1, .inl (cm 1, 1400, .inl fT))] H → va_D A [(h0, .inr (11, gP a i g (nI cd) (nI zs) (nI y) en bd bp bq (nI bk) (nI pl) br)), (a 1, .inl (cm 1, 1400, .inl fT))] → va_S A s.heap H locs → lv_has ls 1 [(0, .ref h0)] → W p l e ({ frames := 0, cells := 0, slots := 0, locals := 0 }) s m args below meth c H locs 0 0 Q (F0 m 52 ls [])) : ∀ (N : Nat), ∀ (y : Nat), (ta ≤ y) → (y ≤ zs) → (spE (blB bt) zs ta = spE (blB bt) zs y) → zs - y < N → ∀ (H : Heap) (locs : List Loc) (ls : Array Slot), va_P D vwCl [(h0, .inr (11, gP a i g (nI cd) (nI zs) (nI y) en bd bp bq (nI bk) (nI pl) br)), (a 1, .inl (cm 1, 1400, .inl fT))] H → va_D A [(h0, .inr (11, gP a i g (nI cd) (nI zs) (nI y) en bd bp bq (nI bk) (nI pl) br)), (a 1, .inl (cm 1, 1400, .inl fT))] → va_S A s.heap H locs → lv_has ls 1 [(0, .ref h0)] → W p l e ({ frames := 0, cells := 0, slots := 0, locals := 0 }) s m args below meth c H locs 0 0 Q (F0 m 0 ls []) := by
  have hin_X11 : ∀ w ∈ wsX110, w ∈ wp_c_next := fun _ h => (List.mem_cons_of_mem _ (List.mem_append_right _ (List.mem_append_left _ h)))
  intro N
  induction N with
  | zero =>
    intro y hy1 hy2 hsp hm
    exact absurd hm (Nat.not_lt_zero _)
  | succ N ih =>
    intro y hy1 hy2 hsp hm H locs ls hP hD hS hl
    refine lv_aload_n hx hb dX11_next_0 rfl (lv_at hl 0 rfl) ?_
    refine va_get (D := D) (ci := 11) (v := .int (nI y)) (C := RX11) (T := TX11) (N := 47) hx hb hts hin_X11 hown hK hP 0 rfl rfl 22 (by decide) (hts (.fieldLink RX11 303 "ClashFreeModel" "at" "I") (List.mem_of_getElem? (i := 1) rfl)) (fun _ h9 => h9) rfl dX11_next_1 ?_
    refine lv_aload_n hx hb dX11_next_4 rfl (lv_at hl 0 rfl) ?_
    refine va_get (D := D) (ci := 11) (v := .int (nI zs)) (C := RX11) (T := TX11) (N := 47) hx hb hts hin_X11 hown hK hP 0 rfl rfl 21 (by decide) (hts (.fieldLink RX11 292 "ClashFreeModel" "size" "I") (List.mem_of_getElem? (i := 2) rfl)) (fun _ h9 => h9) rfl dX11_next_5 ?_
    refine lv_icmp_ge (tgt := 52) hx hb dX11_next_8 (by decide) (fun hc1 => ?_) (fun hc1 => ?_)
    ·
      have hlt : zs ≤ y := (nI_leI (by omega) (by omega)).mp hc1
      exact kx52 y (hy1) (hy2) (hsp) (sp_F (fun q => absurd q.1 (by omega))) H locs ls (hP.sub [0, 1] rfl) (hD.sub [0, 1] (by decide) rfl) hS (lv_sub hl [0] rfl)
    ·
      have hlt : y < zs := by
        rcases Nat.lt_or_ge y (zs) with z | z
        · exact z
        · exact absurd (nI_le z (by omega)) hc1
      refine lv_aload_n hx hb dX11_next_11 rfl (lv_at hl 0 rfl) ?_
      refine va_get (D := D) (ci := 11) (v := .ref (a 1)) (C := RX11) (T := TX11) (N := 47) hx hb hts hin_X11 hown hK hP 0 rfl rfl 1 (by decide) (hts (.fieldLink RX11 7 "ClashFreeModel" "tape" "[B") (List.mem_of_getElem? (i := 3) rfl)) (fun _ h9 => h9) rfl dX11_next_12 ?_
      refine lv_aload_n hx hb dX11_next_15 rfl (lv_at hl 0 rfl) ?_
      refine va_get (D := D) (ci := 11) (v := .int (nI y)) (C := RX11) (T := TX11) (N := 47) hx hb hts hin_X11 hown hK hP 0 rfl rfl 22 (by decide) (hts (.fieldLink RX11 303 "ClashFreeModel" "at" "I") (List.mem_of_getElem? (i := 1) rfl)) (fun _ h9 => h9) rfl dX11_next_16 ?_
      refine va_bald hx hb hK hP 1 0 rfl rfl (vp_in_nI (by omega) (by decide)) dX11_next_19 ?_
      refine lv_topi (fun v2 ev2 => ?_)
      obtain rfl : v2 = fT y := ev2.trans (by rw [nI_clamp (by omega)])
      refine lv_bipush (v := 32) hx hb dX11_next_20 (by decide) ?_
      refine lv_icmp_eq (tgt := 39) hx hb dX11_next_22 (by decide) (fun hc3 => ?_) (fun hc3 => ?_)
      ·
        have hbl : blB bt y = true := tb_bl hbt (Or.inl hc3)
        refine lv_aload_n hx hb dX11_next_39 rfl (lv_at hl 0 rfl) ?_
        refine lv_dup hx hb dX11_next_40 rfl ?_
        refine va_get (D := D) (ci := 11) (v := .int (nI y)) (C := RX11) (T := TX11) (N := 47) hx hb hts hin_X11 hown hK hP 0 rfl rfl 22 (by decide) (hts (.fieldLink RX11 303 "ClashFreeModel" "at" "I") (List.mem_of_getElem? (i := 1) rfl)) (fun _ h9 => h9) rfl dX11_next_41 ?_
        refine lv_iconst (v := 1) hx hb dX11_next_44 (by decide) ?_
        refine lv_iadd hx hb dX11_next_45 ?_
        refine lv_topi (fun v4 ev4 => ?_)
        obtain rfl : v4 = nI (y + 1) := ev4.trans (nI_1 _)
        refine va_put (D := D) (ci := 11) (v := .int (nI (y + 1))) (ty := .int) (C := RX11) (T := TX11) (N := 47) hx hb hts hin_X11 tyX11 tyX11_ok nmX11 hown hK hP hD hS 0 rfl rfl 22 (by decide) (hts (.fieldLink RX11 303 "ClashFreeModel" "at" "I") (List.mem_of_getElem? (i := 1) rfl)) (fun _ h9 => h9) rfl (by decide +kernel) rfl rfl (Nat.le_of_ble_eq_true rfl) dX11_next_46 (fun H locs hP hD hS => ?_)
        have hP : va_P D vwCl [(h0, .inr (11, gP a i g (nI cd) (nI zs) (nI (y + 1)) en bd bp bq (nI bk) (nI pl) br)), (a 1, .inl (cm 1, 1400, .inl fT))] H := hP
        have hD : va_D A [(h0, .inr (11, gP a i g (nI cd) (nI zs) (nI (y + 1)) en bd bp bq (nI bk) (nI pl) br)), (a 1, .inl (cm 1, 1400, .inl fT))] := hD
        refine lv_goto (tgt := 0) hx hb dX11_next_49 (by decide) ?_
        exact ih (y + 1) (by omega) (by omega) (hsp.trans (sp_T hlt hbl)) (by omega) H locs ls (hP.sub [0, 1] rfl) (hD.sub [0, 1] (by decide) rfl) hS (lv_sub hl [0] rfl)
      ·
        refine lv_aload_n hx hb dX11_next_25 rfl (lv_at hl 0 rfl) ?_
        refine va_get (D := D) (ci := 11) (v := .ref (a 1)) (C := RX11) (T := TX11) (N := 47) hx hb hts hin_X11 hown hK hP 0 rfl rfl 1 (by decide) (hts (.fieldLink RX11 7 "ClashFreeModel" "tape" "[B") (List.mem_of_getElem? (i := 3) rfl)) (fun _ h9 => h9) rfl dX11_next_26 ?_
        refine lv_aload_n hx hb dX11_next_29 rfl (lv_at hl 0 rfl) ?_
        refine va_get (D := D) (ci := 11) (v := .int (nI y)) (C := RX11) (T := TX11) (N := 47) hx hb hts hin_X11 hown hK hP 0 rfl rfl 22 (by decide) (hts (.fieldLink RX11 303 "ClashFreeModel" "at" "I") (List.mem_of_getElem? (i := 1) rfl)) (fun _ h9 => h9) rfl dX11_next_30 ?_
        refine va_bald hx hb hK hP 1 0 rfl rfl (vp_in_nI (by omega) (by decide)) dX11_next_33 ?_
        refine lv_topi (fun v5 ev5 => ?_)
        obtain rfl : v5 = fT y := ev5.trans (by rw [nI_clamp (by omega)])
        refine lv_bipush (v := 10) hx hb dX11_next_34 (by decide) ?_
        refine lv_icmp_ne (tgt := 52) hx hb dX11_next_36 (by decide) (fun hc6 => ?_) (fun hc6 => ?_)
        ·
          have hnb : ¬ blB bt y = true := tb_nb hbt hc3 hc6
          exact kx52 y (hy1) (hy2) (hsp) (sp_F (fun q => hnb q.2)) H locs ls (hP.sub [0, 1] rfl) (hD.sub [0, 1] (by decide) rfl) hS (lv_sub hl [0] rfl)
        ·
          have hbl : blB bt y = true := tb_bl hbt (Or.inr hc6)
          refine lv_aload_n hx hb dX11_next_39 rfl (lv_at hl 0 rfl) ?_
          refine lv_dup hx hb dX11_next_40 rfl ?_
          refine va_get (D := D) (ci := 11) (v := .int (nI y)) (C := RX11) (T := TX11) (N := 47) hx hb hts hin_X11 hown hK hP 0 rfl rfl 22 (by decide) (hts (.fieldLink RX11 303 "ClashFreeModel" "at" "I") (List.mem_of_getElem? (i := 1) rfl)) (fun _ h9 => h9) rfl dX11_next_41 ?_
          refine lv_iconst (v := 1) hx hb dX11_next_44 (by decide) ?_
          refine lv_iadd hx hb dX11_next_45 ?_
          refine lv_topi (fun v7 ev7 => ?_)
          obtain rfl : v7 = nI (y + 1) := ev7.trans (nI_1 _)
          refine va_put (D := D) (ci := 11) (v := .int (nI (y + 1))) (ty := .int) (C := RX11) (T := TX11) (N := 47) hx hb hts hin_X11 tyX11 tyX11_ok nmX11 hown hK hP hD hS 0 rfl rfl 22 (by decide) (hts (.fieldLink RX11 303 "ClashFreeModel" "at" "I") (List.mem_of_getElem? (i := 1) rfl)) (fun _ h9 => h9) rfl (by decide +kernel) rfl rfl (Nat.le_of_ble_eq_true rfl) dX11_next_46 (fun H locs hP hD hS => ?_)
          have hP : va_P D vwCl [(h0, .inr (11, gP a i g (nI cd) (nI zs) (nI (y + 1)) en bd bp bq (nI bk) (nI pl) br)), (a 1, .inl (cm 1, 1400, .inl fT))] H := hP
          have hD : va_D A [(h0, .inr (11, gP a i g (nI cd) (nI zs) (nI (y + 1)) en bd bp bq (nI bk) (nI pl) br)), (a 1, .inl (cm 1, 1400, .inl fT))] := hD
          refine lv_goto (tgt := 0) hx hb dX11_next_49 (by decide) ?_
          exact ih (y + 1) (by omega) (by omega) (hsp.trans (sp_T hlt hbl)) (by omega) H locs ls (hP.sub [0, 1] rfl) (hD.sub [0, 1] (by decide) rfl) hS (lv_sub hl [0] rfl)
set_option maxHeartbeats 4000000 in
set_option maxRecDepth 100000 in
theorem c_next (l : Launch) (D : va_G) (sz : Nat) (h0 : Nat) (a : Nat → Nat) (cm : Nat → ClassId) (i : Nat → Int32) (g : Nat → Int64) (fT : Nat → Int32) (cd : Nat) (zs : Nat) (ta : Nat) (en : Int32) (bd : Int32) (bp : Int32) (bq : Int32) (bk : Nat) (pl : Nat) (br : Int32) (bt : Nat → Nat) (hzs : zs ≤ 1400) (hta : ta ≤ zs) (hbt : TieB fT bt) : Met l yX11_next wp_c_next ({ frames := 0, cells := 0, slots := 0, locals := 0 }) (PcW D [.ref h0] sz [(h0, .inr (11, gP a i g (nI cd) (nI zs) (nI ta) en bd bp bq (nI bk) (nI pl) br)), (a 1, .inl (cm 1, 1400, .inl fT))] [(cm 1, .byte)]) (va_Qi (fun (r : Int32) (u : (Nat)) => r = nI u ∧ ta ≤ u ∧ u ≤ zs ∧ u = tkA bt zs ta) (fun (u : (Nat)) t => va_P D vwCl [(h0, .inr (11, gP a i g (nI cd) (nI zs) (nI u) en bd bp bq (nI bk) (nI pl) br)), (a 1, .inl (cm 1, 1400, .inl fT))] t.heap ∧ va_K D vwCl [(cm 1, .byte)] t ∧ va_D (va_A [(h0, .inr (11, gP a i g (nI cd) (nI zs) (nI ta) en bd bp bq (nI bk) (nI pl) br)), (a 1, .inl (cm 1, 1400, .inl fT))] sz) [(h0, .inr (11, gP a i g (nI cd) (nI zs) (nI u) en bd bp bq (nI bk) (nI pl) br)), (a 1, .inl (cm 1, 1400, .inl fT))]) (va_A [(h0, .inr (11, gP a i g (nI cd) (nI zs) (nI ta) en bd bp bq (nI bk) (nI pl) br)), (a 1, .inl (cm 1, 1400, .inl fT))] sz)) 0 0 (va_A [(h0, .inr (11, gP a i g (nI cd) (nI zs) (nI ta) en bd bp bq (nI bk) (nI pl) br)), (a 1, .inl (cm 1, 1400, .inl fT))] sz) := by
  refine Met.ofW (cc := cX11_next) (maxL := 1) (ret := (some .int)) (by decide) rfl ?_
  intro p e s m args below meth c s₁ B hml hv
  obtain ⟨rfl, hsz, hP, hK, hD0⟩ := hv
  have hx := B.exec
  have hb := B.bytes
  have hr := B.returns
  have hts := atoms_spec (ws := wp_c_next) B.pre
  have hin_X11 : ∀ w ∈ wsX110, w ∈ wp_c_next := fun _ h => (List.mem_cons_of_mem _ (List.mem_append_right _ (List.mem_append_left _ h)))
  have hown : s.vm.findClass RX11 = some m.cls := findClass_of_methodNamed B.named
  have hlocks := B.notSynchronized
  subst hsz
  have hD := hD0.self (sz := s.heap.size)
  generalize hAe : va_A [(h0, .inr (11, gP a i g (nI cd) (nI zs) (nI ta) en bd bp bq (nI bk) (nI pl) br)), (a 1, .inl (cm 1, 1400, .inl fT))] s.heap.size = A at hD ⊢
  have hA : ∀ q : Nat, s.heap.size ≤ q → A q := fun q h => by rw [← hAe]; exact Or.inr h
  have hS : va_S A s.heap s.heap [] := va_S.rf
  have hP : va_P D vwCl [(h0, .inr (11, gP a i g (nI cd) (nI zs) (nI ta) en bd bp bq (nI bk) (nI pl) br)), (a 1, .inl (cm 1, 1400, .inl fT))] s.heap := hP
  have hl := lv_entry ([.ref h0]) (n := 1) (Nat.le_of_ble_eq_true rfl)
  rw [lg_entry_eq]
  generalize (lg_sl ([.ref h0]) ++ List.replicate (1 - (lg_sl ([.ref h0])).length) Slot.unset).toArray = ls at hl ⊢
  have hl : lv_has ls 1 [(0, .ref h0)] := hl
  refine lp_next l D h0 a cm i g fT cd zs ta en bd bp bq bk pl br bt (hzs) (hbt) hx hb hml hown hts hA (hK.sub [0] rfl) ?_ (zs + 1) ta (Nat.le_refl _) (hta) (rfl) (by omega) _ _ _ (hP.sub [0, 1] rfl) (hD.sub [0, 1] (by decide) rfl) hS (lv_sub hl [0] rfl)
  intro y_1 hy1_2 hy2_3 hsp_4 hx5 H locs ls hP hD hS hl
  refine lv_aload_n hx hb dX11_next_52 rfl (lv_at hl 0 rfl) ?_
  refine va_get (D := D) (ci := 11) (v := .int (nI y_1)) (C := RX11) (T := TX11) (N := 47) hx hb hts hin_X11 hown hK hP 0 rfl rfl 22 (by decide) (hts (.fieldLink RX11 303 "ClashFreeModel" "at" "I") (List.mem_of_getElem? (i := 1) rfl)) (fun _ h9 => h9) rfl dX11_next_53 ?_
  exact W.iret (v := nI y_1) hx hb hr (fun t ht hW => ⟨⟨nI y_1, y_1, rfl, ⟨rfl, hy1_2, hy2_3, (hsp_4.trans hx5).symm⟩, by rw [ht]; exact hP.sub [0, 1] rfl, va_K.moved hW.alike (hK.sub [0] rfl), hD.sub [0, 1] (by decide) rfl⟩, hS.F ht⟩) hS.2.2 dX11_next_56

def own_c_unlike : List Cond := [.methodLink RX11 306 yX11_next, .instanceMethod yX11_next, .selects RX11 yX11_next yX11_next, .initialized RX11, .methodLink RX11 310 yX11_fail, .instanceMethod yX11_fail, .selects RX11 yX11_fail yX11_fail]
def wp_c_unlike : List Cond := .code yX11_unlike cX11_unlike 1 none :: (own_c_unlike ++ (wp_c_next ++ (wp_c_fail ++ ([] : List Cond))))
set_option maxRecDepth 20000 in
theorem inown_c_unlike : ∀ w ∈ own_c_unlike, w ∈ lw_tbl := mem_places [1673, 1675, 75, 115, 1665, 1667, 73] (by decide +kernel)
set_option maxRecDepth 20000 in
theorem in_c_unlike : ∀ w ∈ wp_c_unlike, w ∈ lw_tbl := List.forall_mem_cons.mpr ⟨List.mem_of_getElem? (i := 1696) (by decide +kernel), List.forall_mem_append.mpr ⟨inown_c_unlike, List.forall_mem_append.mpr ⟨in_c_next, List.forall_mem_append.mpr ⟨in_c_fail, fun _ h => absurd h List.not_mem_nil⟩⟩⟩⟩
set_option maxRecDepth 20000 in
theorem good_c_unlike : wp_c_unlike.all goodWord = true := by decide +kernel
set_option maxRecDepth 20000 in
theorem g_c_unlike_c_next_306 : GoodIn wp_c_unlike (wsV RX11 306 RX11 yX11_next wp_c_next) := goodIn_sub (List.forall_mem_append.mpr ⟨List.forall_mem_cons.mpr ⟨(List.mem_of_getElem? (i := 1) rfl), List.forall_mem_cons.mpr ⟨(List.mem_of_getElem? (i := 2) rfl), List.forall_mem_cons.mpr ⟨(List.mem_of_getElem? (i := 3) rfl), List.forall_mem_cons.mpr ⟨(List.mem_of_getElem? (i := 4) rfl), fun _ h => absurd h List.not_mem_nil⟩⟩⟩⟩, (fun _ h => (List.mem_cons_of_mem _ (List.mem_append_right _ (List.mem_append_left _ h))))⟩) (by decide +kernel)
set_option maxRecDepth 20000 in
theorem g_c_unlike_c_fail_310 : GoodIn wp_c_unlike (wsV RX11 310 RX11 yX11_fail wp_c_fail) := goodIn_sub (List.forall_mem_append.mpr ⟨List.forall_mem_cons.mpr ⟨(List.mem_of_getElem? (i := 5) rfl), List.forall_mem_cons.mpr ⟨(List.mem_of_getElem? (i := 6) rfl), List.forall_mem_cons.mpr ⟨(List.mem_of_getElem? (i := 7) rfl), List.forall_mem_cons.mpr ⟨(List.mem_of_getElem? (i := 4) rfl), fun _ h => absurd h List.not_mem_nil⟩⟩⟩⟩, (fun _ h => (List.mem_cons_of_mem _ (List.mem_append_right _ (List.mem_append_right _ (List.mem_append_left _ h)))))⟩) (by decide +kernel)
set_option maxHeartbeats 4000000 in
set_option maxRecDepth 100000 in
theorem c_unlike (l : Launch) (D : va_G) (sz : Nat) (h0 : Nat) (a : Nat → Nat) (cm : Nat → ClassId) (i : Nat → Int32) (g : Nat → Int64) (fT : Nat → Int32) (cd : Nat) (zs : Nat) (ta : Nat) (en : Int32) (bd : Int32) (bp : Int32) (bq : Int32) (bk : Nat) (pl : Nat) (br : Int32) (bt : Nat → Nat) (hzs : zs ≤ 1400) (hta : ta ≤ zs) (hbt : TieB fT bt) : Met l yX11_unlike wp_c_unlike ({ frames := 1, cells := 0, slots := 0, locals := 22 }) (PcW D [.ref h0] sz [(h0, .inr (11, gP a i g (nI cd) (nI zs) (nI ta) en bd bp bq (nI bk) (nI pl) br)), (a 1, .inl (cm 1, 1400, .inl fT))] [(cm 1, .byte)]) (va_Qv (fun (u : (Nat) × (Int32) × (Int32) × (Int32)) => ¬ u.2.1 = 0 ∧ ta ≤ u.1 ∧ u.1 ≤ zs) (fun (u : (Nat) × (Int32) × (Int32) × (Int32)) t => va_P D vwCl [(h0, .inr (11, gP a i g (nI cd) (nI zs) (nI u.1) en u.2.1 u.2.2.1 u.2.2.2 (nI bk) (nI pl) br)), (a 1, .inl (cm 1, 1400, .inl fT))] t.heap ∧ va_K D vwCl [(cm 1, .byte)] t ∧ va_D (va_A [(h0, .inr (11, gP a i g (nI cd) (nI zs) (nI ta) en bd bp bq (nI bk) (nI pl) br)), (a 1, .inl (cm 1, 1400, .inl fT))] sz) [(h0, .inr (11, gP a i g (nI cd) (nI zs) (nI u.1) en u.2.1 u.2.2.1 u.2.2.2 (nI bk) (nI pl) br)), (a 1, .inl (cm 1, 1400, .inl fT))]) (va_A [(h0, .inr (11, gP a i g (nI cd) (nI zs) (nI ta) en bd bp bq (nI bk) (nI pl) br)), (a 1, .inl (cm 1, 1400, .inl fT))] sz)) 0 0 (va_A [(h0, .inr (11, gP a i g (nI cd) (nI zs) (nI ta) en bd bp bq (nI bk) (nI pl) br)), (a 1, .inl (cm 1, 1400, .inl fT))] sz) := by
  refine Met.ofW (cc := cX11_unlike) (maxL := 1) (ret := none) (by decide) rfl ?_
  intro p e s m args below meth c s₁ B hml hv
  obtain ⟨rfl, hsz, hP, hK, hD0⟩ := hv
  have hx := B.exec
  have hb := B.bytes
  have hr := B.returns
  have hts := atoms_spec (ws := wp_c_unlike) B.pre
  have hown : s.vm.findClass RX11 = some m.cls := findClass_of_methodNamed B.named
  have hlocks := B.notSynchronized
  subst hsz
  have hD := hD0.self (sz := s.heap.size)
  generalize hAe : va_A [(h0, .inr (11, gP a i g (nI cd) (nI zs) (nI ta) en bd bp bq (nI bk) (nI pl) br)), (a 1, .inl (cm 1, 1400, .inl fT))] s.heap.size = A at hD ⊢
  have hA : ∀ q : Nat, s.heap.size ≤ q → A q := fun q h => by rw [← hAe]; exact Or.inr h
  have hS : va_S A s.heap s.heap [] := va_S.rf
  have hP : va_P D vwCl [(h0, .inr (11, gP a i g (nI cd) (nI zs) (nI ta) en bd bp bq (nI bk) (nI pl) br)), (a 1, .inl (cm 1, 1400, .inl fT))] s.heap := hP
  have hl := lv_entry ([.ref h0]) (n := 1) (Nat.le_of_ble_eq_true rfl)
  rw [lg_entry_eq]
  generalize (lg_sl ([.ref h0]) ++ List.replicate (1 - (lg_sl ([.ref h0])).length) Slot.unset).toArray = ls at hl ⊢
  have hl : lv_has ls 1 [(0, .ref h0)] := hl
  refine lv_aload_n hx hb dX11_unlike_0 rfl (lv_at hl 0 rfl) ?_
  refine lv_iconst (v := 1) hx hb dX11_unlike_1 (by decide) ?_
  refine lv_aload_n hx hb dX11_unlike_2 rfl (lv_at hl 0 rfl) ?_
  have hPc := hP.sub (ws' := [(h0, .inr (11, gP a i g (nI cd) (nI zs) (nI ta) en bd bp bq (nI bk) (nI pl) br)), (a 1, .inl (cm 1, 1400, .inl fT))]) [0, 1] rfl
  have hKc := hK.sub (tys' := [(cm 1, .byte)]) [0] rfl
  have hDc := hD.sub (ws' := [(h0, .inr (11, gP a i g (nI cd) (nI zs) (nI ta) en bd bp bq (nI bk) (nI pl) br)), (a 1, .inl (cm 1, 1400, .inl fT))]) [0, 1] (by decide) rfl
  have hFc := va_free (wc := [(h0, .inr (11, gP a i g (nI cd) (nI zs) (nI ta) en bd bp bq (nI bk) (nI pl) br)), (a 1, .inl (cm 1, 1400, .inl fT))]) hD hS hA [0, 1] rfl
  refine va_calli (va_runV (As := []) (rest := [.int 1, .ref h0]) ⟨hx, hb, hml, hown, hts⟩ (c_next l D _ h0 a cm i g fT cd zs ta en bd bp bq bk pl br bt (by omega) (by omega) hbt) (cwV 0 hts g_c_unlike_c_next_306 rfl rfl rfl (by decide +kernel) ⟨(Nat.le_of_ble_eq_true rfl), (Nat.le_of_ble_eq_true rfl)⟩) (PcW_V (q0 := 0) hPc hKc hDc rfl rfl) rfl rfl hl.1 rfl (lv_room (Nat.le_of_ble_eq_true rfl)) dX11_unlike_3 ⟨(Nat.le_of_ble_eq_true rfl), (Nat.le_of_ble_eq_true rfl)⟩) hS (fun q _ h => hFc q h) hFc (fun r1 uu tt H locs htt hvm hw hB hz1 hk1 hS => ?_)
  obtain ⟨w2, rfl⟩ : ∃ z, z = uu := ⟨_, rfl⟩
  obtain ⟨hP1, hK1, hD1⟩ := hB
  rw [htt] at hP1
  have hK1 := va_K.moved hvm.symm hK1
  have hP1 : va_P D vwCl [(h0, .inr (11, gP a i g (nI cd) (nI zs) (nI w2) en bd bp bq (nI bk) (nI pl) br)), (a 1, .inl (cm 1, 1400, .inl fT))] H := hP1
  obtain ⟨hP, hD⟩ := va_join (wr := []) (w1 := [(h0, .inr (11, gP a i g (nI cd) (nI zs) (nI w2) en bd bp bq (nI bk) (nI pl) br)), (a 1, .inl (cm 1, 1400, .inl fT))]) hP hD [0, 1] [] rfl rfl (by decide) (by decide) hk1 hFc hP1 hD1
  have hP : va_P D vwCl [(h0, .inr (11, gP a i g (nI cd) (nI zs) (nI w2) en bd bp bq (nI bk) (nI pl) br)), (a 1, .inl (cm 1, 1400, .inl fT))] H := hP
  have hD : va_D A [(h0, .inr (11, gP a i g (nI cd) (nI zs) (nI w2) en bd bp bq (nI bk) (nI pl) br)), (a 1, .inl (cm 1, 1400, .inl fT))] := hD
  try dsimp only at hw
  clear hz1 hk1 hFc hPc hKc hDc
  obtain ⟨rfl, hn3_1, hn3_2, hn3_e⟩ := hw
  have hPc := hP.sub (ws' := [(h0, .inr (11, gP a i g (nI cd) (nI zs) (nI w2) en bd bp bq (nI bk) (nI pl) br))]) [0] rfl
  have hKc := hK.sub (tys' := []) [] rfl
  have hDc := hD.sub (ws' := [(h0, .inr (11, gP a i g (nI cd) (nI zs) (nI w2) en bd bp bq (nI bk) (nI pl) br))]) [0] (by decide) rfl
  have hFc := va_free (wc := [(h0, .inr (11, gP a i g (nI cd) (nI zs) (nI w2) en bd bp bq (nI bk) (nI pl) br))]) hD hS hA [0] rfl
  refine va_callv (va_runV (As := [.int 1, .int (nI w2)]) (rest := []) ⟨hx, hb, hml, hown, hts⟩ (c_fail l D _ h0 a cm i g cd zs w2 en bd bp bq bk pl br 1 (nI w2) (by decide)) (cwV 2 hts g_c_unlike_c_fail_310 rfl rfl rfl (by decide +kernel) ⟨(Nat.le_of_ble_eq_true rfl), (Nat.le_of_ble_eq_true rfl)⟩) (PcW_V (q0 := 0) hPc hKc hDc rfl rfl) rfl rfl hl.1 rfl (lv_room (Nat.le_of_ble_eq_true rfl)) dX11_unlike_6 ⟨(Nat.le_of_ble_eq_true rfl), (Nat.le_of_ble_eq_true rfl)⟩) hS (fun q _ h => hFc q h) hFc (fun uu tt H locs htt hvm hw hB hz1 hk1 hS => ?_)
  obtain ⟨w5, w6, w7⟩ := uu
  obtain ⟨hP1, hK1, hD1⟩ := hB
  rw [htt] at hP1
  have hK1 := va_K.moved hvm.symm hK1
  have hP1 : va_P D vwCl [(h0, .inr (11, gP a i g (nI cd) (nI zs) (nI w2) en w5 w6 w7 (nI bk) (nI pl) br))] H := hP1
  obtain ⟨hP, hD⟩ := va_join (wr := [(a 1, .inl (cm 1, 1400, .inl fT))]) (w1 := [(h0, .inr (11, gP a i g (nI cd) (nI zs) (nI w2) en w5 w6 w7 (nI bk) (nI pl) br))]) hP hD [0] [1] rfl rfl (by decide) (by decide) hk1 hFc hP1 hD1
  have hP : va_P D vwCl [(a 1, .inl (cm 1, 1400, .inl fT)), (h0, .inr (11, gP a i g (nI cd) (nI zs) (nI w2) en w5 w6 w7 (nI bk) (nI pl) br))] H := hP
  have hD : va_D A [(a 1, .inl (cm 1, 1400, .inl fT)), (h0, .inr (11, gP a i g (nI cd) (nI zs) (nI w2) en w5 w6 w7 (nI bk) (nI pl) br))] := hD
  try dsimp only at hw
  clear hz1 hk1 hFc hPc hKc hDc
  have hb8_b := hw
  exact W.vret hx hb hr (fun t ht hW => ⟨⟨(w2, w5, w6, w7), rfl, (by (try dsimp only); exact ⟨hb8_b, by omega, by omega⟩), by rw [ht]; exact hP.sub [1, 0] rfl, va_K.moved hW.alike (hK.sub [0] rfl), hD.sub [1, 0] (by decide) rfl⟩, hS.F ht⟩) hS.2.2 dX11_unlike_9

def own_c_isSign : List Cond := [.methodLink RX11 306 yX11_next, .instanceMethod yX11_next, .selects RX11 yX11_next yX11_next, .initialized RX11, .fieldLink RX11 292 "ClashFreeModel" "size" "I", .fieldLink RX11 7 "ClashFreeModel" "tape" "[B", .fieldLink RX11 303 "ClashFreeModel" "at" "I"]
def wp_c_isSign : List Cond := .code yX11_isSign cX11_isSign 2 (some .boolean) :: (own_c_isSign ++ (wp_c_next ++ (wsX110 ++ ([] : List Cond))))
set_option maxRecDepth 20000 in
theorem inown_c_isSign : ∀ w ∈ own_c_isSign, w ∈ lw_tbl := mem_places [1673, 1675, 75, 115, 1237, 1217, 1238] (by decide +kernel)
set_option maxRecDepth 20000 in
theorem in_c_isSign : ∀ w ∈ wp_c_isSign, w ∈ lw_tbl := List.forall_mem_cons.mpr ⟨List.mem_of_getElem? (i := 1680) (by decide +kernel), List.forall_mem_append.mpr ⟨inown_c_isSign, List.forall_mem_append.mpr ⟨in_c_next, List.forall_mem_append.mpr ⟨lwb_X11, fun _ h => absurd h List.not_mem_nil⟩⟩⟩⟩
set_option maxRecDepth 20000 in
theorem good_c_isSign : wp_c_isSign.all goodWord = true := by decide +kernel
set_option maxRecDepth 20000 in
theorem g_c_isSign_c_next_306 : GoodIn wp_c_isSign (wsV RX11 306 RX11 yX11_next wp_c_next) := goodIn_sub (List.forall_mem_append.mpr ⟨List.forall_mem_cons.mpr ⟨(List.mem_of_getElem? (i := 1) rfl), List.forall_mem_cons.mpr ⟨(List.mem_of_getElem? (i := 2) rfl), List.forall_mem_cons.mpr ⟨(List.mem_of_getElem? (i := 3) rfl), List.forall_mem_cons.mpr ⟨(List.mem_of_getElem? (i := 4) rfl), fun _ h => absurd h List.not_mem_nil⟩⟩⟩⟩, (fun _ h => (List.mem_cons_of_mem _ (List.mem_append_right _ (List.mem_append_left _ h))))⟩) (by decide +kernel)
set_option maxHeartbeats 4000000 in
set_option maxRecDepth 100000 in
theorem c_isSign (l : Launch) (D : va_G) (sz : Nat) (h0 : Nat) (a : Nat → Nat) (cm : Nat → ClassId) (i : Nat → Int32) (g : Nat → Int64) (fT : Nat → Int32) (cd : Nat) (zs : Nat) (ta : Nat) (en : Int32) (bd : Int32) (bp : Int32) (bq : Int32) (bk : Nat) (pl : Nat) (br : Int32) (z1 : Int32) (cc : Nat) (bt : Nat → Nat) (hzs : zs ≤ 1400) (hta : ta ≤ zs) (hbt : TieB fT bt) (hz : z1 = nI cc) (hcc : cc ≤ 127) : Met l yX11_isSign wp_c_isSign ({ frames := 1, cells := 0, slots := 0, locals := 20 }) (PcW D [.ref h0, .int z1] sz [(h0, .inr (11, gP a i g (nI cd) (nI zs) (nI ta) en bd bp bq (nI bk) (nI pl) br)), (a 1, .inl (cm 1, 1400, .inl fT))] [(cm 1, .byte)]) (va_Qi (fun (r : Int32) (u : (Nat)) => (r = 1 ∧ ta ≤ u ∧ u < zs ∧ u = tkA bt zs ta ∧ SgP bt zs ta cc) ∨ (r = 0 ∧ ta ≤ u ∧ u ≤ zs ∧ u = tkA bt zs ta ∧ ¬ SgP bt zs ta cc)) (fun (u : (Nat)) t => va_P D vwCl [(h0, .inr (11, gP a i g (nI cd) (nI zs) (nI u) en bd bp bq (nI bk) (nI pl) br)), (a 1, .inl (cm 1, 1400, .inl fT))] t.heap ∧ va_K D vwCl [(cm 1, .byte)] t ∧ va_D (va_A [(h0, .inr (11, gP a i g (nI cd) (nI zs) (nI ta) en bd bp bq (nI bk) (nI pl) br)), (a 1, .inl (cm 1, 1400, .inl fT))] sz) [(h0, .inr (11, gP a i g (nI cd) (nI zs) (nI u) en bd bp bq (nI bk) (nI pl) br)), (a 1, .inl (cm 1, 1400, .inl fT))]) (va_A [(h0, .inr (11, gP a i g (nI cd) (nI zs) (nI ta) en bd bp bq (nI bk) (nI pl) br)), (a 1, .inl (cm 1, 1400, .inl fT))] sz)) 0 0 (va_A [(h0, .inr (11, gP a i g (nI cd) (nI zs) (nI ta) en bd bp bq (nI bk) (nI pl) br)), (a 1, .inl (cm 1, 1400, .inl fT))] sz) := by
  refine Met.ofW (cc := cX11_isSign) (maxL := 2) (ret := (some .boolean)) (by decide) rfl ?_
  intro p e s m args below meth c s₁ B hml hv
  obtain ⟨rfl, hsz, hP, hK, hD0⟩ := hv
  have hx := B.exec
  have hb := B.bytes
  have hr := B.returns
  have hts := atoms_spec (ws := wp_c_isSign) B.pre
  have hin_X11 : ∀ w ∈ wsX110, w ∈ wp_c_isSign := fun _ h => (List.mem_cons_of_mem _ (List.mem_append_right _ (List.mem_append_right _ (List.mem_append_left _ h))))
  have hown : s.vm.findClass RX11 = some m.cls := findClass_of_methodNamed B.named
  have hlocks := B.notSynchronized
  subst hsz
  have hD := hD0.self (sz := s.heap.size)
  generalize hAe : va_A [(h0, .inr (11, gP a i g (nI cd) (nI zs) (nI ta) en bd bp bq (nI bk) (nI pl) br)), (a 1, .inl (cm 1, 1400, .inl fT))] s.heap.size = A at hD ⊢
  have hA : ∀ q : Nat, s.heap.size ≤ q → A q := fun q h => by rw [← hAe]; exact Or.inr h
  have hS : va_S A s.heap s.heap [] := va_S.rf
  have hP : va_P D vwCl [(h0, .inr (11, gP a i g (nI cd) (nI zs) (nI ta) en bd bp bq (nI bk) (nI pl) br)), (a 1, .inl (cm 1, 1400, .inl fT))] s.heap := hP
  have hl := lv_entry ([.ref h0, .int z1]) (n := 2) (Nat.le_of_ble_eq_true rfl)
  rw [lg_entry_eq]
  generalize (lg_sl ([.ref h0, .int z1]) ++ List.replicate (2 - (lg_sl ([.ref h0, .int z1])).length) Slot.unset).toArray = ls at hl ⊢
  have hl : lv_has ls 2 [(0, .ref h0), (1, .int z1)] := hl
  refine lv_aload_n hx hb dX11_isSign_0 rfl (lv_at hl 0 rfl) ?_
  have hPc := hP.sub (ws' := [(h0, .inr (11, gP a i g (nI cd) (nI zs) (nI ta) en bd bp bq (nI bk) (nI pl) br)), (a 1, .inl (cm 1, 1400, .inl fT))]) [0, 1] rfl
  have hKc := hK.sub (tys' := [(cm 1, .byte)]) [0] rfl
  have hDc := hD.sub (ws' := [(h0, .inr (11, gP a i g (nI cd) (nI zs) (nI ta) en bd bp bq (nI bk) (nI pl) br)), (a 1, .inl (cm 1, 1400, .inl fT))]) [0, 1] (by decide) rfl
  have hFc := va_free (wc := [(h0, .inr (11, gP a i g (nI cd) (nI zs) (nI ta) en bd bp bq (nI bk) (nI pl) br)), (a 1, .inl (cm 1, 1400, .inl fT))]) hD hS hA [0, 1] rfl
  refine va_calli (va_runV (As := []) (rest := []) ⟨hx, hb, hml, hown, hts⟩ (c_next l D _ h0 a cm i g fT cd zs ta en bd bp bq bk pl br bt (by omega) (by omega) hbt) (cwV 0 hts g_c_isSign_c_next_306 rfl rfl rfl (by decide +kernel) ⟨(Nat.le_of_ble_eq_true rfl), (Nat.le_of_ble_eq_true rfl)⟩) (PcW_V (q0 := 0) hPc hKc hDc rfl rfl) rfl rfl hl.1 rfl (lv_room (Nat.le_of_ble_eq_true rfl)) dX11_isSign_1 ⟨(Nat.le_of_ble_eq_true rfl), (Nat.le_of_ble_eq_true rfl)⟩) hS (fun q _ h => hFc q h) hFc (fun r1 uu tt H locs htt hvm hw hB hz1 hk1 hS => ?_)
  obtain ⟨w2, rfl⟩ : ∃ z, z = uu := ⟨_, rfl⟩
  obtain ⟨hP1, hK1, hD1⟩ := hB
  rw [htt] at hP1
  have hK1 := va_K.moved hvm.symm hK1
  have hP1 : va_P D vwCl [(h0, .inr (11, gP a i g (nI cd) (nI zs) (nI w2) en bd bp bq (nI bk) (nI pl) br)), (a 1, .inl (cm 1, 1400, .inl fT))] H := hP1
  obtain ⟨hP, hD⟩ := va_join (wr := []) (w1 := [(h0, .inr (11, gP a i g (nI cd) (nI zs) (nI w2) en bd bp bq (nI bk) (nI pl) br)), (a 1, .inl (cm 1, 1400, .inl fT))]) hP hD [0, 1] [] rfl rfl (by decide) (by decide) hk1 hFc hP1 hD1
  have hP : va_P D vwCl [(h0, .inr (11, gP a i g (nI cd) (nI zs) (nI w2) en bd bp bq (nI bk) (nI pl) br)), (a 1, .inl (cm 1, 1400, .inl fT))] H := hP
  have hD : va_D A [(h0, .inr (11, gP a i g (nI cd) (nI zs) (nI w2) en bd bp bq (nI bk) (nI pl) br)), (a 1, .inl (cm 1, 1400, .inl fT))] := hD
  try dsimp only at hw
  clear hz1 hk1 hFc hPc hKc hDc
  obtain ⟨rfl, hn3_1, hn3_2, hn3_e⟩ := hw
  refine lv_aload_n hx hb dX11_isSign_4 rfl (lv_at hl 0 rfl) ?_
  refine va_get (D := D) (ci := 11) (v := .int (nI zs)) (C := RX11) (T := TX11) (N := 47) hx hb hts hin_X11 hown hK hP 0 rfl rfl 21 (by decide) (hts (.fieldLink RX11 292 "ClashFreeModel" "size" "I") (List.mem_of_getElem? (i := 5) rfl)) (fun _ h9 => h9) rfl dX11_isSign_5 ?_
  refine lv_icmp_ge (tgt := 28) hx hb dX11_isSign_8 (by decide) (fun hc4 => ?_) (fun hc4 => ?_)
  ·
    have hlt : zs ≤ w2 := (nI_leI (by omega) (by omega)).mp hc4
    refine lv_iconst (v := 0) hx hb dX11_isSign_28 (by decide) ?_
    exact W.zret (v := 0) hx hb hr rfl (fun t ht hW => ⟨⟨0, w2, rfl, Or.inr ⟨rfl, by omega, by omega, hn3_e, fun q => absurd q.1 (by rw [← hn3_e]; omega)⟩, by rw [ht]; exact hP.sub [0, 1] rfl, va_K.moved hW.alike (hK.sub [0] rfl), hD.sub [0, 1] (by decide) rfl⟩, hS.F ht⟩) hS.2.2 dX11_isSign_29
  ·
    have hlt : w2 < zs := by
      rcases Nat.lt_or_ge w2 (zs) with z | z
      · exact z
      · exact absurd (nI_le z (by omega)) hc4
    refine lv_aload_n hx hb dX11_isSign_11 rfl (lv_at hl 0 rfl) ?_
    refine va_get (D := D) (ci := 11) (v := .ref (a 1)) (C := RX11) (T := TX11) (N := 47) hx hb hts hin_X11 hown hK hP 0 rfl rfl 1 (by decide) (hts (.fieldLink RX11 7 "ClashFreeModel" "tape" "[B") (List.mem_of_getElem? (i := 6) rfl)) (fun _ h9 => h9) rfl dX11_isSign_12 ?_
    refine lv_aload_n hx hb dX11_isSign_15 rfl (lv_at hl 0 rfl) ?_
    refine va_get (D := D) (ci := 11) (v := .int (nI w2)) (C := RX11) (T := TX11) (N := 47) hx hb hts hin_X11 hown hK hP 0 rfl rfl 22 (by decide) (hts (.fieldLink RX11 303 "ClashFreeModel" "at" "I") (List.mem_of_getElem? (i := 7) rfl)) (fun _ h9 => h9) rfl dX11_isSign_16 ?_
    refine va_bald hx hb hK hP 1 0 rfl rfl (vp_in_nI (by omega) (by decide)) dX11_isSign_19 ?_
    refine lv_topi (fun v5 ev5 => ?_)
    obtain rfl : v5 = fT w2 := ev5.trans (by rw [nI_clamp (by omega)])
    refine lv_iload_n hx hb dX11_isSign_20 rfl (lv_at hl 1 rfl) ?_
    refine lv_icmp_ne (tgt := 28) hx hb dX11_isSign_21 (by decide) (fun hc6 => ?_) (fun hc6 => ?_)
    ·
      have hsg : ¬ SgP bt zs ta cc := by
        unfold SgP
        rw [← hn3_e]
        exact fun q => hc6 (((tb_eq hbt hcc).mpr q.2).trans hz.symm)
      refine lv_iconst (v := 0) hx hb dX11_isSign_28 (by decide) ?_
      exact W.zret (v := 0) hx hb hr rfl (fun t ht hW => ⟨⟨0, w2, rfl, Or.inr ⟨rfl, by omega, by omega, hn3_e, hsg⟩, by rw [ht]; exact hP.sub [0, 1] rfl, va_K.moved hW.alike (hK.sub [0] rfl), hD.sub [0, 1] (by decide) rfl⟩, hS.F ht⟩) hS.2.2 dX11_isSign_29
    ·
      have hsg : SgP bt zs ta cc := by
        unfold SgP
        rw [← hn3_e]
        exact ⟨hlt, (tb_eq hbt hcc).mp ((show fT w2 = z1 from hc6).trans hz)⟩
      refine lv_iconst (v := 1) hx hb dX11_isSign_24 (by decide) ?_
      refine lv_goto (tgt := 29) hx hb dX11_isSign_25 (by decide) ?_
      exact W.zret (v := 1) hx hb hr rfl (fun t ht hW => ⟨⟨1, w2, rfl, Or.inl ⟨rfl, by omega, hlt, hn3_e, hsg⟩, by rw [ht]; exact hP.sub [0, 1] rfl, va_K.moved hW.alike (hK.sub [0] rfl), hD.sub [0, 1] (by decide) rfl⟩, hS.F ht⟩) hS.2.2 dX11_isSign_29

def own_c_needsSign : List Cond := [.methodLink RX11 313 yX11_isFine, .instanceMethod yX11_isFine, .selects RX11 yX11_isFine yX11_isFine, .initialized RX11, .methodLink RX11 317 yX11_isSign, .instanceMethod yX11_isSign, .selects RX11 yX11_isSign yX11_isSign, .fieldLink RX11 303 "ClashFreeModel" "at" "I", .methodLink RX11 320 yX11_unlike, .instanceMethod yX11_unlike, .selects RX11 yX11_unlike yX11_unlike]
def wp_c_needsSign : List Cond := .code yX11_needsSign cX11_needsSign 2 none :: (own_c_needsSign ++ (wp_c_isFine ++ (wp_c_isSign ++ (wp_c_unlike ++ (wsX110 ++ ([] : List Cond))))))
set_option maxRecDepth 20000 in
theorem inown_c_needsSign : ∀ w ∈ own_c_needsSign, w ∈ lw_tbl := mem_places [1669, 1671, 74, 115, 1677, 1679, 76, 1238, 1693, 1695, 80] (by decide +kernel)
set_option maxRecDepth 20000 in
theorem in_c_needsSign : ∀ w ∈ wp_c_needsSign, w ∈ lw_tbl := List.forall_mem_cons.mpr ⟨List.mem_of_getElem? (i := 1692) (by decide +kernel), List.forall_mem_append.mpr ⟨inown_c_needsSign, List.forall_mem_append.mpr ⟨in_c_isFine, List.forall_mem_append.mpr ⟨in_c_isSign, List.forall_mem_append.mpr ⟨in_c_unlike, List.forall_mem_append.mpr ⟨lwb_X11, fun _ h => absurd h List.not_mem_nil⟩⟩⟩⟩⟩⟩
set_option maxRecDepth 20000 in
theorem good_c_needsSign : wp_c_needsSign.all goodWord = true := by decide +kernel
set_option maxRecDepth 20000 in
theorem g_c_needsSign_c_isFine_313 : GoodIn wp_c_needsSign (wsV RX11 313 RX11 yX11_isFine wp_c_isFine) := goodIn_sub (List.forall_mem_append.mpr ⟨List.forall_mem_cons.mpr ⟨(List.mem_of_getElem? (i := 1) rfl), List.forall_mem_cons.mpr ⟨(List.mem_of_getElem? (i := 2) rfl), List.forall_mem_cons.mpr ⟨(List.mem_of_getElem? (i := 3) rfl), List.forall_mem_cons.mpr ⟨(List.mem_of_getElem? (i := 4) rfl), fun _ h => absurd h List.not_mem_nil⟩⟩⟩⟩, (fun _ h => (List.mem_cons_of_mem _ (List.mem_append_right _ (List.mem_append_left _ h))))⟩) (by decide +kernel)
set_option maxRecDepth 20000 in
theorem g_c_needsSign_c_isSign_317 : GoodIn wp_c_needsSign (wsV RX11 317 RX11 yX11_isSign wp_c_isSign) := goodIn_sub (List.forall_mem_append.mpr ⟨List.forall_mem_cons.mpr ⟨(List.mem_of_getElem? (i := 5) rfl), List.forall_mem_cons.mpr ⟨(List.mem_of_getElem? (i := 6) rfl), List.forall_mem_cons.mpr ⟨(List.mem_of_getElem? (i := 7) rfl), List.forall_mem_cons.mpr ⟨(List.mem_of_getElem? (i := 4) rfl), fun _ h => absurd h List.not_mem_nil⟩⟩⟩⟩, (fun _ h => (List.mem_cons_of_mem _ (List.mem_append_right _ (List.mem_append_right _ (List.mem_append_left _ h)))))⟩) (by decide +kernel)
set_option maxRecDepth 20000 in
theorem g_c_needsSign_c_unlike_320 : GoodIn wp_c_needsSign (wsV RX11 320 RX11 yX11_unlike wp_c_unlike) := goodIn_sub (List.forall_mem_append.mpr ⟨List.forall_mem_cons.mpr ⟨(List.mem_of_getElem? (i := 9) rfl), List.forall_mem_cons.mpr ⟨(List.mem_of_getElem? (i := 10) rfl), List.forall_mem_cons.mpr ⟨(List.mem_of_getElem? (i := 11) rfl), List.forall_mem_cons.mpr ⟨(List.mem_of_getElem? (i := 4) rfl), fun _ h => absurd h List.not_mem_nil⟩⟩⟩⟩, (fun _ h => (List.mem_cons_of_mem _ (List.mem_append_right _ (List.mem_append_right _ (List.mem_append_right _ (List.mem_append_left _ h))))))⟩) (by decide +kernel)
set_option maxHeartbeats 4000000 in
set_option maxRecDepth 100000 in
theorem c_needsSign (l : Launch) (D : va_G) (sz : Nat) (h0 : Nat) (a : Nat → Nat) (cm : Nat → ClassId) (i : Nat → Int32) (g : Nat → Int64) (fT : Nat → Int32) (cd : Nat) (zs : Nat) (ta : Nat) (en : Int32) (bd : Int32) (bp : Int32) (bq : Int32) (bk : Nat) (pl : Nat) (br : Int32) (z1 : Int32) (cc : Nat) (bt : Nat → Nat) (hzs : zs ≤ 1400) (hta : ta ≤ zs) (hbt : TieB fT bt) (hz : z1 = nI cc) (hcc : cc ≤ 127) : Met l yX11_needsSign wp_c_needsSign ({ frames := 2, cells := 0, slots := 0, locals := 42 }) (PcW D [.ref h0, .int z1] sz [(h0, .inr (11, gP a i g (nI cd) (nI zs) (nI ta) en bd bp bq (nI bk) (nI pl) br)), (a 1, .inl (cm 1, 1400, .inl fT))] [(cm 1, .byte)]) (va_Qv (fun (u : (Nat) × (Int32) × (Int32) × (Int32)) => ta ≤ u.1 ∧ u.1 ≤ zs ∧ (u.2.1 = 0 → bd = 0 ∧ ta + 1 ≤ u.1) ∧ (u.2.1 = 0 → u.1 = tkA bt zs ta + 1 ∧ SgP bt zs ta cc) ∧ (bd = 0 → ¬ u.2.1 = 0 → ¬ SgP bt zs ta cc)) (fun (u : (Nat) × (Int32) × (Int32) × (Int32)) t => va_P D vwCl [(h0, .inr (11, gP a i g (nI cd) (nI zs) (nI u.1) en u.2.1 u.2.2.1 u.2.2.2 (nI bk) (nI pl) br)), (a 1, .inl (cm 1, 1400, .inl fT))] t.heap ∧ va_K D vwCl [(cm 1, .byte)] t ∧ va_D (va_A [(h0, .inr (11, gP a i g (nI cd) (nI zs) (nI ta) en bd bp bq (nI bk) (nI pl) br)), (a 1, .inl (cm 1, 1400, .inl fT))] sz) [(h0, .inr (11, gP a i g (nI cd) (nI zs) (nI u.1) en u.2.1 u.2.2.1 u.2.2.2 (nI bk) (nI pl) br)), (a 1, .inl (cm 1, 1400, .inl fT))]) (va_A [(h0, .inr (11, gP a i g (nI cd) (nI zs) (nI ta) en bd bp bq (nI bk) (nI pl) br)), (a 1, .inl (cm 1, 1400, .inl fT))] sz)) 0 0 (va_A [(h0, .inr (11, gP a i g (nI cd) (nI zs) (nI ta) en bd bp bq (nI bk) (nI pl) br)), (a 1, .inl (cm 1, 1400, .inl fT))] sz) := by
  refine Met.ofW (cc := cX11_needsSign) (maxL := 2) (ret := none) (by decide) rfl ?_
  intro p e s m args below meth c s₁ B hml hv
  obtain ⟨rfl, hsz, hP, hK, hD0⟩ := hv
  have hx := B.exec
  have hb := B.bytes
  have hr := B.returns
  have hts := atoms_spec (ws := wp_c_needsSign) B.pre
  have hin_X11 : ∀ w ∈ wsX110, w ∈ wp_c_needsSign := fun _ h => (List.mem_cons_of_mem _ (List.mem_append_right _ (List.mem_append_right _ (List.mem_append_right _ (List.mem_append_right _ (List.mem_append_left _ h))))))
  have hown : s.vm.findClass RX11 = some m.cls := findClass_of_methodNamed B.named
  have hlocks := B.notSynchronized
  subst hsz
  have hD := hD0.self (sz := s.heap.size)
  generalize hAe : va_A [(h0, .inr (11, gP a i g (nI cd) (nI zs) (nI ta) en bd bp bq (nI bk) (nI pl) br)), (a 1, .inl (cm 1, 1400, .inl fT))] s.heap.size = A at hD ⊢
  have hA : ∀ q : Nat, s.heap.size ≤ q → A q := fun q h => by rw [← hAe]; exact Or.inr h
  have hS : va_S A s.heap s.heap [] := va_S.rf
  have hP : va_P D vwCl [(h0, .inr (11, gP a i g (nI cd) (nI zs) (nI ta) en bd bp bq (nI bk) (nI pl) br)), (a 1, .inl (cm 1, 1400, .inl fT))] s.heap := hP
  have hl := lv_entry ([.ref h0, .int z1]) (n := 2) (Nat.le_of_ble_eq_true rfl)
  rw [lg_entry_eq]
  generalize (lg_sl ([.ref h0, .int z1]) ++ List.replicate (2 - (lg_sl ([.ref h0, .int z1])).length) Slot.unset).toArray = ls at hl ⊢
  have hl : lv_has ls 2 [(0, .ref h0), (1, .int z1)] := hl
  refine lv_aload_n hx hb dX11_needsSign_0 rfl (lv_at hl 0 rfl) ?_
  have hPc := hP.sub (ws' := [(h0, .inr (11, gP a i g (nI cd) (nI zs) (nI ta) en bd bp bq (nI bk) (nI pl) br))]) [0] rfl
  have hKc := hK.sub (tys' := []) [] rfl
  have hFc := va_free0 hS hA
  refine va_calli (va_runV (As := []) (rest := []) ⟨hx, hb, hml, hown, hts⟩ (c_isFine l D _ h0 a cm i g cd zs ta en bd bp bq bk pl br) (cwV 0 hts g_c_needsSign_c_isFine_313 rfl rfl rfl (by decide +kernel) ⟨(Nat.le_of_ble_eq_true rfl), (Nat.le_of_ble_eq_true rfl)⟩) (PcR_V (q0 := 0) hPc hKc rfl rfl) rfl rfl hl.1 rfl (lv_room (Nat.le_of_ble_eq_true rfl)) dX11_needsSign_1 ⟨(Nat.le_of_ble_eq_true rfl), (Nat.le_of_ble_eq_true rfl)⟩) hS (fun q _ h => hFc q h) hFc (fun r1 uu tt H locs htt hvm hw hB hz1 hk1 hS => ?_)
  have hP := va_keep hP hk1
  try dsimp only at hw
  clear hB hz1 hk1 hFc hPc hKc
  rcases hw with ⟨rfl, hA_r1⟩ | ⟨rfl, hA_r1⟩
  ·
    refine lv_if_ne (tgt := 8) hx hb dX11_needsSign_4 (by decide) (fun hc => ?_) (fun hc => absurd hc (by decide))
    refine lv_aload_n hx hb dX11_needsSign_8 rfl (lv_at hl 0 rfl) ?_
    refine lv_iload_n hx hb dX11_needsSign_9 rfl (lv_at hl 1 rfl) ?_
    have hPc := hP.sub (ws' := [(h0, .inr (11, gP a i g (nI cd) (nI zs) (nI ta) en bd bp bq (nI bk) (nI pl) br)), (a 1, .inl (cm 1, 1400, .inl fT))]) [0, 1] rfl
    have hKc := hK.sub (tys' := [(cm 1, .byte)]) [0] rfl
    have hDc := hD.sub (ws' := [(h0, .inr (11, gP a i g (nI cd) (nI zs) (nI ta) en bd bp bq (nI bk) (nI pl) br)), (a 1, .inl (cm 1, 1400, .inl fT))]) [0, 1] (by decide) rfl
    have hFc := va_free (wc := [(h0, .inr (11, gP a i g (nI cd) (nI zs) (nI ta) en bd bp bq (nI bk) (nI pl) br)), (a 1, .inl (cm 1, 1400, .inl fT))]) hD hS hA [0, 1] rfl
    refine va_calli (va_runV (As := [.int z1]) (rest := []) ⟨hx, hb, hml, hown, hts⟩ (c_isSign l D _ h0 a cm i g fT cd zs ta en bd bp bq bk pl br z1 cc bt (by omega) (by omega) hbt hz hcc) (cwV 1 hts g_c_needsSign_c_isSign_317 rfl rfl rfl (by decide +kernel) ⟨(Nat.le_of_ble_eq_true rfl), (Nat.le_of_ble_eq_true rfl)⟩) (PcW_V (q0 := 0) hPc hKc hDc rfl rfl) rfl rfl hl.1 rfl (lv_room (Nat.le_of_ble_eq_true rfl)) dX11_needsSign_10 ⟨(Nat.le_of_ble_eq_true rfl), (Nat.le_of_ble_eq_true rfl)⟩) hS (fun q _ h => hFc q h) hFc (fun r2 uu tt H locs htt hvm hw hB hz1 hk1 hS => ?_)
    obtain ⟨w3, rfl⟩ : ∃ z, z = uu := ⟨_, rfl⟩
    obtain ⟨hP1, hK1, hD1⟩ := hB
    rw [htt] at hP1
    have hK1 := va_K.moved hvm.symm hK1
    have hP1 : va_P D vwCl [(h0, .inr (11, gP a i g (nI cd) (nI zs) (nI w3) en bd bp bq (nI bk) (nI pl) br)), (a 1, .inl (cm 1, 1400, .inl fT))] H := hP1
    obtain ⟨hP, hD⟩ := va_join (wr := []) (w1 := [(h0, .inr (11, gP a i g (nI cd) (nI zs) (nI w3) en bd bp bq (nI bk) (nI pl) br)), (a 1, .inl (cm 1, 1400, .inl fT))]) hP hD [0, 1] [] rfl rfl (by decide) (by decide) hk1 hFc hP1 hD1
    have hP : va_P D vwCl [(h0, .inr (11, gP a i g (nI cd) (nI zs) (nI w3) en bd bp bq (nI bk) (nI pl) br)), (a 1, .inl (cm 1, 1400, .inl fT))] H := hP
    have hD : va_D A [(h0, .inr (11, gP a i g (nI cd) (nI zs) (nI w3) en bd bp bq (nI bk) (nI pl) br)), (a 1, .inl (cm 1, 1400, .inl fT))] := hD
    try dsimp only at hw
    clear hz1 hk1 hFc hPc hKc hDc
    rcases hw with ⟨rfl, hA_r2⟩ | ⟨rfl, hA_r2⟩
    ·
      obtain ⟨hA_r2_1, hA_r2_2, hA_r2_e, hA_r2_s⟩ := hA_r2
      refine lv_if_eq (tgt := 29) hx hb dX11_needsSign_13 (by decide) (fun hc => absurd hc (by decide)) (fun hc => ?_)
      refine lv_aload_n hx hb dX11_needsSign_16 rfl (lv_at hl 0 rfl) ?_
      refine lv_dup hx hb dX11_needsSign_17 rfl ?_
      refine va_get (D := D) (ci := 11) (v := .int (nI w3)) (C := RX11) (T := TX11) (N := 47) hx hb hts hin_X11 hown hK hP 0 rfl rfl 22 (by decide) (hts (.fieldLink RX11 303 "ClashFreeModel" "at" "I") (List.mem_of_getElem? (i := 8) rfl)) (fun _ h9 => h9) rfl dX11_needsSign_18 ?_
      refine lv_iconst (v := 1) hx hb dX11_needsSign_21 (by decide) ?_
      refine lv_iadd hx hb dX11_needsSign_22 ?_
      refine lv_topi (fun v4 ev4 => ?_)
      obtain rfl : v4 = nI (w3 + 1) := ev4.trans (nI_1 _)
      refine va_put (D := D) (ci := 11) (v := .int (nI (w3 + 1))) (ty := .int) (C := RX11) (T := TX11) (N := 47) hx hb hts hin_X11 tyX11 tyX11_ok nmX11 hown hK hP hD hS 0 rfl rfl 22 (by decide) (hts (.fieldLink RX11 303 "ClashFreeModel" "at" "I") (List.mem_of_getElem? (i := 8) rfl)) (fun _ h9 => h9) rfl (by decide +kernel) rfl rfl (Nat.le_of_ble_eq_true rfl) dX11_needsSign_23 (fun H locs hP hD hS => ?_)
      have hP : va_P D vwCl [(h0, .inr (11, gP a i g (nI cd) (nI zs) (nI (w3 + 1)) en bd bp bq (nI bk) (nI pl) br)), (a 1, .inl (cm 1, 1400, .inl fT))] H := hP
      have hD : va_D A [(h0, .inr (11, gP a i g (nI cd) (nI zs) (nI (w3 + 1)) en bd bp bq (nI bk) (nI pl) br)), (a 1, .inl (cm 1, 1400, .inl fT))] := hD
      refine lv_goto (tgt := 33) hx hb dX11_needsSign_26 (by decide) ?_
      exact W.vret hx hb hr (fun t ht hW => ⟨⟨((w3 + 1), bd, bp, bq), rfl, (by (try dsimp only); exact ⟨by omega, by omega, fun _ => ⟨hA_r1, by omega⟩, fun _ => ⟨by rw [hA_r2_e], hA_r2_s⟩, fun _ z => absurd hA_r1 z⟩), by rw [ht]; exact hP.sub [0, 1] rfl, va_K.moved hW.alike (hK.sub [0] rfl), hD.sub [0, 1] (by decide) rfl⟩, hS.F ht⟩) hS.2.2 dX11_needsSign_33
    ·
      obtain ⟨hA_r2_1, hA_r2_2, hA_r2_e, hA_r2_s⟩ := hA_r2
      refine lv_if_eq (tgt := 29) hx hb dX11_needsSign_13 (by decide) (fun hc => ?_) (fun hc => absurd (by decide) hc)
      refine lv_aload_n hx hb dX11_needsSign_29 rfl (lv_at hl 0 rfl) ?_
      have hPc := hP.sub (ws' := [(h0, .inr (11, gP a i g (nI cd) (nI zs) (nI w3) en bd bp bq (nI bk) (nI pl) br)), (a 1, .inl (cm 1, 1400, .inl fT))]) [0, 1] rfl
      have hKc := hK.sub (tys' := [(cm 1, .byte)]) [0] rfl
      have hDc := hD.sub (ws' := [(h0, .inr (11, gP a i g (nI cd) (nI zs) (nI w3) en bd bp bq (nI bk) (nI pl) br)), (a 1, .inl (cm 1, 1400, .inl fT))]) [0, 1] (by decide) rfl
      have hFc := va_free (wc := [(h0, .inr (11, gP a i g (nI cd) (nI zs) (nI w3) en bd bp bq (nI bk) (nI pl) br)), (a 1, .inl (cm 1, 1400, .inl fT))]) hD hS hA [0, 1] rfl
      refine va_callv (va_runV (As := []) (rest := []) ⟨hx, hb, hml, hown, hts⟩ (c_unlike l D _ h0 a cm i g fT cd zs w3 en bd bp bq bk pl br bt (by omega) (by omega) hbt) (cwV 0 hts g_c_needsSign_c_unlike_320 rfl rfl rfl (by decide +kernel) ⟨(Nat.le_of_ble_eq_true rfl), (Nat.le_of_ble_eq_true rfl)⟩) (PcW_V (q0 := 0) hPc hKc hDc rfl rfl) rfl rfl hl.1 rfl (lv_room (Nat.le_of_ble_eq_true rfl)) dX11_needsSign_30 ⟨(Nat.le_of_ble_eq_true rfl), (Nat.le_of_ble_eq_true rfl)⟩) hS (fun q _ h => hFc q h) hFc (fun uu tt H locs htt hvm hw hB hz1 hk1 hS => ?_)
      obtain ⟨w6, w7, w8, w9⟩ := uu
      obtain ⟨hP1, hK1, hD1⟩ := hB
      rw [htt] at hP1
      have hK1 := va_K.moved hvm.symm hK1
      have hP1 : va_P D vwCl [(h0, .inr (11, gP a i g (nI cd) (nI zs) (nI w6) en w7 w8 w9 (nI bk) (nI pl) br)), (a 1, .inl (cm 1, 1400, .inl fT))] H := hP1
      obtain ⟨hP, hD⟩ := va_join (wr := []) (w1 := [(h0, .inr (11, gP a i g (nI cd) (nI zs) (nI w6) en w7 w8 w9 (nI bk) (nI pl) br)), (a 1, .inl (cm 1, 1400, .inl fT))]) hP hD [0, 1] [] rfl rfl (by decide) (by decide) hk1 hFc hP1 hD1
      have hP : va_P D vwCl [(h0, .inr (11, gP a i g (nI cd) (nI zs) (nI w6) en w7 w8 w9 (nI bk) (nI pl) br)), (a 1, .inl (cm 1, 1400, .inl fT))] H := hP
      have hD : va_D A [(h0, .inr (11, gP a i g (nI cd) (nI zs) (nI w6) en w7 w8 w9 (nI bk) (nI pl) br)), (a 1, .inl (cm 1, 1400, .inl fT))] := hD
      try dsimp only at hw
      clear hz1 hk1 hFc hPc hKc hDc
      obtain ⟨hb10_b, hb10_1, hb10_2⟩ := hw
      exact W.vret hx hb hr (fun t ht hW => ⟨⟨(w6, w7, w8, w9), rfl, (by (try dsimp only); exact ⟨by omega, by omega, fun z => absurd z hb10_b, fun z => absurd z hb10_b, fun _ _ => hA_r2_s⟩), by rw [ht]; exact hP.sub [0, 1] rfl, va_K.moved hW.alike (hK.sub [0] rfl), hD.sub [0, 1] (by decide) rfl⟩, hS.F ht⟩) hS.2.2 dX11_needsSign_33
  ·
    refine lv_if_ne (tgt := 8) hx hb dX11_needsSign_4 (by decide) (fun hc => absurd (by decide) hc) (fun hc => ?_)
    exact W.vret hx hb hr (fun t ht hW => ⟨⟨(ta, bd, bp, bq), rfl, (by (try dsimp only); exact ⟨by omega, by omega, fun z => absurd z hA_r1, fun z => absurd z hA_r1, fun z => absurd z hA_r1⟩), by rw [ht]; exact hP.sub [0, 1] rfl, va_K.moved hW.alike (hK.sub [0] rfl), hD.sub [0, 1] (by decide) rfl⟩, hS.F ht⟩) hS.2.2 dX11_needsSign_7

