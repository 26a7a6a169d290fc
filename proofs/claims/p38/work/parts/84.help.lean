theorem dX10_isTableNumber_0 : decode cX10_isTableNumber 0 = .ok (.iload_n 0, 1) := by decide +kernel
theorem dX10_isTableNumber_1 : decode cX10_isTableNumber 1 = .ok (.ifCond .lt 12, 3) := by decide +kernel
theorem dX10_isTableNumber_4 : decode cX10_isTableNumber 4 = .ok (.iload_n 0, 1) := by decide +kernel
theorem dX10_isTableNumber_5 : decode cX10_isTableNumber 5 = .ok (.iconst 4, 1) := by decide +kernel
theorem dX10_isTableNumber_6 : decode cX10_isTableNumber 6 = .ok (.if_icmp .ge 7, 3) := by decide +kernel
theorem dX10_isTableNumber_9 : decode cX10_isTableNumber 9 = .ok (.iconst 1, 1) := by decide +kernel
theorem dX10_isTableNumber_10 : decode cX10_isTableNumber 10 = .ok (.goto 4, 3) := by decide +kernel
theorem dX10_isTableNumber_13 : decode cX10_isTableNumber 13 = .ok (.iconst 0, 1) := by decide +kernel
theorem dX10_isTableNumber_14 : decode cX10_isTableNumber 14 = .ok (.ireturn, 1) := by decide +kernel
theorem dX10_isKey_0 : decode cX10_isKey 0 = .ok (.iload_n 0, 1) := by decide +kernel
theorem dX10_isKey_1 : decode cX10_isKey 1 = .ok (.ifCond .lt 14, 3) := by decide +kernel
theorem dX10_isKey_4 : decode cX10_isKey 4 = .ok (.iload_n 0, 1) := by decide +kernel
theorem dX10_isKey_5 : decode cX10_isKey 5 = .ok (.ldc_w 352, 3) := by decide +kernel
theorem dX10_isKey_8 : decode cX10_isKey 8 = .ok (.if_icmp .ge 7, 3) := by decide +kernel
theorem dX10_isKey_11 : decode cX10_isKey 11 = .ok (.iconst 1, 1) := by decide +kernel
theorem dX10_isKey_12 : decode cX10_isKey 12 = .ok (.goto 4, 3) := by decide +kernel
theorem dX10_isKey_15 : decode cX10_isKey 15 = .ok (.iconst 0, 1) := by decide +kernel
theorem dX10_isKey_16 : decode cX10_isKey 16 = .ok (.ireturn, 1) := by decide +kernel
theorem dX10_isPair_0 : decode cX10_isPair 0 = .ok (.iload_n 0, 1) := by decide +kernel
theorem dX10_isPair_1 : decode cX10_isPair 1 = .ok (.iconst 1, 1) := by decide +kernel
theorem dX10_isPair_2 : decode cX10_isPair 2 = .ok (.if_icmp .lt 25, 3) := by decide +kernel
theorem dX10_isPair_5 : decode cX10_isPair 5 = .ok (.iload_n 0, 1) := by decide +kernel
theorem dX10_isPair_6 : decode cX10_isPair 6 = .ok (.ldc_w 352, 3) := by decide +kernel
theorem dX10_isPair_9 : decode cX10_isPair 9 = .ok (.if_icmp .ge 18, 3) := by decide +kernel
theorem dX10_isPair_12 : decode cX10_isPair 12 = .ok (.iload_n 1, 1) := by decide +kernel
theorem dX10_isPair_13 : decode cX10_isPair 13 = .ok (.ifCond .lt 14, 3) := by decide +kernel
theorem dX10_isPair_16 : decode cX10_isPair 16 = .ok (.iload_n 1, 1) := by decide +kernel
theorem dX10_isPair_17 : decode cX10_isPair 17 = .ok (.ldc_w 352, 3) := by decide +kernel
theorem dX10_isPair_20 : decode cX10_isPair 20 = .ok (.if_icmp .ge 7, 3) := by decide +kernel
theorem dX10_isPair_23 : decode cX10_isPair 23 = .ok (.iconst 1, 1) := by decide +kernel
theorem dX10_isPair_24 : decode cX10_isPair 24 = .ok (.goto 4, 3) := by decide +kernel
theorem dX10_isPair_27 : decode cX10_isPair 27 = .ok (.iconst 0, 1) := by decide +kernel
theorem dX10_isPair_28 : decode cX10_isPair 28 = .ok (.ireturn, 1) := by decide +kernel
theorem dX10_areSettings_0 : decode cX10_areSettings 0 = .ok (.iload_n 0, 1) := by decide +kernel
theorem dX10_areSettings_1 : decode cX10_areSettings 1 = .ok (.bipush 8, 2) := by decide +kernel
theorem dX10_areSettings_3 : decode cX10_areSettings 3 = .ok (.if_icmp .lt 37, 3) := by decide +kernel
theorem dX10_areSettings_6 : decode cX10_areSettings 6 = .ok (.iload_n 0, 1) := by decide +kernel
theorem dX10_areSettings_7 : decode cX10_areSettings 7 = .ok (.bipush 64, 2) := by decide +kernel
theorem dX10_areSettings_9 : decode cX10_areSettings 9 = .ok (.if_icmp .gt 31, 3) := by decide +kernel
theorem dX10_areSettings_12 : decode cX10_areSettings 12 = .ok (.iload_n 1, 1) := by decide +kernel
theorem dX10_areSettings_13 : decode cX10_areSettings 13 = .ok (.bipush 25, 2) := by decide +kernel
theorem dX10_areSettings_15 : decode cX10_areSettings 15 = .ok (.if_icmp .lt 25, 3) := by decide +kernel
theorem dX10_areSettings_18 : decode cX10_areSettings 18 = .ok (.iload_n 1, 1) := by decide +kernel
theorem dX10_areSettings_19 : decode cX10_areSettings 19 = .ok (.sipush 400, 3) := by decide +kernel
theorem dX10_areSettings_22 : decode cX10_areSettings 22 = .ok (.if_icmp .gt 18, 3) := by decide +kernel
theorem dX10_areSettings_25 : decode cX10_areSettings 25 = .ok (.iload_n 2, 1) := by decide +kernel
theorem dX10_areSettings_26 : decode cX10_areSettings 26 = .ok (.ifCond .lt 14, 3) := by decide +kernel
theorem dX10_areSettings_29 : decode cX10_areSettings 29 = .ok (.iload_n 2, 1) := by decide +kernel
theorem dX10_areSettings_30 : decode cX10_areSettings 30 = .ok (.sipush 200, 3) := by decide +kernel
theorem dX10_areSettings_33 : decode cX10_areSettings 33 = .ok (.if_icmp .gt 7, 3) := by decide +kernel
theorem dX10_areSettings_36 : decode cX10_areSettings 36 = .ok (.iconst 1, 1) := by decide +kernel
theorem dX10_areSettings_37 : decode cX10_areSettings 37 = .ok (.goto 4, 3) := by decide +kernel
theorem dX10_areSettings_40 : decode cX10_areSettings 40 = .ok (.iconst 0, 1) := by decide +kernel
theorem dX10_areSettings_41 : decode cX10_areSettings 41 = .ok (.ireturn, 1) := by decide +kernel
theorem dX10_writeInt_0 : decode cX10_writeInt 0 = .ok (.iload_n 1, 1) := by decide +kernel
theorem dX10_writeInt_1 : decode cX10_writeInt 1 = .ok (.ifCond .lt 11, 3) := by decide +kernel
theorem dX10_writeInt_4 : decode cX10_writeInt 4 = .ok (.iload_n 1, 1) := by decide +kernel
theorem dX10_writeInt_5 : decode cX10_writeInt 5 = .ok (.iconst 4, 1) := by decide +kernel
theorem dX10_writeInt_6 : decode cX10_writeInt 6 = .ok (.iadd, 1) := by decide +kernel
theorem dX10_writeInt_7 : decode cX10_writeInt 7 = .ok (.aload_n 0, 1) := by decide +kernel
theorem dX10_writeInt_8 : decode cX10_writeInt 8 = .ok (.arraylength, 1) := by decide +kernel
theorem dX10_writeInt_9 : decode cX10_writeInt 9 = .ok (.if_icmp .le 4, 3) := by decide +kernel
theorem dX10_writeInt_12 : decode cX10_writeInt 12 = .ok (.return_, 1) := by decide +kernel
theorem dX10_writeInt_13 : decode cX10_writeInt 13 = .ok (.iconst 0, 1) := by decide +kernel
theorem dX10_writeInt_14 : decode cX10_writeInt 14 = .ok (.istore_n 3, 1) := by decide +kernel
theorem dX10_writeInt_15 : decode cX10_writeInt 15 = .ok (.iload_n 3, 1) := by decide +kernel
theorem dX10_writeInt_16 : decode cX10_writeInt 16 = .ok (.iconst 4, 1) := by decide +kernel
theorem dX10_writeInt_17 : decode cX10_writeInt 17 = .ok (.if_icmp .ge 27, 3) := by decide +kernel
theorem dX10_writeInt_20 : decode cX10_writeInt 20 = .ok (.aload_n 0, 1) := by decide +kernel
theorem dX10_writeInt_21 : decode cX10_writeInt 21 = .ok (.iload_n 1, 1) := by decide +kernel
theorem dX10_writeInt_22 : decode cX10_writeInt 22 = .ok (.iload_n 3, 1) := by decide +kernel
theorem dX10_writeInt_23 : decode cX10_writeInt 23 = .ok (.iadd, 1) := by decide +kernel
theorem dX10_writeInt_24 : decode cX10_writeInt 24 = .ok (.iload_n 2, 1) := by decide +kernel
theorem dX10_writeInt_25 : decode cX10_writeInt 25 = .ok (.bipush 24, 2) := by decide +kernel
theorem dX10_writeInt_27 : decode cX10_writeInt 27 = .ok (.bipush 8, 2) := by decide +kernel
theorem dX10_writeInt_29 : decode cX10_writeInt 29 = .ok (.iload_n 3, 1) := by decide +kernel
theorem dX10_writeInt_30 : decode cX10_writeInt 30 = .ok (.imul, 1) := by decide +kernel
theorem dX10_writeInt_31 : decode cX10_writeInt 31 = .ok (.isub, 1) := by decide +kernel
theorem dX10_writeInt_32 : decode cX10_writeInt 32 = .ok (.iushr, 1) := by decide +kernel
theorem dX10_writeInt_33 : decode cX10_writeInt 33 = .ok (.sipush 255, 3) := by decide +kernel
theorem dX10_writeInt_36 : decode cX10_writeInt 36 = .ok (.iand, 1) := by decide +kernel
theorem dX10_writeInt_37 : decode cX10_writeInt 37 = .ok (.iastore, 1) := by decide +kernel
theorem dX10_writeInt_38 : decode cX10_writeInt 38 = .ok (.iinc 3 1, 3) := by decide +kernel
theorem dX10_writeInt_41 : decode cX10_writeInt 41 = .ok (.goto (-26), 3) := by decide +kernel
theorem dX10_writeInt_44 : decode cX10_writeInt 44 = .ok (.return_, 1) := by decide +kernel
theorem dX10_readInt_0 : decode cX10_readInt 0 = .ok (.iload_n 1, 1) := by decide +kernel
theorem dX10_readInt_1 : decode cX10_readInt 1 = .ok (.ifCond .lt 11, 3) := by decide +kernel
theorem dX10_readInt_4 : decode cX10_readInt 4 = .ok (.iload_n 1, 1) := by decide +kernel
theorem dX10_readInt_5 : decode cX10_readInt 5 = .ok (.iconst 4, 1) := by decide +kernel
theorem dX10_readInt_6 : decode cX10_readInt 6 = .ok (.iadd, 1) := by decide +kernel
theorem dX10_readInt_7 : decode cX10_readInt 7 = .ok (.aload_n 0, 1) := by decide +kernel
theorem dX10_readInt_8 : decode cX10_readInt 8 = .ok (.arraylength, 1) := by decide +kernel
theorem dX10_readInt_9 : decode cX10_readInt 9 = .ok (.if_icmp .le 5, 3) := by decide +kernel
theorem dX10_readInt_14 : decode cX10_readInt 14 = .ok (.iconst 0, 1) := by decide +kernel
theorem dX10_readInt_15 : decode cX10_readInt 15 = .ok (.istore_n 2, 1) := by decide +kernel
theorem dX10_readInt_16 : decode cX10_readInt 16 = .ok (.iconst 0, 1) := by decide +kernel
theorem dX10_readInt_17 : decode cX10_readInt 17 = .ok (.istore_n 3, 1) := by decide +kernel
theorem dX10_readInt_18 : decode cX10_readInt 18 = .ok (.iload_n 3, 1) := by decide +kernel
theorem dX10_readInt_19 : decode cX10_readInt 19 = .ok (.iconst 4, 1) := by decide +kernel
theorem dX10_readInt_20 : decode cX10_readInt 20 = .ok (.if_icmp .ge 20, 3) := by decide +kernel
theorem dX10_readInt_23 : decode cX10_readInt 23 = .ok (.iload_n 2, 1) := by decide +kernel
theorem dX10_readInt_24 : decode cX10_readInt 24 = .ok (.bipush 8, 2) := by decide +kernel
theorem dX10_readInt_26 : decode cX10_readInt 26 = .ok (.ishl, 1) := by decide +kernel
theorem dX10_readInt_27 : decode cX10_readInt 27 = .ok (.aload_n 0, 1) := by decide +kernel
theorem dX10_readInt_28 : decode cX10_readInt 28 = .ok (.iload_n 1, 1) := by decide +kernel
theorem dX10_readInt_29 : decode cX10_readInt 29 = .ok (.iload_n 3, 1) := by decide +kernel
theorem dX10_readInt_30 : decode cX10_readInt 30 = .ok (.iadd, 1) := by decide +kernel
theorem dX10_readInt_31 : decode cX10_readInt 31 = .ok (.iaload, 1) := by decide +kernel
theorem dX10_readInt_32 : decode cX10_readInt 32 = .ok (.ior, 1) := by decide +kernel
theorem dX10_readInt_33 : decode cX10_readInt 33 = .ok (.istore_n 2, 1) := by decide +kernel
theorem dX10_readInt_34 : decode cX10_readInt 34 = .ok (.iinc 3 1, 3) := by decide +kernel
theorem dX10_readInt_37 : decode cX10_readInt 37 = .ok (.goto (-19), 3) := by decide +kernel
theorem dX10_readInt_40 : decode cX10_readInt 40 = .ok (.iload_n 2, 1) := by decide +kernel
theorem dX10_readInt_41 : decode cX10_readInt 41 = .ok (.ireturn, 1) := by decide +kernel
theorem dX10_readLong_0 : decode cX10_readLong 0 = .ok (.aload_n 0, 1) := by decide +kernel
theorem dX10_readLong_1 : decode cX10_readLong 1 = .ok (.iload_n 1, 1) := by decide +kernel
theorem dX10_readLong_2 : decode cX10_readLong 2 = .ok (.invokestatic 334, 3) := by decide +kernel
theorem dX10_readLong_5 : decode cX10_readLong 5 = .ok (.i2l, 1) := by decide +kernel
theorem dX10_readLong_6 : decode cX10_readLong 6 = .ok (.bipush 32, 2) := by decide +kernel
theorem dX10_readLong_8 : decode cX10_readLong 8 = .ok (.lshl, 1) := by decide +kernel
theorem dX10_readLong_9 : decode cX10_readLong 9 = .ok (.aload_n 0, 1) := by decide +kernel
theorem dX10_readLong_10 : decode cX10_readLong 10 = .ok (.iload_n 1, 1) := by decide +kernel
theorem dX10_readLong_11 : decode cX10_readLong 11 = .ok (.iconst 4, 1) := by decide +kernel
theorem dX10_readLong_12 : decode cX10_readLong 12 = .ok (.iadd, 1) := by decide +kernel
theorem dX10_readLong_13 : decode cX10_readLong 13 = .ok (.invokestatic 334, 3) := by decide +kernel
theorem dX10_readLong_16 : decode cX10_readLong 16 = .ok (.i2l, 1) := by decide +kernel
theorem dX10_readLong_17 : decode cX10_readLong 17 = .ok (.ldc2_w 355, 3) := by decide +kernel
theorem dX10_readLong_20 : decode cX10_readLong 20 = .ok (.land, 1) := by decide +kernel
theorem dX10_readLong_21 : decode cX10_readLong 21 = .ok (.lor, 1) := by decide +kernel
theorem dX10_readLong_22 : decode cX10_readLong 22 = .ok (.lreturn, 1) := by decide +kernel
theorem dX10_spreadOf_0 : decode cX10_spreadOf 0 = .ok (.aload_n 0, 1) := by decide +kernel
theorem dX10_spreadOf_1 : decode cX10_spreadOf 1 = .ok (.iconst 1, 1) := by decide +kernel
theorem dX10_spreadOf_2 : decode cX10_spreadOf 2 = .ok (.iaload, 1) := by decide +kernel
theorem dX10_spreadOf_3 : decode cX10_spreadOf 3 = .ok (.bipush 8, 2) := by decide +kernel
theorem dX10_spreadOf_5 : decode cX10_spreadOf 5 = .ok (.ishl, 1) := by decide +kernel
theorem dX10_spreadOf_6 : decode cX10_spreadOf 6 = .ok (.aload_n 0, 1) := by decide +kernel
theorem dX10_spreadOf_7 : decode cX10_spreadOf 7 = .ok (.iconst 2, 1) := by decide +kernel
theorem dX10_spreadOf_8 : decode cX10_spreadOf 8 = .ok (.iaload, 1) := by decide +kernel
theorem dX10_spreadOf_9 : decode cX10_spreadOf 9 = .ok (.ior, 1) := by decide +kernel
theorem dX10_spreadOf_10 : decode cX10_spreadOf 10 = .ok (.ireturn, 1) := by decide +kernel
theorem dX10_checkOf_0 : decode cX10_checkOf 0 = .ok (.bipush 7, 2) := by decide +kernel
theorem dX10_checkOf_2 : decode cX10_checkOf 2 = .ok (.istore_n 2, 1) := by decide +kernel
theorem dX10_checkOf_3 : decode cX10_checkOf 3 = .ok (.iconst 0, 1) := by decide +kernel
theorem dX10_checkOf_4 : decode cX10_checkOf 4 = .ok (.istore_n 3, 1) := by decide +kernel
theorem dX10_checkOf_5 : decode cX10_checkOf 5 = .ok (.iload_n 3, 1) := by decide +kernel
theorem dX10_checkOf_6 : decode cX10_checkOf 6 = .ok (.iload_n 1, 1) := by decide +kernel
theorem dX10_checkOf_7 : decode cX10_checkOf 7 = .ok (.if_icmp .ge 27, 3) := by decide +kernel
theorem dX10_checkOf_10 : decode cX10_checkOf 10 = .ok (.iload_n 3, 1) := by decide +kernel
theorem dX10_checkOf_11 : decode cX10_checkOf 11 = .ok (.aload_n 0, 1) := by decide +kernel
theorem dX10_checkOf_12 : decode cX10_checkOf 12 = .ok (.arraylength, 1) := by decide +kernel
theorem dX10_checkOf_13 : decode cX10_checkOf 13 = .ok (.if_icmp .ge 21, 3) := by decide +kernel
theorem dX10_checkOf_16 : decode cX10_checkOf 16 = .ok (.iconst 5, 1) := by decide +kernel
theorem dX10_checkOf_17 : decode cX10_checkOf 17 = .ok (.iload_n 2, 1) := by decide +kernel
theorem dX10_checkOf_18 : decode cX10_checkOf 18 = .ok (.imul, 1) := by decide +kernel
theorem dX10_checkOf_19 : decode cX10_checkOf 19 = .ok (.aload_n 0, 1) := by decide +kernel
theorem dX10_checkOf_20 : decode cX10_checkOf 20 = .ok (.iload_n 3, 1) := by decide +kernel
theorem dX10_checkOf_21 : decode cX10_checkOf 21 = .ok (.iaload, 1) := by decide +kernel
theorem dX10_checkOf_22 : decode cX10_checkOf 22 = .ok (.iadd, 1) := by decide +kernel
theorem dX10_checkOf_23 : decode cX10_checkOf 23 = .ok (.sipush 253, 3) := by decide +kernel
theorem dX10_checkOf_26 : decode cX10_checkOf 26 = .ok (.irem, 1) := by decide +kernel
theorem dX10_checkOf_27 : decode cX10_checkOf 27 = .ok (.istore_n 2, 1) := by decide +kernel
theorem dX10_checkOf_28 : decode cX10_checkOf 28 = .ok (.iinc 3 1, 3) := by decide +kernel
theorem dX10_checkOf_31 : decode cX10_checkOf 31 = .ok (.goto (-26), 3) := by decide +kernel
theorem dX10_checkOf_34 : decode cX10_checkOf 34 = .ok (.iload_n 2, 1) := by decide +kernel
theorem dX10_checkOf_35 : decode cX10_checkOf 35 = .ok (.ireturn, 1) := by decide +kernel
def rdI (f : Nat → Int32) (x : Nat) : Int32 := ((((0 : Int32) <<< ((8 : Int32) &&& 31) ||| f x) <<< ((8 : Int32) &&& 31) ||| f (x + 1)) <<< ((8 : Int32) &&& 31) ||| f (x + 2)) <<< ((8 : Int32) &&& 31) ||| f (x + 3)
def ImC (f : Nat → Int32) : Prop := ∃ y0, y0 ≤ 160 ∧ f 12 ≤ nI y0 ∧ ∀ j, j < y0 → isK (rdI f (13 + 8 * j))
theorem isK_c {z : Int32} (h0 : ¬ z < 0) (h1 : ¬ (2147483647 : Int32) ≤ z) : isK z := by
  obtain ⟨n, hn, e⟩ := nneg h0
  subst e
  refine ⟨n, ?_, rfl⟩
  rcases Nat.lt_or_ge n 2147483647 with y | y
  · exact y
  · exact absurd (nI_le (a := 2147483647) y (by omega)) h1
theorem isK_n {z : Int32} (h : isK z) : ¬ z < 0 ∧ ¬ (2147483647 : Int32) ≤ z := by
  obtain ⟨x, hx, rfl⟩ := h
  exact ⟨Int32.not_lt.mpr (nI_pos' (by omega)), Int32.not_le.mpr (nI_lt (b := 2147483647) hx (by decide))⟩
def spI (f : Nat → Int32) : Int32 := f 1 <<< ((8 : Int32) &&& 31) ||| f 2
theorem sp_tie {f : Nat → Int32} {bt : Nat → Nat} (h : TieC f bt) : spI f = nI (rdN bt 1 2) := by
  have h1 := (h 1).2
  show f 1 <<< ((8 : Int32) &&& 31) ||| f 2 = _
  have e : rdN bt 1 2 = bt 1 * 256 + bt 2 := by
    show (0 * 256 + bt 1) * 256 + bt 2 = _
    omega
  rw [(h 1).1, (h 2).1, nI_or8 (by omega) (h 2).2, e]
theorem rd_tie {f : Nat → Int32} {bt : Nat → Nat} (h : TieC f bt) (x : Nat) : rdI f x = nI (rdN bt x 4) := by
  have h0 := (h x).2
  have h1 := (h (x + 1)).2
  have h2 := (h (x + 2)).2
  unfold rdI
  rw [(h x).1, (h (x + 1)).1, (h (x + 2)).1, (h (x + 3)).1, show (0 : Int32) = nI 0 from rfl, nI_or8 (by omega) h0, nI_or8 (by omega) h1, nI_or8 (by omega) h2, nI_or8 (by omega) (h (x + 3)).2]
  rfl
theorem ok_tie {f : Nat → Int32} {bt : Nat → Nat} (h : TieC f bt) : okS (f 0) (spI f) (f 3) ↔ ((8 ≤ bt 0 ∧ bt 0 ≤ 64) ∧ (25 ≤ rdN bt 1 2 ∧ rdN bt 1 2 ≤ 400) ∧ bt 3 ≤ 200) := by
  have h0 := (h 0).2
  have h3 := (h 3).2
  have hr := rdN_lt (fun j => (h j).2) 1 2
  unfold okS
  rw [sp_tie h, (h 0).1, (h 3).1, show (8 : Int32) = nI 8 from rfl, show (64 : Int32) = nI 64 from rfl, show (25 : Int32) = nI 25 from rfl, show (400 : Int32) = nI 400 from rfl, show (0 : Int32) = nI 0 from rfl, show (200 : Int32) = nI 200 from rfl, nI_leI (by decide) (by omega), nI_leI (by omega) (by decide), nI_leI (by decide) (by omega), nI_leI (by omega) (by decide), nI_leI (by decide) (by omega), nI_leI (by omega) (by decide)]
  omega
def laI (bt : Nat → Nat) : Nat → Int32
  | 0 => -1
  | m + 1 => nI (keyN bt m)
theorem isK_lt {n : Nat} (hn : n < 4294967296) (h : isK (nI n)) : n < 2147483647 := by
  obtain ⟨x, hx, e⟩ := h
  rw [nI_ne (by omega) hn e]
  exact hx
theorem rc_ok {f : Nat → Int32} {bt : Nat → Nat} {y : Nat} {la r : Int32} (h : TieC f bt) (hQ : RsN bt y) (hla : la = laI bt y) (er : r = rdI f (13 + 8 * y)) (hk : isK r) (h1 : la < r) : RsN bt (y + 1) := by
  have er2 : r = nI (keyN bt y) := er.trans (rd_tie h _)
  subst er2
  have hy := isK_lt (keyN_lt (fun j => (h j).2) y) hk
  refine RsN_s hQ hy ?_
  intro m e
  subst e
  have hm := hQ.1 m (by omega)
  subst hla
  change nI (keyN bt m) < _ at h1
  exact (nI_ltI (by omega) (by omega)).mp h1
theorem rc_no1 {f : Nat → Int32} {bt : Nat → Nat} {y : Nat} {r : Int32} (h : TieC f bt) (er : r = rdI f (13 + 8 * y)) (hk : ¬ isK r) : ¬ RsN bt (y + 1) := by
  intro q
  refine hk ⟨keyN bt y, q.1 y (by omega), ?_⟩
  exact er.trans (rd_tie h _)
theorem rc_no2 {f : Nat → Int32} {bt : Nat → Nat} {y : Nat} {la r : Int32} (h : TieC f bt) (hla : la = laI bt y) (er : r = rdI f (13 + 8 * y)) (h1 : ¬ la < r) : ¬ RsN bt (y + 1) := by
  intro q
  have er2 : r = nI (keyN bt y) := er.trans (rd_tie h _)
  subst er2
  have hy := q.1 y (by omega)
  subst hla
  cases y with
  | zero => exact h1 (Int32.lt_of_lt_of_le (show (-1 : Int32) < 0 by decide) (nI_pos' (n := keyN bt 0) (by omega)))
  | succ m =>
    have hm := q.1 m (by omega)
    exact h1 (nI_lt (q.2 m (by omega)) (by omega))
def own_k_wiT : List Cond := []
def wp_k_wiT : List Cond := .code yX10_writeInt cX10_writeInt 4 none :: (own_k_wiT ++ ([] : List Cond))
set_option maxRecDepth 20000 in
theorem inown_k_wiT : ∀ w ∈ own_k_wiT, w ∈ lw_tbl := mem_places [] (by decide +kernel)
set_option maxRecDepth 20000 in
theorem in_k_wiT : ∀ w ∈ wp_k_wiT, w ∈ lw_tbl := List.forall_mem_cons.mpr ⟨List.mem_of_getElem? (i := 440) (by decide +kernel), List.forall_mem_append.mpr ⟨inown_k_wiT, fun _ h => absurd h List.not_mem_nil⟩⟩
set_option maxRecDepth 20000 in
theorem good_k_wiT : wp_k_wiT.all goodWord = true := by decide +kernel
set_option maxHeartbeats 4000000 in
set_option maxRecDepth 100000 in
theorem k_wiT (l : Launch) (D : va_G) (sz : Nat) (ox : Nat → Nat) (cI : ClassId) (fT : Nat → Int32) (x : Nat) (z3 : Int32) (hx9 : x ≤ 1000000) : Met l yX10_writeInt wp_k_wiT ({ frames := 0, cells := 0, slots := 0, locals := 0 }) (PcWC D [.ref (ox 2), .int (nI x), .int z3] sz [(ox 2, .inl (cI, 1400, .inl fT))] [(cI, .int)]) (va_Qv (fun (u : (Nat → Int32)) => (x + 4 ≤ 1400 ∧ u = wrI fT x z3) ∨ (1400 < x + 4 ∧ u = fT)) (fun (u : (Nat → Int32)) t => va_P D vwCl [(ox 2, .inl (cI, 1400, .inl u))] t.heap ∧ va_K D vwCl [(cI, .int)] t ∧ va_D (va_A [(ox 2, .inl (cI, 1400, .inl fT))] sz) [(ox 2, .inl (cI, 1400, .inl u))]) (va_A [(ox 2, .inl (cI, 1400, .inl fT))] sz)) 0 0 (va_A [(ox 2, .inl (cI, 1400, .inl fT))] sz) := by
  refine Met.ofW (cc := cX10_writeInt) (maxL := 4) (ret := none) (by decide) rfl ?_
  intro p e s m args below meth c s₁ B hml hv
  obtain ⟨rfl, hsz, hP, hK, hD0, hN⟩ := hv
  have hx := B.exec
  have hb := B.bytes
  have hr := B.returns
  have hts := atoms_spec (ws := wp_k_wiT) B.pre
  have hown : s.vm.findClass RX10 = some m.cls := findClass_of_methodNamed B.named
  have hlocks := B.notSynchronized
  subst hsz
  have hD := hD0.self (sz := s.heap.size)
  generalize hAe : va_A [(ox 2, .inl (cI, 1400, .inl fT))] s.heap.size = A at hD ⊢
  have hA : ∀ q : Nat, s.heap.size ≤ q → A q := fun q h => by rw [← hAe]; exact Or.inr h
  have hS : va_S A s.heap s.heap [] := va_S.rf
  have hP : va_P D vwCl [(ox 2, .inl (cI, 1400, .inl fT))] s.heap := hP
  have hl := lv_entry ([.ref (ox 2), .int (nI x), .int z3]) (n := 4) (Nat.le_of_ble_eq_true rfl)
  rw [lg_entry_eq]
  generalize (lg_sl ([.ref (ox 2), .int (nI x), .int z3]) ++ List.replicate (4 - (lg_sl ([.ref (ox 2), .int (nI x), .int z3])).length) Slot.unset).toArray = ls at hl ⊢
  have hl : lv_has ls 4 [(0, .ref (ox 2)), (1, .int (nI x)), (2, .int z3)] := hl
  refine lv_iload_n hx hb dX10_writeInt_0 rfl (lv_at hl 1 rfl) ?_
  refine lv_if_lt (tgt := 12) hx hb dX10_writeInt_1 (by decide) (fun hc => absurd hc (Int32.not_lt.mpr (nI_pos' (by omega)))) (fun hc => ?_)
  refine lv_iload_n hx hb dX10_writeInt_4 rfl (lv_at hl 1 rfl) ?_
  refine lv_iconst (v := 4) hx hb dX10_writeInt_5 (by decide) ?_
  refine lv_iadd hx hb dX10_writeInt_6 ?_
  refine lv_topi (fun v1 ev1 => ?_)
  obtain rfl : v1 = nI (x + 4) := ev1.trans (nI_add _ 4)
  refine lv_aload_n hx hb dX10_writeInt_7 rfl (lv_at hl 0 rfl) ?_
  refine va_alen (v := 1400) hx hb hK hP 0 0 rfl rfl rfl dX10_writeInt_8 ?_
  refine lv_icmp_le (tgt := 13) hx hb dX10_writeInt_9 (by decide) (fun hc2 => ?_) (fun hc2 => ?_)
  ·
    have hfit : x + 4 ≤ 1400 := (nI_leI (b := 1400) (by omega) (by decide)).mp hc2
    refine lv_iconst (v := 0) hx hb dX10_writeInt_13 (by decide) ?_
    refine lv_istore_n (lv' := [(3, .int 0), (0, .ref (ox 2)), (1, .int (nI x)), (2, .int z3)]) hx hb dX10_writeInt_14 rfl hl (by decide) rfl (fun ls hl => ?_)
    refine lv_iload_n hx hb dX10_writeInt_15 rfl (lv_at hl 0 rfl) ?_
    refine lv_iconst (v := 4) hx hb dX10_writeInt_16 (by decide) ?_
    refine lv_icmp_ge (tgt := 44) hx hb dX10_writeInt_17 (by decide) (fun hc => absurd hc (by decide)) (fun hc => ?_)
    refine lv_aload_n hx hb dX10_writeInt_20 rfl (lv_at hl 1 rfl) ?_
    refine lv_iload_n hx hb dX10_writeInt_21 rfl (lv_at hl 2 rfl) ?_
    refine lv_iload_n hx hb dX10_writeInt_22 rfl (lv_at hl 0 rfl) ?_
    refine lv_iadd hx hb dX10_writeInt_23 ?_
    refine lv_topi (fun v3 ev3 => ?_)
    obtain rfl : v3 = nI (x + 0) := ev3.trans (nI_add _ 0)
    refine lv_iload_n hx hb dX10_writeInt_24 rfl (lv_at hl 3 rfl) ?_
    refine lv_bipush (v := 24) hx hb dX10_writeInt_25 (by decide) ?_
    refine lv_bipush (v := 8) hx hb dX10_writeInt_27 (by decide) ?_
    refine lv_iload_n hx hb dX10_writeInt_29 rfl (lv_at hl 0 rfl) ?_
    refine lv_imul hx hb dX10_writeInt_30 ?_
    refine lv_topi (fun v4 ev4 => ?_)
    obtain rfl : v4 = 0 := ev4.trans (by decide)
    refine lv_isub hx hb dX10_writeInt_31 ?_
    refine lv_topi (fun v5 ev5 => ?_)
    obtain rfl : v5 = 24 := ev5.trans (by decide)
    refine lv_iushr hx hb dX10_writeInt_32 rfl ?_
    refine lv_sipush (v := 255) hx hb dX10_writeInt_33 (by decide) ?_
    refine lv_iand hx hb dX10_writeInt_36 ?_
    refine lv_topi (fun v6 ev6 => ?_)
    obtain rfl : v6 = nI (byN z3 0) := ev6.trans (by_c0 z3)
    refine va_iast hx hb hK hP hD hS 0 0 rfl rfl (vp_in_nI (by omega) (by decide)) dX10_writeInt_37 (fun H locs hP hD hS => ?_)
    have hP : va_P D vwCl [(ox 2, .inl (cI, 1400, .inl (upd fT (Int32.toNatClampNeg (nI (x + 0))) (nI (byN z3 0)))))] H := hP
    have hD : va_D A [(ox 2, .inl (cI, 1400, .inl (upd fT (Int32.toNatClampNeg (nI (x + 0))) (nI (byN z3 0)))))] := hD
    rw [show (upd fT (Int32.toNatClampNeg (nI (x + 0))) (nI (byN z3 0))) = (upd fT (x + 0) (nI (byN z3 0))) from by rw [nI_clamp (by omega)]] at hP hD
    refine lv_iinc (v := 1) (lv' := [(3, .int 1), (0, .ref (ox 2)), (1, .int (nI x)), (2, .int z3)]) hx hb dX10_writeInt_38 hl (k := 0) rfl (by decide) (by decide) rfl (fun ls hl => ?_)
    refine lv_goto (tgt := 15) hx hb dX10_writeInt_41 (by decide) ?_
    refine lv_iload_n hx hb dX10_writeInt_15 rfl (lv_at hl 0 rfl) ?_
    refine lv_iconst (v := 4) hx hb dX10_writeInt_16 (by decide) ?_
    refine lv_icmp_ge (tgt := 44) hx hb dX10_writeInt_17 (by decide) (fun hc => absurd hc (by decide)) (fun hc => ?_)
    refine lv_aload_n hx hb dX10_writeInt_20 rfl (lv_at hl 1 rfl) ?_
    refine lv_iload_n hx hb dX10_writeInt_21 rfl (lv_at hl 2 rfl) ?_
    refine lv_iload_n hx hb dX10_writeInt_22 rfl (lv_at hl 0 rfl) ?_
    refine lv_iadd hx hb dX10_writeInt_23 ?_
    refine lv_topi (fun v7 ev7 => ?_)
    obtain rfl : v7 = nI (x + 1) := ev7.trans (nI_add _ 1)
    refine lv_iload_n hx hb dX10_writeInt_24 rfl (lv_at hl 3 rfl) ?_
    refine lv_bipush (v := 24) hx hb dX10_writeInt_25 (by decide) ?_
    refine lv_bipush (v := 8) hx hb dX10_writeInt_27 (by decide) ?_
    refine lv_iload_n hx hb dX10_writeInt_29 rfl (lv_at hl 0 rfl) ?_
    refine lv_imul hx hb dX10_writeInt_30 ?_
    refine lv_topi (fun v8 ev8 => ?_)
    obtain rfl : v8 = 8 := ev8.trans (by decide)
    refine lv_isub hx hb dX10_writeInt_31 ?_
    refine lv_topi (fun v9 ev9 => ?_)
    obtain rfl : v9 = 16 := ev9.trans (by decide)
    refine lv_iushr hx hb dX10_writeInt_32 rfl ?_
    refine lv_sipush (v := 255) hx hb dX10_writeInt_33 (by decide) ?_
    refine lv_iand hx hb dX10_writeInt_36 ?_
    refine lv_topi (fun v10 ev10 => ?_)
    obtain rfl : v10 = nI (byN z3 1) := ev10.trans (by_c1 z3)
    refine va_iast hx hb hK hP hD hS 0 0 rfl rfl (vp_in_nI (by omega) (by decide)) dX10_writeInt_37 (fun H locs hP hD hS => ?_)
    have hP : va_P D vwCl [(ox 2, .inl (cI, 1400, .inl (upd (upd fT (x + 0) (nI (byN z3 0))) (Int32.toNatClampNeg (nI (x + 1))) (nI (byN z3 1)))))] H := hP
    have hD : va_D A [(ox 2, .inl (cI, 1400, .inl (upd (upd fT (x + 0) (nI (byN z3 0))) (Int32.toNatClampNeg (nI (x + 1))) (nI (byN z3 1)))))] := hD
    rw [show (upd (upd fT (x + 0) (nI (byN z3 0))) (Int32.toNatClampNeg (nI (x + 1))) (nI (byN z3 1))) = (upd (upd fT (x + 0) (nI (byN z3 0))) (x + 1) (nI (byN z3 1))) from by rw [nI_clamp (by omega)]] at hP hD
    refine lv_iinc (v := 2) (lv' := [(3, .int 2), (0, .ref (ox 2)), (1, .int (nI x)), (2, .int z3)]) hx hb dX10_writeInt_38 hl (k := 0) rfl (by decide) (by decide) rfl (fun ls hl => ?_)
    refine lv_goto (tgt := 15) hx hb dX10_writeInt_41 (by decide) ?_
    refine lv_iload_n hx hb dX10_writeInt_15 rfl (lv_at hl 0 rfl) ?_
    refine lv_iconst (v := 4) hx hb dX10_writeInt_16 (by decide) ?_
    refine lv_icmp_ge (tgt := 44) hx hb dX10_writeInt_17 (by decide) (fun hc => absurd hc (by decide)) (fun hc => ?_)
    refine lv_aload_n hx hb dX10_writeInt_20 rfl (lv_at hl 1 rfl) ?_
    refine lv_iload_n hx hb dX10_writeInt_21 rfl (lv_at hl 2 rfl) ?_
    refine lv_iload_n hx hb dX10_writeInt_22 rfl (lv_at hl 0 rfl) ?_
    refine lv_iadd hx hb dX10_writeInt_23 ?_
    refine lv_topi (fun v11 ev11 => ?_)
    obtain rfl : v11 = nI (x + 2) := ev11.trans (nI_add _ 2)
    refine lv_iload_n hx hb dX10_writeInt_24 rfl (lv_at hl 3 rfl) ?_
    refine lv_bipush (v := 24) hx hb dX10_writeInt_25 (by decide) ?_
    refine lv_bipush (v := 8) hx hb dX10_writeInt_27 (by decide) ?_
    refine lv_iload_n hx hb dX10_writeInt_29 rfl (lv_at hl 0 rfl) ?_
    refine lv_imul hx hb dX10_writeInt_30 ?_
    refine lv_topi (fun v12 ev12 => ?_)
    obtain rfl : v12 = 16 := ev12.trans (by decide)
    refine lv_isub hx hb dX10_writeInt_31 ?_
    refine lv_topi (fun v13 ev13 => ?_)
    obtain rfl : v13 = 8 := ev13.trans (by decide)
    refine lv_iushr hx hb dX10_writeInt_32 rfl ?_
    refine lv_sipush (v := 255) hx hb dX10_writeInt_33 (by decide) ?_
    refine lv_iand hx hb dX10_writeInt_36 ?_
    refine lv_topi (fun v14 ev14 => ?_)
    obtain rfl : v14 = nI (byN z3 2) := ev14.trans (by_c2 z3)
    refine va_iast hx hb hK hP hD hS 0 0 rfl rfl (vp_in_nI (by omega) (by decide)) dX10_writeInt_37 (fun H locs hP hD hS => ?_)
    have hP : va_P D vwCl [(ox 2, .inl (cI, 1400, .inl (upd (upd (upd fT (x + 0) (nI (byN z3 0))) (x + 1) (nI (byN z3 1))) (Int32.toNatClampNeg (nI (x + 2))) (nI (byN z3 2)))))] H := hP
    have hD : va_D A [(ox 2, .inl (cI, 1400, .inl (upd (upd (upd fT (x + 0) (nI (byN z3 0))) (x + 1) (nI (byN z3 1))) (Int32.toNatClampNeg (nI (x + 2))) (nI (byN z3 2)))))] := hD
    rw [show (upd (upd (upd fT (x + 0) (nI (byN z3 0))) (x + 1) (nI (byN z3 1))) (Int32.toNatClampNeg (nI (x + 2))) (nI (byN z3 2))) = (upd (upd (upd fT (x + 0) (nI (byN z3 0))) (x + 1) (nI (byN z3 1))) (x + 2) (nI (byN z3 2))) from by rw [nI_clamp (by omega)]] at hP hD
    refine lv_iinc (v := 3) (lv' := [(3, .int 3), (0, .ref (ox 2)), (1, .int (nI x)), (2, .int z3)]) hx hb dX10_writeInt_38 hl (k := 0) rfl (by decide) (by decide) rfl (fun ls hl => ?_)
    refine lv_goto (tgt := 15) hx hb dX10_writeInt_41 (by decide) ?_
    refine lv_iload_n hx hb dX10_writeInt_15 rfl (lv_at hl 0 rfl) ?_
    refine lv_iconst (v := 4) hx hb dX10_writeInt_16 (by decide) ?_
    refine lv_icmp_ge (tgt := 44) hx hb dX10_writeInt_17 (by decide) (fun hc => absurd hc (by decide)) (fun hc => ?_)
    refine lv_aload_n hx hb dX10_writeInt_20 rfl (lv_at hl 1 rfl) ?_
    refine lv_iload_n hx hb dX10_writeInt_21 rfl (lv_at hl 2 rfl) ?_
    refine lv_iload_n hx hb dX10_writeInt_22 rfl (lv_at hl 0 rfl) ?_
    refine lv_iadd hx hb dX10_writeInt_23 ?_
    refine lv_topi (fun v15 ev15 => ?_)
    obtain rfl : v15 = nI (x + 3) := ev15.trans (nI_add _ 3)
    refine lv_iload_n hx hb dX10_writeInt_24 rfl (lv_at hl 3 rfl) ?_
    refine lv_bipush (v := 24) hx hb dX10_writeInt_25 (by decide) ?_
    refine lv_bipush (v := 8) hx hb dX10_writeInt_27 (by decide) ?_
    refine lv_iload_n hx hb dX10_writeInt_29 rfl (lv_at hl 0 rfl) ?_
    refine lv_imul hx hb dX10_writeInt_30 ?_
    refine lv_topi (fun v16 ev16 => ?_)
    obtain rfl : v16 = 24 := ev16.trans (by decide)
    refine lv_isub hx hb dX10_writeInt_31 ?_
    refine lv_topi (fun v17 ev17 => ?_)
    obtain rfl : v17 = 0 := ev17.trans (by decide)
    refine lv_iushr hx hb dX10_writeInt_32 rfl ?_
    refine lv_sipush (v := 255) hx hb dX10_writeInt_33 (by decide) ?_
    refine lv_iand hx hb dX10_writeInt_36 ?_
    refine lv_topi (fun v18 ev18 => ?_)
    obtain rfl : v18 = nI (byN z3 3) := ev18.trans (by_c3 z3)
    refine va_iast hx hb hK hP hD hS 0 0 rfl rfl (vp_in_nI (by omega) (by decide)) dX10_writeInt_37 (fun H locs hP hD hS => ?_)
    have hP : va_P D vwCl [(ox 2, .inl (cI, 1400, .inl (upd (upd (upd (upd fT (x + 0) (nI (byN z3 0))) (x + 1) (nI (byN z3 1))) (x + 2) (nI (byN z3 2))) (Int32.toNatClampNeg (nI (x + 3))) (nI (byN z3 3)))))] H := hP
    have hD : va_D A [(ox 2, .inl (cI, 1400, .inl (upd (upd (upd (upd fT (x + 0) (nI (byN z3 0))) (x + 1) (nI (byN z3 1))) (x + 2) (nI (byN z3 2))) (Int32.toNatClampNeg (nI (x + 3))) (nI (byN z3 3)))))] := hD
    rw [show (upd (upd (upd (upd fT (x + 0) (nI (byN z3 0))) (x + 1) (nI (byN z3 1))) (x + 2) (nI (byN z3 2))) (Int32.toNatClampNeg (nI (x + 3))) (nI (byN z3 3))) = (upd (upd (upd (upd fT (x + 0) (nI (byN z3 0))) (x + 1) (nI (byN z3 1))) (x + 2) (nI (byN z3 2))) (x + 3) (nI (byN z3 3))) from by rw [nI_clamp (by omega)]] at hP hD
    refine lv_iinc (v := 4) (lv' := [(3, .int 4), (0, .ref (ox 2)), (1, .int (nI x)), (2, .int z3)]) hx hb dX10_writeInt_38 hl (k := 0) rfl (by decide) (by decide) rfl (fun ls hl => ?_)
    refine lv_goto (tgt := 15) hx hb dX10_writeInt_41 (by decide) ?_
    refine lv_iload_n hx hb dX10_writeInt_15 rfl (lv_at hl 0 rfl) ?_
    refine lv_iconst (v := 4) hx hb dX10_writeInt_16 (by decide) ?_
    refine lv_icmp_ge (tgt := 44) hx hb dX10_writeInt_17 (by decide) (fun hc => ?_) (fun hc => absurd (by decide) hc)
    exact W.vret hx hb hr (fun t ht hW => ⟨⟨(upd (upd (upd (upd fT (x + 0) (nI (byN z3 0))) (x + 1) (nI (byN z3 1))) (x + 2) (nI (byN z3 2))) (x + 3) (nI (byN z3 3))), rfl, Or.inl ⟨hfit, rfl⟩, by rw [ht]; exact hP.sub [0] rfl, va_K.moved hW.alike (hK.sub [0] rfl), hD.sub [0] (by decide) rfl⟩, hS.F ht⟩) hS.2.2 dX10_writeInt_44
  ·
    have hnf : 1400 < x + 4 := by
      rcases Nat.lt_or_ge 1400 (x + 4) with z | z
      · exact z
      · exact absurd (nI_le (b := 1400) z (by decide)) hc2
    exact W.vret hx hb hr (fun t ht hW => ⟨⟨fT, rfl, Or.inr ⟨hnf, rfl⟩, by rw [ht]; exact hP.sub [0] rfl, va_K.moved hW.alike (hK.sub [0] rfl), hD.sub [0] (by decide) rfl⟩, hS.F ht⟩) hS.2.2 dX10_writeInt_12

def own_k_wiI : List Cond := []
def wp_k_wiI : List Cond := .code yX10_writeInt cX10_writeInt 4 none :: (own_k_wiI ++ ([] : List Cond))
set_option maxRecDepth 20000 in
theorem inown_k_wiI : ∀ w ∈ own_k_wiI, w ∈ lw_tbl := mem_places [] (by decide +kernel)
set_option maxRecDepth 20000 in
theorem in_k_wiI : ∀ w ∈ wp_k_wiI, w ∈ lw_tbl := List.forall_mem_cons.mpr ⟨List.mem_of_getElem? (i := 440) (by decide +kernel), List.forall_mem_append.mpr ⟨inown_k_wiI, fun _ h => absurd h List.not_mem_nil⟩⟩
set_option maxRecDepth 20000 in
theorem good_k_wiI : wp_k_wiI.all goodWord = true := by decide +kernel
set_option maxHeartbeats 4000000 in
set_option maxRecDepth 100000 in
theorem k_wiI (l : Launch) (D : va_G) (sz : Nat) (og : Nat → Nat) (cI : ClassId) (fi : Nat → Int32) (x : Nat) (z3 : Int32) (hx9 : x ≤ 1000000) : Met l yX10_writeInt wp_k_wiI ({ frames := 0, cells := 0, slots := 0, locals := 0 }) (PcWC D [.ref (og 1), .int (nI x), .int z3] sz [(og 1, .inl (cI, 1294, .inl fi))] [(cI, .int)]) (va_Qv (fun (u : (Nat → Int32)) => True) (fun (u : (Nat → Int32)) t => va_P D vwCl [(og 1, .inl (cI, 1294, .inl u))] t.heap ∧ va_K D vwCl [(cI, .int)] t ∧ va_D (va_A [(og 1, .inl (cI, 1294, .inl fi))] sz) [(og 1, .inl (cI, 1294, .inl u))]) (va_A [(og 1, .inl (cI, 1294, .inl fi))] sz)) 0 0 (va_A [(og 1, .inl (cI, 1294, .inl fi))] sz) := by
  refine Met.ofW (cc := cX10_writeInt) (maxL := 4) (ret := none) (by decide) rfl ?_
  intro p e s m args below meth c s₁ B hml hv
  obtain ⟨rfl, hsz, hP, hK, hD0, hN⟩ := hv
  have hx := B.exec
  have hb := B.bytes
  have hr := B.returns
  have hts := atoms_spec (ws := wp_k_wiI) B.pre
  have hown : s.vm.findClass RX10 = some m.cls := findClass_of_methodNamed B.named
  have hlocks := B.notSynchronized
  subst hsz
  have hD := hD0.self (sz := s.heap.size)
  generalize hAe : va_A [(og 1, .inl (cI, 1294, .inl fi))] s.heap.size = A at hD ⊢
  have hA : ∀ q : Nat, s.heap.size ≤ q → A q := fun q h => by rw [← hAe]; exact Or.inr h
  have hS : va_S A s.heap s.heap [] := va_S.rf
  have hP : va_P D vwCl [(og 1, .inl (cI, 1294, .inl fi))] s.heap := hP
  have hl := lv_entry ([.ref (og 1), .int (nI x), .int z3]) (n := 4) (Nat.le_of_ble_eq_true rfl)
  rw [lg_entry_eq]
  generalize (lg_sl ([.ref (og 1), .int (nI x), .int z3]) ++ List.replicate (4 - (lg_sl ([.ref (og 1), .int (nI x), .int z3])).length) Slot.unset).toArray = ls at hl ⊢
  have hl : lv_has ls 4 [(0, .ref (og 1)), (1, .int (nI x)), (2, .int z3)] := hl
  refine lv_iload_n hx hb dX10_writeInt_0 rfl (lv_at hl 1 rfl) ?_
  refine lv_if_lt (tgt := 12) hx hb dX10_writeInt_1 (by decide) (fun hc => absurd hc (Int32.not_lt.mpr (nI_pos' (by omega)))) (fun hc => ?_)
  refine lv_iload_n hx hb dX10_writeInt_4 rfl (lv_at hl 1 rfl) ?_
  refine lv_iconst (v := 4) hx hb dX10_writeInt_5 (by decide) ?_
  refine lv_iadd hx hb dX10_writeInt_6 ?_
  refine lv_topi (fun v1 ev1 => ?_)
  obtain rfl : v1 = nI (x + 4) := ev1.trans (nI_add _ 4)
  refine lv_aload_n hx hb dX10_writeInt_7 rfl (lv_at hl 0 rfl) ?_
  refine va_alen (v := 1294) hx hb hK hP 0 0 rfl rfl rfl dX10_writeInt_8 ?_
  refine lv_icmp_le (tgt := 13) hx hb dX10_writeInt_9 (by decide) (fun hc2 => ?_) (fun hc2 => ?_)
  ·
    have hfit : x + 4 ≤ 1294 := (nI_leI (b := 1294) (by omega) (by decide)).mp hc2
    refine lv_iconst (v := 0) hx hb dX10_writeInt_13 (by decide) ?_
    refine lv_istore_n (lv' := [(3, .int 0), (0, .ref (og 1)), (1, .int (nI x)), (2, .int z3)]) hx hb dX10_writeInt_14 rfl hl (by decide) rfl (fun ls hl => ?_)
    refine lv_iload_n hx hb dX10_writeInt_15 rfl (lv_at hl 0 rfl) ?_
    refine lv_iconst (v := 4) hx hb dX10_writeInt_16 (by decide) ?_
    refine lv_icmp_ge (tgt := 44) hx hb dX10_writeInt_17 (by decide) (fun hc => absurd hc (by decide)) (fun hc => ?_)
    refine lv_aload_n hx hb dX10_writeInt_20 rfl (lv_at hl 1 rfl) ?_
    refine lv_iload_n hx hb dX10_writeInt_21 rfl (lv_at hl 2 rfl) ?_
    refine lv_iload_n hx hb dX10_writeInt_22 rfl (lv_at hl 0 rfl) ?_
    refine lv_iadd hx hb dX10_writeInt_23 ?_
    refine lv_topi (fun v3 ev3 => ?_)
    obtain rfl : v3 = nI (x + 0) := ev3.trans (nI_add _ 0)
    refine lv_iload_n hx hb dX10_writeInt_24 rfl (lv_at hl 3 rfl) ?_
    refine lv_bipush (v := 24) hx hb dX10_writeInt_25 (by decide) ?_
    refine lv_bipush (v := 8) hx hb dX10_writeInt_27 (by decide) ?_
    refine lv_iload_n hx hb dX10_writeInt_29 rfl (lv_at hl 0 rfl) ?_
    refine lv_imul hx hb dX10_writeInt_30 ?_
    refine lv_topi (fun v4 ev4 => ?_)
    obtain rfl : v4 = 0 := ev4.trans (by decide)
    refine lv_isub hx hb dX10_writeInt_31 ?_
    refine lv_topi (fun v5 ev5 => ?_)
    obtain rfl : v5 = 24 := ev5.trans (by decide)
    refine lv_iushr hx hb dX10_writeInt_32 rfl ?_
    refine lv_topi (fun v6 ev6 => ?_)
    refine lv_sipush (v := 255) hx hb dX10_writeInt_33 (by decide) ?_
    refine lv_iand hx hb dX10_writeInt_36 ?_
    refine lv_topi (fun v7 ev7 => ?_)
    refine va_iast hx hb hK hP hD hS 0 0 rfl rfl (vp_in_nI (by omega) (by decide)) dX10_writeInt_37 (fun H locs hP hD hS => ?_)
    have hP : va_P D vwCl [(og 1, .inl (cI, 1294, .inl (upd fi (Int32.toNatClampNeg (nI (x + 0))) v7)))] H := hP
    have hD : va_D A [(og 1, .inl (cI, 1294, .inl (upd fi (Int32.toNatClampNeg (nI (x + 0))) v7)))] := hD
    generalize upd fi (Int32.toNatClampNeg (nI (x + 0))) v7 = g8 at hP hD
    refine lv_iinc (v := 1) (lv' := [(3, .int 1), (0, .ref (og 1)), (1, .int (nI x)), (2, .int z3)]) hx hb dX10_writeInt_38 hl (k := 0) rfl (by decide) (by decide) rfl (fun ls hl => ?_)
    refine lv_goto (tgt := 15) hx hb dX10_writeInt_41 (by decide) ?_
    refine lv_iload_n hx hb dX10_writeInt_15 rfl (lv_at hl 0 rfl) ?_
    refine lv_iconst (v := 4) hx hb dX10_writeInt_16 (by decide) ?_
    refine lv_icmp_ge (tgt := 44) hx hb dX10_writeInt_17 (by decide) (fun hc => absurd hc (by decide)) (fun hc => ?_)
    refine lv_aload_n hx hb dX10_writeInt_20 rfl (lv_at hl 1 rfl) ?_
    refine lv_iload_n hx hb dX10_writeInt_21 rfl (lv_at hl 2 rfl) ?_
    refine lv_iload_n hx hb dX10_writeInt_22 rfl (lv_at hl 0 rfl) ?_
    refine lv_iadd hx hb dX10_writeInt_23 ?_
    refine lv_topi (fun v9 ev9 => ?_)
    obtain rfl : v9 = nI (x + 1) := ev9.trans (nI_add _ 1)
    refine lv_iload_n hx hb dX10_writeInt_24 rfl (lv_at hl 3 rfl) ?_
    refine lv_bipush (v := 24) hx hb dX10_writeInt_25 (by decide) ?_
    refine lv_bipush (v := 8) hx hb dX10_writeInt_27 (by decide) ?_
    refine lv_iload_n hx hb dX10_writeInt_29 rfl (lv_at hl 0 rfl) ?_
    refine lv_imul hx hb dX10_writeInt_30 ?_
    refine lv_topi (fun v10 ev10 => ?_)
    obtain rfl : v10 = 8 := ev10.trans (by decide)
    refine lv_isub hx hb dX10_writeInt_31 ?_
    refine lv_topi (fun v11 ev11 => ?_)
    obtain rfl : v11 = 16 := ev11.trans (by decide)
    refine lv_iushr hx hb dX10_writeInt_32 rfl ?_
    refine lv_topi (fun v12 ev12 => ?_)
    refine lv_sipush (v := 255) hx hb dX10_writeInt_33 (by decide) ?_
    refine lv_iand hx hb dX10_writeInt_36 ?_
    refine lv_topi (fun v13 ev13 => ?_)
    refine va_iast hx hb hK hP hD hS 0 0 rfl rfl (vp_in_nI (by omega) (by decide)) dX10_writeInt_37 (fun H locs hP hD hS => ?_)
    have hP : va_P D vwCl [(og 1, .inl (cI, 1294, .inl (upd g8 (Int32.toNatClampNeg (nI (x + 1))) v13)))] H := hP
    have hD : va_D A [(og 1, .inl (cI, 1294, .inl (upd g8 (Int32.toNatClampNeg (nI (x + 1))) v13)))] := hD
    generalize upd g8 (Int32.toNatClampNeg (nI (x + 1))) v13 = g14 at hP hD
    refine lv_iinc (v := 2) (lv' := [(3, .int 2), (0, .ref (og 1)), (1, .int (nI x)), (2, .int z3)]) hx hb dX10_writeInt_38 hl (k := 0) rfl (by decide) (by decide) rfl (fun ls hl => ?_)
    refine lv_goto (tgt := 15) hx hb dX10_writeInt_41 (by decide) ?_
    refine lv_iload_n hx hb dX10_writeInt_15 rfl (lv_at hl 0 rfl) ?_
    refine lv_iconst (v := 4) hx hb dX10_writeInt_16 (by decide) ?_
    refine lv_icmp_ge (tgt := 44) hx hb dX10_writeInt_17 (by decide) (fun hc => absurd hc (by decide)) (fun hc => ?_)
    refine lv_aload_n hx hb dX10_writeInt_20 rfl (lv_at hl 1 rfl) ?_
    refine lv_iload_n hx hb dX10_writeInt_21 rfl (lv_at hl 2 rfl) ?_
    refine lv_iload_n hx hb dX10_writeInt_22 rfl (lv_at hl 0 rfl) ?_
    refine lv_iadd hx hb dX10_writeInt_23 ?_
    refine lv_topi (fun v15 ev15 => ?_)
    obtain rfl : v15 = nI (x + 2) := ev15.trans (nI_add _ 2)
    refine lv_iload_n hx hb dX10_writeInt_24 rfl (lv_at hl 3 rfl) ?_
    refine lv_bipush (v := 24) hx hb dX10_writeInt_25 (by decide) ?_
    refine lv_bipush (v := 8) hx hb dX10_writeInt_27 (by decide) ?_
    refine lv_iload_n hx hb dX10_writeInt_29 rfl (lv_at hl 0 rfl) ?_
    refine lv_imul hx hb dX10_writeInt_30 ?_
    refine lv_topi (fun v16 ev16 => ?_)
    obtain rfl : v16 = 16 := ev16.trans (by decide)
    refine lv_isub hx hb dX10_writeInt_31 ?_
    refine lv_topi (fun v17 ev17 => ?_)
    obtain rfl : v17 = 8 := ev17.trans (by decide)
    refine lv_iushr hx hb dX10_writeInt_32 rfl ?_
    refine lv_topi (fun v18 ev18 => ?_)
    refine lv_sipush (v := 255) hx hb dX10_writeInt_33 (by decide) ?_
    refine lv_iand hx hb dX10_writeInt_36 ?_
    refine lv_topi (fun v19 ev19 => ?_)
    refine va_iast hx hb hK hP hD hS 0 0 rfl rfl (vp_in_nI (by omega) (by decide)) dX10_writeInt_37 (fun H locs hP hD hS => ?_)
    have hP : va_P D vwCl [(og 1, .inl (cI, 1294, .inl (upd g14 (Int32.toNatClampNeg (nI (x + 2))) v19)))] H := hP
    have hD : va_D A [(og 1, .inl (cI, 1294, .inl (upd g14 (Int32.toNatClampNeg (nI (x + 2))) v19)))] := hD
    generalize upd g14 (Int32.toNatClampNeg (nI (x + 2))) v19 = g20 at hP hD
    refine lv_iinc (v := 3) (lv' := [(3, .int 3), (0, .ref (og 1)), (1, .int (nI x)), (2, .int z3)]) hx hb dX10_writeInt_38 hl (k := 0) rfl (by decide) (by decide) rfl (fun ls hl => ?_)
    refine lv_goto (tgt := 15) hx hb dX10_writeInt_41 (by decide) ?_
    refine lv_iload_n hx hb dX10_writeInt_15 rfl (lv_at hl 0 rfl) ?_
    refine lv_iconst (v := 4) hx hb dX10_writeInt_16 (by decide) ?_
    refine lv_icmp_ge (tgt := 44) hx hb dX10_writeInt_17 (by decide) (fun hc => absurd hc (by decide)) (fun hc => ?_)
    refine lv_aload_n hx hb dX10_writeInt_20 rfl (lv_at hl 1 rfl) ?_
    refine lv_iload_n hx hb dX10_writeInt_21 rfl (lv_at hl 2 rfl) ?_
    refine lv_iload_n hx hb dX10_writeInt_22 rfl (lv_at hl 0 rfl) ?_
    refine lv_iadd hx hb dX10_writeInt_23 ?_
    refine lv_topi (fun v21 ev21 => ?_)
    obtain rfl : v21 = nI (x + 3) := ev21.trans (nI_add _ 3)
    refine lv_iload_n hx hb dX10_writeInt_24 rfl (lv_at hl 3 rfl) ?_
    refine lv_bipush (v := 24) hx hb dX10_writeInt_25 (by decide) ?_
    refine lv_bipush (v := 8) hx hb dX10_writeInt_27 (by decide) ?_
    refine lv_iload_n hx hb dX10_writeInt_29 rfl (lv_at hl 0 rfl) ?_
    refine lv_imul hx hb dX10_writeInt_30 ?_
    refine lv_topi (fun v22 ev22 => ?_)
    obtain rfl : v22 = 24 := ev22.trans (by decide)
    refine lv_isub hx hb dX10_writeInt_31 ?_
    refine lv_topi (fun v23 ev23 => ?_)
    obtain rfl : v23 = 0 := ev23.trans (by decide)
    refine lv_iushr hx hb dX10_writeInt_32 rfl ?_
    refine lv_topi (fun v24 ev24 => ?_)
    refine lv_sipush (v := 255) hx hb dX10_writeInt_33 (by decide) ?_
    refine lv_iand hx hb dX10_writeInt_36 ?_
    refine lv_topi (fun v25 ev25 => ?_)
    refine va_iast hx hb hK hP hD hS 0 0 rfl rfl (vp_in_nI (by omega) (by decide)) dX10_writeInt_37 (fun H locs hP hD hS => ?_)
    have hP : va_P D vwCl [(og 1, .inl (cI, 1294, .inl (upd g20 (Int32.toNatClampNeg (nI (x + 3))) v25)))] H := hP
    have hD : va_D A [(og 1, .inl (cI, 1294, .inl (upd g20 (Int32.toNatClampNeg (nI (x + 3))) v25)))] := hD
    generalize upd g20 (Int32.toNatClampNeg (nI (x + 3))) v25 = g26 at hP hD
    refine lv_iinc (v := 4) (lv' := [(3, .int 4), (0, .ref (og 1)), (1, .int (nI x)), (2, .int z3)]) hx hb dX10_writeInt_38 hl (k := 0) rfl (by decide) (by decide) rfl (fun ls hl => ?_)
    refine lv_goto (tgt := 15) hx hb dX10_writeInt_41 (by decide) ?_
    refine lv_iload_n hx hb dX10_writeInt_15 rfl (lv_at hl 0 rfl) ?_
    refine lv_iconst (v := 4) hx hb dX10_writeInt_16 (by decide) ?_
    refine lv_icmp_ge (tgt := 44) hx hb dX10_writeInt_17 (by decide) (fun hc => ?_) (fun hc => absurd (by decide) hc)
    exact W.vret hx hb hr (fun t ht hW => ⟨⟨g26, rfl, trivial, by rw [ht]; exact hP.sub [0] rfl, va_K.moved hW.alike (hK.sub [0] rfl), hD.sub [0] (by decide) rfl⟩, hS.F ht⟩) hS.2.2 dX10_writeInt_44
  ·
    exact W.vret hx hb hr (fun t ht hW => ⟨⟨fi, rfl, trivial, by rw [ht]; exact hP.sub [0] rfl, va_K.moved hW.alike (hK.sub [0] rfl), hD.sub [0] (by decide) rfl⟩, hS.F ht⟩) hS.2.2 dX10_writeInt_12

def own_k_readInt : List Cond := []
def wp_k_readInt : List Cond := .code yX10_readInt cX10_readInt 4 (some .int) :: (own_k_readInt ++ ([] : List Cond))
set_option maxRecDepth 20000 in
theorem inown_k_readInt : ∀ w ∈ own_k_readInt, w ∈ lw_tbl := mem_places [] (by decide +kernel)
set_option maxRecDepth 20000 in
theorem in_k_readInt : ∀ w ∈ wp_k_readInt, w ∈ lw_tbl := List.forall_mem_cons.mpr ⟨List.mem_of_getElem? (i := 1174) (by decide +kernel), List.forall_mem_append.mpr ⟨inown_k_readInt, fun _ h => absurd h List.not_mem_nil⟩⟩
set_option maxRecDepth 20000 in
theorem good_k_readInt : wp_k_readInt.all goodWord = true := by decide +kernel
set_option maxHeartbeats 4000000 in
set_option maxRecDepth 100000 in
theorem k_readInt (l : Launch) (D : va_G) (sz : Nat) (ox : Nat → Nat) (cI : ClassId) (fT : Nat → Int32) (x : Nat) (hx9 : x + 4 ≤ 1400) : Met l yX10_readInt wp_k_readInt ({ frames := 0, cells := 0, slots := 0, locals := 0 }) (PcRC D [.ref (ox 2), .int (nI x)] sz [(ox 2, .inl (cI, 1400, .inl fT))] [(cI, .int)]) (va_Qi (fun (r : Int32) (u : Unit) => r = rdI fT x) (fun (_ : Unit) _ => True) (va_A [] sz)) 0 0 (va_A [] sz) := by
  refine Met.ofW (cc := cX10_readInt) (maxL := 4) (ret := (some .int)) (by decide) rfl ?_
  intro p e s m args below meth c s₁ B hml hv
  obtain ⟨rfl, hsz, hP, hK, hN⟩ := hv
  have hx := B.exec
  have hb := B.bytes
  have hr := B.returns
  have hts := atoms_spec (ws := wp_k_readInt) B.pre
  have hown : s.vm.findClass RX10 = some m.cls := findClass_of_methodNamed B.named
  have hlocks := B.notSynchronized
  subst hsz
  generalize hAe : va_A [] s.heap.size = A at ⊢
  have hA : ∀ q : Nat, s.heap.size ≤ q → A q := fun q h => by rw [← hAe]; exact Or.inr h
  have hS : va_S A s.heap s.heap [] := va_S.rf
  have hP : va_P D vwCl [(ox 2, .inl (cI, 1400, .inl fT))] s.heap := hP
  have hl := lv_entry ([.ref (ox 2), .int (nI x)]) (n := 4) (Nat.le_of_ble_eq_true rfl)
  rw [lg_entry_eq]
  generalize (lg_sl ([.ref (ox 2), .int (nI x)]) ++ List.replicate (4 - (lg_sl ([.ref (ox 2), .int (nI x)])).length) Slot.unset).toArray = ls at hl ⊢
  have hl : lv_has ls 4 [(0, .ref (ox 2)), (1, .int (nI x))] := hl
  refine lv_iload_n hx hb dX10_readInt_0 rfl (lv_at hl 1 rfl) ?_
  refine lv_if_lt (tgt := 12) hx hb dX10_readInt_1 (by decide) (fun hc => absurd hc (Int32.not_lt.mpr (nI_pos' (by omega)))) (fun hc => ?_)
  refine lv_iload_n hx hb dX10_readInt_4 rfl (lv_at hl 1 rfl) ?_
  refine lv_iconst (v := 4) hx hb dX10_readInt_5 (by decide) ?_
  refine lv_iadd hx hb dX10_readInt_6 ?_
  refine lv_topi (fun v1 ev1 => ?_)
  obtain rfl : v1 = nI (x + 4) := ev1.trans (nI_add _ 4)
  refine lv_aload_n hx hb dX10_readInt_7 rfl (lv_at hl 0 rfl) ?_
  refine va_alen (v := 1400) hx hb hK hP 0 0 rfl rfl rfl dX10_readInt_8 ?_
  refine lv_icmp_le (tgt := 14) hx hb dX10_readInt_9 (by decide) (fun hc => ?_) (fun hc => absurd (nI_le (b := 1400) hx9 (by decide)) hc)
  refine lv_iconst (v := 0) hx hb dX10_readInt_14 (by decide) ?_
  refine lv_istore_n (lv' := [(2, .int 0), (0, .ref (ox 2)), (1, .int (nI x))]) hx hb dX10_readInt_15 rfl hl (by decide) rfl (fun ls hl => ?_)
  refine lv_iconst (v := 0) hx hb dX10_readInt_16 (by decide) ?_
  refine lv_istore_n (lv' := [(3, .int 0), (2, .int 0), (0, .ref (ox 2)), (1, .int (nI x))]) hx hb dX10_readInt_17 rfl hl (by decide) rfl (fun ls hl => ?_)
  refine lv_iload_n hx hb dX10_readInt_18 rfl (lv_at hl 0 rfl) ?_
  refine lv_iconst (v := 4) hx hb dX10_readInt_19 (by decide) ?_
  refine lv_icmp_ge (tgt := 40) hx hb dX10_readInt_20 (by decide) (fun hc => absurd hc (by decide)) (fun hc => ?_)
  refine lv_iload_n hx hb dX10_readInt_23 rfl (lv_at hl 1 rfl) ?_
  refine lv_bipush (v := 8) hx hb dX10_readInt_24 (by decide) ?_
  refine lv_ishl hx hb dX10_readInt_26 ?_
  refine lv_topi (fun v2 ev2 => ?_)
  obtain rfl : v2 = 0 := ev2.trans (by decide)
  refine lv_aload_n hx hb dX10_readInt_27 rfl (lv_at hl 2 rfl) ?_
  refine lv_iload_n hx hb dX10_readInt_28 rfl (lv_at hl 3 rfl) ?_
  refine lv_iload_n hx hb dX10_readInt_29 rfl (lv_at hl 0 rfl) ?_
  refine lv_iadd hx hb dX10_readInt_30 ?_
  refine lv_topi (fun v3 ev3 => ?_)
  obtain rfl : v3 = nI (x + 0) := ev3.trans (nI_add _ 0)
  refine va_iald hx hb hK hP 0 0 rfl rfl (vp_in_nI (by omega) (by decide)) dX10_readInt_31 ?_
  refine lv_ior hx hb dX10_readInt_32 ?_
  refine lv_istore_n (lv' := [(2, .int (0 ||| (fT (Int32.toNatClampNeg (nI (x + 0)))))), (3, .int 0), (0, .ref (ox 2)), (1, .int (nI x))]) hx hb dX10_readInt_33 rfl hl (by decide) rfl (fun ls hl => ?_)
  refine lv_iinc (v := 1) (lv' := [(3, .int 1), (2, .int (0 ||| (fT (Int32.toNatClampNeg (nI (x + 0)))))), (0, .ref (ox 2)), (1, .int (nI x))]) hx hb dX10_readInt_34 hl (k := 1) rfl (by decide) (by decide) rfl (fun ls hl => ?_)
  refine lv_goto (tgt := 18) hx hb dX10_readInt_37 (by decide) ?_
  refine lv_iload_n hx hb dX10_readInt_18 rfl (lv_at hl 0 rfl) ?_
  refine lv_iconst (v := 4) hx hb dX10_readInt_19 (by decide) ?_
  refine lv_icmp_ge (tgt := 40) hx hb dX10_readInt_20 (by decide) (fun hc => absurd hc (by decide)) (fun hc => ?_)
  refine lv_iload_n hx hb dX10_readInt_23 rfl (lv_at hl 1 rfl) ?_
  refine lv_bipush (v := 8) hx hb dX10_readInt_24 (by decide) ?_
  refine lv_ishl hx hb dX10_readInt_26 ?_
  refine lv_aload_n hx hb dX10_readInt_27 rfl (lv_at hl 2 rfl) ?_
  refine lv_iload_n hx hb dX10_readInt_28 rfl (lv_at hl 3 rfl) ?_
  refine lv_iload_n hx hb dX10_readInt_29 rfl (lv_at hl 0 rfl) ?_
  refine lv_iadd hx hb dX10_readInt_30 ?_
  refine lv_topi (fun v4 ev4 => ?_)
  obtain rfl : v4 = nI (x + 1) := ev4.trans (nI_add _ 1)
  refine va_iald hx hb hK hP 0 0 rfl rfl (vp_in_nI (by omega) (by decide)) dX10_readInt_31 ?_
  refine lv_ior hx hb dX10_readInt_32 ?_
  refine lv_istore_n (lv' := [(2, .int (((0 ||| (fT (Int32.toNatClampNeg (nI (x + 0))))) <<< (8 &&& 31)) ||| (fT (Int32.toNatClampNeg (nI (x + 1)))))), (3, .int 1), (0, .ref (ox 2)), (1, .int (nI x))]) hx hb dX10_readInt_33 rfl hl (by decide) rfl (fun ls hl => ?_)
  refine lv_iinc (v := 2) (lv' := [(3, .int 2), (2, .int (((0 ||| (fT (Int32.toNatClampNeg (nI (x + 0))))) <<< (8 &&& 31)) ||| (fT (Int32.toNatClampNeg (nI (x + 1)))))), (0, .ref (ox 2)), (1, .int (nI x))]) hx hb dX10_readInt_34 hl (k := 1) rfl (by decide) (by decide) rfl (fun ls hl => ?_)
  refine lv_goto (tgt := 18) hx hb dX10_readInt_37 (by decide) ?_
  refine lv_iload_n hx hb dX10_readInt_18 rfl (lv_at hl 0 rfl) ?_
  refine lv_iconst (v := 4) hx hb dX10_readInt_19 (by decide) ?_
  refine lv_icmp_ge (tgt := 40) hx hb dX10_readInt_20 (by decide) (fun hc => absurd hc (by decide)) (fun hc => ?_)
  refine lv_iload_n hx hb dX10_readInt_23 rfl (lv_at hl 1 rfl) ?_
  refine lv_bipush (v := 8) hx hb dX10_readInt_24 (by decide) ?_
  refine lv_ishl hx hb dX10_readInt_26 ?_
  refine lv_aload_n hx hb dX10_readInt_27 rfl (lv_at hl 2 rfl) ?_
  refine lv_iload_n hx hb dX10_readInt_28 rfl (lv_at hl 3 rfl) ?_
  refine lv_iload_n hx hb dX10_readInt_29 rfl (lv_at hl 0 rfl) ?_
  refine lv_iadd hx hb dX10_readInt_30 ?_
  refine lv_topi (fun v5 ev5 => ?_)
  obtain rfl : v5 = nI (x + 2) := ev5.trans (nI_add _ 2)
  refine va_iald hx hb hK hP 0 0 rfl rfl (vp_in_nI (by omega) (by decide)) dX10_readInt_31 ?_
  refine lv_ior hx hb dX10_readInt_32 ?_
  refine lv_istore_n (lv' := [(2, .int (((((0 ||| (fT (Int32.toNatClampNeg (nI (x + 0))))) <<< (8 &&& 31)) ||| (fT (Int32.toNatClampNeg (nI (x + 1))))) <<< (8 &&& 31)) ||| (fT (Int32.toNatClampNeg (nI (x + 2)))))), (3, .int 2), (0, .ref (ox 2)), (1, .int (nI x))]) hx hb dX10_readInt_33 rfl hl (by decide) rfl (fun ls hl => ?_)
  refine lv_iinc (v := 3) (lv' := [(3, .int 3), (2, .int (((((0 ||| (fT (Int32.toNatClampNeg (nI (x + 0))))) <<< (8 &&& 31)) ||| (fT (Int32.toNatClampNeg (nI (x + 1))))) <<< (8 &&& 31)) ||| (fT (Int32.toNatClampNeg (nI (x + 2)))))), (0, .ref (ox 2)), (1, .int (nI x))]) hx hb dX10_readInt_34 hl (k := 1) rfl (by decide) (by decide) rfl (fun ls hl => ?_)
  refine lv_goto (tgt := 18) hx hb dX10_readInt_37 (by decide) ?_
  refine lv_iload_n hx hb dX10_readInt_18 rfl (lv_at hl 0 rfl) ?_
  refine lv_iconst (v := 4) hx hb dX10_readInt_19 (by decide) ?_
  refine lv_icmp_ge (tgt := 40) hx hb dX10_readInt_20 (by decide) (fun hc => absurd hc (by decide)) (fun hc => ?_)
  refine lv_iload_n hx hb dX10_readInt_23 rfl (lv_at hl 1 rfl) ?_
  refine lv_bipush (v := 8) hx hb dX10_readInt_24 (by decide) ?_
  refine lv_ishl hx hb dX10_readInt_26 ?_
  refine lv_aload_n hx hb dX10_readInt_27 rfl (lv_at hl 2 rfl) ?_
  refine lv_iload_n hx hb dX10_readInt_28 rfl (lv_at hl 3 rfl) ?_
  refine lv_iload_n hx hb dX10_readInt_29 rfl (lv_at hl 0 rfl) ?_
  refine lv_iadd hx hb dX10_readInt_30 ?_
  refine lv_topi (fun v6 ev6 => ?_)
  obtain rfl : v6 = nI (x + 3) := ev6.trans (nI_add _ 3)
  refine va_iald hx hb hK hP 0 0 rfl rfl (vp_in_nI (by omega) (by decide)) dX10_readInt_31 ?_
  refine lv_ior hx hb dX10_readInt_32 ?_
  refine lv_istore_n (lv' := [(2, .int (((((((0 ||| (fT (Int32.toNatClampNeg (nI (x + 0))))) <<< (8 &&& 31)) ||| (fT (Int32.toNatClampNeg (nI (x + 1))))) <<< (8 &&& 31)) ||| (fT (Int32.toNatClampNeg (nI (x + 2))))) <<< (8 &&& 31)) ||| (fT (Int32.toNatClampNeg (nI (x + 3)))))), (3, .int 3), (0, .ref (ox 2)), (1, .int (nI x))]) hx hb dX10_readInt_33 rfl hl (by decide) rfl (fun ls hl => ?_)
  refine lv_iinc (v := 4) (lv' := [(3, .int 4), (2, .int (((((((0 ||| (fT (Int32.toNatClampNeg (nI (x + 0))))) <<< (8 &&& 31)) ||| (fT (Int32.toNatClampNeg (nI (x + 1))))) <<< (8 &&& 31)) ||| (fT (Int32.toNatClampNeg (nI (x + 2))))) <<< (8 &&& 31)) ||| (fT (Int32.toNatClampNeg (nI (x + 3)))))), (0, .ref (ox 2)), (1, .int (nI x))]) hx hb dX10_readInt_34 hl (k := 1) rfl (by decide) (by decide) rfl (fun ls hl => ?_)
  refine lv_goto (tgt := 18) hx hb dX10_readInt_37 (by decide) ?_
  refine lv_iload_n hx hb dX10_readInt_18 rfl (lv_at hl 0 rfl) ?_
  refine lv_iconst (v := 4) hx hb dX10_readInt_19 (by decide) ?_
  refine lv_icmp_ge (tgt := 40) hx hb dX10_readInt_20 (by decide) (fun hc => ?_) (fun hc => absurd (by decide) hc)
  refine lv_iload_n hx hb dX10_readInt_40 rfl (lv_at hl 1 rfl) ?_
  exact W.iret (v := ((((((0 ||| (fT (Int32.toNatClampNeg (nI (x + 0))))) <<< (8 &&& 31)) ||| (fT (Int32.toNatClampNeg (nI (x + 1))))) <<< (8 &&& 31)) ||| (fT (Int32.toNatClampNeg (nI (x + 2))))) <<< (8 &&& 31)) ||| (fT (Int32.toNatClampNeg (nI (x + 3))))) hx hb hr (fun t ht hW => ⟨⟨((((((0 ||| (fT (Int32.toNatClampNeg (nI (x + 0))))) <<< (8 &&& 31)) ||| (fT (Int32.toNatClampNeg (nI (x + 1))))) <<< (8 &&& 31)) ||| (fT (Int32.toNatClampNeg (nI (x + 2))))) <<< (8 &&& 31)) ||| (fT (Int32.toNatClampNeg (nI (x + 3)))), (), rfl, by rw [nI_clamp (n := x + 0) (by omega), nI_clamp (n := x + 1) (by omega), nI_clamp (n := x + 2) (by omega), nI_clamp (n := x + 3) (by omega)]; rfl, trivial⟩, hS.F ht⟩) hS.2.2 dX10_readInt_41

def own_k_readLong : List Cond := [.methodLink RX10 334 yX10_readInt, .static yX10_readInt, .initialized RX10, .constantLong RX10 355 (4294967295)]
def wp_k_readLong : List Cond := .code yX10_readLong cX10_readLong 2 (some .long) :: (own_k_readLong ++ (wp_k_readInt ++ ([] : List Cond)))
set_option maxRecDepth 20000 in
theorem inown_k_readLong : ∀ w ∈ own_k_readLong, w ∈ lw_tbl := mem_places [1172, 1173, 106, 1179] (by decide +kernel)
set_option maxRecDepth 20000 in
theorem in_k_readLong : ∀ w ∈ wp_k_readLong, w ∈ lw_tbl := List.forall_mem_cons.mpr ⟨List.mem_of_getElem? (i := 1178) (by decide +kernel), List.forall_mem_append.mpr ⟨inown_k_readLong, List.forall_mem_append.mpr ⟨in_k_readInt, fun _ h => absurd h List.not_mem_nil⟩⟩⟩
set_option maxRecDepth 20000 in
theorem good_k_readLong : wp_k_readLong.all goodWord = true := by decide +kernel
set_option maxRecDepth 20000 in
theorem g_k_readLong_k_readInt_334 : GoodIn wp_k_readLong (va_wsS RX10 334 yX10_readInt wp_k_readInt) := goodIn_sub (List.forall_mem_append.mpr ⟨List.forall_mem_cons.mpr ⟨(List.mem_of_getElem? (i := 1) rfl), List.forall_mem_cons.mpr ⟨(List.mem_of_getElem? (i := 2) rfl), List.forall_mem_cons.mpr ⟨(List.mem_of_getElem? (i := 3) rfl), fun _ h => absurd h List.not_mem_nil⟩⟩⟩, (fun _ h => (List.mem_cons_of_mem _ (List.mem_append_right _ (List.mem_append_left _ h))))⟩) (by decide +kernel)
set_option maxHeartbeats 4000000 in
set_option maxRecDepth 100000 in
theorem k_readLong (l : Launch) (D : va_G) (sz : Nat) (ox : Nat → Nat) (cI : ClassId) (fT : Nat → Int32) (x : Nat) (hx9 : x + 8 ≤ 1400) : Met l yX10_readLong wp_k_readLong ({ frames := 1, cells := 0, slots := 0, locals := 23 }) (PcRC D [.ref (ox 2), .int (nI x)] sz [(ox 2, .inl (cI, 1400, .inl fT))] [(cI, .int)]) (va_Ql (fun (r : Int64) (u : Unit) => True) (fun (_ : Unit) _ => True) (va_A [] sz)) 0 0 (va_A [] sz) := by
  refine Met.ofW (cc := cX10_readLong) (maxL := 2) (ret := (some .long)) (by decide) rfl ?_
  intro p e s m args below meth c s₁ B hml hv
  obtain ⟨rfl, hsz, hP, hK, hN⟩ := hv
  have hx := B.exec
  have hb := B.bytes
  have hr := B.returns
  have hts := atoms_spec (ws := wp_k_readLong) B.pre
  have hown : s.vm.findClass RX10 = some m.cls := findClass_of_methodNamed B.named
  have hlocks := B.notSynchronized
  subst hsz
  generalize hAe : va_A [] s.heap.size = A at ⊢
  have hA : ∀ q : Nat, s.heap.size ≤ q → A q := fun q h => by rw [← hAe]; exact Or.inr h
  have hS : va_S A s.heap s.heap [] := va_S.rf
  have hP : va_P D vwCl [(ox 2, .inl (cI, 1400, .inl fT))] s.heap := hP
  have hl := lv_entry ([.ref (ox 2), .int (nI x)]) (n := 2) (Nat.le_of_ble_eq_true rfl)
  rw [lg_entry_eq]
  generalize (lg_sl ([.ref (ox 2), .int (nI x)]) ++ List.replicate (2 - (lg_sl ([.ref (ox 2), .int (nI x)])).length) Slot.unset).toArray = ls at hl ⊢
  have hl : lv_has ls 2 [(0, .ref (ox 2)), (1, .int (nI x))] := hl
  refine lv_aload_n hx hb dX10_readLong_0 rfl (lv_at hl 0 rfl) ?_
  refine lv_iload_n hx hb dX10_readLong_1 rfl (lv_at hl 1 rfl) ?_
  have hPc := hP.sub (ws' := [(ox 2, .inl (cI, 1400, .inl fT))]) [0] rfl
  have hKc := hK.sub (tys' := [(cI, .int)]) [0] rfl
  have hFc := va_free0 hS hA
  refine va_calli (va_runS (As := [.ref (ox 2), .int (nI x)]) (rest := []) ⟨hx, hb, hml, hown, hts⟩ (k_readInt l D _ ox cI fT x (by first | assumption | omega)) (va_cwS 2 hts g_k_readLong_k_readInt_334 rfl rfl rfl (by decide +kernel) ⟨(Nat.le_of_ble_eq_true rfl), (Nat.le_of_ble_eq_true rfl)⟩) (PcRC_S hPc hKc hN) rfl rfl hl.1 rfl (lv_room (Nat.le_of_ble_eq_true rfl)) dX10_readLong_2 ⟨(Nat.le_of_ble_eq_true rfl), (Nat.le_of_ble_eq_true rfl)⟩) hS (fun q _ h => hFc q h) hFc (fun r1 uu tt H locs htt hvm hw hB hz1 hk1 hS => ?_)
  have hP := va_keep hP hk1
  try dsimp only at hw
  clear hB hz1 hk1 hFc hPc hKc
  have ev_r1 := hw
  refine lv_i2l hx hb dX10_readLong_5 rfl ?_
  refine lv_bipush (v := 32) hx hb dX10_readLong_6 (by decide) ?_
  refine lv_lshl hx hb dX10_readLong_8 rfl ?_
  refine lv_topl (fun v2 ev2 => ?_)
  refine lv_aload_n hx hb dX10_readLong_9 rfl (lv_at hl 0 rfl) ?_
  refine lv_iload_n hx hb dX10_readLong_10 rfl (lv_at hl 1 rfl) ?_
  refine lv_iconst (v := 4) hx hb dX10_readLong_11 (by decide) ?_
  refine lv_iadd hx hb dX10_readLong_12 ?_
  refine lv_topi (fun v3 ev3 => ?_)
  obtain rfl : v3 = nI (x + 4) := ev3.trans (nI_add _ 4)
  have hPc := hP.sub (ws' := [(ox 2, .inl (cI, 1400, .inl fT))]) [0] rfl
  have hKc := hK.sub (tys' := [(cI, .int)]) [0] rfl
  have hFc := va_free0 hS hA
  refine va_calli (va_runS (As := [.ref (ox 2), .int (nI (x + 4))]) (rest := [.long v2]) ⟨hx, hb, hml, hown, hts⟩ (k_readInt l D _ ox cI fT (x + 4) (by first | assumption | omega)) (va_cwS 2 hts g_k_readLong_k_readInt_334 rfl rfl rfl (by decide +kernel) ⟨(Nat.le_of_ble_eq_true rfl), (Nat.le_of_ble_eq_true rfl)⟩) (PcRC_S hPc hKc hN) rfl rfl hl.1 rfl (lv_room (Nat.le_of_ble_eq_true rfl)) dX10_readLong_13 ⟨(Nat.le_of_ble_eq_true rfl), (Nat.le_of_ble_eq_true rfl)⟩) hS (fun q _ h => hFc q h) hFc (fun r4 uu tt H locs htt hvm hw hB hz1 hk1 hS => ?_)
  have hP := va_keep hP hk1
  try dsimp only at hw
  clear hB hz1 hk1 hFc hPc hKc
  have ev_r4 := hw
  refine lv_i2l hx hb dX10_readLong_16 rfl ?_
  refine lv_ldc2 (v := 4294967295) hx hb hown (hts (.constantLong RX10 355 (4294967295)) (List.mem_of_getElem? (i := 4) rfl)) dX10_readLong_17 ?_
  refine lv_land hx hb dX10_readLong_20 ?_
  refine lv_topl (fun v5 ev5 => ?_)
  refine lv_lor hx hb dX10_readLong_21 ?_
  refine lv_topl (fun v6 ev6 => ?_)
  exact W.lret (v := v6) hx hb hr (fun t ht hW => ⟨⟨v6, (), rfl, trivial, trivial⟩, hS.F ht⟩) hS.2.2 dX10_readLong_22

def own_k_spreadOf : List Cond := []
def wp_k_spreadOf : List Cond := .code yX10_spreadOf cX10_spreadOf 1 (some .int) :: (own_k_spreadOf ++ ([] : List Cond))
set_option maxRecDepth 20000 in
theorem inown_k_spreadOf : ∀ w ∈ own_k_spreadOf, w ∈ lw_tbl := mem_places [] (by decide +kernel)
set_option maxRecDepth 20000 in
theorem in_k_spreadOf : ∀ w ∈ wp_k_spreadOf, w ∈ lw_tbl := List.forall_mem_cons.mpr ⟨List.mem_of_getElem? (i := 1171) (by decide +kernel), List.forall_mem_append.mpr ⟨inown_k_spreadOf, fun _ h => absurd h List.not_mem_nil⟩⟩
set_option maxRecDepth 20000 in
theorem good_k_spreadOf : wp_k_spreadOf.all goodWord = true := by decide +kernel
set_option maxHeartbeats 4000000 in
set_option maxRecDepth 100000 in
theorem k_spreadOf (l : Launch) (D : va_G) (sz : Nat) (ox : Nat → Nat) (cI : ClassId) (fT : Nat → Int32)  : Met l yX10_spreadOf wp_k_spreadOf ({ frames := 0, cells := 0, slots := 0, locals := 0 }) (PcRC D [.ref (ox 2)] sz [(ox 2, .inl (cI, 1400, .inl fT))] [(cI, .int)]) (va_Qi (fun (r : Int32) (u : Unit) => r = spI fT) (fun (_ : Unit) _ => True) (va_A [] sz)) 0 0 (va_A [] sz) := by
  refine Met.ofW (cc := cX10_spreadOf) (maxL := 1) (ret := (some .int)) (by decide) rfl ?_
  intro p e s m args below meth c s₁ B hml hv
  obtain ⟨rfl, hsz, hP, hK, hN⟩ := hv
  have hx := B.exec
  have hb := B.bytes
  have hr := B.returns
  have hts := atoms_spec (ws := wp_k_spreadOf) B.pre
  have hown : s.vm.findClass RX10 = some m.cls := findClass_of_methodNamed B.named
  have hlocks := B.notSynchronized
  subst hsz
  generalize hAe : va_A [] s.heap.size = A at ⊢
  have hA : ∀ q : Nat, s.heap.size ≤ q → A q := fun q h => by rw [← hAe]; exact Or.inr h
  have hS : va_S A s.heap s.heap [] := va_S.rf
  have hP : va_P D vwCl [(ox 2, .inl (cI, 1400, .inl fT))] s.heap := hP
  have hl := lv_entry ([.ref (ox 2)]) (n := 1) (Nat.le_of_ble_eq_true rfl)
  rw [lg_entry_eq]
  generalize (lg_sl ([.ref (ox 2)]) ++ List.replicate (1 - (lg_sl ([.ref (ox 2)])).length) Slot.unset).toArray = ls at hl ⊢
  have hl : lv_has ls 1 [(0, .ref (ox 2))] := hl
  refine lv_aload_n hx hb dX10_spreadOf_0 rfl (lv_at hl 0 rfl) ?_
  refine lv_iconst (v := 1) hx hb dX10_spreadOf_1 (by decide) ?_
  refine va_iald hx hb hK hP 0 0 rfl rfl (show ¬ ((1 : Int32) < 0 ∨ 1400 ≤ Int32.toNatClampNeg 1) by decide) dX10_spreadOf_2 ?_
  refine lv_topi (fun v1 ev1 => ?_)
  obtain rfl : v1 = fT 1 := ev1.trans (rfl)
  refine lv_bipush (v := 8) hx hb dX10_spreadOf_3 (by decide) ?_
  refine lv_ishl hx hb dX10_spreadOf_5 ?_
  refine lv_aload_n hx hb dX10_spreadOf_6 rfl (lv_at hl 0 rfl) ?_
  refine lv_iconst (v := 2) hx hb dX10_spreadOf_7 (by decide) ?_
  refine va_iald hx hb hK hP 0 0 rfl rfl (show ¬ ((2 : Int32) < 0 ∨ 1400 ≤ Int32.toNatClampNeg 2) by decide) dX10_spreadOf_8 ?_
  refine lv_topi (fun v2 ev2 => ?_)
  obtain rfl : v2 = fT 2 := ev2.trans (rfl)
  refine lv_ior hx hb dX10_spreadOf_9 ?_
  refine lv_topi (fun v3 ev3 => ?_)
  obtain rfl : v3 = spI fT := ev3.trans (rfl)
  exact W.iret (v := spI fT) hx hb hr (fun t ht hW => ⟨⟨spI fT, (), rfl, rfl, trivial⟩, hS.F ht⟩) hS.2.2 dX10_spreadOf_10

def own_k_ckT : List Cond := []
def wp_k_ckT : List Cond := .code yX10_checkOf cX10_checkOf 4 (some .int) :: (own_k_ckT ++ ([] : List Cond))
set_option maxRecDepth 20000 in
theorem inown_k_ckT : ∀ w ∈ own_k_ckT, w ∈ lw_tbl := mem_places [] (by decide +kernel)
set_option maxRecDepth 20000 in
theorem in_k_ckT : ∀ w ∈ wp_k_ckT, w ∈ lw_tbl := List.forall_mem_cons.mpr ⟨List.mem_of_getElem? (i := 1157) (by decide +kernel), List.forall_mem_append.mpr ⟨inown_k_ckT, fun _ h => absurd h List.not_mem_nil⟩⟩
set_option maxRecDepth 20000 in
theorem good_k_ckT : wp_k_ckT.all goodWord = true := by decide +kernel
set_option maxHeartbeats 4000000 in
set_option maxRecDepth 100000 in
theorem lk_k_ckT (l : Launch) {p : Program} {e : Env} {s : State} {m : MethodId} {args : Array Value} {below : List Frame} {meth : Method} {c : Code} {Q : State → Prop} {A : Nat → Prop} (D : va_G) (ox : Nat → Nat) (cI : ClassId) (fT : Nat → Int32) (x : Nat) (bt : Nat → Nat) (hx9 : x ≤ 1400) (hbt : TieC fT bt) (hx : p.tables.exec = Jvm.exec) (hb : c.code = cX10_checkOf) (hml : c.maxLocals = 4) (hown : s.vm.findClass RX10 = some m.cls) (hts : ∀ w ∈ wp_k_ckT, w.before args s = true) (hA : ∀ q, s.heap.size ≤ q → A q) (hK : va_K D vwCl [(cI, .int)] s) (hN : NC s) (kx34 : ∀ (y : Nat), (y ≤ x) → (x ≤ y) → ∀ (H : Heap) (locs : List Loc) (ls : Array Slot), va_P D vwCl [(ox 2, .inl (cI, 1400, .inl fT))] H → va_S A s.heap H locs → lv_has ls 4 [(2, .int (nI (ckN bt y)))] → W p l e ({ frames := 0, cells := 0, slots := 0, locals := 0 }) s m args below meth c H locs 0 0 Q (F0 m 34 ls [])) : ∀ (N : Nat), ∀ (y : Nat), (y ≤ x) → x - y < N → ∀ (H : Heap) (locs : List Loc) (ls : Array Slot), va_P D vwCl [(ox 2, .inl (cI, 1400, .inl fT))] H → va_S A s.heap H locs → lv_has ls 4 [(3, .int (nI y)), (2, .int (nI (ckN bt y))), (0, .ref (ox 2)), (1, .int (nI x))] → W p l e ({ frames := 0, cells := 0, slots := 0, locals := 0 }) s m args below meth c H locs 0 0 Q (F0 m 5 ls []) := by
  intro N
  induction N with
  | zero =>
    intro y hy1 hm
    exact absurd hm (Nat.not_lt_zero _)
  | succ N ih =>
    intro y hy1 hm H locs ls hP hS hl
    refine lv_iload_n hx hb dX10_checkOf_5 rfl (lv_at hl 0 rfl) ?_
    refine lv_iload_n hx hb dX10_checkOf_6 rfl (lv_at hl 3 rfl) ?_
    refine lv_icmp_ge (tgt := 34) hx hb dX10_checkOf_7 (by decide) (fun hc1 => ?_) (fun hc1 => ?_)
    ·
      have hge : x ≤ y := (nI_leI (by omega) (by omega)).mp hc1
      exact kx34 y (hy1) (by omega) H locs ls (hP.sub [0] rfl) hS (lv_sub hl [1] rfl)
    ·
      have hlt : y < x := by
        rcases Nat.lt_or_ge y x with z | z
        · exact z
        · exact absurd (nI_le z (by omega)) hc1
      refine lv_iload_n hx hb dX10_checkOf_10 rfl (lv_at hl 0 rfl) ?_
      refine lv_aload_n hx hb dX10_checkOf_11 rfl (lv_at hl 2 rfl) ?_
      refine va_alen (v := 1400) hx hb hK hP 0 0 rfl rfl rfl dX10_checkOf_12 ?_
      refine lv_icmp_ge (tgt := 34) hx hb dX10_checkOf_13 (by decide) (fun hc => absurd hc (Int32.not_le.mpr (nI_lt (b := 1400) (by omega) (by decide)))) (fun hc => ?_)
      refine lv_iconst (v := 5) hx hb dX10_checkOf_16 (by decide) ?_
      refine lv_iload_n hx hb dX10_checkOf_17 rfl (lv_at hl 1 rfl) ?_
      refine lv_imul hx hb dX10_checkOf_18 ?_
      refine lv_aload_n hx hb dX10_checkOf_19 rfl (lv_at hl 2 rfl) ?_
      refine lv_iload_n hx hb dX10_checkOf_20 rfl (lv_at hl 0 rfl) ?_
      refine va_iald hx hb hK hP 0 0 rfl rfl (vp_in_nI (by omega) (by decide)) dX10_checkOf_21 ?_
      refine lv_topi (fun v2 ev2 => ?_)
      obtain rfl : v2 = nI (bt y) := ev2.trans (by rw [nI_clamp (by omega)]; exact (hbt _).1)
      refine lv_iadd hx hb dX10_checkOf_22 ?_
      refine lv_sipush (v := 253) hx hb dX10_checkOf_23 (by decide) ?_
      refine lv_irem hx hb dX10_checkOf_26 (by decide) ?_
      refine lv_topi (fun v3 ev3 => ?_)
      obtain rfl : v3 = nI (ckN bt (y + 1)) := ev3.trans (ck_rem (ckN_lt _ _) (hbt _).2)
      refine lv_istore_n (lv' := [(2, .int (nI (ckN bt (y + 1)))), (3, .int (nI y)), (0, .ref (ox 2)), (1, .int (nI x))]) hx hb dX10_checkOf_27 rfl hl (by decide) rfl (fun ls hl => ?_)
      refine lv_iinc (v := nI (y + 1)) (lv' := [(3, .int (nI (y + 1))), (2, .int (nI (ckN bt (y + 1)))), (0, .ref (ox 2)), (1, .int (nI x))]) hx hb dX10_checkOf_28 hl (k := 1) rfl (nI_1 _) (by decide) rfl (fun ls hl => ?_)
      refine lv_goto (tgt := 5) hx hb dX10_checkOf_31 (by decide) ?_
      exact ih (y + 1) (by omega) (by omega) H locs ls (hP.sub [0] rfl) hS (lv_sub hl [0, 1, 2, 3] rfl)
set_option maxHeartbeats 4000000 in
set_option maxRecDepth 100000 in
theorem k_ckT (l : Launch) (D : va_G) (sz : Nat) (ox : Nat → Nat) (cI : ClassId) (fT : Nat → Int32) (x : Nat) (bt : Nat → Nat) (hx9 : x ≤ 1400) (hbt : TieC fT bt) : Met l yX10_checkOf wp_k_ckT ({ frames := 0, cells := 0, slots := 0, locals := 0 }) (PcRC D [.ref (ox 2), .int (nI x)] sz [(ox 2, .inl (cI, 1400, .inl fT))] [(cI, .int)]) (va_Qi (fun (r : Int32) (u : Unit) => r = nI (ckN bt x)) (fun (_ : Unit) _ => True) (va_A [] sz)) 0 0 (va_A [] sz) := by
  refine Met.ofW (cc := cX10_checkOf) (maxL := 4) (ret := (some .int)) (by decide) rfl ?_
  intro p e s m args below meth c s₁ B hml hv
  obtain ⟨rfl, hsz, hP, hK, hN⟩ := hv
  have hx := B.exec
  have hb := B.bytes
  have hr := B.returns
  have hts := atoms_spec (ws := wp_k_ckT) B.pre
  have hown : s.vm.findClass RX10 = some m.cls := findClass_of_methodNamed B.named
  have hlocks := B.notSynchronized
  subst hsz
  generalize hAe : va_A [] s.heap.size = A at ⊢
  have hA : ∀ q : Nat, s.heap.size ≤ q → A q := fun q h => by rw [← hAe]; exact Or.inr h
  have hS : va_S A s.heap s.heap [] := va_S.rf
  have hP : va_P D vwCl [(ox 2, .inl (cI, 1400, .inl fT))] s.heap := hP
  have hl := lv_entry ([.ref (ox 2), .int (nI x)]) (n := 4) (Nat.le_of_ble_eq_true rfl)
  rw [lg_entry_eq]
  generalize (lg_sl ([.ref (ox 2), .int (nI x)]) ++ List.replicate (4 - (lg_sl ([.ref (ox 2), .int (nI x)])).length) Slot.unset).toArray = ls at hl ⊢
  have hl : lv_has ls 4 [(0, .ref (ox 2)), (1, .int (nI x))] := hl
  refine lv_bipush (v := 7) hx hb dX10_checkOf_0 (by decide) ?_
  refine lv_istore_n (lv' := [(2, .int 7), (0, .ref (ox 2)), (1, .int (nI x))]) hx hb dX10_checkOf_2 rfl hl (by decide) rfl (fun ls hl => ?_)
  refine lv_iconst (v := 0) hx hb dX10_checkOf_3 (by decide) ?_
  refine lv_istore_n (lv' := [(3, .int 0), (2, .int 7), (0, .ref (ox 2)), (1, .int (nI x))]) hx hb dX10_checkOf_4 rfl hl (by decide) rfl (fun ls hl => ?_)
  refine lk_k_ckT l D ox cI fT x bt (hx9) (hbt) hx hb hml hown hts hA (hK.sub [0] rfl) hN ?_ (x + 1) 0 (Nat.zero_le _) (by omega) _ _ _ (hP.sub [0] rfl) hS (lv_sub hl [0, 1, 2, 3] rfl)
  intro y_1 hy1_2 hx3 H locs ls hP hS hl
  refine lv_iload_n hx hb dX10_checkOf_34 rfl (lv_at hl 0 rfl) ?_
  exact W.iret (v := nI (ckN bt y_1)) hx hb hr (fun t ht hW => ⟨⟨nI (ckN bt y_1), (), rfl, by rw [show y_1 = x from by omega], trivial⟩, hS.F ht⟩) hS.2.2 dX10_checkOf_35

def own_k_ckI : List Cond := []
def wp_k_ckI : List Cond := .code yX10_checkOf cX10_checkOf 4 (some .int) :: (own_k_ckI ++ ([] : List Cond))
set_option maxRecDepth 20000 in
theorem inown_k_ckI : ∀ w ∈ own_k_ckI, w ∈ lw_tbl := mem_places [] (by decide +kernel)
set_option maxRecDepth 20000 in
theorem in_k_ckI : ∀ w ∈ wp_k_ckI, w ∈ lw_tbl := List.forall_mem_cons.mpr ⟨List.mem_of_getElem? (i := 1157) (by decide +kernel), List.forall_mem_append.mpr ⟨inown_k_ckI, fun _ h => absurd h List.not_mem_nil⟩⟩
set_option maxRecDepth 20000 in
theorem good_k_ckI : wp_k_ckI.all goodWord = true := by decide +kernel
set_option maxHeartbeats 4000000 in
set_option maxRecDepth 100000 in
theorem lk_k_ckI (l : Launch) {p : Program} {e : Env} {s : State} {m : MethodId} {args : Array Value} {below : List Frame} {meth : Method} {c : Code} {Q : State → Prop} {A : Nat → Prop} (D : va_G) (og : Nat → Nat) (cI : ClassId) (fi : Nat → Int32) (z2 : Int32)  (hx : p.tables.exec = Jvm.exec) (hb : c.code = cX10_checkOf) (hml : c.maxLocals = 4) (hown : s.vm.findClass RX10 = some m.cls) (hts : ∀ w ∈ wp_k_ckI, w.before args s = true) (hA : ∀ q, s.heap.size ≤ q → A q) (hK : va_K D vwCl [(cI, .int)] s) (hN : NC s) (kx34 : ∀ (y : Nat), ∀ (su : Int32), (y ≤ 1294) → ∀ (H : Heap) (locs : List Loc) (ls : Array Slot), va_P D vwCl [(og 1, .inl (cI, 1294, .inl fi))] H → va_S A s.heap H locs → lv_has ls 4 [(2, .int su)] → W p l e ({ frames := 0, cells := 0, slots := 0, locals := 0 }) s m args below meth c H locs 0 0 Q (F0 m 34 ls [])) : ∀ (N : Nat), ∀ (y : Nat), ∀ (su : Int32), (y ≤ 1294) → 1294 - y < N → ∀ (H : Heap) (locs : List Loc) (ls : Array Slot), va_P D vwCl [(og 1, .inl (cI, 1294, .inl fi))] H → va_S A s.heap H locs → lv_has ls 4 [(3, .int (nI y)), (2, .int su), (0, .ref (og 1)), (1, .int z2)] → W p l e ({ frames := 0, cells := 0, slots := 0, locals := 0 }) s m args below meth c H locs 0 0 Q (F0 m 5 ls []) := by
  intro N
  induction N with
  | zero =>
    intro y su hy1 hm
    exact absurd hm (Nat.not_lt_zero _)
  | succ N ih =>
    intro y su hy1 hm H locs ls hP hS hl
    refine lv_iload_n hx hb dX10_checkOf_5 rfl (lv_at hl 0 rfl) ?_
    refine lv_iload_n hx hb dX10_checkOf_6 rfl (lv_at hl 3 rfl) ?_
    refine lv_icmp_ge (tgt := 34) hx hb dX10_checkOf_7 (by decide) (fun hc1 => ?_) (fun hc1 => ?_)
    ·
      exact kx34 y su (hy1) H locs ls (hP.sub [0] rfl) hS (lv_sub hl [1] rfl)
    ·
      refine lv_iload_n hx hb dX10_checkOf_10 rfl (lv_at hl 0 rfl) ?_
      refine lv_aload_n hx hb dX10_checkOf_11 rfl (lv_at hl 2 rfl) ?_
      refine va_alen (v := 1294) hx hb hK hP 0 0 rfl rfl rfl dX10_checkOf_12 ?_
      refine lv_icmp_ge (tgt := 34) hx hb dX10_checkOf_13 (by decide) (fun hc2 => ?_) (fun hc2 => ?_)
      ·
        have hlt : 1294 ≤ y := (nI_leI (by omega) (by omega)).mp hc2
        exact kx34 y su (hy1) H locs ls (hP.sub [0] rfl) hS (lv_sub hl [1] rfl)
      ·
        have hlt : y < 1294 := by
          rcases Nat.lt_or_ge y (1294) with z | z
          · exact z
          · exact absurd (nI_le z (by omega)) hc2
        refine lv_iconst (v := 5) hx hb dX10_checkOf_16 (by decide) ?_
        refine lv_iload_n hx hb dX10_checkOf_17 rfl (lv_at hl 1 rfl) ?_
        refine lv_imul hx hb dX10_checkOf_18 ?_
        refine lv_topi (fun v3 ev3 => ?_)
        refine lv_aload_n hx hb dX10_checkOf_19 rfl (lv_at hl 2 rfl) ?_
        refine lv_iload_n hx hb dX10_checkOf_20 rfl (lv_at hl 0 rfl) ?_
        refine va_iald hx hb hK hP 0 0 rfl rfl (vp_in_nI (by omega) (by decide)) dX10_checkOf_21 ?_
        refine lv_topi (fun v4 ev4 => ?_)
        refine lv_iadd hx hb dX10_checkOf_22 ?_
        refine lv_topi (fun v5 ev5 => ?_)
        refine lv_sipush (v := 253) hx hb dX10_checkOf_23 (by decide) ?_
        refine lv_irem hx hb dX10_checkOf_26 (by decide) ?_
        refine lv_topi (fun v6 ev6 => ?_)
        refine lv_istore_n (lv' := [(2, .int v6), (3, .int (nI y)), (0, .ref (og 1)), (1, .int z2)]) hx hb dX10_checkOf_27 rfl hl (by decide) rfl (fun ls hl => ?_)
        refine lv_iinc (v := nI (y + 1)) (lv' := [(3, .int (nI (y + 1))), (2, .int v6), (0, .ref (og 1)), (1, .int z2)]) hx hb dX10_checkOf_28 hl (k := 1) rfl (nI_1 _) (by decide) rfl (fun ls hl => ?_)
        refine lv_goto (tgt := 5) hx hb dX10_checkOf_31 (by decide) ?_
        exact ih (y + 1) v6 (by omega) (by omega) H locs ls (hP.sub [0] rfl) hS (lv_sub hl [0, 1, 2, 3] rfl)
set_option maxHeartbeats 4000000 in
set_option maxRecDepth 100000 in
theorem k_ckI (l : Launch) (D : va_G) (sz : Nat) (og : Nat → Nat) (cI : ClassId) (fi : Nat → Int32) (z2 : Int32)  : Met l yX10_checkOf wp_k_ckI ({ frames := 0, cells := 0, slots := 0, locals := 0 }) (PcRC D [.ref (og 1), .int z2] sz [(og 1, .inl (cI, 1294, .inl fi))] [(cI, .int)]) (va_Qi (fun (r : Int32) (u : Unit) => True) (fun (_ : Unit) _ => True) (va_A [] sz)) 0 0 (va_A [] sz) := by
  refine Met.ofW (cc := cX10_checkOf) (maxL := 4) (ret := (some .int)) (by decide) rfl ?_
  intro p e s m args below meth c s₁ B hml hv
  obtain ⟨rfl, hsz, hP, hK, hN⟩ := hv
  have hx := B.exec
  have hb := B.bytes
  have hr := B.returns
  have hts := atoms_spec (ws := wp_k_ckI) B.pre
  have hown : s.vm.findClass RX10 = some m.cls := findClass_of_methodNamed B.named
  have hlocks := B.notSynchronized
  subst hsz
  generalize hAe : va_A [] s.heap.size = A at ⊢
  have hA : ∀ q : Nat, s.heap.size ≤ q → A q := fun q h => by rw [← hAe]; exact Or.inr h
  have hS : va_S A s.heap s.heap [] := va_S.rf
  have hP : va_P D vwCl [(og 1, .inl (cI, 1294, .inl fi))] s.heap := hP
  have hl := lv_entry ([.ref (og 1), .int z2]) (n := 4) (Nat.le_of_ble_eq_true rfl)
  rw [lg_entry_eq]
  generalize (lg_sl ([.ref (og 1), .int z2]) ++ List.replicate (4 - (lg_sl ([.ref (og 1), .int z2])).length) Slot.unset).toArray = ls at hl ⊢
  have hl : lv_has ls 4 [(0, .ref (og 1)), (1, .int z2)] := hl
  refine lv_bipush (v := 7) hx hb dX10_checkOf_0 (by decide) ?_
  refine lv_istore_n (lv' := [(2, .int 7), (0, .ref (og 1)), (1, .int z2)]) hx hb dX10_checkOf_2 rfl hl (by decide) rfl (fun ls hl => ?_)
  refine lv_iconst (v := 0) hx hb dX10_checkOf_3 (by decide) ?_
  refine lv_istore_n (lv' := [(3, .int 0), (2, .int 7), (0, .ref (og 1)), (1, .int z2)]) hx hb dX10_checkOf_4 rfl hl (by decide) rfl (fun ls hl => ?_)
  refine lk_k_ckI l D og cI fi z2 hx hb hml hown hts hA (hK.sub [0] rfl) hN ?_ (1295) 0 7 (by omega) (by omega) _ _ _ (hP.sub [0] rfl) hS (lv_sub hl [0, 1, 2, 3] rfl)
  intro y_1 su_2 hy1_3 H locs ls hP hS hl
  refine lv_iload_n hx hb dX10_checkOf_34 rfl (lv_at hl 0 rfl) ?_
  exact W.iret (v := su_2) hx hb hr (fun t ht hW => ⟨⟨su_2, (), rfl, trivial, trivial⟩, hS.F ht⟩) hS.2.2 dX10_checkOf_35

def own_k_isKey : List Cond := [.constant RX10 352 (2147483647)]
def wp_k_isKey : List Cond := .code yX10_isKey cX10_isKey 1 (some .boolean) :: (own_k_isKey ++ ([] : List Cond))
set_option maxRecDepth 20000 in
theorem inown_k_isKey : ∀ w ∈ own_k_isKey, w ∈ lw_tbl := mem_places [617] (by decide +kernel)
set_option maxRecDepth 20000 in
theorem in_k_isKey : ∀ w ∈ wp_k_isKey, w ∈ lw_tbl := List.forall_mem_cons.mpr ⟨List.mem_of_getElem? (i := 616) (by decide +kernel), List.forall_mem_append.mpr ⟨inown_k_isKey, fun _ h => absurd h List.not_mem_nil⟩⟩
set_option maxRecDepth 20000 in
theorem good_k_isKey : wp_k_isKey.all goodWord = true := by decide +kernel
set_option maxHeartbeats 4000000 in
set_option maxRecDepth 100000 in
theorem k_isKey (l : Launch) (D : va_G) (sz : Nat) (cI : ClassId) (z1 : Int32)  : Met l yX10_isKey wp_k_isKey ({ frames := 0, cells := 0, slots := 0, locals := 0 }) (PcRC D [.int z1] sz [] []) (va_Qi (fun (r : Int32) (u : Unit) => (r = 1 ∧ isK z1) ∨ (r = 0 ∧ ¬ isK z1)) (fun (_ : Unit) _ => True) (va_A [] sz)) 0 0 (va_A [] sz) := by
  refine Met.ofW (cc := cX10_isKey) (maxL := 1) (ret := (some .boolean)) (by decide) rfl ?_
  intro p e s m args below meth c s₁ B hml hv
  obtain ⟨rfl, hsz, hP, hK, hN⟩ := hv
  have hx := B.exec
  have hb := B.bytes
  have hr := B.returns
  have hts := atoms_spec (ws := wp_k_isKey) B.pre
  have hown : s.vm.findClass RX10 = some m.cls := findClass_of_methodNamed B.named
  have hlocks := B.notSynchronized
  subst hsz
  generalize hAe : va_A [] s.heap.size = A at ⊢
  have hA : ∀ q : Nat, s.heap.size ≤ q → A q := fun q h => by rw [← hAe]; exact Or.inr h
  have hS : va_S A s.heap s.heap [] := va_S.rf
  have hP : va_P D vwCl [] s.heap := hP
  have hl := lv_entry ([.int z1]) (n := 1) (Nat.le_of_ble_eq_true rfl)
  rw [lg_entry_eq]
  generalize (lg_sl ([.int z1]) ++ List.replicate (1 - (lg_sl ([.int z1])).length) Slot.unset).toArray = ls at hl ⊢
  have hl : lv_has ls 1 [(0, .int z1)] := hl
  refine lv_iload_n hx hb dX10_isKey_0 rfl (lv_at hl 0 rfl) ?_
  refine lv_if_lt (tgt := 15) hx hb dX10_isKey_1 (by decide) (fun hc1 => ?_) (fun hc1 => ?_)
  ·
    refine lv_iconst (v := 0) hx hb dX10_isKey_15 (by decide) ?_
    exact W.zret (v := 0) hx hb hr rfl (fun t ht hW => ⟨⟨0, (), rfl, Or.inr ⟨rfl, fun z => (isK_n z).1 hc1⟩, trivial⟩, hS.F ht⟩) hS.2.2 dX10_isKey_16
  ·
    refine lv_iload_n hx hb dX10_isKey_4 rfl (lv_at hl 0 rfl) ?_
    refine lv_ldcw (v := 2147483647) hx hb hown (hts (.constant RX10 352 (2147483647)) (List.mem_of_getElem? (i := 1) rfl)) dX10_isKey_5 ?_
    refine lv_icmp_ge (tgt := 15) hx hb dX10_isKey_8 (by decide) (fun hc2 => ?_) (fun hc2 => ?_)
    ·
      refine lv_iconst (v := 0) hx hb dX10_isKey_15 (by decide) ?_
      exact W.zret (v := 0) hx hb hr rfl (fun t ht hW => ⟨⟨0, (), rfl, Or.inr ⟨rfl, fun z => (isK_n z).2 hc2⟩, trivial⟩, hS.F ht⟩) hS.2.2 dX10_isKey_16
    ·
      refine lv_iconst (v := 1) hx hb dX10_isKey_11 (by decide) ?_
      refine lv_goto (tgt := 16) hx hb dX10_isKey_12 (by decide) ?_
      exact W.zret (v := 1) hx hb hr rfl (fun t ht hW => ⟨⟨1, (), rfl, Or.inl ⟨rfl, isK_c hc1 hc2⟩, trivial⟩, hS.F ht⟩) hS.2.2 dX10_isKey_16

def own_k_isPair : List Cond := [.constant RX10 352 (2147483647)]
def wp_k_isPair : List Cond := .code yX10_isPair cX10_isPair 2 (some .boolean) :: (own_k_isPair ++ ([] : List Cond))
set_option maxRecDepth 20000 in
theorem inown_k_isPair : ∀ w ∈ own_k_isPair, w ∈ lw_tbl := mem_places [617] (by decide +kernel)
set_option maxRecDepth 20000 in
theorem in_k_isPair : ∀ w ∈ wp_k_isPair, w ∈ lw_tbl := List.forall_mem_cons.mpr ⟨List.mem_of_getElem? (i := 805) (by decide +kernel), List.forall_mem_append.mpr ⟨inown_k_isPair, fun _ h => absurd h List.not_mem_nil⟩⟩
set_option maxRecDepth 20000 in
theorem good_k_isPair : wp_k_isPair.all goodWord = true := by decide +kernel
set_option maxHeartbeats 4000000 in
set_option maxRecDepth 100000 in
theorem k_isPair (l : Launch) (D : va_G) (sz : Nat) (cI : ClassId) (z1 : Int32) (z2 : Int32)  : Met l yX10_isPair wp_k_isPair ({ frames := 0, cells := 0, slots := 0, locals := 0 }) (PcRC D [.int z1, .int z2] sz [] []) (va_Qi (fun (r : Int32) (u : Unit) => (r = 1 ∧ (isK z1 ∧ isK z2)) ∨ (r = 0 ∧ True)) (fun (_ : Unit) _ => True) (va_A [] sz)) 0 0 (va_A [] sz) := by
  refine Met.ofW (cc := cX10_isPair) (maxL := 2) (ret := (some .boolean)) (by decide) rfl ?_
  intro p e s m args below meth c s₁ B hml hv
  obtain ⟨rfl, hsz, hP, hK, hN⟩ := hv
  have hx := B.exec
  have hb := B.bytes
  have hr := B.returns
  have hts := atoms_spec (ws := wp_k_isPair) B.pre
  have hown : s.vm.findClass RX10 = some m.cls := findClass_of_methodNamed B.named
  have hlocks := B.notSynchronized
  subst hsz
  generalize hAe : va_A [] s.heap.size = A at ⊢
  have hA : ∀ q : Nat, s.heap.size ≤ q → A q := fun q h => by rw [← hAe]; exact Or.inr h
  have hS : va_S A s.heap s.heap [] := va_S.rf
  have hP : va_P D vwCl [] s.heap := hP
  have hl := lv_entry ([.int z1, .int z2]) (n := 2) (Nat.le_of_ble_eq_true rfl)
  rw [lg_entry_eq]
  generalize (lg_sl ([.int z1, .int z2]) ++ List.replicate (2 - (lg_sl ([.int z1, .int z2])).length) Slot.unset).toArray = ls at hl ⊢
  have hl : lv_has ls 2 [(0, .int z1), (1, .int z2)] := hl
  refine lv_iload_n hx hb dX10_isPair_0 rfl (lv_at hl 0 rfl) ?_
  refine lv_iconst (v := 1) hx hb dX10_isPair_1 (by decide) ?_
  refine lv_icmp_lt (tgt := 27) hx hb dX10_isPair_2 (by decide) (fun hc1 => ?_) (fun hc1 => ?_)
  ·
    refine lv_iconst (v := 0) hx hb dX10_isPair_27 (by decide) ?_
    exact W.zret (v := 0) hx hb hr rfl (fun t ht hW => ⟨⟨0, (), rfl, Or.inr ⟨rfl, trivial⟩, trivial⟩, hS.F ht⟩) hS.2.2 dX10_isPair_28
  ·
    refine lv_iload_n hx hb dX10_isPair_5 rfl (lv_at hl 0 rfl) ?_
    refine lv_ldcw (v := 2147483647) hx hb hown (hts (.constant RX10 352 (2147483647)) (List.mem_of_getElem? (i := 1) rfl)) dX10_isPair_6 ?_
    refine lv_icmp_ge (tgt := 27) hx hb dX10_isPair_9 (by decide) (fun hc2 => ?_) (fun hc2 => ?_)
    ·
      refine lv_iconst (v := 0) hx hb dX10_isPair_27 (by decide) ?_
      exact W.zret (v := 0) hx hb hr rfl (fun t ht hW => ⟨⟨0, (), rfl, Or.inr ⟨rfl, trivial⟩, trivial⟩, hS.F ht⟩) hS.2.2 dX10_isPair_28
    ·
      refine lv_iload_n hx hb dX10_isPair_12 rfl (lv_at hl 1 rfl) ?_
      refine lv_if_lt (tgt := 27) hx hb dX10_isPair_13 (by decide) (fun hc3 => ?_) (fun hc3 => ?_)
      ·
        refine lv_iconst (v := 0) hx hb dX10_isPair_27 (by decide) ?_
        exact W.zret (v := 0) hx hb hr rfl (fun t ht hW => ⟨⟨0, (), rfl, Or.inr ⟨rfl, trivial⟩, trivial⟩, hS.F ht⟩) hS.2.2 dX10_isPair_28
      ·
        refine lv_iload_n hx hb dX10_isPair_16 rfl (lv_at hl 1 rfl) ?_
        refine lv_ldcw (v := 2147483647) hx hb hown (hts (.constant RX10 352 (2147483647)) (List.mem_of_getElem? (i := 1) rfl)) dX10_isPair_17 ?_
        refine lv_icmp_ge (tgt := 27) hx hb dX10_isPair_20 (by decide) (fun hc4 => ?_) (fun hc4 => ?_)
        ·
          refine lv_iconst (v := 0) hx hb dX10_isPair_27 (by decide) ?_
          exact W.zret (v := 0) hx hb hr rfl (fun t ht hW => ⟨⟨0, (), rfl, Or.inr ⟨rfl, trivial⟩, trivial⟩, hS.F ht⟩) hS.2.2 dX10_isPair_28
        ·
          refine lv_iconst (v := 1) hx hb dX10_isPair_23 (by decide) ?_
          refine lv_goto (tgt := 28) hx hb dX10_isPair_24 (by decide) ?_
          exact W.zret (v := 1) hx hb hr rfl (fun t ht hW => ⟨⟨1, (), rfl, Or.inl ⟨rfl, isK_c (fun z => hc1 (Int32.lt_trans z (by decide))) hc2, isK_c hc3 hc4⟩, trivial⟩, hS.F ht⟩) hS.2.2 dX10_isPair_28

def own_k_areS : List Cond := []
def wp_k_areS : List Cond := .code yX10_areSettings cX10_areSettings 3 (some .boolean) :: (own_k_areS ++ ([] : List Cond))
set_option maxRecDepth 20000 in
theorem inown_k_areS : ∀ w ∈ own_k_areS, w ∈ lw_tbl := mem_places [] (by decide +kernel)
set_option maxRecDepth 20000 in
theorem in_k_areS : ∀ w ∈ wp_k_areS, w ∈ lw_tbl := List.forall_mem_cons.mpr ⟨List.mem_of_getElem? (i := 454) (by decide +kernel), List.forall_mem_append.mpr ⟨inown_k_areS, fun _ h => absurd h List.not_mem_nil⟩⟩
set_option maxRecDepth 20000 in
theorem good_k_areS : wp_k_areS.all goodWord = true := by decide +kernel
set_option maxHeartbeats 4000000 in
set_option maxRecDepth 100000 in
theorem k_areS (l : Launch) (D : va_G) (sz : Nat) (cI : ClassId) (z1 : Int32) (z2 : Int32) (z3 : Int32)  : Met l yX10_areSettings wp_k_areS ({ frames := 0, cells := 0, slots := 0, locals := 0 }) (PcRC D [.int z1, .int z2, .int z3] sz [] []) (va_Qi (fun (r : Int32) (u : Unit) => (r = 1 ∧ okS z1 z2 z3) ∨ (r = 0 ∧ ¬ okS z1 z2 z3)) (fun (_ : Unit) _ => True) (va_A [] sz)) 0 0 (va_A [] sz) := by
  refine Met.ofW (cc := cX10_areSettings) (maxL := 3) (ret := (some .boolean)) (by decide) rfl ?_
  intro p e s m args below meth c s₁ B hml hv
  obtain ⟨rfl, hsz, hP, hK, hN⟩ := hv
  have hx := B.exec
  have hb := B.bytes
  have hr := B.returns
  have hts := atoms_spec (ws := wp_k_areS) B.pre
  have hown : s.vm.findClass RX10 = some m.cls := findClass_of_methodNamed B.named
  have hlocks := B.notSynchronized
  subst hsz
  generalize hAe : va_A [] s.heap.size = A at ⊢
  have hA : ∀ q : Nat, s.heap.size ≤ q → A q := fun q h => by rw [← hAe]; exact Or.inr h
  have hS : va_S A s.heap s.heap [] := va_S.rf
  have hP : va_P D vwCl [] s.heap := hP
  have hl := lv_entry ([.int z1, .int z2, .int z3]) (n := 3) (Nat.le_of_ble_eq_true rfl)
  rw [lg_entry_eq]
  generalize (lg_sl ([.int z1, .int z2, .int z3]) ++ List.replicate (3 - (lg_sl ([.int z1, .int z2, .int z3])).length) Slot.unset).toArray = ls at hl ⊢
  have hl : lv_has ls 3 [(0, .int z1), (1, .int z2), (2, .int z3)] := hl
  refine lv_iload_n hx hb dX10_areSettings_0 rfl (lv_at hl 0 rfl) ?_
  refine lv_bipush (v := 8) hx hb dX10_areSettings_1 (by decide) ?_
  refine lv_icmp_lt (tgt := 40) hx hb dX10_areSettings_3 (by decide) (fun hc1 => ?_) (fun hc1 => ?_)
  ·
    refine lv_iconst (v := 0) hx hb dX10_areSettings_40 (by decide) ?_
    exact W.zret (v := 0) hx hb hr rfl (fun t ht hW => ⟨⟨0, (), rfl, Or.inr ⟨rfl, fun z => absurd hc1 (Int32.not_lt.mpr z.1)⟩, trivial⟩, hS.F ht⟩) hS.2.2 dX10_areSettings_41
  ·
    refine lv_iload_n hx hb dX10_areSettings_6 rfl (lv_at hl 0 rfl) ?_
    refine lv_bipush (v := 64) hx hb dX10_areSettings_7 (by decide) ?_
    refine lv_icmp_gt (tgt := 40) hx hb dX10_areSettings_9 (by decide) (fun hc2 => ?_) (fun hc2 => ?_)
    ·
      refine lv_iconst (v := 0) hx hb dX10_areSettings_40 (by decide) ?_
      exact W.zret (v := 0) hx hb hr rfl (fun t ht hW => ⟨⟨0, (), rfl, Or.inr ⟨rfl, fun z => absurd hc2 (Int32.not_lt.mpr z.2.1)⟩, trivial⟩, hS.F ht⟩) hS.2.2 dX10_areSettings_41
    ·
      refine lv_iload_n hx hb dX10_areSettings_12 rfl (lv_at hl 1 rfl) ?_
      refine lv_bipush (v := 25) hx hb dX10_areSettings_13 (by decide) ?_
      refine lv_icmp_lt (tgt := 40) hx hb dX10_areSettings_15 (by decide) (fun hc3 => ?_) (fun hc3 => ?_)
      ·
        refine lv_iconst (v := 0) hx hb dX10_areSettings_40 (by decide) ?_
        exact W.zret (v := 0) hx hb hr rfl (fun t ht hW => ⟨⟨0, (), rfl, Or.inr ⟨rfl, fun z => absurd hc3 (Int32.not_lt.mpr z.2.2.1)⟩, trivial⟩, hS.F ht⟩) hS.2.2 dX10_areSettings_41
      ·
        refine lv_iload_n hx hb dX10_areSettings_18 rfl (lv_at hl 1 rfl) ?_
        refine lv_sipush (v := 400) hx hb dX10_areSettings_19 (by decide) ?_
        refine lv_icmp_gt (tgt := 40) hx hb dX10_areSettings_22 (by decide) (fun hc4 => ?_) (fun hc4 => ?_)
        ·
          refine lv_iconst (v := 0) hx hb dX10_areSettings_40 (by decide) ?_
          exact W.zret (v := 0) hx hb hr rfl (fun t ht hW => ⟨⟨0, (), rfl, Or.inr ⟨rfl, fun z => absurd hc4 (Int32.not_lt.mpr z.2.2.2.1)⟩, trivial⟩, hS.F ht⟩) hS.2.2 dX10_areSettings_41
        ·
          refine lv_iload_n hx hb dX10_areSettings_25 rfl (lv_at hl 2 rfl) ?_
          refine lv_if_lt (tgt := 40) hx hb dX10_areSettings_26 (by decide) (fun hc5 => ?_) (fun hc5 => ?_)
          ·
            refine lv_iconst (v := 0) hx hb dX10_areSettings_40 (by decide) ?_
            exact W.zret (v := 0) hx hb hr rfl (fun t ht hW => ⟨⟨0, (), rfl, Or.inr ⟨rfl, fun z => absurd hc5 (Int32.not_lt.mpr z.2.2.2.2.1)⟩, trivial⟩, hS.F ht⟩) hS.2.2 dX10_areSettings_41
          ·
            refine lv_iload_n hx hb dX10_areSettings_29 rfl (lv_at hl 2 rfl) ?_
            refine lv_sipush (v := 200) hx hb dX10_areSettings_30 (by decide) ?_
            refine lv_icmp_gt (tgt := 40) hx hb dX10_areSettings_33 (by decide) (fun hc6 => ?_) (fun hc6 => ?_)
            ·
              refine lv_iconst (v := 0) hx hb dX10_areSettings_40 (by decide) ?_
              exact W.zret (v := 0) hx hb hr rfl (fun t ht hW => ⟨⟨0, (), rfl, Or.inr ⟨rfl, fun z => absurd hc6 (Int32.not_lt.mpr z.2.2.2.2.2)⟩, trivial⟩, hS.F ht⟩) hS.2.2 dX10_areSettings_41
            ·
              refine lv_iconst (v := 1) hx hb dX10_areSettings_36 (by decide) ?_
              refine lv_goto (tgt := 41) hx hb dX10_areSettings_37 (by decide) ?_
              exact W.zret (v := 1) hx hb hr rfl (fun t ht hW => ⟨⟨1, (), rfl, Or.inl ⟨rfl, Int32.not_lt.mp hc1, Int32.not_lt.mp hc2, Int32.not_lt.mp hc3, Int32.not_lt.mp hc4, Int32.not_lt.mp hc5, Int32.not_lt.mp hc6⟩, trivial⟩, hS.F ht⟩) hS.2.2 dX10_areSettings_41

def own_k_isTN : List Cond := []
def wp_k_isTN : List Cond := .code yX10_isTableNumber cX10_isTableNumber 1 (some .boolean) :: (own_k_isTN ++ ([] : List Cond))
set_option maxRecDepth 20000 in
theorem inown_k_isTN : ∀ w ∈ own_k_isTN, w ∈ lw_tbl := mem_places [] (by decide +kernel)
set_option maxRecDepth 20000 in
theorem in_k_isTN : ∀ w ∈ wp_k_isTN, w ∈ lw_tbl := List.forall_mem_cons.mpr ⟨List.mem_of_getElem? (i := 451) (by decide +kernel), List.forall_mem_append.mpr ⟨inown_k_isTN, fun _ h => absurd h List.not_mem_nil⟩⟩
set_option maxRecDepth 20000 in
theorem good_k_isTN : wp_k_isTN.all goodWord = true := by decide +kernel
set_option maxHeartbeats 4000000 in
set_option maxRecDepth 100000 in
theorem k_isTN (l : Launch) (D : va_G) (sz : Nat) (cI : ClassId) (z1 : Int32)  : Met l yX10_isTableNumber wp_k_isTN ({ frames := 0, cells := 0, slots := 0, locals := 0 }) (PcRC D [.int z1] sz [] []) (va_Qi (fun (r : Int32) (u : Unit) => (r = 1 ∧ (0 ≤ z1 ∧ z1 < 4)) ∨ (r = 0 ∧ ¬ (0 ≤ z1 ∧ z1 < 4))) (fun (_ : Unit) _ => True) (va_A [] sz)) 0 0 (va_A [] sz) := by
  refine Met.ofW (cc := cX10_isTableNumber) (maxL := 1) (ret := (some .boolean)) (by decide) rfl ?_
  intro p e s m args below meth c s₁ B hml hv
  obtain ⟨rfl, hsz, hP, hK, hN⟩ := hv
  have hx := B.exec
  have hb := B.bytes
  have hr := B.returns
  have hts := atoms_spec (ws := wp_k_isTN) B.pre
  have hown : s.vm.findClass RX10 = some m.cls := findClass_of_methodNamed B.named
  have hlocks := B.notSynchronized
  subst hsz
  generalize hAe : va_A [] s.heap.size = A at ⊢
  have hA : ∀ q : Nat, s.heap.size ≤ q → A q := fun q h => by rw [← hAe]; exact Or.inr h
  have hS : va_S A s.heap s.heap [] := va_S.rf
  have hP : va_P D vwCl [] s.heap := hP
  have hl := lv_entry ([.int z1]) (n := 1) (Nat.le_of_ble_eq_true rfl)
  rw [lg_entry_eq]
  generalize (lg_sl ([.int z1]) ++ List.replicate (1 - (lg_sl ([.int z1])).length) Slot.unset).toArray = ls at hl ⊢
  have hl : lv_has ls 1 [(0, .int z1)] := hl
  refine lv_iload_n hx hb dX10_isTableNumber_0 rfl (lv_at hl 0 rfl) ?_
  refine lv_if_lt (tgt := 13) hx hb dX10_isTableNumber_1 (by decide) (fun hc1 => ?_) (fun hc1 => ?_)
  ·
    refine lv_iconst (v := 0) hx hb dX10_isTableNumber_13 (by decide) ?_
    exact W.zret (v := 0) hx hb hr rfl (fun t ht hW => ⟨⟨0, (), rfl, Or.inr ⟨rfl, fun z => absurd z.1 (Int32.not_le.mpr hc1)⟩, trivial⟩, hS.F ht⟩) hS.2.2 dX10_isTableNumber_14
  ·
    refine lv_iload_n hx hb dX10_isTableNumber_4 rfl (lv_at hl 0 rfl) ?_
    refine lv_iconst (v := 4) hx hb dX10_isTableNumber_5 (by decide) ?_
    refine lv_icmp_ge (tgt := 13) hx hb dX10_isTableNumber_6 (by decide) (fun hc2 => ?_) (fun hc2 => ?_)
    ·
      refine lv_iconst (v := 0) hx hb dX10_isTableNumber_13 (by decide) ?_
      exact W.zret (v := 0) hx hb hr rfl (fun t ht hW => ⟨⟨0, (), rfl, Or.inr ⟨rfl, fun z => absurd z.2 (Int32.not_lt.mpr hc2)⟩, trivial⟩, hS.F ht⟩) hS.2.2 dX10_isTableNumber_14
    ·
      refine lv_iconst (v := 1) hx hb dX10_isTableNumber_9 (by decide) ?_
      refine lv_goto (tgt := 14) hx hb dX10_isTableNumber_10 (by decide) ?_
      exact W.zret (v := 1) hx hb hr rfl (fun t ht hW => ⟨⟨1, (), rfl, Or.inl ⟨rfl, Int32.not_lt.mp hc1, Int32.not_le.mp hc2⟩, trivial⟩, hS.F ht⟩) hS.2.2 dX10_isTableNumber_14

