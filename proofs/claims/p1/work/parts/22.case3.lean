set_option maxHeartbeats 4000000 in
set_option maxRecDepth 100000 in
theorem law_case_31 {p : Program} {e : Env} {s : State} {m : MethodId} {below : List Frame} {meth : Method} {c : Code} (l : Launch) {b : Nat} {xs : Nat → Int32} {D : va_G} {A : Nat → Prop} (C0 : lw_At p s m meth c b 7 xs) (hN : NN s) (hA : ∀ q, s.heap.size ≤ q → A q) (hbA : ¬ A b) (hA2 : ∀ q, A q → s.heap.size ≤ q) (x0 m0 : Nat) (ca : Nat → Nat) (cc : Nat → ClassId) (qi : Nat) (qp qm : Nat → Nat) (ma : Nat → Nat) (cm : Nat → ClassId) (H : Heap) (locs : List Loc) (hK : va_K D vwCl [(cc 0, .object RX9), (cc 1, .int), (cm 1, .byte), (cm 3, .long), (cm 8, .int), (cm 9, .int)] s) (hP : va_P D vwCl [(x0, .inr (10, [.ref (ca 0), .ref (ca 1), .int 0, .ref (ca 3), .ref (ca 4), .ref (ca 5), .ref (ca 6)])), (ca 0, .inl (cc 0, 4, .inr (.inr (.inr (.inr (fun _ => none)))))), (ca 1, .inl (cc 1, 1400, .inl (fun _ => 0))), (ca 4, .inr (1, [.int 0, .ref qi])), (ca 5, .inr (6, [.int 0, .int 0, .int 0, .ref (qp 3), .ref (qp 4), .int 0, .int 0, .int 0, .int 0, .int 0, .int 0, .int 0, .ref (qp 12), .int 0, .ref (qp 14)])), (ca 6, .inr (4, [.int 0, .int 0, .int 0, .int 0, .int 0, .ref (qm 5), .int 0, .ref (qm 7)])), (m0, .inr (11, fM ma 0 0 0 0 0)), (ma 1, .inl (cm 1, 1400, .inl (fun _ => 0))), (ma 3, .inl (cm 3, 85, .inr (.inl (fun _ => 0)))), (ma 8, .inl (cm 8, 10240, .inl (fun _ => 0))), (ma 9, .inl (cm 9, 10240, .inl (fun _ => 0)))] H) (hD : va_D A [(x0, .inr (10, [.ref (ca 0), .ref (ca 1), .int 0, .ref (ca 3), .ref (ca 4), .ref (ca 5), .ref (ca 6)])), (ca 0, .inl (cc 0, 4, .inr (.inr (.inr (.inr (fun _ => none)))))), (ca 1, .inl (cc 1, 1400, .inl (fun _ => 0))), (ca 4, .inr (1, [.int 0, .ref qi])), (ca 5, .inr (6, [.int 0, .int 0, .int 0, .ref (qp 3), .ref (qp 4), .int 0, .int 0, .int 0, .int 0, .int 0, .int 0, .int 0, .ref (qp 12), .int 0, .ref (qp 14)])), (ca 6, .inr (4, [.int 0, .int 0, .int 0, .int 0, .int 0, .ref (qm 5), .int 0, .ref (qm 7)])), (m0, .inr (11, fM ma 0 0 0 0 0)), (ma 1, .inl (cm 1, 1400, .inl (fun _ => 0))), (ma 3, .inl (cm 3, 85, .inr (.inl (fun _ => 0)))), (ma 8, .inl (cm 8, 10240, .inl (fun _ => 0))), (ma 9, .inl (cm 9, 10240, .inl (fun _ => 0)))]) (hS : va_S A s.heap H locs) (ls : Array Slot) (hl : lv_has ls 4 [(3, .int 0), (2, .ref m0), (1, .ref x0), (0, .ref b)]) : W p l e room_1 s m #[Value.ref b] below meth c H locs 46 68513 (lw_Z below #[Value.ref b] s) (F0 m 1586 ls []) := by
  have C0 := C0
  have C1 := C0
  obtain ⟨hx, hb, hr, hml, hown, hts, hX, hbl, hlocks, hgv⟩ := C1
  have hown : s.vm.findClass RL = some m.cls := hown
  have hin : ∀ k : Nat, k < 7 → vp_in (nI k) 7 := fun k hk => vp_in_nI hk (by decide)
  refine lv_aload_n hx hb dL_law_1586 rfl (lv_at hl 2 rfl) ?_
  refine lv_aload_n hx hb dL_law_1587 rfl (lv_at hl 3 rfl) ?_
  refine lv_iload_n hx hb dL_law_1588 rfl (lv_at hl 0 rfl) ?_
  refine lv_iconst (v := 1) hx hb dL_law_1589 (by decide) ?_
  refine lv_iadd hx hb dL_law_1590 ?_
  refine lv_topi (fun v1 ev1 => ?_)
  obtain rfl : v1 = 1 := ev1.trans (by decide)
  refine va_sld hx hb hX hbl hbA hS (hin 1 (by omega)) dL_law_1591 ?_
  refine lv_topi (fun v2 ev2 => ?_)
  obtain rfl : v2 = xs 1 := ev2
  have hPc := hP.sub (ws' := [(x0, .inr (10, [.ref (ca 0), .ref (ca 1), .int 0, .ref (ca 3), .ref (ca 4), .ref (ca 5), .ref (ca 6)])), (ca 5, .inr (6, [.int 0, .int 0, .int 0, .ref (qp 3), .ref (qp 4), .int 0, .int 0, .int 0, .int 0, .int 0, .int 0, .int 0, .ref (qp 12), .int 0, .ref (qp 14)])), (ca 6, .inr (4, [.int 0, .int 0, .int 0, .int 0, .int 0, .ref (qm 5), .int 0, .ref (qm 7)]))]) [0, 4, 5] rfl
  have hKc := hK.sub (tys' := []) [] rfl
  have hFc := va_free0 hS hA
  refine va_calll (va_runV (As := [.int (xs 1)]) (rest := []) ⟨hx, hb, hml, hown, hts⟩ (c_X10_ran l D _ x0 ca 0 qp qm (xs 1)) (cwV 1 hts g_L_c_X10_ran_154 rfl rfl rfl (by decide +kernel) ⟨(Nat.le_of_ble_eq_true rfl), (Nat.le_of_ble_eq_true rfl)⟩) (PcR_V (q0 := 0) hPc hKc rfl rfl) rfl rfl hl.1 rfl (lv_room (Nat.le_of_ble_eq_true rfl)) dL_law_1592 ⟨(Nat.le_of_ble_eq_true rfl), (Nat.le_of_ble_eq_true rfl)⟩) hS (fun q _ h => hFc q h) hFc (fun r3 uu tt H locs htt hvm hw hB hz1 hk1 hS => ?_)
  have hP := va_keep hP hk1
  try dsimp only at hw
  clear hB hz1 hk1 hFc hPc hKc
  have hw_r3 := hw
  refine lv_aload_n hx hb dL_law_1595 rfl (lv_at hl 1 rfl) ?_
  refine lv_aload_n hx hb dL_law_1596 rfl (lv_at hl 3 rfl) ?_
  refine lv_iload_n hx hb dL_law_1597 rfl (lv_at hl 0 rfl) ?_
  refine lv_iconst (v := 1) hx hb dL_law_1598 (by decide) ?_
  refine lv_iadd hx hb dL_law_1599 ?_
  refine lv_topi (fun v4 ev4 => ?_)
  obtain rfl : v4 = 1 := ev4.trans (by decide)
  refine va_sld hx hb hX hbl hbA hS (hin 1 (by omega)) dL_law_1600 ?_
  refine lv_topi (fun v5 ev5 => ?_)
  obtain rfl : v5 = xs 1 := ev5
  have hPc := hP.sub (ws' := [(m0, .inr (11, fM ma 0 0 0 0 0)), (ma 3, .inl (cm 3, 85, .inr (.inl (fun _ => 0))))]) [6, 8] rfl
  have hKc := hK.sub (tys' := [(cm 3, .long)]) [3] rfl
  have hDc := hD.sub (ws' := [(m0, .inr (11, fM ma 0 0 0 0 0)), (ma 3, .inl (cm 3, 85, .inr (.inl (fun _ => 0))))]) [6, 8] (by decide) rfl
  have hFc := va_free (wc := [(m0, .inr (11, fM ma 0 0 0 0 0)), (ma 3, .inl (cm 3, 85, .inr (.inl (fun _ => 0))))]) hD hS hA [6, 8] rfl
  refine va_calll (va_runV (As := [.int (xs 1)]) (rest := [.long r3]) ⟨hx, hb, hml, hown, hts⟩ (c_X11_ran l D _ m0 ma (cm 3) 0 0 0 0 0 (xs 1)) (cwV 1 hts g_L_c_X11_ran_158 rfl rfl rfl (by decide +kernel) ⟨(Nat.le_of_ble_eq_true rfl), (Nat.le_of_ble_eq_true rfl)⟩) (PcW_V (q0 := 0) hPc hKc hDc rfl rfl) rfl rfl hl.1 rfl (lv_room (Nat.le_of_ble_eq_true rfl)) dL_law_1601 ⟨(Nat.le_of_ble_eq_true rfl), (Nat.le_of_ble_eq_true rfl)⟩) hS (fun q _ h => hFc q h) hFc (fun r6 uu tt H locs htt hvm hw hB hz1 hk1 hS => ?_)
  obtain ⟨hP, hD⟩ := va_join (wr := [(x0, .inr (10, [.ref (ca 0), .ref (ca 1), .int 0, .ref (ca 3), .ref (ca 4), .ref (ca 5), .ref (ca 6)])), (ca 0, .inl (cc 0, 4, .inr (.inr (.inr (.inr (fun _ => none)))))), (ca 1, .inl (cc 1, 1400, .inl (fun _ => 0))), (ca 4, .inr (1, [.int 0, .ref qi])), (ca 5, .inr (6, [.int 0, .int 0, .int 0, .ref (qp 3), .ref (qp 4), .int 0, .int 0, .int 0, .int 0, .int 0, .int 0, .int 0, .ref (qp 12), .int 0, .ref (qp 14)])), (ca 6, .inr (4, [.int 0, .int 0, .int 0, .int 0, .int 0, .ref (qm 5), .int 0, .ref (qm 7)])), (ma 1, .inl (cm 1, 1400, .inl (fun _ => 0))), (ma 8, .inl (cm 8, 10240, .inl (fun _ => 0))), (ma 9, .inl (cm 9, 10240, .inl (fun _ => 0)))]) (w1 := []) hP hD [6, 8] [0, 1, 2, 3, 4, 5, 7, 9, 10] rfl rfl (by decide) (by decide) hk1 hFc va_P_nil va_D_nil
  have hP : va_P D vwCl [(x0, .inr (10, [.ref (ca 0), .ref (ca 1), .int 0, .ref (ca 3), .ref (ca 4), .ref (ca 5), .ref (ca 6)])), (ca 0, .inl (cc 0, 4, .inr (.inr (.inr (.inr (fun _ => none)))))), (ca 1, .inl (cc 1, 1400, .inl (fun _ => 0))), (ca 4, .inr (1, [.int 0, .ref qi])), (ca 5, .inr (6, [.int 0, .int 0, .int 0, .ref (qp 3), .ref (qp 4), .int 0, .int 0, .int 0, .int 0, .int 0, .int 0, .int 0, .ref (qp 12), .int 0, .ref (qp 14)])), (ca 6, .inr (4, [.int 0, .int 0, .int 0, .int 0, .int 0, .ref (qm 5), .int 0, .ref (qm 7)])), (ma 1, .inl (cm 1, 1400, .inl (fun _ => 0))), (ma 8, .inl (cm 8, 10240, .inl (fun _ => 0))), (ma 9, .inl (cm 9, 10240, .inl (fun _ => 0)))] H := hP
  have hD : va_D A [(x0, .inr (10, [.ref (ca 0), .ref (ca 1), .int 0, .ref (ca 3), .ref (ca 4), .ref (ca 5), .ref (ca 6)])), (ca 0, .inl (cc 0, 4, .inr (.inr (.inr (.inr (fun _ => none)))))), (ca 1, .inl (cc 1, 1400, .inl (fun _ => 0))), (ca 4, .inr (1, [.int 0, .ref qi])), (ca 5, .inr (6, [.int 0, .int 0, .int 0, .ref (qp 3), .ref (qp 4), .int 0, .int 0, .int 0, .int 0, .int 0, .int 0, .int 0, .ref (qp 12), .int 0, .ref (qp 14)])), (ca 6, .inr (4, [.int 0, .int 0, .int 0, .int 0, .int 0, .ref (qm 5), .int 0, .ref (qm 7)])), (ma 1, .inl (cm 1, 1400, .inl (fun _ => 0))), (ma 8, .inl (cm 8, 10240, .inl (fun _ => 0))), (ma 9, .inl (cm 9, 10240, .inl (fun _ => 0)))] := hD
  try dsimp only at hw
  clear hB hz1 hk1 hFc hPc hKc hDc
  have hw_r6 := hw
  refine W.lcmp hx hb dL_law_1604 ?_
  refine lv_if_eq (tgt := 1735) hx hb dL_law_1605 (by decide) (fun hc => ?_) (fun hc => absurd ((lg_cmp_eq _ _).mpr (by rw [hw_r3, hw_r6])) hc)
  exact law_tail (D := D) l C0 hN hA hbA hA2 (Nat.le_of_ble_eq_true rfl) (Nat.le_of_ble_eq_true rfl) hS hl

set_option maxHeartbeats 4000000 in
set_option maxRecDepth 100000 in
theorem law_case_32 {p : Program} {e : Env} {s : State} {m : MethodId} {below : List Frame} {meth : Method} {c : Code} (l : Launch) {b : Nat} {xs : Nat → Int32} {D : va_G} {A : Nat → Prop} (C0 : lw_At p s m meth c b 7 xs) (hN : NN s) (hA : ∀ q, s.heap.size ≤ q → A q) (hbA : ¬ A b) (hA2 : ∀ q, A q → s.heap.size ≤ q) (x0 m0 : Nat) (ca : Nat → Nat) (cc : Nat → ClassId) (qi : Nat) (qp qm : Nat → Nat) (ma : Nat → Nat) (cm : Nat → ClassId) (H : Heap) (locs : List Loc) (hK : va_K D vwCl [(cc 0, .object RX9), (cc 1, .int), (cm 1, .byte), (cm 3, .long), (cm 8, .int), (cm 9, .int)] s) (hP : va_P D vwCl [(x0, .inr (10, [.ref (ca 0), .ref (ca 1), .int 0, .ref (ca 3), .ref (ca 4), .ref (ca 5), .ref (ca 6)])), (ca 0, .inl (cc 0, 4, .inr (.inr (.inr (.inr (fun _ => none)))))), (ca 1, .inl (cc 1, 1400, .inl (fun _ => 0))), (ca 4, .inr (1, [.int 0, .ref qi])), (ca 5, .inr (6, [.int 0, .int 0, .int 0, .ref (qp 3), .ref (qp 4), .int 0, .int 0, .int 0, .int 0, .int 0, .int 0, .int 0, .ref (qp 12), .int 0, .ref (qp 14)])), (ca 6, .inr (4, [.int 0, .int 0, .int 0, .int 0, .int 0, .ref (qm 5), .int 0, .ref (qm 7)])), (m0, .inr (11, fM ma 0 0 0 0 0)), (ma 1, .inl (cm 1, 1400, .inl (fun _ => 0))), (ma 3, .inl (cm 3, 85, .inr (.inl (fun _ => 0)))), (ma 8, .inl (cm 8, 10240, .inl (fun _ => 0))), (ma 9, .inl (cm 9, 10240, .inl (fun _ => 0)))] H) (hD : va_D A [(x0, .inr (10, [.ref (ca 0), .ref (ca 1), .int 0, .ref (ca 3), .ref (ca 4), .ref (ca 5), .ref (ca 6)])), (ca 0, .inl (cc 0, 4, .inr (.inr (.inr (.inr (fun _ => none)))))), (ca 1, .inl (cc 1, 1400, .inl (fun _ => 0))), (ca 4, .inr (1, [.int 0, .ref qi])), (ca 5, .inr (6, [.int 0, .int 0, .int 0, .ref (qp 3), .ref (qp 4), .int 0, .int 0, .int 0, .int 0, .int 0, .int 0, .int 0, .ref (qp 12), .int 0, .ref (qp 14)])), (ca 6, .inr (4, [.int 0, .int 0, .int 0, .int 0, .int 0, .ref (qm 5), .int 0, .ref (qm 7)])), (m0, .inr (11, fM ma 0 0 0 0 0)), (ma 1, .inl (cm 1, 1400, .inl (fun _ => 0))), (ma 3, .inl (cm 3, 85, .inr (.inl (fun _ => 0)))), (ma 8, .inl (cm 8, 10240, .inl (fun _ => 0))), (ma 9, .inl (cm 9, 10240, .inl (fun _ => 0)))]) (hS : va_S A s.heap H locs) (ls : Array Slot) (hl : lv_has ls 4 [(3, .int 0), (2, .ref m0), (1, .ref x0), (0, .ref b)]) : W p l e room_1 s m #[Value.ref b] below meth c H locs 46 68513 (lw_Z below #[Value.ref b] s) (F0 m 1610 ls []) := by
  have C0 := C0
  have C1 := C0
  obtain ⟨hx, hb, hr, hml, hown, hts, hX, hbl, hlocks, hgv⟩ := C1
  have hown : s.vm.findClass RL = some m.cls := hown
  have hin : ∀ k : Nat, k < 7 → vp_in (nI k) 7 := fun k hk => vp_in_nI hk (by decide)
  refine lv_aload_n hx hb dL_law_1610 rfl (lv_at hl 2 rfl) ?_
  refine lv_aload_n hx hb dL_law_1611 rfl (lv_at hl 3 rfl) ?_
  refine lv_iload_n hx hb dL_law_1612 rfl (lv_at hl 0 rfl) ?_
  refine lv_iconst (v := 1) hx hb dL_law_1613 (by decide) ?_
  refine lv_iadd hx hb dL_law_1614 ?_
  refine lv_topi (fun v1 ev1 => ?_)
  obtain rfl : v1 = 1 := ev1.trans (by decide)
  refine va_sld hx hb hX hbl hbA hS (hin 1 (by omega)) dL_law_1615 ?_
  refine lv_topi (fun v2 ev2 => ?_)
  obtain rfl : v2 = xs 1 := ev2
  have hPc := hP.sub (ws' := [(x0, .inr (10, [.ref (ca 0), .ref (ca 1), .int 0, .ref (ca 3), .ref (ca 4), .ref (ca 5), .ref (ca 6)])), (ca 0, .inl (cc 0, 4, .inr (.inr (.inr (.inr (fun _ => none))))))]) [0, 1] rfl
  have hKc := hK.sub (tys' := [(cc 0, .object RX9)]) [0] rfl
  have hFc := va_free0 hS hA
  refine va_calli (va_runV (As := [.int (xs 1)]) (rest := []) ⟨hx, hb, hml, hown, hts⟩ (c_X10_image l D _ x0 ca (cc 0) 0 (xs 1)) (cwV 1 hts g_L_c_X10_image_159 rfl rfl rfl (by decide +kernel) ⟨(Nat.le_of_ble_eq_true rfl), (Nat.le_of_ble_eq_true rfl)⟩) (PcR_V (q0 := 0) hPc hKc rfl rfl) rfl rfl hl.1 rfl (lv_room (Nat.le_of_ble_eq_true rfl)) dL_law_1616 ⟨(Nat.le_of_ble_eq_true rfl), (Nat.le_of_ble_eq_true rfl)⟩) hS (fun q _ h => hFc q h) hFc (fun r3 uu tt H locs htt hvm hw hB hz1 hk1 hS => ?_)
  have hP := va_keep hP hk1
  try dsimp only at hw
  clear hB hz1 hk1 hFc hPc hKc
  obtain rfl : r3 = (-1) := hw
  refine lv_aload_n hx hb dL_law_1619 rfl (lv_at hl 1 rfl) ?_
  refine lv_aload_n hx hb dL_law_1620 rfl (lv_at hl 3 rfl) ?_
  refine lv_iload_n hx hb dL_law_1621 rfl (lv_at hl 0 rfl) ?_
  refine lv_iconst (v := 1) hx hb dL_law_1622 (by decide) ?_
  refine lv_iadd hx hb dL_law_1623 ?_
  refine lv_topi (fun v4 ev4 => ?_)
  obtain rfl : v4 = 1 := ev4.trans (by decide)
  refine va_sld hx hb hX hbl hbA hS (hin 1 (by omega)) dL_law_1624 ?_
  refine lv_topi (fun v5 ev5 => ?_)
  obtain rfl : v5 = xs 1 := ev5
  have hPc := hP.sub (ws' := [(m0, .inr (11, fM ma 0 0 0 0 0)), (ma 3, .inl (cm 3, 85, .inr (.inl (fun _ => 0))))]) [6, 8] rfl
  have hKc := hK.sub (tys' := [(cm 3, .long)]) [3] rfl
  have hDc := hD.sub (ws' := [(m0, .inr (11, fM ma 0 0 0 0 0)), (ma 3, .inl (cm 3, 85, .inr (.inl (fun _ => 0))))]) [6, 8] (by decide) rfl
  have hFc := va_free (wc := [(m0, .inr (11, fM ma 0 0 0 0 0)), (ma 3, .inl (cm 3, 85, .inr (.inl (fun _ => 0))))]) hD hS hA [6, 8] rfl
  refine va_calli (va_runV (As := [.int (xs 1)]) (rest := [.int (-1)]) ⟨hx, hb, hml, hown, hts⟩ (c_X11_image l D _ m0 ma (cm 3) 0 0 0 0 0 (xs 1)) (cwV 1 hts g_L_c_X11_image_162 rfl rfl rfl (by decide +kernel) ⟨(Nat.le_of_ble_eq_true rfl), (Nat.le_of_ble_eq_true rfl)⟩) (PcW_V (q0 := 0) hPc hKc hDc rfl rfl) rfl rfl hl.1 rfl (lv_room (Nat.le_of_ble_eq_true rfl)) dL_law_1625 ⟨(Nat.le_of_ble_eq_true rfl), (Nat.le_of_ble_eq_true rfl)⟩) hS (fun q _ h => hFc q h) hFc (fun r6 uu tt H locs htt hvm hw hB hz1 hk1 hS => ?_)
  obtain ⟨hP, hD⟩ := va_join (wr := [(x0, .inr (10, [.ref (ca 0), .ref (ca 1), .int 0, .ref (ca 3), .ref (ca 4), .ref (ca 5), .ref (ca 6)])), (ca 0, .inl (cc 0, 4, .inr (.inr (.inr (.inr (fun _ => none)))))), (ca 1, .inl (cc 1, 1400, .inl (fun _ => 0))), (ca 4, .inr (1, [.int 0, .ref qi])), (ca 5, .inr (6, [.int 0, .int 0, .int 0, .ref (qp 3), .ref (qp 4), .int 0, .int 0, .int 0, .int 0, .int 0, .int 0, .int 0, .ref (qp 12), .int 0, .ref (qp 14)])), (ca 6, .inr (4, [.int 0, .int 0, .int 0, .int 0, .int 0, .ref (qm 5), .int 0, .ref (qm 7)])), (ma 1, .inl (cm 1, 1400, .inl (fun _ => 0))), (ma 8, .inl (cm 8, 10240, .inl (fun _ => 0))), (ma 9, .inl (cm 9, 10240, .inl (fun _ => 0)))]) (w1 := []) hP hD [6, 8] [0, 1, 2, 3, 4, 5, 7, 9, 10] rfl rfl (by decide) (by decide) hk1 hFc va_P_nil va_D_nil
  have hP : va_P D vwCl [(x0, .inr (10, [.ref (ca 0), .ref (ca 1), .int 0, .ref (ca 3), .ref (ca 4), .ref (ca 5), .ref (ca 6)])), (ca 0, .inl (cc 0, 4, .inr (.inr (.inr (.inr (fun _ => none)))))), (ca 1, .inl (cc 1, 1400, .inl (fun _ => 0))), (ca 4, .inr (1, [.int 0, .ref qi])), (ca 5, .inr (6, [.int 0, .int 0, .int 0, .ref (qp 3), .ref (qp 4), .int 0, .int 0, .int 0, .int 0, .int 0, .int 0, .int 0, .ref (qp 12), .int 0, .ref (qp 14)])), (ca 6, .inr (4, [.int 0, .int 0, .int 0, .int 0, .int 0, .ref (qm 5), .int 0, .ref (qm 7)])), (ma 1, .inl (cm 1, 1400, .inl (fun _ => 0))), (ma 8, .inl (cm 8, 10240, .inl (fun _ => 0))), (ma 9, .inl (cm 9, 10240, .inl (fun _ => 0)))] H := hP
  have hD : va_D A [(x0, .inr (10, [.ref (ca 0), .ref (ca 1), .int 0, .ref (ca 3), .ref (ca 4), .ref (ca 5), .ref (ca 6)])), (ca 0, .inl (cc 0, 4, .inr (.inr (.inr (.inr (fun _ => none)))))), (ca 1, .inl (cc 1, 1400, .inl (fun _ => 0))), (ca 4, .inr (1, [.int 0, .ref qi])), (ca 5, .inr (6, [.int 0, .int 0, .int 0, .ref (qp 3), .ref (qp 4), .int 0, .int 0, .int 0, .int 0, .int 0, .int 0, .int 0, .ref (qp 12), .int 0, .ref (qp 14)])), (ca 6, .inr (4, [.int 0, .int 0, .int 0, .int 0, .int 0, .ref (qm 5), .int 0, .ref (qm 7)])), (ma 1, .inl (cm 1, 1400, .inl (fun _ => 0))), (ma 8, .inl (cm 8, 10240, .inl (fun _ => 0))), (ma 9, .inl (cm 9, 10240, .inl (fun _ => 0)))] := hD
  try dsimp only at hw
  clear hB hz1 hk1 hFc hPc hKc hDc
  obtain rfl : r6 = (-1) := hw
  refine lv_icmp_eq (tgt := 1735) hx hb dL_law_1628 (by decide) (fun hc => ?_) (fun hc => absurd (by decide) hc)
  exact law_tail (D := D) l C0 hN hA hbA hA2 (Nat.le_of_ble_eq_true rfl) (Nat.le_of_ble_eq_true rfl) hS hl

set_option maxHeartbeats 4000000 in
set_option maxRecDepth 100000 in
theorem law_case_33 {p : Program} {e : Env} {s : State} {m : MethodId} {below : List Frame} {meth : Method} {c : Code} (l : Launch) {b : Nat} {xs : Nat → Int32} {D : va_G} {A : Nat → Prop} (C0 : lw_At p s m meth c b 7 xs) (hN : NN s) (hA : ∀ q, s.heap.size ≤ q → A q) (hbA : ¬ A b) (hA2 : ∀ q, A q → s.heap.size ≤ q) (x0 m0 : Nat) (ca : Nat → Nat) (cc : Nat → ClassId) (qi : Nat) (qp qm : Nat → Nat) (ma : Nat → Nat) (cm : Nat → ClassId) (H : Heap) (locs : List Loc) (hK : va_K D vwCl [(cc 0, .object RX9), (cc 1, .int), (cm 1, .byte), (cm 3, .long), (cm 8, .int), (cm 9, .int)] s) (hP : va_P D vwCl [(x0, .inr (10, [.ref (ca 0), .ref (ca 1), .int 0, .ref (ca 3), .ref (ca 4), .ref (ca 5), .ref (ca 6)])), (ca 0, .inl (cc 0, 4, .inr (.inr (.inr (.inr (fun _ => none)))))), (ca 1, .inl (cc 1, 1400, .inl (fun _ => 0))), (ca 4, .inr (1, [.int 0, .ref qi])), (ca 5, .inr (6, [.int 0, .int 0, .int 0, .ref (qp 3), .ref (qp 4), .int 0, .int 0, .int 0, .int 0, .int 0, .int 0, .int 0, .ref (qp 12), .int 0, .ref (qp 14)])), (ca 6, .inr (4, [.int 0, .int 0, .int 0, .int 0, .int 0, .ref (qm 5), .int 0, .ref (qm 7)])), (m0, .inr (11, fM ma 0 0 0 0 0)), (ma 1, .inl (cm 1, 1400, .inl (fun _ => 0))), (ma 3, .inl (cm 3, 85, .inr (.inl (fun _ => 0)))), (ma 8, .inl (cm 8, 10240, .inl (fun _ => 0))), (ma 9, .inl (cm 9, 10240, .inl (fun _ => 0)))] H) (hD : va_D A [(x0, .inr (10, [.ref (ca 0), .ref (ca 1), .int 0, .ref (ca 3), .ref (ca 4), .ref (ca 5), .ref (ca 6)])), (ca 0, .inl (cc 0, 4, .inr (.inr (.inr (.inr (fun _ => none)))))), (ca 1, .inl (cc 1, 1400, .inl (fun _ => 0))), (ca 4, .inr (1, [.int 0, .ref qi])), (ca 5, .inr (6, [.int 0, .int 0, .int 0, .ref (qp 3), .ref (qp 4), .int 0, .int 0, .int 0, .int 0, .int 0, .int 0, .int 0, .ref (qp 12), .int 0, .ref (qp 14)])), (ca 6, .inr (4, [.int 0, .int 0, .int 0, .int 0, .int 0, .ref (qm 5), .int 0, .ref (qm 7)])), (m0, .inr (11, fM ma 0 0 0 0 0)), (ma 1, .inl (cm 1, 1400, .inl (fun _ => 0))), (ma 3, .inl (cm 3, 85, .inr (.inl (fun _ => 0)))), (ma 8, .inl (cm 8, 10240, .inl (fun _ => 0))), (ma 9, .inl (cm 9, 10240, .inl (fun _ => 0)))]) (hS : va_S A s.heap H locs) (ls : Array Slot) (hl : lv_has ls 4 [(3, .int 0), (2, .ref m0), (1, .ref x0), (0, .ref b)]) : W p l e room_1 s m #[Value.ref b] below meth c H locs 46 68513 (lw_Z below #[Value.ref b] s) (F0 m 1633 ls []) := by
  have C0 := C0
  have C1 := C0
  obtain ⟨hx, hb, hr, hml, hown, hts, hX, hbl, hlocks, hgv⟩ := C1
  have hown : s.vm.findClass RL = some m.cls := hown
  have hin : ∀ k : Nat, k < 7 → vp_in (nI k) 7 := fun k hk => vp_in_nI hk (by decide)
  refine lv_aload_n hx hb dL_law_1633 rfl (lv_at hl 2 rfl) ?_
  refine lv_aload_n hx hb dL_law_1634 rfl (lv_at hl 3 rfl) ?_
  refine lv_iload_n hx hb dL_law_1635 rfl (lv_at hl 0 rfl) ?_
  refine lv_iconst (v := 1) hx hb dL_law_1636 (by decide) ?_
  refine lv_iadd hx hb dL_law_1637 ?_
  refine lv_topi (fun v1 ev1 => ?_)
  obtain rfl : v1 = 1 := ev1.trans (by decide)
  refine va_sld hx hb hX hbl hbA hS (hin 1 (by omega)) dL_law_1638 ?_
  refine lv_topi (fun v2 ev2 => ?_)
  obtain rfl : v2 = xs 1 := ev2
  have hPc := hP.sub (ws' := [(x0, .inr (10, [.ref (ca 0), .ref (ca 1), .int 0, .ref (ca 3), .ref (ca 4), .ref (ca 5), .ref (ca 6)])), (ca 4, .inr (1, [.int 0, .ref qi]))]) [0, 3] rfl
  have hKc := hK.sub (tys' := []) [] rfl
  have hFc := va_free0 hS hA
  refine va_calli (va_runV (As := [.int (xs 1)]) (rest := []) ⟨hx, hb, hml, hown, hts⟩ (c_X10_octet l D _ x0 ca 0 qi (xs 1)) (cwV 1 hts g_L_c_X10_octet_163 rfl rfl rfl (by decide +kernel) ⟨(Nat.le_of_ble_eq_true rfl), (Nat.le_of_ble_eq_true rfl)⟩) (PcR_V (q0 := 0) hPc hKc rfl rfl) rfl rfl hl.1 rfl (lv_room (Nat.le_of_ble_eq_true rfl)) dL_law_1639 ⟨(Nat.le_of_ble_eq_true rfl), (Nat.le_of_ble_eq_true rfl)⟩) hS (fun q _ h => hFc q h) hFc (fun r3 uu tt H locs htt hvm hw hB hz1 hk1 hS => ?_)
  have hP := va_keep hP hk1
  try dsimp only at hw
  clear hB hz1 hk1 hFc hPc hKc
  obtain rfl : r3 = (-1) := hw
  refine lv_aload_n hx hb dL_law_1642 rfl (lv_at hl 1 rfl) ?_
  refine lv_aload_n hx hb dL_law_1643 rfl (lv_at hl 3 rfl) ?_
  refine lv_iload_n hx hb dL_law_1644 rfl (lv_at hl 0 rfl) ?_
  refine lv_iconst (v := 1) hx hb dL_law_1645 (by decide) ?_
  refine lv_iadd hx hb dL_law_1646 ?_
  refine lv_topi (fun v4 ev4 => ?_)
  obtain rfl : v4 = 1 := ev4.trans (by decide)
  refine va_sld hx hb hX hbl hbA hS (hin 1 (by omega)) dL_law_1647 ?_
  refine lv_topi (fun v5 ev5 => ?_)
  obtain rfl : v5 = xs 1 := ev5
  have hPc := hP.sub (ws' := [(m0, .inr (11, fM ma 0 0 0 0 0)), (ma 3, .inl (cm 3, 85, .inr (.inl (fun _ => 0))))]) [6, 8] rfl
  have hKc := hK.sub (tys' := [(cm 3, .long)]) [3] rfl
  have hDc := hD.sub (ws' := [(m0, .inr (11, fM ma 0 0 0 0 0)), (ma 3, .inl (cm 3, 85, .inr (.inl (fun _ => 0))))]) [6, 8] (by decide) rfl
  have hFc := va_free (wc := [(m0, .inr (11, fM ma 0 0 0 0 0)), (ma 3, .inl (cm 3, 85, .inr (.inl (fun _ => 0))))]) hD hS hA [6, 8] rfl
  refine va_calli (va_runV (As := [.int (xs 1)]) (rest := [.int (-1)]) ⟨hx, hb, hml, hown, hts⟩ (c_X11_octet l D _ m0 ma (cm 3) 0 0 0 0 0 (xs 1)) (cwV 1 hts g_L_c_X11_octet_166 rfl rfl rfl (by decide +kernel) ⟨(Nat.le_of_ble_eq_true rfl), (Nat.le_of_ble_eq_true rfl)⟩) (PcW_V (q0 := 0) hPc hKc hDc rfl rfl) rfl rfl hl.1 rfl (lv_room (Nat.le_of_ble_eq_true rfl)) dL_law_1648 ⟨(Nat.le_of_ble_eq_true rfl), (Nat.le_of_ble_eq_true rfl)⟩) hS (fun q _ h => hFc q h) hFc (fun r6 uu tt H locs htt hvm hw hB hz1 hk1 hS => ?_)
  obtain ⟨hP, hD⟩ := va_join (wr := [(x0, .inr (10, [.ref (ca 0), .ref (ca 1), .int 0, .ref (ca 3), .ref (ca 4), .ref (ca 5), .ref (ca 6)])), (ca 0, .inl (cc 0, 4, .inr (.inr (.inr (.inr (fun _ => none)))))), (ca 1, .inl (cc 1, 1400, .inl (fun _ => 0))), (ca 4, .inr (1, [.int 0, .ref qi])), (ca 5, .inr (6, [.int 0, .int 0, .int 0, .ref (qp 3), .ref (qp 4), .int 0, .int 0, .int 0, .int 0, .int 0, .int 0, .int 0, .ref (qp 12), .int 0, .ref (qp 14)])), (ca 6, .inr (4, [.int 0, .int 0, .int 0, .int 0, .int 0, .ref (qm 5), .int 0, .ref (qm 7)])), (ma 1, .inl (cm 1, 1400, .inl (fun _ => 0))), (ma 8, .inl (cm 8, 10240, .inl (fun _ => 0))), (ma 9, .inl (cm 9, 10240, .inl (fun _ => 0)))]) (w1 := []) hP hD [6, 8] [0, 1, 2, 3, 4, 5, 7, 9, 10] rfl rfl (by decide) (by decide) hk1 hFc va_P_nil va_D_nil
  have hP : va_P D vwCl [(x0, .inr (10, [.ref (ca 0), .ref (ca 1), .int 0, .ref (ca 3), .ref (ca 4), .ref (ca 5), .ref (ca 6)])), (ca 0, .inl (cc 0, 4, .inr (.inr (.inr (.inr (fun _ => none)))))), (ca 1, .inl (cc 1, 1400, .inl (fun _ => 0))), (ca 4, .inr (1, [.int 0, .ref qi])), (ca 5, .inr (6, [.int 0, .int 0, .int 0, .ref (qp 3), .ref (qp 4), .int 0, .int 0, .int 0, .int 0, .int 0, .int 0, .int 0, .ref (qp 12), .int 0, .ref (qp 14)])), (ca 6, .inr (4, [.int 0, .int 0, .int 0, .int 0, .int 0, .ref (qm 5), .int 0, .ref (qm 7)])), (ma 1, .inl (cm 1, 1400, .inl (fun _ => 0))), (ma 8, .inl (cm 8, 10240, .inl (fun _ => 0))), (ma 9, .inl (cm 9, 10240, .inl (fun _ => 0)))] H := hP
  have hD : va_D A [(x0, .inr (10, [.ref (ca 0), .ref (ca 1), .int 0, .ref (ca 3), .ref (ca 4), .ref (ca 5), .ref (ca 6)])), (ca 0, .inl (cc 0, 4, .inr (.inr (.inr (.inr (fun _ => none)))))), (ca 1, .inl (cc 1, 1400, .inl (fun _ => 0))), (ca 4, .inr (1, [.int 0, .ref qi])), (ca 5, .inr (6, [.int 0, .int 0, .int 0, .ref (qp 3), .ref (qp 4), .int 0, .int 0, .int 0, .int 0, .int 0, .int 0, .int 0, .ref (qp 12), .int 0, .ref (qp 14)])), (ca 6, .inr (4, [.int 0, .int 0, .int 0, .int 0, .int 0, .ref (qm 5), .int 0, .ref (qm 7)])), (ma 1, .inl (cm 1, 1400, .inl (fun _ => 0))), (ma 8, .inl (cm 8, 10240, .inl (fun _ => 0))), (ma 9, .inl (cm 9, 10240, .inl (fun _ => 0)))] := hD
  try dsimp only at hw
  clear hB hz1 hk1 hFc hPc hKc hDc
  obtain rfl : r6 = (-1) := hw
  refine lv_icmp_eq (tgt := 1735) hx hb dL_law_1651 (by decide) (fun hc => ?_) (fun hc => absurd (by decide) hc)
  exact law_tail (D := D) l C0 hN hA hbA hA2 (Nat.le_of_ble_eq_true rfl) (Nat.le_of_ble_eq_true rfl) hS hl

set_option maxHeartbeats 4000000 in
set_option maxRecDepth 100000 in
theorem law_case_34 {p : Program} {e : Env} {s : State} {m : MethodId} {below : List Frame} {meth : Method} {c : Code} (l : Launch) {b : Nat} {xs : Nat → Int32} {D : va_G} {A : Nat → Prop} (C0 : lw_At p s m meth c b 7 xs) (hN : NN s) (hA : ∀ q, s.heap.size ≤ q → A q) (hbA : ¬ A b) (hA2 : ∀ q, A q → s.heap.size ≤ q) (x0 m0 : Nat) (ca : Nat → Nat) (cc : Nat → ClassId) (qi : Nat) (qp qm : Nat → Nat) (ma : Nat → Nat) (cm : Nat → ClassId) (H : Heap) (locs : List Loc) (hK : va_K D vwCl [(cc 0, .object RX9), (cc 1, .int), (cm 1, .byte), (cm 3, .long), (cm 8, .int), (cm 9, .int)] s) (hP : va_P D vwCl [(x0, .inr (10, [.ref (ca 0), .ref (ca 1), .int 0, .ref (ca 3), .ref (ca 4), .ref (ca 5), .ref (ca 6)])), (ca 0, .inl (cc 0, 4, .inr (.inr (.inr (.inr (fun _ => none)))))), (ca 1, .inl (cc 1, 1400, .inl (fun _ => 0))), (ca 4, .inr (1, [.int 0, .ref qi])), (ca 5, .inr (6, [.int 0, .int 0, .int 0, .ref (qp 3), .ref (qp 4), .int 0, .int 0, .int 0, .int 0, .int 0, .int 0, .int 0, .ref (qp 12), .int 0, .ref (qp 14)])), (ca 6, .inr (4, [.int 0, .int 0, .int 0, .int 0, .int 0, .ref (qm 5), .int 0, .ref (qm 7)])), (m0, .inr (11, fM ma 0 0 0 0 0)), (ma 1, .inl (cm 1, 1400, .inl (fun _ => 0))), (ma 3, .inl (cm 3, 85, .inr (.inl (fun _ => 0)))), (ma 8, .inl (cm 8, 10240, .inl (fun _ => 0))), (ma 9, .inl (cm 9, 10240, .inl (fun _ => 0)))] H) (hD : va_D A [(x0, .inr (10, [.ref (ca 0), .ref (ca 1), .int 0, .ref (ca 3), .ref (ca 4), .ref (ca 5), .ref (ca 6)])), (ca 0, .inl (cc 0, 4, .inr (.inr (.inr (.inr (fun _ => none)))))), (ca 1, .inl (cc 1, 1400, .inl (fun _ => 0))), (ca 4, .inr (1, [.int 0, .ref qi])), (ca 5, .inr (6, [.int 0, .int 0, .int 0, .ref (qp 3), .ref (qp 4), .int 0, .int 0, .int 0, .int 0, .int 0, .int 0, .int 0, .ref (qp 12), .int 0, .ref (qp 14)])), (ca 6, .inr (4, [.int 0, .int 0, .int 0, .int 0, .int 0, .ref (qm 5), .int 0, .ref (qm 7)])), (m0, .inr (11, fM ma 0 0 0 0 0)), (ma 1, .inl (cm 1, 1400, .inl (fun _ => 0))), (ma 3, .inl (cm 3, 85, .inr (.inl (fun _ => 0)))), (ma 8, .inl (cm 8, 10240, .inl (fun _ => 0))), (ma 9, .inl (cm 9, 10240, .inl (fun _ => 0)))]) (hS : va_S A s.heap H locs) (ls : Array Slot) (hl : lv_has ls 4 [(3, .int 0), (2, .ref m0), (1, .ref x0), (0, .ref b)]) : W p l e room_1 s m #[Value.ref b] below meth c H locs 46 68513 (lw_Z below #[Value.ref b] s) (F0 m 1656 ls []) := by
  have C0 := C0
  have C1 := C0
  obtain ⟨hx, hb, hr, hml, hown, hts, hX, hbl, hlocks, hgv⟩ := C1
  have hown : s.vm.findClass RL = some m.cls := hown
  have hin : ∀ k : Nat, k < 7 → vp_in (nI k) 7 := fun k hk => vp_in_nI hk (by decide)
  refine lv_aload_n hx hb dL_law_1656 rfl (lv_at hl 2 rfl) ?_
  refine lv_aload_n hx hb dL_law_1657 rfl (lv_at hl 3 rfl) ?_
  refine lv_iload_n hx hb dL_law_1658 rfl (lv_at hl 0 rfl) ?_
  refine lv_iconst (v := 1) hx hb dL_law_1659 (by decide) ?_
  refine lv_iadd hx hb dL_law_1660 ?_
  refine lv_topi (fun v1 ev1 => ?_)
  obtain rfl : v1 = 1 := ev1.trans (by decide)
  refine va_sld hx hb hX hbl hbA hS (hin 1 (by omega)) dL_law_1661 ?_
  refine lv_topi (fun v2 ev2 => ?_)
  obtain rfl : v2 = xs 1 := ev2
  have hPc := hP.sub (ws' := [(x0, .inr (10, [.ref (ca 0), .ref (ca 1), .int 0, .ref (ca 3), .ref (ca 4), .ref (ca 5), .ref (ca 6)])), (ca 1, .inl (cc 1, 1400, .inl (fun _ => 0)))]) [0, 2] rfl
  have hKc := hK.sub (tys' := [(cc 1, .int)]) [1] rfl
  have hDc := hD.sub (ws' := [(x0, .inr (10, [.ref (ca 0), .ref (ca 1), .int 0, .ref (ca 3), .ref (ca 4), .ref (ca 5), .ref (ca 6)])), (ca 1, .inl (cc 1, 1400, .inl (fun _ => 0)))]) [0, 2] (by decide) rfl
  have hFc := va_free (wc := [(x0, .inr (10, [.ref (ca 0), .ref (ca 1), .int 0, .ref (ca 3), .ref (ca 4), .ref (ca 5), .ref (ca 6)])), (ca 1, .inl (cc 1, 1400, .inl (fun _ => 0)))]) hD hS hA [0, 2] rfl
  refine va_calli (va_runV (As := [.int (xs 1)]) (rest := []) ⟨hx, hb, hml, hown, hts⟩ (c_X10_back l D _ x0 ca (cc 1) (xs 1)) (cwV 1 hts g_L_c_X10_back_167 rfl rfl rfl (by decide +kernel) ⟨(Nat.le_of_ble_eq_true rfl), (Nat.le_of_ble_eq_true rfl)⟩) (PcW_V (q0 := 0) hPc hKc hDc rfl rfl) rfl rfl hl.1 rfl (lv_room (Nat.le_of_ble_eq_true rfl)) dL_law_1662 ⟨(Nat.le_of_ble_eq_true rfl), (Nat.le_of_ble_eq_true rfl)⟩) hS (fun q _ h => hFc q h) hFc (fun r3 uu tt H locs htt hvm hw hB hz1 hk1 hS => ?_)
  obtain ⟨hP, hD⟩ := va_join (wr := [(ca 0, .inl (cc 0, 4, .inr (.inr (.inr (.inr (fun _ => none)))))), (ca 4, .inr (1, [.int 0, .ref qi])), (ca 5, .inr (6, [.int 0, .int 0, .int 0, .ref (qp 3), .ref (qp 4), .int 0, .int 0, .int 0, .int 0, .int 0, .int 0, .int 0, .ref (qp 12), .int 0, .ref (qp 14)])), (ca 6, .inr (4, [.int 0, .int 0, .int 0, .int 0, .int 0, .ref (qm 5), .int 0, .ref (qm 7)])), (m0, .inr (11, fM ma 0 0 0 0 0)), (ma 1, .inl (cm 1, 1400, .inl (fun _ => 0))), (ma 3, .inl (cm 3, 85, .inr (.inl (fun _ => 0)))), (ma 8, .inl (cm 8, 10240, .inl (fun _ => 0))), (ma 9, .inl (cm 9, 10240, .inl (fun _ => 0)))]) (w1 := []) hP hD [0, 2] [1, 3, 4, 5, 6, 7, 8, 9, 10] rfl rfl (by decide) (by decide) hk1 hFc va_P_nil va_D_nil
  have hP : va_P D vwCl [(ca 0, .inl (cc 0, 4, .inr (.inr (.inr (.inr (fun _ => none)))))), (ca 4, .inr (1, [.int 0, .ref qi])), (ca 5, .inr (6, [.int 0, .int 0, .int 0, .ref (qp 3), .ref (qp 4), .int 0, .int 0, .int 0, .int 0, .int 0, .int 0, .int 0, .ref (qp 12), .int 0, .ref (qp 14)])), (ca 6, .inr (4, [.int 0, .int 0, .int 0, .int 0, .int 0, .ref (qm 5), .int 0, .ref (qm 7)])), (m0, .inr (11, fM ma 0 0 0 0 0)), (ma 1, .inl (cm 1, 1400, .inl (fun _ => 0))), (ma 3, .inl (cm 3, 85, .inr (.inl (fun _ => 0)))), (ma 8, .inl (cm 8, 10240, .inl (fun _ => 0))), (ma 9, .inl (cm 9, 10240, .inl (fun _ => 0)))] H := hP
  have hD : va_D A [(ca 0, .inl (cc 0, 4, .inr (.inr (.inr (.inr (fun _ => none)))))), (ca 4, .inr (1, [.int 0, .ref qi])), (ca 5, .inr (6, [.int 0, .int 0, .int 0, .ref (qp 3), .ref (qp 4), .int 0, .int 0, .int 0, .int 0, .int 0, .int 0, .int 0, .ref (qp 12), .int 0, .ref (qp 14)])), (ca 6, .inr (4, [.int 0, .int 0, .int 0, .int 0, .int 0, .ref (qm 5), .int 0, .ref (qm 7)])), (m0, .inr (11, fM ma 0 0 0 0 0)), (ma 1, .inl (cm 1, 1400, .inl (fun _ => 0))), (ma 3, .inl (cm 3, 85, .inr (.inl (fun _ => 0)))), (ma 8, .inl (cm 8, 10240, .inl (fun _ => 0))), (ma 9, .inl (cm 9, 10240, .inl (fun _ => 0)))] := hD
  try dsimp only at hw
  clear hB hz1 hk1 hFc hPc hKc hDc
  have hw_r3 := hw
  refine lv_aload_n hx hb dL_law_1665 rfl (lv_at hl 1 rfl) ?_
  refine lv_aload_n hx hb dL_law_1666 rfl (lv_at hl 3 rfl) ?_
  refine lv_iload_n hx hb dL_law_1667 rfl (lv_at hl 0 rfl) ?_
  refine lv_iconst (v := 1) hx hb dL_law_1668 (by decide) ?_
  refine lv_iadd hx hb dL_law_1669 ?_
  refine lv_topi (fun v4 ev4 => ?_)
  obtain rfl : v4 = 1 := ev4.trans (by decide)
  refine va_sld hx hb hX hbl hbA hS (hin 1 (by omega)) dL_law_1670 ?_
  refine lv_topi (fun v5 ev5 => ?_)
  obtain rfl : v5 = xs 1 := ev5
  have hPc := hP.sub (ws' := [(m0, .inr (11, fM ma 0 0 0 0 0)), (ma 3, .inl (cm 3, 85, .inr (.inl (fun _ => 0))))]) [4, 6] rfl
  have hKc := hK.sub (tys' := [(cm 3, .long)]) [3] rfl
  have hDc := hD.sub (ws' := [(m0, .inr (11, fM ma 0 0 0 0 0)), (ma 3, .inl (cm 3, 85, .inr (.inl (fun _ => 0))))]) [4, 6] (by decide) rfl
  have hFc := va_free (wc := [(m0, .inr (11, fM ma 0 0 0 0 0)), (ma 3, .inl (cm 3, 85, .inr (.inl (fun _ => 0))))]) hD hS hA [4, 6] rfl
  refine va_calli (va_runV (As := [.int (xs 1)]) (rest := [.int r3]) ⟨hx, hb, hml, hown, hts⟩ (c_X11_back l D _ m0 ma (cm 3) 0 0 0 0 (xs 1)) (cwV 1 hts g_L_c_X11_back_170 rfl rfl rfl (by decide +kernel) ⟨(Nat.le_of_ble_eq_true rfl), (Nat.le_of_ble_eq_true rfl)⟩) (PcW_V (q0 := 0) hPc hKc hDc rfl rfl) rfl rfl hl.1 rfl (lv_room (Nat.le_of_ble_eq_true rfl)) dL_law_1671 ⟨(Nat.le_of_ble_eq_true rfl), (Nat.le_of_ble_eq_true rfl)⟩) hS (fun q _ h => hFc q h) hFc (fun r6 uu tt H locs htt hvm hw hB hz1 hk1 hS => ?_)
  obtain ⟨hP, hD⟩ := va_join (wr := [(ca 0, .inl (cc 0, 4, .inr (.inr (.inr (.inr (fun _ => none)))))), (ca 4, .inr (1, [.int 0, .ref qi])), (ca 5, .inr (6, [.int 0, .int 0, .int 0, .ref (qp 3), .ref (qp 4), .int 0, .int 0, .int 0, .int 0, .int 0, .int 0, .int 0, .ref (qp 12), .int 0, .ref (qp 14)])), (ca 6, .inr (4, [.int 0, .int 0, .int 0, .int 0, .int 0, .ref (qm 5), .int 0, .ref (qm 7)])), (ma 1, .inl (cm 1, 1400, .inl (fun _ => 0))), (ma 8, .inl (cm 8, 10240, .inl (fun _ => 0))), (ma 9, .inl (cm 9, 10240, .inl (fun _ => 0)))]) (w1 := []) hP hD [4, 6] [0, 1, 2, 3, 5, 7, 8] rfl rfl (by decide) (by decide) hk1 hFc va_P_nil va_D_nil
  have hP : va_P D vwCl [(ca 0, .inl (cc 0, 4, .inr (.inr (.inr (.inr (fun _ => none)))))), (ca 4, .inr (1, [.int 0, .ref qi])), (ca 5, .inr (6, [.int 0, .int 0, .int 0, .ref (qp 3), .ref (qp 4), .int 0, .int 0, .int 0, .int 0, .int 0, .int 0, .int 0, .ref (qp 12), .int 0, .ref (qp 14)])), (ca 6, .inr (4, [.int 0, .int 0, .int 0, .int 0, .int 0, .ref (qm 5), .int 0, .ref (qm 7)])), (ma 1, .inl (cm 1, 1400, .inl (fun _ => 0))), (ma 8, .inl (cm 8, 10240, .inl (fun _ => 0))), (ma 9, .inl (cm 9, 10240, .inl (fun _ => 0)))] H := hP
  have hD : va_D A [(ca 0, .inl (cc 0, 4, .inr (.inr (.inr (.inr (fun _ => none)))))), (ca 4, .inr (1, [.int 0, .ref qi])), (ca 5, .inr (6, [.int 0, .int 0, .int 0, .ref (qp 3), .ref (qp 4), .int 0, .int 0, .int 0, .int 0, .int 0, .int 0, .int 0, .ref (qp 12), .int 0, .ref (qp 14)])), (ca 6, .inr (4, [.int 0, .int 0, .int 0, .int 0, .int 0, .ref (qm 5), .int 0, .ref (qm 7)])), (ma 1, .inl (cm 1, 1400, .inl (fun _ => 0))), (ma 8, .inl (cm 8, 10240, .inl (fun _ => 0))), (ma 9, .inl (cm 9, 10240, .inl (fun _ => 0)))] := hD
  try dsimp only at hw
  clear hB hz1 hk1 hFc hPc hKc hDc
  have hw_r6 := hw
  refine lv_icmp_eq (tgt := 1735) hx hb dL_law_1674 (by decide) (fun hc => ?_) (fun hc => absurd (by rw [hw_r3, hw_r6]) hc)
  exact law_tail (D := D) l C0 hN hA hbA hA2 (Nat.le_of_ble_eq_true rfl) (Nat.le_of_ble_eq_true rfl) hS hl

set_option maxHeartbeats 4000000 in
set_option maxRecDepth 100000 in
theorem law_case_35 {p : Program} {e : Env} {s : State} {m : MethodId} {below : List Frame} {meth : Method} {c : Code} (l : Launch) {b : Nat} {xs : Nat → Int32} {D : va_G} {A : Nat → Prop} (C0 : lw_At p s m meth c b 7 xs) (hN : NN s) (hA : ∀ q, s.heap.size ≤ q → A q) (hbA : ¬ A b) (hA2 : ∀ q, A q → s.heap.size ≤ q) (x0 m0 : Nat) (ca : Nat → Nat) (cc : Nat → ClassId) (qi : Nat) (qp qm : Nat → Nat) (ma : Nat → Nat) (cm : Nat → ClassId) (H : Heap) (locs : List Loc) (hK : va_K D vwCl [(cc 0, .object RX9), (cc 1, .int), (cm 1, .byte), (cm 3, .long), (cm 8, .int), (cm 9, .int)] s) (hP : va_P D vwCl [(x0, .inr (10, [.ref (ca 0), .ref (ca 1), .int 0, .ref (ca 3), .ref (ca 4), .ref (ca 5), .ref (ca 6)])), (ca 0, .inl (cc 0, 4, .inr (.inr (.inr (.inr (fun _ => none)))))), (ca 1, .inl (cc 1, 1400, .inl (fun _ => 0))), (ca 4, .inr (1, [.int 0, .ref qi])), (ca 5, .inr (6, [.int 0, .int 0, .int 0, .ref (qp 3), .ref (qp 4), .int 0, .int 0, .int 0, .int 0, .int 0, .int 0, .int 0, .ref (qp 12), .int 0, .ref (qp 14)])), (ca 6, .inr (4, [.int 0, .int 0, .int 0, .int 0, .int 0, .ref (qm 5), .int 0, .ref (qm 7)])), (m0, .inr (11, fM ma 0 0 0 0 0)), (ma 1, .inl (cm 1, 1400, .inl (fun _ => 0))), (ma 3, .inl (cm 3, 85, .inr (.inl (fun _ => 0)))), (ma 8, .inl (cm 8, 10240, .inl (fun _ => 0))), (ma 9, .inl (cm 9, 10240, .inl (fun _ => 0)))] H) (hD : va_D A [(x0, .inr (10, [.ref (ca 0), .ref (ca 1), .int 0, .ref (ca 3), .ref (ca 4), .ref (ca 5), .ref (ca 6)])), (ca 0, .inl (cc 0, 4, .inr (.inr (.inr (.inr (fun _ => none)))))), (ca 1, .inl (cc 1, 1400, .inl (fun _ => 0))), (ca 4, .inr (1, [.int 0, .ref qi])), (ca 5, .inr (6, [.int 0, .int 0, .int 0, .ref (qp 3), .ref (qp 4), .int 0, .int 0, .int 0, .int 0, .int 0, .int 0, .int 0, .ref (qp 12), .int 0, .ref (qp 14)])), (ca 6, .inr (4, [.int 0, .int 0, .int 0, .int 0, .int 0, .ref (qm 5), .int 0, .ref (qm 7)])), (m0, .inr (11, fM ma 0 0 0 0 0)), (ma 1, .inl (cm 1, 1400, .inl (fun _ => 0))), (ma 3, .inl (cm 3, 85, .inr (.inl (fun _ => 0)))), (ma 8, .inl (cm 8, 10240, .inl (fun _ => 0))), (ma 9, .inl (cm 9, 10240, .inl (fun _ => 0)))]) (hS : va_S A s.heap H locs) (ls : Array Slot) (hl : lv_has ls 4 [(3, .int 0), (2, .ref m0), (1, .ref x0), (0, .ref b)]) : W p l e room_1 s m #[Value.ref b] below meth c H locs 46 68513 (lw_Z below #[Value.ref b] s) (F0 m 1679 ls []) := by
  have C0 := C0
  have C1 := C0
  obtain ⟨hx, hb, hr, hml, hown, hts, hX, hbl, hlocks, hgv⟩ := C1
  have hown : s.vm.findClass RL = some m.cls := hown
  have hin : ∀ k : Nat, k < 7 → vp_in (nI k) 7 := fun k hk => vp_in_nI hk (by decide)
  refine lv_aload_n hx hb dL_law_1679 rfl (lv_at hl 2 rfl) ?_
  refine lv_aload_n hx hb dL_law_1680 rfl (lv_at hl 3 rfl) ?_
  refine lv_iload_n hx hb dL_law_1681 rfl (lv_at hl 0 rfl) ?_
  refine lv_iconst (v := 1) hx hb dL_law_1682 (by decide) ?_
  refine lv_iadd hx hb dL_law_1683 ?_
  refine lv_topi (fun v1 ev1 => ?_)
  obtain rfl : v1 = 1 := ev1.trans (by decide)
  refine va_sld hx hb hX hbl hbA hS (hin 1 (by omega)) dL_law_1684 ?_
  refine lv_topi (fun v2 ev2 => ?_)
  obtain rfl : v2 = xs 1 := ev2
  refine lv_aload_n hx hb dL_law_1685 rfl (lv_at hl 3 rfl) ?_
  refine lv_iload_n hx hb dL_law_1686 rfl (lv_at hl 0 rfl) ?_
  refine lv_iconst (v := 2) hx hb dL_law_1687 (by decide) ?_
  refine lv_iadd hx hb dL_law_1688 ?_
  refine lv_topi (fun v3 ev3 => ?_)
  obtain rfl : v3 = 2 := ev3.trans (by decide)
  refine va_sld hx hb hX hbl hbA hS (hin 2 (by omega)) dL_law_1689 ?_
  refine lv_topi (fun v4 ev4 => ?_)
  obtain rfl : v4 = xs 2 := ev4
  have hPc := hP.sub (ws' := [(x0, .inr (10, [.ref (ca 0), .ref (ca 1), .int 0, .ref (ca 3), .ref (ca 4), .ref (ca 5), .ref (ca 6)])), (ca 0, .inl (cc 0, 4, .inr (.inr (.inr (.inr (fun _ => none))))))]) [0, 1] rfl
  have hKc := hK.sub (tys' := [(cc 0, .object RX9)]) [0] rfl
  have hFc := va_free0 hS hA
  refine va_calli (va_runV (As := [.int (xs 1), .int (xs 2)]) (rest := []) ⟨hx, hb, hml, hown, hts⟩ (c_X10_copy l D _ x0 ca (cc 0) 0 (xs 1) (xs 2)) (cwV 2 hts g_L_c_X10_copy_171 rfl rfl rfl (by decide +kernel) ⟨(Nat.le_of_ble_eq_true rfl), (Nat.le_of_ble_eq_true rfl)⟩) (PcR_V (q0 := 0) hPc hKc rfl rfl) rfl rfl hl.1 rfl (lv_room (Nat.le_of_ble_eq_true rfl)) dL_law_1690 ⟨(Nat.le_of_ble_eq_true rfl), (Nat.le_of_ble_eq_true rfl)⟩) hS (fun q _ h => hFc q h) hFc (fun r5 uu tt H locs htt hvm hw hB hz1 hk1 hS => ?_)
  have hP := va_keep hP hk1
  try dsimp only at hw
  clear hB hz1 hk1 hFc hPc hKc
  obtain rfl : r5 = (-2) := hw
  refine lv_aload_n hx hb dL_law_1693 rfl (lv_at hl 1 rfl) ?_
  refine lv_aload_n hx hb dL_law_1694 rfl (lv_at hl 3 rfl) ?_
  refine lv_iload_n hx hb dL_law_1695 rfl (lv_at hl 0 rfl) ?_
  refine lv_iconst (v := 1) hx hb dL_law_1696 (by decide) ?_
  refine lv_iadd hx hb dL_law_1697 ?_
  refine lv_topi (fun v6 ev6 => ?_)
  obtain rfl : v6 = 1 := ev6.trans (by decide)
  refine va_sld hx hb hX hbl hbA hS (hin 1 (by omega)) dL_law_1698 ?_
  refine lv_topi (fun v7 ev7 => ?_)
  obtain rfl : v7 = xs 1 := ev7
  refine lv_aload_n hx hb dL_law_1699 rfl (lv_at hl 3 rfl) ?_
  refine lv_iload_n hx hb dL_law_1700 rfl (lv_at hl 0 rfl) ?_
  refine lv_iconst (v := 2) hx hb dL_law_1701 (by decide) ?_
  refine lv_iadd hx hb dL_law_1702 ?_
  refine lv_topi (fun v8 ev8 => ?_)
  obtain rfl : v8 = 2 := ev8.trans (by decide)
  refine va_sld hx hb hX hbl hbA hS (hin 2 (by omega)) dL_law_1703 ?_
  refine lv_topi (fun v9 ev9 => ?_)
  obtain rfl : v9 = xs 2 := ev9
  have hPc := hP.sub (ws' := [(m0, .inr (11, fM ma 0 0 0 0 0)), (ma 3, .inl (cm 3, 85, .inr (.inl (fun _ => 0))))]) [6, 8] rfl
  have hKc := hK.sub (tys' := [(cm 3, .long)]) [3] rfl
  have hDc := hD.sub (ws' := [(m0, .inr (11, fM ma 0 0 0 0 0)), (ma 3, .inl (cm 3, 85, .inr (.inl (fun _ => 0))))]) [6, 8] (by decide) rfl
  have hFc := va_free (wc := [(m0, .inr (11, fM ma 0 0 0 0 0)), (ma 3, .inl (cm 3, 85, .inr (.inl (fun _ => 0))))]) hD hS hA [6, 8] rfl
  refine va_calli (va_runV (As := [.int (xs 1), .int (xs 2)]) (rest := [.int (-2)]) ⟨hx, hb, hml, hown, hts⟩ (c_X11_copy l D _ m0 ma (cm 3) 0 0 0 0 0 (xs 1) (xs 2)) (cwV 2 hts g_L_c_X11_copy_174 rfl rfl rfl (by decide +kernel) ⟨(Nat.le_of_ble_eq_true rfl), (Nat.le_of_ble_eq_true rfl)⟩) (PcW_V (q0 := 0) hPc hKc hDc rfl rfl) rfl rfl hl.1 rfl (lv_room (Nat.le_of_ble_eq_true rfl)) dL_law_1704 ⟨(Nat.le_of_ble_eq_true rfl), (Nat.le_of_ble_eq_true rfl)⟩) hS (fun q _ h => hFc q h) hFc (fun r10 uu tt H locs htt hvm hw hB hz1 hk1 hS => ?_)
  obtain ⟨hP, hD⟩ := va_join (wr := [(x0, .inr (10, [.ref (ca 0), .ref (ca 1), .int 0, .ref (ca 3), .ref (ca 4), .ref (ca 5), .ref (ca 6)])), (ca 0, .inl (cc 0, 4, .inr (.inr (.inr (.inr (fun _ => none)))))), (ca 1, .inl (cc 1, 1400, .inl (fun _ => 0))), (ca 4, .inr (1, [.int 0, .ref qi])), (ca 5, .inr (6, [.int 0, .int 0, .int 0, .ref (qp 3), .ref (qp 4), .int 0, .int 0, .int 0, .int 0, .int 0, .int 0, .int 0, .ref (qp 12), .int 0, .ref (qp 14)])), (ca 6, .inr (4, [.int 0, .int 0, .int 0, .int 0, .int 0, .ref (qm 5), .int 0, .ref (qm 7)])), (ma 1, .inl (cm 1, 1400, .inl (fun _ => 0))), (ma 8, .inl (cm 8, 10240, .inl (fun _ => 0))), (ma 9, .inl (cm 9, 10240, .inl (fun _ => 0)))]) (w1 := []) hP hD [6, 8] [0, 1, 2, 3, 4, 5, 7, 9, 10] rfl rfl (by decide) (by decide) hk1 hFc va_P_nil va_D_nil
  have hP : va_P D vwCl [(x0, .inr (10, [.ref (ca 0), .ref (ca 1), .int 0, .ref (ca 3), .ref (ca 4), .ref (ca 5), .ref (ca 6)])), (ca 0, .inl (cc 0, 4, .inr (.inr (.inr (.inr (fun _ => none)))))), (ca 1, .inl (cc 1, 1400, .inl (fun _ => 0))), (ca 4, .inr (1, [.int 0, .ref qi])), (ca 5, .inr (6, [.int 0, .int 0, .int 0, .ref (qp 3), .ref (qp 4), .int 0, .int 0, .int 0, .int 0, .int 0, .int 0, .int 0, .ref (qp 12), .int 0, .ref (qp 14)])), (ca 6, .inr (4, [.int 0, .int 0, .int 0, .int 0, .int 0, .ref (qm 5), .int 0, .ref (qm 7)])), (ma 1, .inl (cm 1, 1400, .inl (fun _ => 0))), (ma 8, .inl (cm 8, 10240, .inl (fun _ => 0))), (ma 9, .inl (cm 9, 10240, .inl (fun _ => 0)))] H := hP
  have hD : va_D A [(x0, .inr (10, [.ref (ca 0), .ref (ca 1), .int 0, .ref (ca 3), .ref (ca 4), .ref (ca 5), .ref (ca 6)])), (ca 0, .inl (cc 0, 4, .inr (.inr (.inr (.inr (fun _ => none)))))), (ca 1, .inl (cc 1, 1400, .inl (fun _ => 0))), (ca 4, .inr (1, [.int 0, .ref qi])), (ca 5, .inr (6, [.int 0, .int 0, .int 0, .ref (qp 3), .ref (qp 4), .int 0, .int 0, .int 0, .int 0, .int 0, .int 0, .int 0, .ref (qp 12), .int 0, .ref (qp 14)])), (ca 6, .inr (4, [.int 0, .int 0, .int 0, .int 0, .int 0, .ref (qm 5), .int 0, .ref (qm 7)])), (ma 1, .inl (cm 1, 1400, .inl (fun _ => 0))), (ma 8, .inl (cm 8, 10240, .inl (fun _ => 0))), (ma 9, .inl (cm 9, 10240, .inl (fun _ => 0)))] := hD
  try dsimp only at hw
  clear hB hz1 hk1 hFc hPc hKc hDc
  obtain rfl : r10 = (-2) := hw
  refine lv_icmp_eq (tgt := 1735) hx hb dL_law_1707 (by decide) (fun hc => ?_) (fun hc => absurd (by decide) hc)
  exact law_tail (D := D) l C0 hN hA hbA hA2 (Nat.le_of_ble_eq_true rfl) (Nat.le_of_ble_eq_true rfl) hS hl

set_option maxHeartbeats 4000000 in
set_option maxRecDepth 100000 in
theorem law_case_36 {p : Program} {e : Env} {s : State} {m : MethodId} {below : List Frame} {meth : Method} {c : Code} (l : Launch) {b : Nat} {xs : Nat → Int32} {D : va_G} {A : Nat → Prop} (C0 : lw_At p s m meth c b 7 xs) (hN : NN s) (hA : ∀ q, s.heap.size ≤ q → A q) (hbA : ¬ A b) (hA2 : ∀ q, A q → s.heap.size ≤ q) (x0 m0 : Nat) (ca : Nat → Nat) (cc : Nat → ClassId) (qi : Nat) (qp qm : Nat → Nat) (ma : Nat → Nat) (cm : Nat → ClassId) (H : Heap) (locs : List Loc) (hK : va_K D vwCl [(cc 0, .object RX9), (cc 1, .int), (cm 1, .byte), (cm 3, .long), (cm 8, .int), (cm 9, .int)] s) (hP : va_P D vwCl [(x0, .inr (10, [.ref (ca 0), .ref (ca 1), .int 0, .ref (ca 3), .ref (ca 4), .ref (ca 5), .ref (ca 6)])), (ca 0, .inl (cc 0, 4, .inr (.inr (.inr (.inr (fun _ => none)))))), (ca 1, .inl (cc 1, 1400, .inl (fun _ => 0))), (ca 4, .inr (1, [.int 0, .ref qi])), (ca 5, .inr (6, [.int 0, .int 0, .int 0, .ref (qp 3), .ref (qp 4), .int 0, .int 0, .int 0, .int 0, .int 0, .int 0, .int 0, .ref (qp 12), .int 0, .ref (qp 14)])), (ca 6, .inr (4, [.int 0, .int 0, .int 0, .int 0, .int 0, .ref (qm 5), .int 0, .ref (qm 7)])), (m0, .inr (11, fM ma 0 0 0 0 0)), (ma 1, .inl (cm 1, 1400, .inl (fun _ => 0))), (ma 3, .inl (cm 3, 85, .inr (.inl (fun _ => 0)))), (ma 8, .inl (cm 8, 10240, .inl (fun _ => 0))), (ma 9, .inl (cm 9, 10240, .inl (fun _ => 0)))] H) (hD : va_D A [(x0, .inr (10, [.ref (ca 0), .ref (ca 1), .int 0, .ref (ca 3), .ref (ca 4), .ref (ca 5), .ref (ca 6)])), (ca 0, .inl (cc 0, 4, .inr (.inr (.inr (.inr (fun _ => none)))))), (ca 1, .inl (cc 1, 1400, .inl (fun _ => 0))), (ca 4, .inr (1, [.int 0, .ref qi])), (ca 5, .inr (6, [.int 0, .int 0, .int 0, .ref (qp 3), .ref (qp 4), .int 0, .int 0, .int 0, .int 0, .int 0, .int 0, .int 0, .ref (qp 12), .int 0, .ref (qp 14)])), (ca 6, .inr (4, [.int 0, .int 0, .int 0, .int 0, .int 0, .ref (qm 5), .int 0, .ref (qm 7)])), (m0, .inr (11, fM ma 0 0 0 0 0)), (ma 1, .inl (cm 1, 1400, .inl (fun _ => 0))), (ma 3, .inl (cm 3, 85, .inr (.inl (fun _ => 0)))), (ma 8, .inl (cm 8, 10240, .inl (fun _ => 0))), (ma 9, .inl (cm 9, 10240, .inl (fun _ => 0)))]) (hS : va_S A s.heap H locs) (ls : Array Slot) (hl : lv_has ls 4 [(3, .int 0), (2, .ref m0), (1, .ref x0), (0, .ref b)]) : W p l e room_1 s m #[Value.ref b] below meth c H locs 46 68513 (lw_Z below #[Value.ref b] s) (F0 m 1712 ls []) := by
  have C0 := C0
  have C1 := C0
  obtain ⟨hx, hb, hr, hml, hown, hts, hX, hbl, hlocks, hgv⟩ := C1
  have hown : s.vm.findClass RL = some m.cls := hown
  have hin : ∀ k : Nat, k < 7 → vp_in (nI k) 7 := fun k hk => vp_in_nI hk (by decide)
  refine lv_aload_n hx hb dL_law_1712 rfl (lv_at hl 2 rfl) ?_
  refine lv_aload_n hx hb dL_law_1713 rfl (lv_at hl 3 rfl) ?_
  refine lv_iload_n hx hb dL_law_1714 rfl (lv_at hl 0 rfl) ?_
  refine lv_iconst (v := 1) hx hb dL_law_1715 (by decide) ?_
  refine lv_iadd hx hb dL_law_1716 ?_
  refine lv_topi (fun v1 ev1 => ?_)
  obtain rfl : v1 = 1 := ev1.trans (by decide)
  refine va_sld hx hb hX hbl hbA hS (hin 1 (by omega)) dL_law_1717 ?_
  refine lv_topi (fun v2 ev2 => ?_)
  obtain rfl : v2 = xs 1 := ev2
  have hPc := hP.sub (ws' := [(x0, .inr (10, [.ref (ca 0), .ref (ca 1), .int 0, .ref (ca 3), .ref (ca 4), .ref (ca 5), .ref (ca 6)])), (ca 0, .inl (cc 0, 4, .inr (.inr (.inr (.inr (fun _ => none))))))]) [0, 1] rfl
  have hKc := hK.sub (tys' := [(cc 0, .object RX9)]) [0] rfl
  have hFc := va_free0 hS hA
  refine va_calli (va_runV (As := [.int (xs 1)]) (rest := []) ⟨hx, hb, hml, hown, hts⟩ (c_X10_count l D _ x0 ca (cc 0) (xs 1)) (cwV 1 hts g_L_c_X10_count_175 rfl rfl rfl (by decide +kernel) ⟨(Nat.le_of_ble_eq_true rfl), (Nat.le_of_ble_eq_true rfl)⟩) (PcR_V (q0 := 0) hPc hKc rfl rfl) rfl rfl hl.1 rfl (lv_room (Nat.le_of_ble_eq_true rfl)) dL_law_1718 ⟨(Nat.le_of_ble_eq_true rfl), (Nat.le_of_ble_eq_true rfl)⟩) hS (fun q _ h => hFc q h) hFc (fun r3 uu tt H locs htt hvm hw hB hz1 hk1 hS => ?_)
  have hP := va_keep hP hk1
  try dsimp only at hw
  clear hB hz1 hk1 hFc hPc hKc
  have hw_r3 := hw
  refine lv_aload_n hx hb dL_law_1721 rfl (lv_at hl 1 rfl) ?_
  refine lv_aload_n hx hb dL_law_1722 rfl (lv_at hl 3 rfl) ?_
  refine lv_iload_n hx hb dL_law_1723 rfl (lv_at hl 0 rfl) ?_
  refine lv_iconst (v := 1) hx hb dL_law_1724 (by decide) ?_
  refine lv_iadd hx hb dL_law_1725 ?_
  refine lv_topi (fun v4 ev4 => ?_)
  obtain rfl : v4 = 1 := ev4.trans (by decide)
  refine va_sld hx hb hX hbl hbA hS (hin 1 (by omega)) dL_law_1726 ?_
  refine lv_topi (fun v5 ev5 => ?_)
  obtain rfl : v5 = xs 1 := ev5
  have hPc := hP.sub (ws' := [(m0, .inr (11, fM ma 0 0 0 0 0)), (ma 3, .inl (cm 3, 85, .inr (.inl (fun _ => 0))))]) [6, 8] rfl
  have hKc := hK.sub (tys' := [(cm 3, .long)]) [3] rfl
  have hDc := hD.sub (ws' := [(m0, .inr (11, fM ma 0 0 0 0 0)), (ma 3, .inl (cm 3, 85, .inr (.inl (fun _ => 0))))]) [6, 8] (by decide) rfl
  have hFc := va_free (wc := [(m0, .inr (11, fM ma 0 0 0 0 0)), (ma 3, .inl (cm 3, 85, .inr (.inl (fun _ => 0))))]) hD hS hA [6, 8] rfl
  refine va_calli (va_runV (As := [.int (xs 1)]) (rest := [.int r3]) ⟨hx, hb, hml, hown, hts⟩ (c_X11_count l D _ m0 ma (cm 3) 0 0 0 0 (xs 1)) (cwV 1 hts g_L_c_X11_count_178 rfl rfl rfl (by decide +kernel) ⟨(Nat.le_of_ble_eq_true rfl), (Nat.le_of_ble_eq_true rfl)⟩) (PcW_V (q0 := 0) hPc hKc hDc rfl rfl) rfl rfl hl.1 rfl (lv_room (Nat.le_of_ble_eq_true rfl)) dL_law_1727 ⟨(Nat.le_of_ble_eq_true rfl), (Nat.le_of_ble_eq_true rfl)⟩) hS (fun q _ h => hFc q h) hFc (fun r6 uu tt H locs htt hvm hw hB hz1 hk1 hS => ?_)
  obtain ⟨hP, hD⟩ := va_join (wr := [(x0, .inr (10, [.ref (ca 0), .ref (ca 1), .int 0, .ref (ca 3), .ref (ca 4), .ref (ca 5), .ref (ca 6)])), (ca 0, .inl (cc 0, 4, .inr (.inr (.inr (.inr (fun _ => none)))))), (ca 1, .inl (cc 1, 1400, .inl (fun _ => 0))), (ca 4, .inr (1, [.int 0, .ref qi])), (ca 5, .inr (6, [.int 0, .int 0, .int 0, .ref (qp 3), .ref (qp 4), .int 0, .int 0, .int 0, .int 0, .int 0, .int 0, .int 0, .ref (qp 12), .int 0, .ref (qp 14)])), (ca 6, .inr (4, [.int 0, .int 0, .int 0, .int 0, .int 0, .ref (qm 5), .int 0, .ref (qm 7)])), (ma 1, .inl (cm 1, 1400, .inl (fun _ => 0))), (ma 8, .inl (cm 8, 10240, .inl (fun _ => 0))), (ma 9, .inl (cm 9, 10240, .inl (fun _ => 0)))]) (w1 := []) hP hD [6, 8] [0, 1, 2, 3, 4, 5, 7, 9, 10] rfl rfl (by decide) (by decide) hk1 hFc va_P_nil va_D_nil
  have hP : va_P D vwCl [(x0, .inr (10, [.ref (ca 0), .ref (ca 1), .int 0, .ref (ca 3), .ref (ca 4), .ref (ca 5), .ref (ca 6)])), (ca 0, .inl (cc 0, 4, .inr (.inr (.inr (.inr (fun _ => none)))))), (ca 1, .inl (cc 1, 1400, .inl (fun _ => 0))), (ca 4, .inr (1, [.int 0, .ref qi])), (ca 5, .inr (6, [.int 0, .int 0, .int 0, .ref (qp 3), .ref (qp 4), .int 0, .int 0, .int 0, .int 0, .int 0, .int 0, .int 0, .ref (qp 12), .int 0, .ref (qp 14)])), (ca 6, .inr (4, [.int 0, .int 0, .int 0, .int 0, .int 0, .ref (qm 5), .int 0, .ref (qm 7)])), (ma 1, .inl (cm 1, 1400, .inl (fun _ => 0))), (ma 8, .inl (cm 8, 10240, .inl (fun _ => 0))), (ma 9, .inl (cm 9, 10240, .inl (fun _ => 0)))] H := hP
  have hD : va_D A [(x0, .inr (10, [.ref (ca 0), .ref (ca 1), .int 0, .ref (ca 3), .ref (ca 4), .ref (ca 5), .ref (ca 6)])), (ca 0, .inl (cc 0, 4, .inr (.inr (.inr (.inr (fun _ => none)))))), (ca 1, .inl (cc 1, 1400, .inl (fun _ => 0))), (ca 4, .inr (1, [.int 0, .ref qi])), (ca 5, .inr (6, [.int 0, .int 0, .int 0, .ref (qp 3), .ref (qp 4), .int 0, .int 0, .int 0, .int 0, .int 0, .int 0, .int 0, .ref (qp 12), .int 0, .ref (qp 14)])), (ca 6, .inr (4, [.int 0, .int 0, .int 0, .int 0, .int 0, .ref (qm 5), .int 0, .ref (qm 7)])), (ma 1, .inl (cm 1, 1400, .inl (fun _ => 0))), (ma 8, .inl (cm 8, 10240, .inl (fun _ => 0))), (ma 9, .inl (cm 9, 10240, .inl (fun _ => 0)))] := hD
  try dsimp only at hw
  clear hB hz1 hk1 hFc hPc hKc hDc
  have hw_r6 := hw
  refine lv_icmp_eq (tgt := 1735) hx hb dL_law_1730 (by decide) (fun hc => ?_) (fun hc => absurd (by rw [hw_r3, hw_r6]) hc)
  exact law_tail (D := D) l C0 hN hA hbA hA2 (Nat.le_of_ble_eq_true rfl) (Nat.le_of_ble_eq_true rfl) hS hl
