set_option maxHeartbeats 4000000 in
set_option maxRecDepth 100000 in
theorem law_case_11 {p : Program} {e : Env} {s : State} {m : MethodId} {below : List Frame} {meth : Method} {c : Code} (l : Launch) {b : Nat} {xs : Nat → Int32} {D : va_G} {A : Nat → Prop} (C0 : lw_At p s m meth c b 7 xs) (hN : NN s) (hA : ∀ q, s.heap.size ≤ q → A q) (hbA : ¬ A b) (hA2 : ∀ q, A q → s.heap.size ≤ q) (x0 m0 : Nat) (ca : Nat → Nat) (cc : Nat → ClassId) (qi : Nat) (qp qm : Nat → Nat) (ma : Nat → Nat) (cm : Nat → ClassId) (H : Heap) (locs : List Loc) (hK : va_K D vwCl [(cc 0, .object RX9), (cc 1, .int), (cm 1, .byte), (cm 3, .long), (cm 8, .int), (cm 9, .int)] s) (hP : va_P D vwCl [(x0, .inr (10, [.ref (ca 0), .ref (ca 1), .int 0, .ref (ca 3), .ref (ca 4), .ref (ca 5), .ref (ca 6)])), (ca 0, .inl (cc 0, 4, .inr (.inr (.inr (.inr (fun _ => none)))))), (ca 1, .inl (cc 1, 1400, .inl (fun _ => 0))), (ca 4, .inr (1, [.int 0, .ref qi])), (ca 5, .inr (6, [.int 0, .int 0, .int 0, .ref (qp 3), .ref (qp 4), .int 0, .int 0, .int 0, .int 0, .int 0, .int 0, .int 0, .ref (qp 12), .int 0, .ref (qp 14)])), (ca 6, .inr (4, [.int 0, .int 0, .int 0, .int 0, .int 0, .ref (qm 5), .int 0, .ref (qm 7)])), (m0, .inr (11, fM ma 0 0 0 0 0)), (ma 1, .inl (cm 1, 1400, .inl (fun _ => 0))), (ma 3, .inl (cm 3, 85, .inr (.inl (fun _ => 0)))), (ma 8, .inl (cm 8, 10240, .inl (fun _ => 0))), (ma 9, .inl (cm 9, 10240, .inl (fun _ => 0)))] H) (hD : va_D A [(x0, .inr (10, [.ref (ca 0), .ref (ca 1), .int 0, .ref (ca 3), .ref (ca 4), .ref (ca 5), .ref (ca 6)])), (ca 0, .inl (cc 0, 4, .inr (.inr (.inr (.inr (fun _ => none)))))), (ca 1, .inl (cc 1, 1400, .inl (fun _ => 0))), (ca 4, .inr (1, [.int 0, .ref qi])), (ca 5, .inr (6, [.int 0, .int 0, .int 0, .ref (qp 3), .ref (qp 4), .int 0, .int 0, .int 0, .int 0, .int 0, .int 0, .int 0, .ref (qp 12), .int 0, .ref (qp 14)])), (ca 6, .inr (4, [.int 0, .int 0, .int 0, .int 0, .int 0, .ref (qm 5), .int 0, .ref (qm 7)])), (m0, .inr (11, fM ma 0 0 0 0 0)), (ma 1, .inl (cm 1, 1400, .inl (fun _ => 0))), (ma 3, .inl (cm 3, 85, .inr (.inl (fun _ => 0)))), (ma 8, .inl (cm 8, 10240, .inl (fun _ => 0))), (ma 9, .inl (cm 9, 10240, .inl (fun _ => 0)))]) (hS : va_S A s.heap H locs) (ls : Array Slot) (hl : lv_has ls 4 [(3, .int 0), (2, .ref m0), (1, .ref x0), (0, .ref b)]) : W p l e room_1 s m #[Value.ref b] below meth c H locs 46 68513 (lw_Z below #[Value.ref b] s) (F0 m 674 ls []) := by
  have C0 := C0
  have C1 := C0
  obtain ⟨hx, hb, hr, hml, hown, hts, hX, hbl, hlocks, hgv⟩ := C1
  have hown : s.vm.findClass RL = some m.cls := hown
  have hin : ∀ k : Nat, k < 7 → vp_in (nI k) 7 := fun k hk => vp_in_nI hk (by decide)
  refine lv_aload_n hx hb dL_law_674 rfl (lv_at hl 2 rfl) ?_
  refine lv_aload_n hx hb dL_law_675 rfl (lv_at hl 3 rfl) ?_
  refine lv_iload_n hx hb dL_law_676 rfl (lv_at hl 0 rfl) ?_
  refine lv_iconst (v := 1) hx hb dL_law_677 (by decide) ?_
  refine lv_iadd hx hb dL_law_678 ?_
  refine lv_topi (fun v1 ev1 => ?_)
  obtain rfl : v1 = 1 := ev1.trans (by decide)
  refine va_sld hx hb hX hbl hbA hS (hin 1 (by omega)) dL_law_679 ?_
  refine lv_topi (fun v2 ev2 => ?_)
  obtain rfl : v2 = xs 1 := ev2
  refine lv_aload_n hx hb dL_law_680 rfl (lv_at hl 3 rfl) ?_
  refine lv_iload_n hx hb dL_law_681 rfl (lv_at hl 0 rfl) ?_
  refine lv_iconst (v := 2) hx hb dL_law_682 (by decide) ?_
  refine lv_iadd hx hb dL_law_683 ?_
  refine lv_topi (fun v3 ev3 => ?_)
  obtain rfl : v3 = 2 := ev3.trans (by decide)
  refine va_sld hx hb hX hbl hbA hS (hin 2 (by omega)) dL_law_684 ?_
  refine lv_topi (fun v4 ev4 => ?_)
  obtain rfl : v4 = xs 2 := ev4
  have hPc := hP.sub (ws' := [(x0, .inr (10, [.ref (ca 0), .ref (ca 1), .int 0, .ref (ca 3), .ref (ca 4), .ref (ca 5), .ref (ca 6)])), (ca 0, .inl (cc 0, 4, .inr (.inr (.inr (.inr (fun _ => none))))))]) [0, 1] rfl
  have hKc := hK.sub (tys' := [(cc 0, .object RX9)]) [0] rfl
  have hFc := va_free0 hS hA
  refine va_calli (va_runV (As := [.int (xs 1), .int (xs 2)]) (rest := []) ⟨hx, hb, hml, hown, hts⟩ (c_X10_key l D _ x0 ca (cc 0) 0 (xs 1) (xs 2)) (cwV 2 hts g_L_c_X10_key_67 rfl rfl rfl (by decide +kernel) ⟨(Nat.le_of_ble_eq_true rfl), (Nat.le_of_ble_eq_true rfl)⟩) (PcR_V (q0 := 0) hPc hKc rfl rfl) rfl rfl hl.1 rfl (lv_room (Nat.le_of_ble_eq_true rfl)) dL_law_685 ⟨(Nat.le_of_ble_eq_true rfl), (Nat.le_of_ble_eq_true rfl)⟩) hS (fun q _ h => hFc q h) hFc (fun r5 uu tt H locs htt hvm hw hB hz1 hk1 hS => ?_)
  have hP := va_keep hP hk1
  try dsimp only at hw
  clear hB hz1 hk1 hFc hPc hKc
  obtain rfl : r5 = (-1) := hw
  refine lv_aload_n hx hb dL_law_688 rfl (lv_at hl 1 rfl) ?_
  refine lv_aload_n hx hb dL_law_689 rfl (lv_at hl 3 rfl) ?_
  refine lv_iload_n hx hb dL_law_690 rfl (lv_at hl 0 rfl) ?_
  refine lv_iconst (v := 1) hx hb dL_law_691 (by decide) ?_
  refine lv_iadd hx hb dL_law_692 ?_
  refine lv_topi (fun v6 ev6 => ?_)
  obtain rfl : v6 = 1 := ev6.trans (by decide)
  refine va_sld hx hb hX hbl hbA hS (hin 1 (by omega)) dL_law_693 ?_
  refine lv_topi (fun v7 ev7 => ?_)
  obtain rfl : v7 = xs 1 := ev7
  refine lv_aload_n hx hb dL_law_694 rfl (lv_at hl 3 rfl) ?_
  refine lv_iload_n hx hb dL_law_695 rfl (lv_at hl 0 rfl) ?_
  refine lv_iconst (v := 2) hx hb dL_law_696 (by decide) ?_
  refine lv_iadd hx hb dL_law_697 ?_
  refine lv_topi (fun v8 ev8 => ?_)
  obtain rfl : v8 = 2 := ev8.trans (by decide)
  refine va_sld hx hb hX hbl hbA hS (hin 2 (by omega)) dL_law_698 ?_
  refine lv_topi (fun v9 ev9 => ?_)
  obtain rfl : v9 = xs 2 := ev9
  have hPc := hP.sub (ws' := [(m0, .inr (11, fM ma 0 0 0 0 0)), (ma 3, .inl (cm 3, 85, .inr (.inl (fun _ => 0))))]) [6, 8] rfl
  have hKc := hK.sub (tys' := [(cm 3, .long)]) [3] rfl
  have hDc := hD.sub (ws' := [(m0, .inr (11, fM ma 0 0 0 0 0)), (ma 3, .inl (cm 3, 85, .inr (.inl (fun _ => 0))))]) [6, 8] (by decide) rfl
  have hFc := va_free (wc := [(m0, .inr (11, fM ma 0 0 0 0 0)), (ma 3, .inl (cm 3, 85, .inr (.inl (fun _ => 0))))]) hD hS hA [6, 8] rfl
  refine va_calli (va_runV (As := [.int (xs 1), .int (xs 2)]) (rest := [.int (-1)]) ⟨hx, hb, hml, hown, hts⟩ (c_X11_key l D _ m0 ma (cm 3) 0 0 0 0 0 (xs 1) (xs 2)) (cwV 2 hts g_L_c_X11_key_70 rfl rfl rfl (by decide +kernel) ⟨(Nat.le_of_ble_eq_true rfl), (Nat.le_of_ble_eq_true rfl)⟩) (PcW_V (q0 := 0) hPc hKc hDc rfl rfl) rfl rfl hl.1 rfl (lv_room (Nat.le_of_ble_eq_true rfl)) dL_law_699 ⟨(Nat.le_of_ble_eq_true rfl), (Nat.le_of_ble_eq_true rfl)⟩) hS (fun q _ h => hFc q h) hFc (fun r10 uu tt H locs htt hvm hw hB hz1 hk1 hS => ?_)
  obtain ⟨hP, hD⟩ := va_join (wr := [(x0, .inr (10, [.ref (ca 0), .ref (ca 1), .int 0, .ref (ca 3), .ref (ca 4), .ref (ca 5), .ref (ca 6)])), (ca 0, .inl (cc 0, 4, .inr (.inr (.inr (.inr (fun _ => none)))))), (ca 1, .inl (cc 1, 1400, .inl (fun _ => 0))), (ca 4, .inr (1, [.int 0, .ref qi])), (ca 5, .inr (6, [.int 0, .int 0, .int 0, .ref (qp 3), .ref (qp 4), .int 0, .int 0, .int 0, .int 0, .int 0, .int 0, .int 0, .ref (qp 12), .int 0, .ref (qp 14)])), (ca 6, .inr (4, [.int 0, .int 0, .int 0, .int 0, .int 0, .ref (qm 5), .int 0, .ref (qm 7)])), (ma 1, .inl (cm 1, 1400, .inl (fun _ => 0))), (ma 8, .inl (cm 8, 10240, .inl (fun _ => 0))), (ma 9, .inl (cm 9, 10240, .inl (fun _ => 0)))]) (w1 := []) hP hD [6, 8] [0, 1, 2, 3, 4, 5, 7, 9, 10] rfl rfl (by decide) (by decide) hk1 hFc va_P_nil va_D_nil
  have hP : va_P D vwCl [(x0, .inr (10, [.ref (ca 0), .ref (ca 1), .int 0, .ref (ca 3), .ref (ca 4), .ref (ca 5), .ref (ca 6)])), (ca 0, .inl (cc 0, 4, .inr (.inr (.inr (.inr (fun _ => none)))))), (ca 1, .inl (cc 1, 1400, .inl (fun _ => 0))), (ca 4, .inr (1, [.int 0, .ref qi])), (ca 5, .inr (6, [.int 0, .int 0, .int 0, .ref (qp 3), .ref (qp 4), .int 0, .int 0, .int 0, .int 0, .int 0, .int 0, .int 0, .ref (qp 12), .int 0, .ref (qp 14)])), (ca 6, .inr (4, [.int 0, .int 0, .int 0, .int 0, .int 0, .ref (qm 5), .int 0, .ref (qm 7)])), (ma 1, .inl (cm 1, 1400, .inl (fun _ => 0))), (ma 8, .inl (cm 8, 10240, .inl (fun _ => 0))), (ma 9, .inl (cm 9, 10240, .inl (fun _ => 0)))] H := hP
  have hD : va_D A [(x0, .inr (10, [.ref (ca 0), .ref (ca 1), .int 0, .ref (ca 3), .ref (ca 4), .ref (ca 5), .ref (ca 6)])), (ca 0, .inl (cc 0, 4, .inr (.inr (.inr (.inr (fun _ => none)))))), (ca 1, .inl (cc 1, 1400, .inl (fun _ => 0))), (ca 4, .inr (1, [.int 0, .ref qi])), (ca 5, .inr (6, [.int 0, .int 0, .int 0, .ref (qp 3), .ref (qp 4), .int 0, .int 0, .int 0, .int 0, .int 0, .int 0, .int 0, .ref (qp 12), .int 0, .ref (qp 14)])), (ca 6, .inr (4, [.int 0, .int 0, .int 0, .int 0, .int 0, .ref (qm 5), .int 0, .ref (qm 7)])), (ma 1, .inl (cm 1, 1400, .inl (fun _ => 0))), (ma 8, .inl (cm 8, 10240, .inl (fun _ => 0))), (ma 9, .inl (cm 9, 10240, .inl (fun _ => 0)))] := hD
  try dsimp only at hw
  clear hB hz1 hk1 hFc hPc hKc hDc
  obtain rfl : r10 = (-1) := hw
  refine lv_icmp_eq (tgt := 1735) hx hb dL_law_702 (by decide) (fun hc => ?_) (fun hc => absurd (by decide) hc)
  exact law_tail (D := D) l C0 hN hA hbA hA2 (Nat.le_of_ble_eq_true rfl) (Nat.le_of_ble_eq_true rfl) hS hl

set_option maxHeartbeats 4000000 in
set_option maxRecDepth 100000 in
theorem law_case_12 {p : Program} {e : Env} {s : State} {m : MethodId} {below : List Frame} {meth : Method} {c : Code} (l : Launch) {b : Nat} {xs : Nat → Int32} {D : va_G} {A : Nat → Prop} (C0 : lw_At p s m meth c b 7 xs) (hN : NN s) (hA : ∀ q, s.heap.size ≤ q → A q) (hbA : ¬ A b) (hA2 : ∀ q, A q → s.heap.size ≤ q) (x0 m0 : Nat) (ca : Nat → Nat) (cc : Nat → ClassId) (qi : Nat) (qp qm : Nat → Nat) (ma : Nat → Nat) (cm : Nat → ClassId) (H : Heap) (locs : List Loc) (hK : va_K D vwCl [(cc 0, .object RX9), (cc 1, .int), (cm 1, .byte), (cm 3, .long), (cm 8, .int), (cm 9, .int)] s) (hP : va_P D vwCl [(x0, .inr (10, [.ref (ca 0), .ref (ca 1), .int 0, .ref (ca 3), .ref (ca 4), .ref (ca 5), .ref (ca 6)])), (ca 0, .inl (cc 0, 4, .inr (.inr (.inr (.inr (fun _ => none)))))), (ca 1, .inl (cc 1, 1400, .inl (fun _ => 0))), (ca 4, .inr (1, [.int 0, .ref qi])), (ca 5, .inr (6, [.int 0, .int 0, .int 0, .ref (qp 3), .ref (qp 4), .int 0, .int 0, .int 0, .int 0, .int 0, .int 0, .int 0, .ref (qp 12), .int 0, .ref (qp 14)])), (ca 6, .inr (4, [.int 0, .int 0, .int 0, .int 0, .int 0, .ref (qm 5), .int 0, .ref (qm 7)])), (m0, .inr (11, fM ma 0 0 0 0 0)), (ma 1, .inl (cm 1, 1400, .inl (fun _ => 0))), (ma 3, .inl (cm 3, 85, .inr (.inl (fun _ => 0)))), (ma 8, .inl (cm 8, 10240, .inl (fun _ => 0))), (ma 9, .inl (cm 9, 10240, .inl (fun _ => 0)))] H) (hD : va_D A [(x0, .inr (10, [.ref (ca 0), .ref (ca 1), .int 0, .ref (ca 3), .ref (ca 4), .ref (ca 5), .ref (ca 6)])), (ca 0, .inl (cc 0, 4, .inr (.inr (.inr (.inr (fun _ => none)))))), (ca 1, .inl (cc 1, 1400, .inl (fun _ => 0))), (ca 4, .inr (1, [.int 0, .ref qi])), (ca 5, .inr (6, [.int 0, .int 0, .int 0, .ref (qp 3), .ref (qp 4), .int 0, .int 0, .int 0, .int 0, .int 0, .int 0, .int 0, .ref (qp 12), .int 0, .ref (qp 14)])), (ca 6, .inr (4, [.int 0, .int 0, .int 0, .int 0, .int 0, .ref (qm 5), .int 0, .ref (qm 7)])), (m0, .inr (11, fM ma 0 0 0 0 0)), (ma 1, .inl (cm 1, 1400, .inl (fun _ => 0))), (ma 3, .inl (cm 3, 85, .inr (.inl (fun _ => 0)))), (ma 8, .inl (cm 8, 10240, .inl (fun _ => 0))), (ma 9, .inl (cm 9, 10240, .inl (fun _ => 0)))]) (hS : va_S A s.heap H locs) (ls : Array Slot) (hl : lv_has ls 4 [(3, .int 0), (2, .ref m0), (1, .ref x0), (0, .ref b)]) : W p l e room_1 s m #[Value.ref b] below meth c H locs 46 68513 (lw_Z below #[Value.ref b] s) (F0 m 707 ls []) := by
  have C0 := C0
  have C1 := C0
  obtain ⟨hx, hb, hr, hml, hown, hts, hX, hbl, hlocks, hgv⟩ := C1
  have hown : s.vm.findClass RL = some m.cls := hown
  have hin : ∀ k : Nat, k < 7 → vp_in (nI k) 7 := fun k hk => vp_in_nI hk (by decide)
  refine lv_aload_n hx hb dL_law_707 rfl (lv_at hl 2 rfl) ?_
  refine lv_aload_n hx hb dL_law_708 rfl (lv_at hl 3 rfl) ?_
  refine lv_iload_n hx hb dL_law_709 rfl (lv_at hl 0 rfl) ?_
  refine lv_iconst (v := 1) hx hb dL_law_710 (by decide) ?_
  refine lv_iadd hx hb dL_law_711 ?_
  refine lv_topi (fun v1 ev1 => ?_)
  obtain rfl : v1 = 1 := ev1.trans (by decide)
  refine va_sld hx hb hX hbl hbA hS (hin 1 (by omega)) dL_law_712 ?_
  refine lv_topi (fun v2 ev2 => ?_)
  obtain rfl : v2 = xs 1 := ev2
  refine lv_aload_n hx hb dL_law_713 rfl (lv_at hl 3 rfl) ?_
  refine lv_iload_n hx hb dL_law_714 rfl (lv_at hl 0 rfl) ?_
  refine lv_iconst (v := 2) hx hb dL_law_715 (by decide) ?_
  refine lv_iadd hx hb dL_law_716 ?_
  refine lv_topi (fun v3 ev3 => ?_)
  obtain rfl : v3 = 2 := ev3.trans (by decide)
  refine va_sld hx hb hX hbl hbA hS (hin 2 (by omega)) dL_law_717 ?_
  refine lv_topi (fun v4 ev4 => ?_)
  obtain rfl : v4 = xs 2 := ev4
  have hPc := hP.sub (ws' := [(x0, .inr (10, [.ref (ca 0), .ref (ca 1), .int 0, .ref (ca 3), .ref (ca 4), .ref (ca 5), .ref (ca 6)])), (ca 0, .inl (cc 0, 4, .inr (.inr (.inr (.inr (fun _ => none))))))]) [0, 1] rfl
  have hKc := hK.sub (tys' := [(cc 0, .object RX9)]) [0] rfl
  have hFc := va_free0 hS hA
  refine va_calli (va_runV (As := [.int (xs 1), .int (xs 2)]) (rest := []) ⟨hx, hb, hml, hown, hts⟩ (c_X10_walk l D _ x0 ca (cc 0) 0 (xs 1) (xs 2)) (cwV 2 hts g_L_c_X10_walk_71 rfl rfl rfl (by decide +kernel) ⟨(Nat.le_of_ble_eq_true rfl), (Nat.le_of_ble_eq_true rfl)⟩) (PcR_V (q0 := 0) hPc hKc rfl rfl) rfl rfl hl.1 rfl (lv_room (Nat.le_of_ble_eq_true rfl)) dL_law_718 ⟨(Nat.le_of_ble_eq_true rfl), (Nat.le_of_ble_eq_true rfl)⟩) hS (fun q _ h => hFc q h) hFc (fun r5 uu tt H locs htt hvm hw hB hz1 hk1 hS => ?_)
  have hP := va_keep hP hk1
  try dsimp only at hw
  clear hB hz1 hk1 hFc hPc hKc
  obtain rfl : r5 = (-1) := hw
  refine lv_aload_n hx hb dL_law_721 rfl (lv_at hl 1 rfl) ?_
  refine lv_aload_n hx hb dL_law_722 rfl (lv_at hl 3 rfl) ?_
  refine lv_iload_n hx hb dL_law_723 rfl (lv_at hl 0 rfl) ?_
  refine lv_iconst (v := 1) hx hb dL_law_724 (by decide) ?_
  refine lv_iadd hx hb dL_law_725 ?_
  refine lv_topi (fun v6 ev6 => ?_)
  obtain rfl : v6 = 1 := ev6.trans (by decide)
  refine va_sld hx hb hX hbl hbA hS (hin 1 (by omega)) dL_law_726 ?_
  refine lv_topi (fun v7 ev7 => ?_)
  obtain rfl : v7 = xs 1 := ev7
  refine lv_aload_n hx hb dL_law_727 rfl (lv_at hl 3 rfl) ?_
  refine lv_iload_n hx hb dL_law_728 rfl (lv_at hl 0 rfl) ?_
  refine lv_iconst (v := 2) hx hb dL_law_729 (by decide) ?_
  refine lv_iadd hx hb dL_law_730 ?_
  refine lv_topi (fun v8 ev8 => ?_)
  obtain rfl : v8 = 2 := ev8.trans (by decide)
  refine va_sld hx hb hX hbl hbA hS (hin 2 (by omega)) dL_law_731 ?_
  refine lv_topi (fun v9 ev9 => ?_)
  obtain rfl : v9 = xs 2 := ev9
  have hPc := hP.sub (ws' := [(m0, .inr (11, fM ma 0 0 0 0 0)), (ma 3, .inl (cm 3, 85, .inr (.inl (fun _ => 0))))]) [6, 8] rfl
  have hKc := hK.sub (tys' := [(cm 3, .long)]) [3] rfl
  have hDc := hD.sub (ws' := [(m0, .inr (11, fM ma 0 0 0 0 0)), (ma 3, .inl (cm 3, 85, .inr (.inl (fun _ => 0))))]) [6, 8] (by decide) rfl
  have hFc := va_free (wc := [(m0, .inr (11, fM ma 0 0 0 0 0)), (ma 3, .inl (cm 3, 85, .inr (.inl (fun _ => 0))))]) hD hS hA [6, 8] rfl
  refine va_calli (va_runV (As := [.int (xs 1), .int (xs 2)]) (rest := [.int (-1)]) ⟨hx, hb, hml, hown, hts⟩ (c_X11_walk l D _ m0 ma (cm 3) 0 0 0 0 0 (xs 1) (xs 2)) (cwV 2 hts g_L_c_X11_walk_74 rfl rfl rfl (by decide +kernel) ⟨(Nat.le_of_ble_eq_true rfl), (Nat.le_of_ble_eq_true rfl)⟩) (PcW_V (q0 := 0) hPc hKc hDc rfl rfl) rfl rfl hl.1 rfl (lv_room (Nat.le_of_ble_eq_true rfl)) dL_law_732 ⟨(Nat.le_of_ble_eq_true rfl), (Nat.le_of_ble_eq_true rfl)⟩) hS (fun q _ h => hFc q h) hFc (fun r10 uu tt H locs htt hvm hw hB hz1 hk1 hS => ?_)
  obtain ⟨hP, hD⟩ := va_join (wr := [(x0, .inr (10, [.ref (ca 0), .ref (ca 1), .int 0, .ref (ca 3), .ref (ca 4), .ref (ca 5), .ref (ca 6)])), (ca 0, .inl (cc 0, 4, .inr (.inr (.inr (.inr (fun _ => none)))))), (ca 1, .inl (cc 1, 1400, .inl (fun _ => 0))), (ca 4, .inr (1, [.int 0, .ref qi])), (ca 5, .inr (6, [.int 0, .int 0, .int 0, .ref (qp 3), .ref (qp 4), .int 0, .int 0, .int 0, .int 0, .int 0, .int 0, .int 0, .ref (qp 12), .int 0, .ref (qp 14)])), (ca 6, .inr (4, [.int 0, .int 0, .int 0, .int 0, .int 0, .ref (qm 5), .int 0, .ref (qm 7)])), (ma 1, .inl (cm 1, 1400, .inl (fun _ => 0))), (ma 8, .inl (cm 8, 10240, .inl (fun _ => 0))), (ma 9, .inl (cm 9, 10240, .inl (fun _ => 0)))]) (w1 := []) hP hD [6, 8] [0, 1, 2, 3, 4, 5, 7, 9, 10] rfl rfl (by decide) (by decide) hk1 hFc va_P_nil va_D_nil
  have hP : va_P D vwCl [(x0, .inr (10, [.ref (ca 0), .ref (ca 1), .int 0, .ref (ca 3), .ref (ca 4), .ref (ca 5), .ref (ca 6)])), (ca 0, .inl (cc 0, 4, .inr (.inr (.inr (.inr (fun _ => none)))))), (ca 1, .inl (cc 1, 1400, .inl (fun _ => 0))), (ca 4, .inr (1, [.int 0, .ref qi])), (ca 5, .inr (6, [.int 0, .int 0, .int 0, .ref (qp 3), .ref (qp 4), .int 0, .int 0, .int 0, .int 0, .int 0, .int 0, .int 0, .ref (qp 12), .int 0, .ref (qp 14)])), (ca 6, .inr (4, [.int 0, .int 0, .int 0, .int 0, .int 0, .ref (qm 5), .int 0, .ref (qm 7)])), (ma 1, .inl (cm 1, 1400, .inl (fun _ => 0))), (ma 8, .inl (cm 8, 10240, .inl (fun _ => 0))), (ma 9, .inl (cm 9, 10240, .inl (fun _ => 0)))] H := hP
  have hD : va_D A [(x0, .inr (10, [.ref (ca 0), .ref (ca 1), .int 0, .ref (ca 3), .ref (ca 4), .ref (ca 5), .ref (ca 6)])), (ca 0, .inl (cc 0, 4, .inr (.inr (.inr (.inr (fun _ => none)))))), (ca 1, .inl (cc 1, 1400, .inl (fun _ => 0))), (ca 4, .inr (1, [.int 0, .ref qi])), (ca 5, .inr (6, [.int 0, .int 0, .int 0, .ref (qp 3), .ref (qp 4), .int 0, .int 0, .int 0, .int 0, .int 0, .int 0, .int 0, .ref (qp 12), .int 0, .ref (qp 14)])), (ca 6, .inr (4, [.int 0, .int 0, .int 0, .int 0, .int 0, .ref (qm 5), .int 0, .ref (qm 7)])), (ma 1, .inl (cm 1, 1400, .inl (fun _ => 0))), (ma 8, .inl (cm 8, 10240, .inl (fun _ => 0))), (ma 9, .inl (cm 9, 10240, .inl (fun _ => 0)))] := hD
  try dsimp only at hw
  clear hB hz1 hk1 hFc hPc hKc hDc
  obtain rfl : r10 = (-1) := hw
  refine lv_icmp_eq (tgt := 1735) hx hb dL_law_735 (by decide) (fun hc => ?_) (fun hc => absurd (by decide) hc)
  exact law_tail (D := D) l C0 hN hA hbA hA2 (Nat.le_of_ble_eq_true rfl) (Nat.le_of_ble_eq_true rfl) hS hl

set_option maxHeartbeats 4000000 in
set_option maxRecDepth 100000 in
theorem law_case_13 {p : Program} {e : Env} {s : State} {m : MethodId} {below : List Frame} {meth : Method} {c : Code} (l : Launch) {b : Nat} {xs : Nat → Int32} {D : va_G} {A : Nat → Prop} (C0 : lw_At p s m meth c b 7 xs) (hN : NN s) (hA : ∀ q, s.heap.size ≤ q → A q) (hbA : ¬ A b) (hA2 : ∀ q, A q → s.heap.size ≤ q) (x0 m0 : Nat) (ca : Nat → Nat) (cc : Nat → ClassId) (qi : Nat) (qp qm : Nat → Nat) (ma : Nat → Nat) (cm : Nat → ClassId) (H : Heap) (locs : List Loc) (hK : va_K D vwCl [(cc 0, .object RX9), (cc 1, .int), (cm 1, .byte), (cm 3, .long), (cm 8, .int), (cm 9, .int)] s) (hP : va_P D vwCl [(x0, .inr (10, [.ref (ca 0), .ref (ca 1), .int 0, .ref (ca 3), .ref (ca 4), .ref (ca 5), .ref (ca 6)])), (ca 0, .inl (cc 0, 4, .inr (.inr (.inr (.inr (fun _ => none)))))), (ca 1, .inl (cc 1, 1400, .inl (fun _ => 0))), (ca 4, .inr (1, [.int 0, .ref qi])), (ca 5, .inr (6, [.int 0, .int 0, .int 0, .ref (qp 3), .ref (qp 4), .int 0, .int 0, .int 0, .int 0, .int 0, .int 0, .int 0, .ref (qp 12), .int 0, .ref (qp 14)])), (ca 6, .inr (4, [.int 0, .int 0, .int 0, .int 0, .int 0, .ref (qm 5), .int 0, .ref (qm 7)])), (m0, .inr (11, fM ma 0 0 0 0 0)), (ma 1, .inl (cm 1, 1400, .inl (fun _ => 0))), (ma 3, .inl (cm 3, 85, .inr (.inl (fun _ => 0)))), (ma 8, .inl (cm 8, 10240, .inl (fun _ => 0))), (ma 9, .inl (cm 9, 10240, .inl (fun _ => 0)))] H) (hD : va_D A [(x0, .inr (10, [.ref (ca 0), .ref (ca 1), .int 0, .ref (ca 3), .ref (ca 4), .ref (ca 5), .ref (ca 6)])), (ca 0, .inl (cc 0, 4, .inr (.inr (.inr (.inr (fun _ => none)))))), (ca 1, .inl (cc 1, 1400, .inl (fun _ => 0))), (ca 4, .inr (1, [.int 0, .ref qi])), (ca 5, .inr (6, [.int 0, .int 0, .int 0, .ref (qp 3), .ref (qp 4), .int 0, .int 0, .int 0, .int 0, .int 0, .int 0, .int 0, .ref (qp 12), .int 0, .ref (qp 14)])), (ca 6, .inr (4, [.int 0, .int 0, .int 0, .int 0, .int 0, .ref (qm 5), .int 0, .ref (qm 7)])), (m0, .inr (11, fM ma 0 0 0 0 0)), (ma 1, .inl (cm 1, 1400, .inl (fun _ => 0))), (ma 3, .inl (cm 3, 85, .inr (.inl (fun _ => 0)))), (ma 8, .inl (cm 8, 10240, .inl (fun _ => 0))), (ma 9, .inl (cm 9, 10240, .inl (fun _ => 0)))]) (hS : va_S A s.heap H locs) (ls : Array Slot) (hl : lv_has ls 4 [(3, .int 0), (2, .ref m0), (1, .ref x0), (0, .ref b)]) : W p l e room_1 s m #[Value.ref b] below meth c H locs 46 68513 (lw_Z below #[Value.ref b] s) (F0 m 740 ls []) := by
  have C0 := C0
  have C1 := C0
  obtain ⟨hx, hb, hr, hml, hown, hts, hX, hbl, hlocks, hgv⟩ := C1
  have hown : s.vm.findClass RL = some m.cls := hown
  have hin : ∀ k : Nat, k < 7 → vp_in (nI k) 7 := fun k hk => vp_in_nI hk (by decide)
  refine lv_aload_n hx hb dL_law_740 rfl (lv_at hl 2 rfl) ?_
  refine lv_aload_n hx hb dL_law_741 rfl (lv_at hl 3 rfl) ?_
  refine lv_iload_n hx hb dL_law_742 rfl (lv_at hl 0 rfl) ?_
  refine lv_iconst (v := 1) hx hb dL_law_743 (by decide) ?_
  refine lv_iadd hx hb dL_law_744 ?_
  refine lv_topi (fun v1 ev1 => ?_)
  obtain rfl : v1 = 1 := ev1.trans (by decide)
  refine va_sld hx hb hX hbl hbA hS (hin 1 (by omega)) dL_law_745 ?_
  refine lv_topi (fun v2 ev2 => ?_)
  obtain rfl : v2 = xs 1 := ev2
  refine lv_aload_n hx hb dL_law_746 rfl (lv_at hl 3 rfl) ?_
  refine lv_iload_n hx hb dL_law_747 rfl (lv_at hl 0 rfl) ?_
  refine lv_iconst (v := 2) hx hb dL_law_748 (by decide) ?_
  refine lv_iadd hx hb dL_law_749 ?_
  refine lv_topi (fun v3 ev3 => ?_)
  obtain rfl : v3 = 2 := ev3.trans (by decide)
  refine va_sld hx hb hX hbl hbA hS (hin 2 (by omega)) dL_law_750 ?_
  refine lv_topi (fun v4 ev4 => ?_)
  obtain rfl : v4 = xs 2 := ev4
  have hPc := hP.sub (ws' := [(x0, .inr (10, [.ref (ca 0), .ref (ca 1), .int 0, .ref (ca 3), .ref (ca 4), .ref (ca 5), .ref (ca 6)])), (ca 0, .inl (cc 0, 4, .inr (.inr (.inr (.inr (fun _ => none))))))]) [0, 1] rfl
  have hKc := hK.sub (tys' := [(cc 0, .object RX9)]) [0] rfl
  have hFc := va_free0 hS hA
  refine va_calli (va_runV (As := [.int (xs 1), .int (xs 2)]) (rest := []) ⟨hx, hb, hml, hown, hts⟩ (c_X10_below l D _ x0 ca (cc 0) 0 (xs 1) (xs 2)) (cwV 2 hts g_L_c_X10_below_75 rfl rfl rfl (by decide +kernel) ⟨(Nat.le_of_ble_eq_true rfl), (Nat.le_of_ble_eq_true rfl)⟩) (PcR_V (q0 := 0) hPc hKc rfl rfl) rfl rfl hl.1 rfl (lv_room (Nat.le_of_ble_eq_true rfl)) dL_law_751 ⟨(Nat.le_of_ble_eq_true rfl), (Nat.le_of_ble_eq_true rfl)⟩) hS (fun q _ h => hFc q h) hFc (fun r5 uu tt H locs htt hvm hw hB hz1 hk1 hS => ?_)
  have hP := va_keep hP hk1
  try dsimp only at hw
  clear hB hz1 hk1 hFc hPc hKc
  obtain rfl : r5 = (-1) := hw
  refine lv_aload_n hx hb dL_law_754 rfl (lv_at hl 1 rfl) ?_
  refine lv_aload_n hx hb dL_law_755 rfl (lv_at hl 3 rfl) ?_
  refine lv_iload_n hx hb dL_law_756 rfl (lv_at hl 0 rfl) ?_
  refine lv_iconst (v := 1) hx hb dL_law_757 (by decide) ?_
  refine lv_iadd hx hb dL_law_758 ?_
  refine lv_topi (fun v6 ev6 => ?_)
  obtain rfl : v6 = 1 := ev6.trans (by decide)
  refine va_sld hx hb hX hbl hbA hS (hin 1 (by omega)) dL_law_759 ?_
  refine lv_topi (fun v7 ev7 => ?_)
  obtain rfl : v7 = xs 1 := ev7
  refine lv_aload_n hx hb dL_law_760 rfl (lv_at hl 3 rfl) ?_
  refine lv_iload_n hx hb dL_law_761 rfl (lv_at hl 0 rfl) ?_
  refine lv_iconst (v := 2) hx hb dL_law_762 (by decide) ?_
  refine lv_iadd hx hb dL_law_763 ?_
  refine lv_topi (fun v8 ev8 => ?_)
  obtain rfl : v8 = 2 := ev8.trans (by decide)
  refine va_sld hx hb hX hbl hbA hS (hin 2 (by omega)) dL_law_764 ?_
  refine lv_topi (fun v9 ev9 => ?_)
  obtain rfl : v9 = xs 2 := ev9
  have hPc := hP.sub (ws' := [(m0, .inr (11, fM ma 0 0 0 0 0)), (ma 3, .inl (cm 3, 85, .inr (.inl (fun _ => 0))))]) [6, 8] rfl
  have hKc := hK.sub (tys' := [(cm 3, .long)]) [3] rfl
  have hDc := hD.sub (ws' := [(m0, .inr (11, fM ma 0 0 0 0 0)), (ma 3, .inl (cm 3, 85, .inr (.inl (fun _ => 0))))]) [6, 8] (by decide) rfl
  have hFc := va_free (wc := [(m0, .inr (11, fM ma 0 0 0 0 0)), (ma 3, .inl (cm 3, 85, .inr (.inl (fun _ => 0))))]) hD hS hA [6, 8] rfl
  refine va_calli (va_runV (As := [.int (xs 1), .int (xs 2)]) (rest := [.int (-1)]) ⟨hx, hb, hml, hown, hts⟩ (c_X11_below l D _ m0 ma (cm 3) 0 0 0 0 0 (xs 1) (xs 2)) (cwV 2 hts g_L_c_X11_below_78 rfl rfl rfl (by decide +kernel) ⟨(Nat.le_of_ble_eq_true rfl), (Nat.le_of_ble_eq_true rfl)⟩) (PcW_V (q0 := 0) hPc hKc hDc rfl rfl) rfl rfl hl.1 rfl (lv_room (Nat.le_of_ble_eq_true rfl)) dL_law_765 ⟨(Nat.le_of_ble_eq_true rfl), (Nat.le_of_ble_eq_true rfl)⟩) hS (fun q _ h => hFc q h) hFc (fun r10 uu tt H locs htt hvm hw hB hz1 hk1 hS => ?_)
  obtain ⟨hP, hD⟩ := va_join (wr := [(x0, .inr (10, [.ref (ca 0), .ref (ca 1), .int 0, .ref (ca 3), .ref (ca 4), .ref (ca 5), .ref (ca 6)])), (ca 0, .inl (cc 0, 4, .inr (.inr (.inr (.inr (fun _ => none)))))), (ca 1, .inl (cc 1, 1400, .inl (fun _ => 0))), (ca 4, .inr (1, [.int 0, .ref qi])), (ca 5, .inr (6, [.int 0, .int 0, .int 0, .ref (qp 3), .ref (qp 4), .int 0, .int 0, .int 0, .int 0, .int 0, .int 0, .int 0, .ref (qp 12), .int 0, .ref (qp 14)])), (ca 6, .inr (4, [.int 0, .int 0, .int 0, .int 0, .int 0, .ref (qm 5), .int 0, .ref (qm 7)])), (ma 1, .inl (cm 1, 1400, .inl (fun _ => 0))), (ma 8, .inl (cm 8, 10240, .inl (fun _ => 0))), (ma 9, .inl (cm 9, 10240, .inl (fun _ => 0)))]) (w1 := []) hP hD [6, 8] [0, 1, 2, 3, 4, 5, 7, 9, 10] rfl rfl (by decide) (by decide) hk1 hFc va_P_nil va_D_nil
  have hP : va_P D vwCl [(x0, .inr (10, [.ref (ca 0), .ref (ca 1), .int 0, .ref (ca 3), .ref (ca 4), .ref (ca 5), .ref (ca 6)])), (ca 0, .inl (cc 0, 4, .inr (.inr (.inr (.inr (fun _ => none)))))), (ca 1, .inl (cc 1, 1400, .inl (fun _ => 0))), (ca 4, .inr (1, [.int 0, .ref qi])), (ca 5, .inr (6, [.int 0, .int 0, .int 0, .ref (qp 3), .ref (qp 4), .int 0, .int 0, .int 0, .int 0, .int 0, .int 0, .int 0, .ref (qp 12), .int 0, .ref (qp 14)])), (ca 6, .inr (4, [.int 0, .int 0, .int 0, .int 0, .int 0, .ref (qm 5), .int 0, .ref (qm 7)])), (ma 1, .inl (cm 1, 1400, .inl (fun _ => 0))), (ma 8, .inl (cm 8, 10240, .inl (fun _ => 0))), (ma 9, .inl (cm 9, 10240, .inl (fun _ => 0)))] H := hP
  have hD : va_D A [(x0, .inr (10, [.ref (ca 0), .ref (ca 1), .int 0, .ref (ca 3), .ref (ca 4), .ref (ca 5), .ref (ca 6)])), (ca 0, .inl (cc 0, 4, .inr (.inr (.inr (.inr (fun _ => none)))))), (ca 1, .inl (cc 1, 1400, .inl (fun _ => 0))), (ca 4, .inr (1, [.int 0, .ref qi])), (ca 5, .inr (6, [.int 0, .int 0, .int 0, .ref (qp 3), .ref (qp 4), .int 0, .int 0, .int 0, .int 0, .int 0, .int 0, .int 0, .ref (qp 12), .int 0, .ref (qp 14)])), (ca 6, .inr (4, [.int 0, .int 0, .int 0, .int 0, .int 0, .ref (qm 5), .int 0, .ref (qm 7)])), (ma 1, .inl (cm 1, 1400, .inl (fun _ => 0))), (ma 8, .inl (cm 8, 10240, .inl (fun _ => 0))), (ma 9, .inl (cm 9, 10240, .inl (fun _ => 0)))] := hD
  try dsimp only at hw
  clear hB hz1 hk1 hFc hPc hKc hDc
  obtain rfl : r10 = (-1) := hw
  refine lv_icmp_eq (tgt := 1735) hx hb dL_law_768 (by decide) (fun hc => ?_) (fun hc => absurd (by decide) hc)
  exact law_tail (D := D) l C0 hN hA hbA hA2 (Nat.le_of_ble_eq_true rfl) (Nat.le_of_ble_eq_true rfl) hS hl

set_option maxHeartbeats 4000000 in
set_option maxRecDepth 100000 in
theorem law_case_14 {p : Program} {e : Env} {s : State} {m : MethodId} {below : List Frame} {meth : Method} {c : Code} (l : Launch) {b : Nat} {xs : Nat → Int32} {D : va_G} {A : Nat → Prop} (C0 : lw_At p s m meth c b 7 xs) (hN : NN s) (hA : ∀ q, s.heap.size ≤ q → A q) (hbA : ¬ A b) (hA2 : ∀ q, A q → s.heap.size ≤ q) (x0 m0 : Nat) (ca : Nat → Nat) (cc : Nat → ClassId) (qi : Nat) (qp qm : Nat → Nat) (ma : Nat → Nat) (cm : Nat → ClassId) (H : Heap) (locs : List Loc) (hK : va_K D vwCl [(cc 0, .object RX9), (cc 1, .int), (cm 1, .byte), (cm 3, .long), (cm 8, .int), (cm 9, .int)] s) (hP : va_P D vwCl [(x0, .inr (10, [.ref (ca 0), .ref (ca 1), .int 0, .ref (ca 3), .ref (ca 4), .ref (ca 5), .ref (ca 6)])), (ca 0, .inl (cc 0, 4, .inr (.inr (.inr (.inr (fun _ => none)))))), (ca 1, .inl (cc 1, 1400, .inl (fun _ => 0))), (ca 4, .inr (1, [.int 0, .ref qi])), (ca 5, .inr (6, [.int 0, .int 0, .int 0, .ref (qp 3), .ref (qp 4), .int 0, .int 0, .int 0, .int 0, .int 0, .int 0, .int 0, .ref (qp 12), .int 0, .ref (qp 14)])), (ca 6, .inr (4, [.int 0, .int 0, .int 0, .int 0, .int 0, .ref (qm 5), .int 0, .ref (qm 7)])), (m0, .inr (11, fM ma 0 0 0 0 0)), (ma 1, .inl (cm 1, 1400, .inl (fun _ => 0))), (ma 3, .inl (cm 3, 85, .inr (.inl (fun _ => 0)))), (ma 8, .inl (cm 8, 10240, .inl (fun _ => 0))), (ma 9, .inl (cm 9, 10240, .inl (fun _ => 0)))] H) (hD : va_D A [(x0, .inr (10, [.ref (ca 0), .ref (ca 1), .int 0, .ref (ca 3), .ref (ca 4), .ref (ca 5), .ref (ca 6)])), (ca 0, .inl (cc 0, 4, .inr (.inr (.inr (.inr (fun _ => none)))))), (ca 1, .inl (cc 1, 1400, .inl (fun _ => 0))), (ca 4, .inr (1, [.int 0, .ref qi])), (ca 5, .inr (6, [.int 0, .int 0, .int 0, .ref (qp 3), .ref (qp 4), .int 0, .int 0, .int 0, .int 0, .int 0, .int 0, .int 0, .ref (qp 12), .int 0, .ref (qp 14)])), (ca 6, .inr (4, [.int 0, .int 0, .int 0, .int 0, .int 0, .ref (qm 5), .int 0, .ref (qm 7)])), (m0, .inr (11, fM ma 0 0 0 0 0)), (ma 1, .inl (cm 1, 1400, .inl (fun _ => 0))), (ma 3, .inl (cm 3, 85, .inr (.inl (fun _ => 0)))), (ma 8, .inl (cm 8, 10240, .inl (fun _ => 0))), (ma 9, .inl (cm 9, 10240, .inl (fun _ => 0)))]) (hS : va_S A s.heap H locs) (ls : Array Slot) (hl : lv_has ls 4 [(3, .int 0), (2, .ref m0), (1, .ref x0), (0, .ref b)]) : W p l e room_1 s m #[Value.ref b] below meth c H locs 46 68513 (lw_Z below #[Value.ref b] s) (F0 m 773 ls []) := by
  have C0 := C0
  have C1 := C0
  obtain ⟨hx, hb, hr, hml, hown, hts, hX, hbl, hlocks, hgv⟩ := C1
  have hown : s.vm.findClass RL = some m.cls := hown
  have hin : ∀ k : Nat, k < 7 → vp_in (nI k) 7 := fun k hk => vp_in_nI hk (by decide)
  refine lv_aload_n hx hb dL_law_773 rfl (lv_at hl 2 rfl) ?_
  refine lv_aload_n hx hb dL_law_774 rfl (lv_at hl 3 rfl) ?_
  refine lv_iload_n hx hb dL_law_775 rfl (lv_at hl 0 rfl) ?_
  refine lv_iconst (v := 1) hx hb dL_law_776 (by decide) ?_
  refine lv_iadd hx hb dL_law_777 ?_
  refine lv_topi (fun v1 ev1 => ?_)
  obtain rfl : v1 = 1 := ev1.trans (by decide)
  refine va_sld hx hb hX hbl hbA hS (hin 1 (by omega)) dL_law_778 ?_
  refine lv_topi (fun v2 ev2 => ?_)
  obtain rfl : v2 = xs 1 := ev2
  refine lv_aload_n hx hb dL_law_779 rfl (lv_at hl 3 rfl) ?_
  refine lv_iload_n hx hb dL_law_780 rfl (lv_at hl 0 rfl) ?_
  refine lv_iconst (v := 2) hx hb dL_law_781 (by decide) ?_
  refine lv_iadd hx hb dL_law_782 ?_
  refine lv_topi (fun v3 ev3 => ?_)
  obtain rfl : v3 = 2 := ev3.trans (by decide)
  refine va_sld hx hb hX hbl hbA hS (hin 2 (by omega)) dL_law_783 ?_
  refine lv_topi (fun v4 ev4 => ?_)
  obtain rfl : v4 = xs 2 := ev4
  have hPc := hP.sub (ws' := [(x0, .inr (10, [.ref (ca 0), .ref (ca 1), .int 0, .ref (ca 3), .ref (ca 4), .ref (ca 5), .ref (ca 6)])), (ca 0, .inl (cc 0, 4, .inr (.inr (.inr (.inr (fun _ => none))))))]) [0, 1] rfl
  have hKc := hK.sub (tys' := [(cc 0, .object RX9)]) [0] rfl
  have hFc := va_free0 hS hA
  refine va_calli (va_runV (As := [.int (xs 1), .int (xs 2)]) (rest := []) ⟨hx, hb, hml, hown, hts⟩ (c_X10_nearest l D _ x0 ca (cc 0) 0 (xs 1) (xs 2)) (cwV 2 hts g_L_c_X10_nearest_79 rfl rfl rfl (by decide +kernel) ⟨(Nat.le_of_ble_eq_true rfl), (Nat.le_of_ble_eq_true rfl)⟩) (PcR_V (q0 := 0) hPc hKc rfl rfl) rfl rfl hl.1 rfl (lv_room (Nat.le_of_ble_eq_true rfl)) dL_law_784 ⟨(Nat.le_of_ble_eq_true rfl), (Nat.le_of_ble_eq_true rfl)⟩) hS (fun q _ h => hFc q h) hFc (fun r5 uu tt H locs htt hvm hw hB hz1 hk1 hS => ?_)
  have hP := va_keep hP hk1
  try dsimp only at hw
  clear hB hz1 hk1 hFc hPc hKc
  obtain rfl : r5 = (-1) := hw
  refine lv_aload_n hx hb dL_law_787 rfl (lv_at hl 1 rfl) ?_
  refine lv_aload_n hx hb dL_law_788 rfl (lv_at hl 3 rfl) ?_
  refine lv_iload_n hx hb dL_law_789 rfl (lv_at hl 0 rfl) ?_
  refine lv_iconst (v := 1) hx hb dL_law_790 (by decide) ?_
  refine lv_iadd hx hb dL_law_791 ?_
  refine lv_topi (fun v6 ev6 => ?_)
  obtain rfl : v6 = 1 := ev6.trans (by decide)
  refine va_sld hx hb hX hbl hbA hS (hin 1 (by omega)) dL_law_792 ?_
  refine lv_topi (fun v7 ev7 => ?_)
  obtain rfl : v7 = xs 1 := ev7
  refine lv_aload_n hx hb dL_law_793 rfl (lv_at hl 3 rfl) ?_
  refine lv_iload_n hx hb dL_law_794 rfl (lv_at hl 0 rfl) ?_
  refine lv_iconst (v := 2) hx hb dL_law_795 (by decide) ?_
  refine lv_iadd hx hb dL_law_796 ?_
  refine lv_topi (fun v8 ev8 => ?_)
  obtain rfl : v8 = 2 := ev8.trans (by decide)
  refine va_sld hx hb hX hbl hbA hS (hin 2 (by omega)) dL_law_797 ?_
  refine lv_topi (fun v9 ev9 => ?_)
  obtain rfl : v9 = xs 2 := ev9
  have hPc := hP.sub (ws' := [(m0, .inr (11, fM ma 0 0 0 0 0)), (ma 3, .inl (cm 3, 85, .inr (.inl (fun _ => 0))))]) [6, 8] rfl
  have hKc := hK.sub (tys' := [(cm 3, .long)]) [3] rfl
  have hDc := hD.sub (ws' := [(m0, .inr (11, fM ma 0 0 0 0 0)), (ma 3, .inl (cm 3, 85, .inr (.inl (fun _ => 0))))]) [6, 8] (by decide) rfl
  have hFc := va_free (wc := [(m0, .inr (11, fM ma 0 0 0 0 0)), (ma 3, .inl (cm 3, 85, .inr (.inl (fun _ => 0))))]) hD hS hA [6, 8] rfl
  refine va_calli (va_runV (As := [.int (xs 1), .int (xs 2)]) (rest := [.int (-1)]) ⟨hx, hb, hml, hown, hts⟩ (c_X11_nearest l D _ m0 ma (cm 3) 0 0 0 0 0 (xs 1) (xs 2)) (cwV 2 hts g_L_c_X11_nearest_82 rfl rfl rfl (by decide +kernel) ⟨(Nat.le_of_ble_eq_true rfl), (Nat.le_of_ble_eq_true rfl)⟩) (PcW_V (q0 := 0) hPc hKc hDc rfl rfl) rfl rfl hl.1 rfl (lv_room (Nat.le_of_ble_eq_true rfl)) dL_law_798 ⟨(Nat.le_of_ble_eq_true rfl), (Nat.le_of_ble_eq_true rfl)⟩) hS (fun q _ h => hFc q h) hFc (fun r10 uu tt H locs htt hvm hw hB hz1 hk1 hS => ?_)
  obtain ⟨hP, hD⟩ := va_join (wr := [(x0, .inr (10, [.ref (ca 0), .ref (ca 1), .int 0, .ref (ca 3), .ref (ca 4), .ref (ca 5), .ref (ca 6)])), (ca 0, .inl (cc 0, 4, .inr (.inr (.inr (.inr (fun _ => none)))))), (ca 1, .inl (cc 1, 1400, .inl (fun _ => 0))), (ca 4, .inr (1, [.int 0, .ref qi])), (ca 5, .inr (6, [.int 0, .int 0, .int 0, .ref (qp 3), .ref (qp 4), .int 0, .int 0, .int 0, .int 0, .int 0, .int 0, .int 0, .ref (qp 12), .int 0, .ref (qp 14)])), (ca 6, .inr (4, [.int 0, .int 0, .int 0, .int 0, .int 0, .ref (qm 5), .int 0, .ref (qm 7)])), (ma 1, .inl (cm 1, 1400, .inl (fun _ => 0))), (ma 8, .inl (cm 8, 10240, .inl (fun _ => 0))), (ma 9, .inl (cm 9, 10240, .inl (fun _ => 0)))]) (w1 := []) hP hD [6, 8] [0, 1, 2, 3, 4, 5, 7, 9, 10] rfl rfl (by decide) (by decide) hk1 hFc va_P_nil va_D_nil
  have hP : va_P D vwCl [(x0, .inr (10, [.ref (ca 0), .ref (ca 1), .int 0, .ref (ca 3), .ref (ca 4), .ref (ca 5), .ref (ca 6)])), (ca 0, .inl (cc 0, 4, .inr (.inr (.inr (.inr (fun _ => none)))))), (ca 1, .inl (cc 1, 1400, .inl (fun _ => 0))), (ca 4, .inr (1, [.int 0, .ref qi])), (ca 5, .inr (6, [.int 0, .int 0, .int 0, .ref (qp 3), .ref (qp 4), .int 0, .int 0, .int 0, .int 0, .int 0, .int 0, .int 0, .ref (qp 12), .int 0, .ref (qp 14)])), (ca 6, .inr (4, [.int 0, .int 0, .int 0, .int 0, .int 0, .ref (qm 5), .int 0, .ref (qm 7)])), (ma 1, .inl (cm 1, 1400, .inl (fun _ => 0))), (ma 8, .inl (cm 8, 10240, .inl (fun _ => 0))), (ma 9, .inl (cm 9, 10240, .inl (fun _ => 0)))] H := hP
  have hD : va_D A [(x0, .inr (10, [.ref (ca 0), .ref (ca 1), .int 0, .ref (ca 3), .ref (ca 4), .ref (ca 5), .ref (ca 6)])), (ca 0, .inl (cc 0, 4, .inr (.inr (.inr (.inr (fun _ => none)))))), (ca 1, .inl (cc 1, 1400, .inl (fun _ => 0))), (ca 4, .inr (1, [.int 0, .ref qi])), (ca 5, .inr (6, [.int 0, .int 0, .int 0, .ref (qp 3), .ref (qp 4), .int 0, .int 0, .int 0, .int 0, .int 0, .int 0, .int 0, .ref (qp 12), .int 0, .ref (qp 14)])), (ca 6, .inr (4, [.int 0, .int 0, .int 0, .int 0, .int 0, .ref (qm 5), .int 0, .ref (qm 7)])), (ma 1, .inl (cm 1, 1400, .inl (fun _ => 0))), (ma 8, .inl (cm 8, 10240, .inl (fun _ => 0))), (ma 9, .inl (cm 9, 10240, .inl (fun _ => 0)))] := hD
  try dsimp only at hw
  clear hB hz1 hk1 hFc hPc hKc hDc
  obtain rfl : r10 = (-1) := hw
  refine lv_icmp_eq (tgt := 1735) hx hb dL_law_801 (by decide) (fun hc => ?_) (fun hc => absurd (by decide) hc)
  exact law_tail (D := D) l C0 hN hA hbA hA2 (Nat.le_of_ble_eq_true rfl) (Nat.le_of_ble_eq_true rfl) hS hl

set_option maxHeartbeats 4000000 in
set_option maxRecDepth 100000 in
theorem law_case_15 {p : Program} {e : Env} {s : State} {m : MethodId} {below : List Frame} {meth : Method} {c : Code} (l : Launch) {b : Nat} {xs : Nat → Int32} {D : va_G} {A : Nat → Prop} (C0 : lw_At p s m meth c b 7 xs) (hN : NN s) (hA : ∀ q, s.heap.size ≤ q → A q) (hbA : ¬ A b) (hA2 : ∀ q, A q → s.heap.size ≤ q) (x0 m0 : Nat) (ca : Nat → Nat) (cc : Nat → ClassId) (qi : Nat) (qp qm : Nat → Nat) (ma : Nat → Nat) (cm : Nat → ClassId) (H : Heap) (locs : List Loc) (hK : va_K D vwCl [(cc 0, .object RX9), (cc 1, .int), (cm 1, .byte), (cm 3, .long), (cm 8, .int), (cm 9, .int)] s) (hP : va_P D vwCl [(x0, .inr (10, [.ref (ca 0), .ref (ca 1), .int 0, .ref (ca 3), .ref (ca 4), .ref (ca 5), .ref (ca 6)])), (ca 0, .inl (cc 0, 4, .inr (.inr (.inr (.inr (fun _ => none)))))), (ca 1, .inl (cc 1, 1400, .inl (fun _ => 0))), (ca 4, .inr (1, [.int 0, .ref qi])), (ca 5, .inr (6, [.int 0, .int 0, .int 0, .ref (qp 3), .ref (qp 4), .int 0, .int 0, .int 0, .int 0, .int 0, .int 0, .int 0, .ref (qp 12), .int 0, .ref (qp 14)])), (ca 6, .inr (4, [.int 0, .int 0, .int 0, .int 0, .int 0, .ref (qm 5), .int 0, .ref (qm 7)])), (m0, .inr (11, fM ma 0 0 0 0 0)), (ma 1, .inl (cm 1, 1400, .inl (fun _ => 0))), (ma 3, .inl (cm 3, 85, .inr (.inl (fun _ => 0)))), (ma 8, .inl (cm 8, 10240, .inl (fun _ => 0))), (ma 9, .inl (cm 9, 10240, .inl (fun _ => 0)))] H) (hD : va_D A [(x0, .inr (10, [.ref (ca 0), .ref (ca 1), .int 0, .ref (ca 3), .ref (ca 4), .ref (ca 5), .ref (ca 6)])), (ca 0, .inl (cc 0, 4, .inr (.inr (.inr (.inr (fun _ => none)))))), (ca 1, .inl (cc 1, 1400, .inl (fun _ => 0))), (ca 4, .inr (1, [.int 0, .ref qi])), (ca 5, .inr (6, [.int 0, .int 0, .int 0, .ref (qp 3), .ref (qp 4), .int 0, .int 0, .int 0, .int 0, .int 0, .int 0, .int 0, .ref (qp 12), .int 0, .ref (qp 14)])), (ca 6, .inr (4, [.int 0, .int 0, .int 0, .int 0, .int 0, .ref (qm 5), .int 0, .ref (qm 7)])), (m0, .inr (11, fM ma 0 0 0 0 0)), (ma 1, .inl (cm 1, 1400, .inl (fun _ => 0))), (ma 3, .inl (cm 3, 85, .inr (.inl (fun _ => 0)))), (ma 8, .inl (cm 8, 10240, .inl (fun _ => 0))), (ma 9, .inl (cm 9, 10240, .inl (fun _ => 0)))]) (hS : va_S A s.heap H locs) (ls : Array Slot) (hl : lv_has ls 4 [(3, .int 0), (2, .ref m0), (1, .ref x0), (0, .ref b)]) : W p l e room_1 s m #[Value.ref b] below meth c H locs 46 68513 (lw_Z below #[Value.ref b] s) (F0 m 806 ls []) := by
  have C0 := C0
  have C1 := C0
  obtain ⟨hx, hb, hr, hml, hown, hts, hX, hbl, hlocks, hgv⟩ := C1
  have hown : s.vm.findClass RL = some m.cls := hown
  have hin : ∀ k : Nat, k < 7 → vp_in (nI k) 7 := fun k hk => vp_in_nI hk (by decide)
  refine lv_aload_n hx hb dL_law_806 rfl (lv_at hl 2 rfl) ?_
  refine lv_aload_n hx hb dL_law_807 rfl (lv_at hl 3 rfl) ?_
  refine lv_iload_n hx hb dL_law_808 rfl (lv_at hl 0 rfl) ?_
  refine lv_iconst (v := 1) hx hb dL_law_809 (by decide) ?_
  refine lv_iadd hx hb dL_law_810 ?_
  refine lv_topi (fun v1 ev1 => ?_)
  obtain rfl : v1 = 1 := ev1.trans (by decide)
  refine va_sld hx hb hX hbl hbA hS (hin 1 (by omega)) dL_law_811 ?_
  refine lv_topi (fun v2 ev2 => ?_)
  obtain rfl : v2 = xs 1 := ev2
  refine lv_aload_n hx hb dL_law_812 rfl (lv_at hl 3 rfl) ?_
  refine lv_iload_n hx hb dL_law_813 rfl (lv_at hl 0 rfl) ?_
  refine lv_iconst (v := 2) hx hb dL_law_814 (by decide) ?_
  refine lv_iadd hx hb dL_law_815 ?_
  refine lv_topi (fun v3 ev3 => ?_)
  obtain rfl : v3 = 2 := ev3.trans (by decide)
  refine va_sld hx hb hX hbl hbA hS (hin 2 (by omega)) dL_law_816 ?_
  refine lv_topi (fun v4 ev4 => ?_)
  obtain rfl : v4 = xs 2 := ev4
  have hPc := hP.sub (ws' := [(x0, .inr (10, [.ref (ca 0), .ref (ca 1), .int 0, .ref (ca 3), .ref (ca 4), .ref (ca 5), .ref (ca 6)])), (ca 0, .inl (cc 0, 4, .inr (.inr (.inr (.inr (fun _ => none))))))]) [0, 1] rfl
  have hKc := hK.sub (tys' := [(cc 0, .object RX9)]) [0] rfl
  have hFc := va_free0 hS hA
  refine va_calli (va_runV (As := [.int (xs 1), .int (xs 2)]) (rest := []) ⟨hx, hb, hml, hown, hts⟩ (c_X10_many l D _ x0 ca (cc 0) 0 (xs 1) (xs 2)) (cwV 2 hts g_L_c_X10_many_83 rfl rfl rfl (by decide +kernel) ⟨(Nat.le_of_ble_eq_true rfl), (Nat.le_of_ble_eq_true rfl)⟩) (PcR_V (q0 := 0) hPc hKc rfl rfl) rfl rfl hl.1 rfl (lv_room (Nat.le_of_ble_eq_true rfl)) dL_law_817 ⟨(Nat.le_of_ble_eq_true rfl), (Nat.le_of_ble_eq_true rfl)⟩) hS (fun q _ h => hFc q h) hFc (fun r5 uu tt H locs htt hvm hw hB hz1 hk1 hS => ?_)
  have hP := va_keep hP hk1
  try dsimp only at hw
  clear hB hz1 hk1 hFc hPc hKc
  obtain rfl : r5 = (-1) := hw
  refine lv_aload_n hx hb dL_law_820 rfl (lv_at hl 1 rfl) ?_
  refine lv_aload_n hx hb dL_law_821 rfl (lv_at hl 3 rfl) ?_
  refine lv_iload_n hx hb dL_law_822 rfl (lv_at hl 0 rfl) ?_
  refine lv_iconst (v := 1) hx hb dL_law_823 (by decide) ?_
  refine lv_iadd hx hb dL_law_824 ?_
  refine lv_topi (fun v6 ev6 => ?_)
  obtain rfl : v6 = 1 := ev6.trans (by decide)
  refine va_sld hx hb hX hbl hbA hS (hin 1 (by omega)) dL_law_825 ?_
  refine lv_topi (fun v7 ev7 => ?_)
  obtain rfl : v7 = xs 1 := ev7
  refine lv_aload_n hx hb dL_law_826 rfl (lv_at hl 3 rfl) ?_
  refine lv_iload_n hx hb dL_law_827 rfl (lv_at hl 0 rfl) ?_
  refine lv_iconst (v := 2) hx hb dL_law_828 (by decide) ?_
  refine lv_iadd hx hb dL_law_829 ?_
  refine lv_topi (fun v8 ev8 => ?_)
  obtain rfl : v8 = 2 := ev8.trans (by decide)
  refine va_sld hx hb hX hbl hbA hS (hin 2 (by omega)) dL_law_830 ?_
  refine lv_topi (fun v9 ev9 => ?_)
  obtain rfl : v9 = xs 2 := ev9
  have hPc := hP.sub (ws' := [(m0, .inr (11, fM ma 0 0 0 0 0)), (ma 3, .inl (cm 3, 85, .inr (.inl (fun _ => 0))))]) [6, 8] rfl
  have hKc := hK.sub (tys' := [(cm 3, .long)]) [3] rfl
  have hDc := hD.sub (ws' := [(m0, .inr (11, fM ma 0 0 0 0 0)), (ma 3, .inl (cm 3, 85, .inr (.inl (fun _ => 0))))]) [6, 8] (by decide) rfl
  have hFc := va_free (wc := [(m0, .inr (11, fM ma 0 0 0 0 0)), (ma 3, .inl (cm 3, 85, .inr (.inl (fun _ => 0))))]) hD hS hA [6, 8] rfl
  refine va_calli (va_runV (As := [.int (xs 1), .int (xs 2)]) (rest := [.int (-1)]) ⟨hx, hb, hml, hown, hts⟩ (c_X11_many l D _ m0 ma (cm 3) 0 0 0 0 0 (xs 1) (xs 2)) (cwV 2 hts g_L_c_X11_many_86 rfl rfl rfl (by decide +kernel) ⟨(Nat.le_of_ble_eq_true rfl), (Nat.le_of_ble_eq_true rfl)⟩) (PcW_V (q0 := 0) hPc hKc hDc rfl rfl) rfl rfl hl.1 rfl (lv_room (Nat.le_of_ble_eq_true rfl)) dL_law_831 ⟨(Nat.le_of_ble_eq_true rfl), (Nat.le_of_ble_eq_true rfl)⟩) hS (fun q _ h => hFc q h) hFc (fun r10 uu tt H locs htt hvm hw hB hz1 hk1 hS => ?_)
  obtain ⟨hP, hD⟩ := va_join (wr := [(x0, .inr (10, [.ref (ca 0), .ref (ca 1), .int 0, .ref (ca 3), .ref (ca 4), .ref (ca 5), .ref (ca 6)])), (ca 0, .inl (cc 0, 4, .inr (.inr (.inr (.inr (fun _ => none)))))), (ca 1, .inl (cc 1, 1400, .inl (fun _ => 0))), (ca 4, .inr (1, [.int 0, .ref qi])), (ca 5, .inr (6, [.int 0, .int 0, .int 0, .ref (qp 3), .ref (qp 4), .int 0, .int 0, .int 0, .int 0, .int 0, .int 0, .int 0, .ref (qp 12), .int 0, .ref (qp 14)])), (ca 6, .inr (4, [.int 0, .int 0, .int 0, .int 0, .int 0, .ref (qm 5), .int 0, .ref (qm 7)])), (ma 1, .inl (cm 1, 1400, .inl (fun _ => 0))), (ma 8, .inl (cm 8, 10240, .inl (fun _ => 0))), (ma 9, .inl (cm 9, 10240, .inl (fun _ => 0)))]) (w1 := []) hP hD [6, 8] [0, 1, 2, 3, 4, 5, 7, 9, 10] rfl rfl (by decide) (by decide) hk1 hFc va_P_nil va_D_nil
  have hP : va_P D vwCl [(x0, .inr (10, [.ref (ca 0), .ref (ca 1), .int 0, .ref (ca 3), .ref (ca 4), .ref (ca 5), .ref (ca 6)])), (ca 0, .inl (cc 0, 4, .inr (.inr (.inr (.inr (fun _ => none)))))), (ca 1, .inl (cc 1, 1400, .inl (fun _ => 0))), (ca 4, .inr (1, [.int 0, .ref qi])), (ca 5, .inr (6, [.int 0, .int 0, .int 0, .ref (qp 3), .ref (qp 4), .int 0, .int 0, .int 0, .int 0, .int 0, .int 0, .int 0, .ref (qp 12), .int 0, .ref (qp 14)])), (ca 6, .inr (4, [.int 0, .int 0, .int 0, .int 0, .int 0, .ref (qm 5), .int 0, .ref (qm 7)])), (ma 1, .inl (cm 1, 1400, .inl (fun _ => 0))), (ma 8, .inl (cm 8, 10240, .inl (fun _ => 0))), (ma 9, .inl (cm 9, 10240, .inl (fun _ => 0)))] H := hP
  have hD : va_D A [(x0, .inr (10, [.ref (ca 0), .ref (ca 1), .int 0, .ref (ca 3), .ref (ca 4), .ref (ca 5), .ref (ca 6)])), (ca 0, .inl (cc 0, 4, .inr (.inr (.inr (.inr (fun _ => none)))))), (ca 1, .inl (cc 1, 1400, .inl (fun _ => 0))), (ca 4, .inr (1, [.int 0, .ref qi])), (ca 5, .inr (6, [.int 0, .int 0, .int 0, .ref (qp 3), .ref (qp 4), .int 0, .int 0, .int 0, .int 0, .int 0, .int 0, .int 0, .ref (qp 12), .int 0, .ref (qp 14)])), (ca 6, .inr (4, [.int 0, .int 0, .int 0, .int 0, .int 0, .ref (qm 5), .int 0, .ref (qm 7)])), (ma 1, .inl (cm 1, 1400, .inl (fun _ => 0))), (ma 8, .inl (cm 8, 10240, .inl (fun _ => 0))), (ma 9, .inl (cm 9, 10240, .inl (fun _ => 0)))] := hD
  try dsimp only at hw
  clear hB hz1 hk1 hFc hPc hKc hDc
  obtain rfl : r10 = (-1) := hw
  refine lv_icmp_eq (tgt := 1735) hx hb dL_law_834 (by decide) (fun hc => ?_) (fun hc => absurd (by decide) hc)
  exact law_tail (D := D) l C0 hN hA hbA hA2 (Nat.le_of_ble_eq_true rfl) (Nat.le_of_ble_eq_true rfl) hS hl

set_option maxHeartbeats 4000000 in
set_option maxRecDepth 100000 in
theorem law_case_16 {p : Program} {e : Env} {s : State} {m : MethodId} {below : List Frame} {meth : Method} {c : Code} (l : Launch) {b : Nat} {xs : Nat → Int32} {D : va_G} {A : Nat → Prop} (C0 : lw_At p s m meth c b 7 xs) (hN : NN s) (hA : ∀ q, s.heap.size ≤ q → A q) (hbA : ¬ A b) (hA2 : ∀ q, A q → s.heap.size ≤ q) (x0 m0 : Nat) (ca : Nat → Nat) (cc : Nat → ClassId) (qi : Nat) (qp qm : Nat → Nat) (ma : Nat → Nat) (cm : Nat → ClassId) (H : Heap) (locs : List Loc) (hK : va_K D vwCl [(cc 0, .object RX9), (cc 1, .int), (cm 1, .byte), (cm 3, .long), (cm 8, .int), (cm 9, .int)] s) (hP : va_P D vwCl [(x0, .inr (10, [.ref (ca 0), .ref (ca 1), .int 0, .ref (ca 3), .ref (ca 4), .ref (ca 5), .ref (ca 6)])), (ca 0, .inl (cc 0, 4, .inr (.inr (.inr (.inr (fun _ => none)))))), (ca 1, .inl (cc 1, 1400, .inl (fun _ => 0))), (ca 4, .inr (1, [.int 0, .ref qi])), (ca 5, .inr (6, [.int 0, .int 0, .int 0, .ref (qp 3), .ref (qp 4), .int 0, .int 0, .int 0, .int 0, .int 0, .int 0, .int 0, .ref (qp 12), .int 0, .ref (qp 14)])), (ca 6, .inr (4, [.int 0, .int 0, .int 0, .int 0, .int 0, .ref (qm 5), .int 0, .ref (qm 7)])), (m0, .inr (11, fM ma 0 0 0 0 0)), (ma 1, .inl (cm 1, 1400, .inl (fun _ => 0))), (ma 3, .inl (cm 3, 85, .inr (.inl (fun _ => 0)))), (ma 8, .inl (cm 8, 10240, .inl (fun _ => 0))), (ma 9, .inl (cm 9, 10240, .inl (fun _ => 0)))] H) (hD : va_D A [(x0, .inr (10, [.ref (ca 0), .ref (ca 1), .int 0, .ref (ca 3), .ref (ca 4), .ref (ca 5), .ref (ca 6)])), (ca 0, .inl (cc 0, 4, .inr (.inr (.inr (.inr (fun _ => none)))))), (ca 1, .inl (cc 1, 1400, .inl (fun _ => 0))), (ca 4, .inr (1, [.int 0, .ref qi])), (ca 5, .inr (6, [.int 0, .int 0, .int 0, .ref (qp 3), .ref (qp 4), .int 0, .int 0, .int 0, .int 0, .int 0, .int 0, .int 0, .ref (qp 12), .int 0, .ref (qp 14)])), (ca 6, .inr (4, [.int 0, .int 0, .int 0, .int 0, .int 0, .ref (qm 5), .int 0, .ref (qm 7)])), (m0, .inr (11, fM ma 0 0 0 0 0)), (ma 1, .inl (cm 1, 1400, .inl (fun _ => 0))), (ma 3, .inl (cm 3, 85, .inr (.inl (fun _ => 0)))), (ma 8, .inl (cm 8, 10240, .inl (fun _ => 0))), (ma 9, .inl (cm 9, 10240, .inl (fun _ => 0)))]) (hS : va_S A s.heap H locs) (ls : Array Slot) (hl : lv_has ls 4 [(3, .int 0), (2, .ref m0), (1, .ref x0), (0, .ref b)]) : W p l e room_1 s m #[Value.ref b] below meth c H locs 46 68513 (lw_Z below #[Value.ref b] s) (F0 m 839 ls []) := by
  have C0 := C0
  have C1 := C0
  obtain ⟨hx, hb, hr, hml, hown, hts, hX, hbl, hlocks, hgv⟩ := C1
  have hown : s.vm.findClass RL = some m.cls := hown
  have hin : ∀ k : Nat, k < 7 → vp_in (nI k) 7 := fun k hk => vp_in_nI hk (by decide)
  refine lv_aload_n hx hb dL_law_839 rfl (lv_at hl 2 rfl) ?_
  refine lv_aload_n hx hb dL_law_840 rfl (lv_at hl 3 rfl) ?_
  refine lv_iload_n hx hb dL_law_841 rfl (lv_at hl 0 rfl) ?_
  refine lv_iconst (v := 1) hx hb dL_law_842 (by decide) ?_
  refine lv_iadd hx hb dL_law_843 ?_
  refine lv_topi (fun v1 ev1 => ?_)
  obtain rfl : v1 = 1 := ev1.trans (by decide)
  refine va_sld hx hb hX hbl hbA hS (hin 1 (by omega)) dL_law_844 ?_
  refine lv_topi (fun v2 ev2 => ?_)
  obtain rfl : v2 = xs 1 := ev2
  refine lv_aload_n hx hb dL_law_845 rfl (lv_at hl 3 rfl) ?_
  refine lv_iload_n hx hb dL_law_846 rfl (lv_at hl 0 rfl) ?_
  refine lv_iconst (v := 2) hx hb dL_law_847 (by decide) ?_
  refine lv_iadd hx hb dL_law_848 ?_
  refine lv_topi (fun v3 ev3 => ?_)
  obtain rfl : v3 = 2 := ev3.trans (by decide)
  refine va_sld hx hb hX hbl hbA hS (hin 2 (by omega)) dL_law_849 ?_
  refine lv_topi (fun v4 ev4 => ?_)
  obtain rfl : v4 = xs 2 := ev4
  have hPc := hP.sub (ws' := [(x0, .inr (10, [.ref (ca 0), .ref (ca 1), .int 0, .ref (ca 3), .ref (ca 4), .ref (ca 5), .ref (ca 6)])), (ca 0, .inl (cc 0, 4, .inr (.inr (.inr (.inr (fun _ => none))))))]) [0, 1] rfl
  have hKc := hK.sub (tys' := [(cc 0, .object RX9)]) [0] rfl
  have hFc := va_free0 hS hA
  refine va_calli (va_runV (As := [.int (xs 1), .int (xs 2)]) (rest := []) ⟨hx, hb, hml, hown, hts⟩ (c_X10_crowd l D _ x0 ca (cc 0) 0 (xs 1) (xs 2)) (cwV 2 hts g_L_c_X10_crowd_87 rfl rfl rfl (by decide +kernel) ⟨(Nat.le_of_ble_eq_true rfl), (Nat.le_of_ble_eq_true rfl)⟩) (PcR_V (q0 := 0) hPc hKc rfl rfl) rfl rfl hl.1 rfl (lv_room (Nat.le_of_ble_eq_true rfl)) dL_law_850 ⟨(Nat.le_of_ble_eq_true rfl), (Nat.le_of_ble_eq_true rfl)⟩) hS (fun q _ h => hFc q h) hFc (fun r5 uu tt H locs htt hvm hw hB hz1 hk1 hS => ?_)
  have hP := va_keep hP hk1
  try dsimp only at hw
  clear hB hz1 hk1 hFc hPc hKc
  obtain rfl : r5 = (-1) := hw
  refine lv_aload_n hx hb dL_law_853 rfl (lv_at hl 1 rfl) ?_
  refine lv_aload_n hx hb dL_law_854 rfl (lv_at hl 3 rfl) ?_
  refine lv_iload_n hx hb dL_law_855 rfl (lv_at hl 0 rfl) ?_
  refine lv_iconst (v := 1) hx hb dL_law_856 (by decide) ?_
  refine lv_iadd hx hb dL_law_857 ?_
  refine lv_topi (fun v6 ev6 => ?_)
  obtain rfl : v6 = 1 := ev6.trans (by decide)
  refine va_sld hx hb hX hbl hbA hS (hin 1 (by omega)) dL_law_858 ?_
  refine lv_topi (fun v7 ev7 => ?_)
  obtain rfl : v7 = xs 1 := ev7
  refine lv_aload_n hx hb dL_law_859 rfl (lv_at hl 3 rfl) ?_
  refine lv_iload_n hx hb dL_law_860 rfl (lv_at hl 0 rfl) ?_
  refine lv_iconst (v := 2) hx hb dL_law_861 (by decide) ?_
  refine lv_iadd hx hb dL_law_862 ?_
  refine lv_topi (fun v8 ev8 => ?_)
  obtain rfl : v8 = 2 := ev8.trans (by decide)
  refine va_sld hx hb hX hbl hbA hS (hin 2 (by omega)) dL_law_863 ?_
  refine lv_topi (fun v9 ev9 => ?_)
  obtain rfl : v9 = xs 2 := ev9
  have hPc := hP.sub (ws' := [(m0, .inr (11, fM ma 0 0 0 0 0)), (ma 3, .inl (cm 3, 85, .inr (.inl (fun _ => 0))))]) [6, 8] rfl
  have hKc := hK.sub (tys' := [(cm 3, .long)]) [3] rfl
  have hDc := hD.sub (ws' := [(m0, .inr (11, fM ma 0 0 0 0 0)), (ma 3, .inl (cm 3, 85, .inr (.inl (fun _ => 0))))]) [6, 8] (by decide) rfl
  have hFc := va_free (wc := [(m0, .inr (11, fM ma 0 0 0 0 0)), (ma 3, .inl (cm 3, 85, .inr (.inl (fun _ => 0))))]) hD hS hA [6, 8] rfl
  refine va_calli (va_runV (As := [.int (xs 1), .int (xs 2)]) (rest := [.int (-1)]) ⟨hx, hb, hml, hown, hts⟩ (c_X11_crowd l D _ m0 ma (cm 3) 0 0 0 0 0 (xs 1) (xs 2)) (cwV 2 hts g_L_c_X11_crowd_90 rfl rfl rfl (by decide +kernel) ⟨(Nat.le_of_ble_eq_true rfl), (Nat.le_of_ble_eq_true rfl)⟩) (PcW_V (q0 := 0) hPc hKc hDc rfl rfl) rfl rfl hl.1 rfl (lv_room (Nat.le_of_ble_eq_true rfl)) dL_law_864 ⟨(Nat.le_of_ble_eq_true rfl), (Nat.le_of_ble_eq_true rfl)⟩) hS (fun q _ h => hFc q h) hFc (fun r10 uu tt H locs htt hvm hw hB hz1 hk1 hS => ?_)
  obtain ⟨hP, hD⟩ := va_join (wr := [(x0, .inr (10, [.ref (ca 0), .ref (ca 1), .int 0, .ref (ca 3), .ref (ca 4), .ref (ca 5), .ref (ca 6)])), (ca 0, .inl (cc 0, 4, .inr (.inr (.inr (.inr (fun _ => none)))))), (ca 1, .inl (cc 1, 1400, .inl (fun _ => 0))), (ca 4, .inr (1, [.int 0, .ref qi])), (ca 5, .inr (6, [.int 0, .int 0, .int 0, .ref (qp 3), .ref (qp 4), .int 0, .int 0, .int 0, .int 0, .int 0, .int 0, .int 0, .ref (qp 12), .int 0, .ref (qp 14)])), (ca 6, .inr (4, [.int 0, .int 0, .int 0, .int 0, .int 0, .ref (qm 5), .int 0, .ref (qm 7)])), (ma 1, .inl (cm 1, 1400, .inl (fun _ => 0))), (ma 8, .inl (cm 8, 10240, .inl (fun _ => 0))), (ma 9, .inl (cm 9, 10240, .inl (fun _ => 0)))]) (w1 := []) hP hD [6, 8] [0, 1, 2, 3, 4, 5, 7, 9, 10] rfl rfl (by decide) (by decide) hk1 hFc va_P_nil va_D_nil
  have hP : va_P D vwCl [(x0, .inr (10, [.ref (ca 0), .ref (ca 1), .int 0, .ref (ca 3), .ref (ca 4), .ref (ca 5), .ref (ca 6)])), (ca 0, .inl (cc 0, 4, .inr (.inr (.inr (.inr (fun _ => none)))))), (ca 1, .inl (cc 1, 1400, .inl (fun _ => 0))), (ca 4, .inr (1, [.int 0, .ref qi])), (ca 5, .inr (6, [.int 0, .int 0, .int 0, .ref (qp 3), .ref (qp 4), .int 0, .int 0, .int 0, .int 0, .int 0, .int 0, .int 0, .ref (qp 12), .int 0, .ref (qp 14)])), (ca 6, .inr (4, [.int 0, .int 0, .int 0, .int 0, .int 0, .ref (qm 5), .int 0, .ref (qm 7)])), (ma 1, .inl (cm 1, 1400, .inl (fun _ => 0))), (ma 8, .inl (cm 8, 10240, .inl (fun _ => 0))), (ma 9, .inl (cm 9, 10240, .inl (fun _ => 0)))] H := hP
  have hD : va_D A [(x0, .inr (10, [.ref (ca 0), .ref (ca 1), .int 0, .ref (ca 3), .ref (ca 4), .ref (ca 5), .ref (ca 6)])), (ca 0, .inl (cc 0, 4, .inr (.inr (.inr (.inr (fun _ => none)))))), (ca 1, .inl (cc 1, 1400, .inl (fun _ => 0))), (ca 4, .inr (1, [.int 0, .ref qi])), (ca 5, .inr (6, [.int 0, .int 0, .int 0, .ref (qp 3), .ref (qp 4), .int 0, .int 0, .int 0, .int 0, .int 0, .int 0, .int 0, .ref (qp 12), .int 0, .ref (qp 14)])), (ca 6, .inr (4, [.int 0, .int 0, .int 0, .int 0, .int 0, .ref (qm 5), .int 0, .ref (qm 7)])), (ma 1, .inl (cm 1, 1400, .inl (fun _ => 0))), (ma 8, .inl (cm 8, 10240, .inl (fun _ => 0))), (ma 9, .inl (cm 9, 10240, .inl (fun _ => 0)))] := hD
  try dsimp only at hw
  clear hB hz1 hk1 hFc hPc hKc hDc
  obtain rfl : r10 = (-1) := hw
  refine lv_icmp_eq (tgt := 1735) hx hb dL_law_867 (by decide) (fun hc => ?_) (fun hc => absurd (by decide) hc)
  exact law_tail (D := D) l C0 hN hA hbA hA2 (Nat.le_of_ble_eq_true rfl) (Nat.le_of_ble_eq_true rfl) hS hl

set_option maxHeartbeats 4000000 in
set_option maxRecDepth 100000 in
theorem law_case_17 {p : Program} {e : Env} {s : State} {m : MethodId} {below : List Frame} {meth : Method} {c : Code} (l : Launch) {b : Nat} {xs : Nat → Int32} {D : va_G} {A : Nat → Prop} (C0 : lw_At p s m meth c b 7 xs) (hN : NN s) (hA : ∀ q, s.heap.size ≤ q → A q) (hbA : ¬ A b) (hA2 : ∀ q, A q → s.heap.size ≤ q) (x0 m0 : Nat) (ca : Nat → Nat) (cc : Nat → ClassId) (qi : Nat) (qp qm : Nat → Nat) (ma : Nat → Nat) (cm : Nat → ClassId) (H : Heap) (locs : List Loc) (hK : va_K D vwCl [(cc 0, .object RX9), (cc 1, .int), (cm 1, .byte), (cm 3, .long), (cm 8, .int), (cm 9, .int)] s) (hP : va_P D vwCl [(x0, .inr (10, [.ref (ca 0), .ref (ca 1), .int 0, .ref (ca 3), .ref (ca 4), .ref (ca 5), .ref (ca 6)])), (ca 0, .inl (cc 0, 4, .inr (.inr (.inr (.inr (fun _ => none)))))), (ca 1, .inl (cc 1, 1400, .inl (fun _ => 0))), (ca 4, .inr (1, [.int 0, .ref qi])), (ca 5, .inr (6, [.int 0, .int 0, .int 0, .ref (qp 3), .ref (qp 4), .int 0, .int 0, .int 0, .int 0, .int 0, .int 0, .int 0, .ref (qp 12), .int 0, .ref (qp 14)])), (ca 6, .inr (4, [.int 0, .int 0, .int 0, .int 0, .int 0, .ref (qm 5), .int 0, .ref (qm 7)])), (m0, .inr (11, fM ma 0 0 0 0 0)), (ma 1, .inl (cm 1, 1400, .inl (fun _ => 0))), (ma 3, .inl (cm 3, 85, .inr (.inl (fun _ => 0)))), (ma 8, .inl (cm 8, 10240, .inl (fun _ => 0))), (ma 9, .inl (cm 9, 10240, .inl (fun _ => 0)))] H) (hD : va_D A [(x0, .inr (10, [.ref (ca 0), .ref (ca 1), .int 0, .ref (ca 3), .ref (ca 4), .ref (ca 5), .ref (ca 6)])), (ca 0, .inl (cc 0, 4, .inr (.inr (.inr (.inr (fun _ => none)))))), (ca 1, .inl (cc 1, 1400, .inl (fun _ => 0))), (ca 4, .inr (1, [.int 0, .ref qi])), (ca 5, .inr (6, [.int 0, .int 0, .int 0, .ref (qp 3), .ref (qp 4), .int 0, .int 0, .int 0, .int 0, .int 0, .int 0, .int 0, .ref (qp 12), .int 0, .ref (qp 14)])), (ca 6, .inr (4, [.int 0, .int 0, .int 0, .int 0, .int 0, .ref (qm 5), .int 0, .ref (qm 7)])), (m0, .inr (11, fM ma 0 0 0 0 0)), (ma 1, .inl (cm 1, 1400, .inl (fun _ => 0))), (ma 3, .inl (cm 3, 85, .inr (.inl (fun _ => 0)))), (ma 8, .inl (cm 8, 10240, .inl (fun _ => 0))), (ma 9, .inl (cm 9, 10240, .inl (fun _ => 0)))]) (hS : va_S A s.heap H locs) (ls : Array Slot) (hl : lv_has ls 4 [(3, .int 0), (2, .ref m0), (1, .ref x0), (0, .ref b)]) : W p l e room_1 s m #[Value.ref b] below meth c H locs 46 68513 (lw_Z below #[Value.ref b] s) (F0 m 872 ls []) := by
  have C0 := C0
  have C1 := C0
  obtain ⟨hx, hb, hr, hml, hown, hts, hX, hbl, hlocks, hgv⟩ := C1
  have hown : s.vm.findClass RL = some m.cls := hown
  have hin : ∀ k : Nat, k < 7 → vp_in (nI k) 7 := fun k hk => vp_in_nI hk (by decide)
  refine lv_aload_n hx hb dL_law_872 rfl (lv_at hl 2 rfl) ?_
  refine lv_aload_n hx hb dL_law_873 rfl (lv_at hl 3 rfl) ?_
  refine lv_iload_n hx hb dL_law_874 rfl (lv_at hl 0 rfl) ?_
  refine lv_iconst (v := 1) hx hb dL_law_875 (by decide) ?_
  refine lv_iadd hx hb dL_law_876 ?_
  refine lv_topi (fun v1 ev1 => ?_)
  obtain rfl : v1 = 1 := ev1.trans (by decide)
  refine va_sld hx hb hX hbl hbA hS (hin 1 (by omega)) dL_law_877 ?_
  refine lv_topi (fun v2 ev2 => ?_)
  obtain rfl : v2 = xs 1 := ev2
  have hPc := hP.sub (ws' := [(x0, .inr (10, [.ref (ca 0), .ref (ca 1), .int 0, .ref (ca 3), .ref (ca 4), .ref (ca 5), .ref (ca 6)])), (ca 0, .inl (cc 0, 4, .inr (.inr (.inr (.inr (fun _ => none))))))]) [0, 1] rfl
  have hKc := hK.sub (tys' := [(cc 0, .object RX9)]) [0] rfl
  have hFc := va_free0 hS hA
  refine va_calli (va_runV (As := [.int (xs 1)]) (rest := []) ⟨hx, hb, hml, hown, hts⟩ (c_X10_empty l D _ x0 ca (cc 0) 0 (xs 1)) (cwV 1 hts g_L_c_X10_empty_91 rfl rfl rfl (by decide +kernel) ⟨(Nat.le_of_ble_eq_true rfl), (Nat.le_of_ble_eq_true rfl)⟩) (PcR_V (q0 := 0) hPc hKc rfl rfl) rfl rfl hl.1 rfl (lv_room (Nat.le_of_ble_eq_true rfl)) dL_law_878 ⟨(Nat.le_of_ble_eq_true rfl), (Nat.le_of_ble_eq_true rfl)⟩) hS (fun q _ h => hFc q h) hFc (fun r3 uu tt H locs htt hvm hw hB hz1 hk1 hS => ?_)
  have hP := va_keep hP hk1
  try dsimp only at hw
  clear hB hz1 hk1 hFc hPc hKc
  obtain rfl : r3 = (-1) := hw
  refine lv_aload_n hx hb dL_law_881 rfl (lv_at hl 1 rfl) ?_
  refine lv_aload_n hx hb dL_law_882 rfl (lv_at hl 3 rfl) ?_
  refine lv_iload_n hx hb dL_law_883 rfl (lv_at hl 0 rfl) ?_
  refine lv_iconst (v := 1) hx hb dL_law_884 (by decide) ?_
  refine lv_iadd hx hb dL_law_885 ?_
  refine lv_topi (fun v4 ev4 => ?_)
  obtain rfl : v4 = 1 := ev4.trans (by decide)
  refine va_sld hx hb hX hbl hbA hS (hin 1 (by omega)) dL_law_886 ?_
  refine lv_topi (fun v5 ev5 => ?_)
  obtain rfl : v5 = xs 1 := ev5
  have hPc := hP.sub (ws' := [(m0, .inr (11, fM ma 0 0 0 0 0)), (ma 3, .inl (cm 3, 85, .inr (.inl (fun _ => 0))))]) [6, 8] rfl
  have hKc := hK.sub (tys' := [(cm 3, .long)]) [3] rfl
  have hDc := hD.sub (ws' := [(m0, .inr (11, fM ma 0 0 0 0 0)), (ma 3, .inl (cm 3, 85, .inr (.inl (fun _ => 0))))]) [6, 8] (by decide) rfl
  have hFc := va_free (wc := [(m0, .inr (11, fM ma 0 0 0 0 0)), (ma 3, .inl (cm 3, 85, .inr (.inl (fun _ => 0))))]) hD hS hA [6, 8] rfl
  refine va_calli (va_runV (As := [.int (xs 1)]) (rest := [.int (-1)]) ⟨hx, hb, hml, hown, hts⟩ (c_X11_empty l D _ m0 ma (cm 3) 0 0 0 0 0 (xs 1)) (cwV 1 hts g_L_c_X11_empty_94 rfl rfl rfl (by decide +kernel) ⟨(Nat.le_of_ble_eq_true rfl), (Nat.le_of_ble_eq_true rfl)⟩) (PcW_V (q0 := 0) hPc hKc hDc rfl rfl) rfl rfl hl.1 rfl (lv_room (Nat.le_of_ble_eq_true rfl)) dL_law_887 ⟨(Nat.le_of_ble_eq_true rfl), (Nat.le_of_ble_eq_true rfl)⟩) hS (fun q _ h => hFc q h) hFc (fun r6 uu tt H locs htt hvm hw hB hz1 hk1 hS => ?_)
  obtain ⟨hP, hD⟩ := va_join (wr := [(x0, .inr (10, [.ref (ca 0), .ref (ca 1), .int 0, .ref (ca 3), .ref (ca 4), .ref (ca 5), .ref (ca 6)])), (ca 0, .inl (cc 0, 4, .inr (.inr (.inr (.inr (fun _ => none)))))), (ca 1, .inl (cc 1, 1400, .inl (fun _ => 0))), (ca 4, .inr (1, [.int 0, .ref qi])), (ca 5, .inr (6, [.int 0, .int 0, .int 0, .ref (qp 3), .ref (qp 4), .int 0, .int 0, .int 0, .int 0, .int 0, .int 0, .int 0, .ref (qp 12), .int 0, .ref (qp 14)])), (ca 6, .inr (4, [.int 0, .int 0, .int 0, .int 0, .int 0, .ref (qm 5), .int 0, .ref (qm 7)])), (ma 1, .inl (cm 1, 1400, .inl (fun _ => 0))), (ma 8, .inl (cm 8, 10240, .inl (fun _ => 0))), (ma 9, .inl (cm 9, 10240, .inl (fun _ => 0)))]) (w1 := []) hP hD [6, 8] [0, 1, 2, 3, 4, 5, 7, 9, 10] rfl rfl (by decide) (by decide) hk1 hFc va_P_nil va_D_nil
  have hP : va_P D vwCl [(x0, .inr (10, [.ref (ca 0), .ref (ca 1), .int 0, .ref (ca 3), .ref (ca 4), .ref (ca 5), .ref (ca 6)])), (ca 0, .inl (cc 0, 4, .inr (.inr (.inr (.inr (fun _ => none)))))), (ca 1, .inl (cc 1, 1400, .inl (fun _ => 0))), (ca 4, .inr (1, [.int 0, .ref qi])), (ca 5, .inr (6, [.int 0, .int 0, .int 0, .ref (qp 3), .ref (qp 4), .int 0, .int 0, .int 0, .int 0, .int 0, .int 0, .int 0, .ref (qp 12), .int 0, .ref (qp 14)])), (ca 6, .inr (4, [.int 0, .int 0, .int 0, .int 0, .int 0, .ref (qm 5), .int 0, .ref (qm 7)])), (ma 1, .inl (cm 1, 1400, .inl (fun _ => 0))), (ma 8, .inl (cm 8, 10240, .inl (fun _ => 0))), (ma 9, .inl (cm 9, 10240, .inl (fun _ => 0)))] H := hP
  have hD : va_D A [(x0, .inr (10, [.ref (ca 0), .ref (ca 1), .int 0, .ref (ca 3), .ref (ca 4), .ref (ca 5), .ref (ca 6)])), (ca 0, .inl (cc 0, 4, .inr (.inr (.inr (.inr (fun _ => none)))))), (ca 1, .inl (cc 1, 1400, .inl (fun _ => 0))), (ca 4, .inr (1, [.int 0, .ref qi])), (ca 5, .inr (6, [.int 0, .int 0, .int 0, .ref (qp 3), .ref (qp 4), .int 0, .int 0, .int 0, .int 0, .int 0, .int 0, .int 0, .ref (qp 12), .int 0, .ref (qp 14)])), (ca 6, .inr (4, [.int 0, .int 0, .int 0, .int 0, .int 0, .ref (qm 5), .int 0, .ref (qm 7)])), (ma 1, .inl (cm 1, 1400, .inl (fun _ => 0))), (ma 8, .inl (cm 8, 10240, .inl (fun _ => 0))), (ma 9, .inl (cm 9, 10240, .inl (fun _ => 0)))] := hD
  try dsimp only at hw
  clear hB hz1 hk1 hFc hPc hKc hDc
  obtain rfl : r6 = (-1) := hw
  refine lv_icmp_eq (tgt := 1735) hx hb dL_law_890 (by decide) (fun hc => ?_) (fun hc => absurd (by decide) hc)
  exact law_tail (D := D) l C0 hN hA hbA hA2 (Nat.le_of_ble_eq_true rfl) (Nat.le_of_ble_eq_true rfl) hS hl

set_option maxHeartbeats 4000000 in
set_option maxRecDepth 100000 in
theorem law_case_18 {p : Program} {e : Env} {s : State} {m : MethodId} {below : List Frame} {meth : Method} {c : Code} (l : Launch) {b : Nat} {xs : Nat → Int32} {D : va_G} {A : Nat → Prop} (C0 : lw_At p s m meth c b 7 xs) (hN : NN s) (hA : ∀ q, s.heap.size ≤ q → A q) (hbA : ¬ A b) (hA2 : ∀ q, A q → s.heap.size ≤ q) (x0 m0 : Nat) (ca : Nat → Nat) (cc : Nat → ClassId) (qi : Nat) (qp qm : Nat → Nat) (ma : Nat → Nat) (cm : Nat → ClassId) (H : Heap) (locs : List Loc) (hK : va_K D vwCl [(cc 0, .object RX9), (cc 1, .int), (cm 1, .byte), (cm 3, .long), (cm 8, .int), (cm 9, .int)] s) (hP : va_P D vwCl [(x0, .inr (10, [.ref (ca 0), .ref (ca 1), .int 0, .ref (ca 3), .ref (ca 4), .ref (ca 5), .ref (ca 6)])), (ca 0, .inl (cc 0, 4, .inr (.inr (.inr (.inr (fun _ => none)))))), (ca 1, .inl (cc 1, 1400, .inl (fun _ => 0))), (ca 4, .inr (1, [.int 0, .ref qi])), (ca 5, .inr (6, [.int 0, .int 0, .int 0, .ref (qp 3), .ref (qp 4), .int 0, .int 0, .int 0, .int 0, .int 0, .int 0, .int 0, .ref (qp 12), .int 0, .ref (qp 14)])), (ca 6, .inr (4, [.int 0, .int 0, .int 0, .int 0, .int 0, .ref (qm 5), .int 0, .ref (qm 7)])), (m0, .inr (11, fM ma 0 0 0 0 0)), (ma 1, .inl (cm 1, 1400, .inl (fun _ => 0))), (ma 3, .inl (cm 3, 85, .inr (.inl (fun _ => 0)))), (ma 8, .inl (cm 8, 10240, .inl (fun _ => 0))), (ma 9, .inl (cm 9, 10240, .inl (fun _ => 0)))] H) (hD : va_D A [(x0, .inr (10, [.ref (ca 0), .ref (ca 1), .int 0, .ref (ca 3), .ref (ca 4), .ref (ca 5), .ref (ca 6)])), (ca 0, .inl (cc 0, 4, .inr (.inr (.inr (.inr (fun _ => none)))))), (ca 1, .inl (cc 1, 1400, .inl (fun _ => 0))), (ca 4, .inr (1, [.int 0, .ref qi])), (ca 5, .inr (6, [.int 0, .int 0, .int 0, .ref (qp 3), .ref (qp 4), .int 0, .int 0, .int 0, .int 0, .int 0, .int 0, .int 0, .ref (qp 12), .int 0, .ref (qp 14)])), (ca 6, .inr (4, [.int 0, .int 0, .int 0, .int 0, .int 0, .ref (qm 5), .int 0, .ref (qm 7)])), (m0, .inr (11, fM ma 0 0 0 0 0)), (ma 1, .inl (cm 1, 1400, .inl (fun _ => 0))), (ma 3, .inl (cm 3, 85, .inr (.inl (fun _ => 0)))), (ma 8, .inl (cm 8, 10240, .inl (fun _ => 0))), (ma 9, .inl (cm 9, 10240, .inl (fun _ => 0)))]) (hS : va_S A s.heap H locs) (ls : Array Slot) (hl : lv_has ls 4 [(3, .int 0), (2, .ref m0), (1, .ref x0), (0, .ref b)]) : W p l e room_1 s m #[Value.ref b] below meth c H locs 46 68513 (lw_Z below #[Value.ref b] s) (F0 m 895 ls []) := by
  have C0 := C0
  have C1 := C0
  obtain ⟨hx, hb, hr, hml, hown, hts, hX, hbl, hlocks, hgv⟩ := C1
  have hown : s.vm.findClass RL = some m.cls := hown
  have hin : ∀ k : Nat, k < 7 → vp_in (nI k) 7 := fun k hk => vp_in_nI hk (by decide)
  refine lv_aload_n hx hb dL_law_895 rfl (lv_at hl 2 rfl) ?_
  refine lv_aload_n hx hb dL_law_896 rfl (lv_at hl 3 rfl) ?_
  refine lv_iload_n hx hb dL_law_897 rfl (lv_at hl 0 rfl) ?_
  refine lv_iconst (v := 1) hx hb dL_law_898 (by decide) ?_
  refine lv_iadd hx hb dL_law_899 ?_
  refine lv_topi (fun v1 ev1 => ?_)
  obtain rfl : v1 = 1 := ev1.trans (by decide)
  refine va_sld hx hb hX hbl hbA hS (hin 1 (by omega)) dL_law_900 ?_
  refine lv_topi (fun v2 ev2 => ?_)
  obtain rfl : v2 = xs 1 := ev2
  have hPc := hP.sub (ws' := [(x0, .inr (10, [.ref (ca 0), .ref (ca 1), .int 0, .ref (ca 3), .ref (ca 4), .ref (ca 5), .ref (ca 6)])), (ca 0, .inl (cc 0, 4, .inr (.inr (.inr (.inr (fun _ => none))))))]) [0, 1] rfl
  have hKc := hK.sub (tys' := [(cc 0, .object RX9)]) [0] rfl
  have hFc := va_free0 hS hA
  refine va_calli (va_runV (As := [.int (xs 1)]) (rest := []) ⟨hx, hb, hml, hown, hts⟩ (c_X10_left l D _ x0 ca (cc 0) 0 (xs 1)) (cwV 1 hts g_L_c_X10_left_95 rfl rfl rfl (by decide +kernel) ⟨(Nat.le_of_ble_eq_true rfl), (Nat.le_of_ble_eq_true rfl)⟩) (PcR_V (q0 := 0) hPc hKc rfl rfl) rfl rfl hl.1 rfl (lv_room (Nat.le_of_ble_eq_true rfl)) dL_law_901 ⟨(Nat.le_of_ble_eq_true rfl), (Nat.le_of_ble_eq_true rfl)⟩) hS (fun q _ h => hFc q h) hFc (fun r3 uu tt H locs htt hvm hw hB hz1 hk1 hS => ?_)
  have hP := va_keep hP hk1
  try dsimp only at hw
  clear hB hz1 hk1 hFc hPc hKc
  obtain rfl : r3 = (-1) := hw
  refine lv_aload_n hx hb dL_law_904 rfl (lv_at hl 1 rfl) ?_
  refine lv_aload_n hx hb dL_law_905 rfl (lv_at hl 3 rfl) ?_
  refine lv_iload_n hx hb dL_law_906 rfl (lv_at hl 0 rfl) ?_
  refine lv_iconst (v := 1) hx hb dL_law_907 (by decide) ?_
  refine lv_iadd hx hb dL_law_908 ?_
  refine lv_topi (fun v4 ev4 => ?_)
  obtain rfl : v4 = 1 := ev4.trans (by decide)
  refine va_sld hx hb hX hbl hbA hS (hin 1 (by omega)) dL_law_909 ?_
  refine lv_topi (fun v5 ev5 => ?_)
  obtain rfl : v5 = xs 1 := ev5
  have hPc := hP.sub (ws' := [(m0, .inr (11, fM ma 0 0 0 0 0)), (ma 3, .inl (cm 3, 85, .inr (.inl (fun _ => 0))))]) [6, 8] rfl
  have hKc := hK.sub (tys' := [(cm 3, .long)]) [3] rfl
  have hDc := hD.sub (ws' := [(m0, .inr (11, fM ma 0 0 0 0 0)), (ma 3, .inl (cm 3, 85, .inr (.inl (fun _ => 0))))]) [6, 8] (by decide) rfl
  have hFc := va_free (wc := [(m0, .inr (11, fM ma 0 0 0 0 0)), (ma 3, .inl (cm 3, 85, .inr (.inl (fun _ => 0))))]) hD hS hA [6, 8] rfl
  refine va_calli (va_runV (As := [.int (xs 1)]) (rest := [.int (-1)]) ⟨hx, hb, hml, hown, hts⟩ (c_X11_left l D _ m0 ma (cm 3) 0 0 0 0 0 (xs 1)) (cwV 1 hts g_L_c_X11_left_98 rfl rfl rfl (by decide +kernel) ⟨(Nat.le_of_ble_eq_true rfl), (Nat.le_of_ble_eq_true rfl)⟩) (PcW_V (q0 := 0) hPc hKc hDc rfl rfl) rfl rfl hl.1 rfl (lv_room (Nat.le_of_ble_eq_true rfl)) dL_law_910 ⟨(Nat.le_of_ble_eq_true rfl), (Nat.le_of_ble_eq_true rfl)⟩) hS (fun q _ h => hFc q h) hFc (fun r6 uu tt H locs htt hvm hw hB hz1 hk1 hS => ?_)
  obtain ⟨hP, hD⟩ := va_join (wr := [(x0, .inr (10, [.ref (ca 0), .ref (ca 1), .int 0, .ref (ca 3), .ref (ca 4), .ref (ca 5), .ref (ca 6)])), (ca 0, .inl (cc 0, 4, .inr (.inr (.inr (.inr (fun _ => none)))))), (ca 1, .inl (cc 1, 1400, .inl (fun _ => 0))), (ca 4, .inr (1, [.int 0, .ref qi])), (ca 5, .inr (6, [.int 0, .int 0, .int 0, .ref (qp 3), .ref (qp 4), .int 0, .int 0, .int 0, .int 0, .int 0, .int 0, .int 0, .ref (qp 12), .int 0, .ref (qp 14)])), (ca 6, .inr (4, [.int 0, .int 0, .int 0, .int 0, .int 0, .ref (qm 5), .int 0, .ref (qm 7)])), (ma 1, .inl (cm 1, 1400, .inl (fun _ => 0))), (ma 8, .inl (cm 8, 10240, .inl (fun _ => 0))), (ma 9, .inl (cm 9, 10240, .inl (fun _ => 0)))]) (w1 := []) hP hD [6, 8] [0, 1, 2, 3, 4, 5, 7, 9, 10] rfl rfl (by decide) (by decide) hk1 hFc va_P_nil va_D_nil
  have hP : va_P D vwCl [(x0, .inr (10, [.ref (ca 0), .ref (ca 1), .int 0, .ref (ca 3), .ref (ca 4), .ref (ca 5), .ref (ca 6)])), (ca 0, .inl (cc 0, 4, .inr (.inr (.inr (.inr (fun _ => none)))))), (ca 1, .inl (cc 1, 1400, .inl (fun _ => 0))), (ca 4, .inr (1, [.int 0, .ref qi])), (ca 5, .inr (6, [.int 0, .int 0, .int 0, .ref (qp 3), .ref (qp 4), .int 0, .int 0, .int 0, .int 0, .int 0, .int 0, .int 0, .ref (qp 12), .int 0, .ref (qp 14)])), (ca 6, .inr (4, [.int 0, .int 0, .int 0, .int 0, .int 0, .ref (qm 5), .int 0, .ref (qm 7)])), (ma 1, .inl (cm 1, 1400, .inl (fun _ => 0))), (ma 8, .inl (cm 8, 10240, .inl (fun _ => 0))), (ma 9, .inl (cm 9, 10240, .inl (fun _ => 0)))] H := hP
  have hD : va_D A [(x0, .inr (10, [.ref (ca 0), .ref (ca 1), .int 0, .ref (ca 3), .ref (ca 4), .ref (ca 5), .ref (ca 6)])), (ca 0, .inl (cc 0, 4, .inr (.inr (.inr (.inr (fun _ => none)))))), (ca 1, .inl (cc 1, 1400, .inl (fun _ => 0))), (ca 4, .inr (1, [.int 0, .ref qi])), (ca 5, .inr (6, [.int 0, .int 0, .int 0, .ref (qp 3), .ref (qp 4), .int 0, .int 0, .int 0, .int 0, .int 0, .int 0, .int 0, .ref (qp 12), .int 0, .ref (qp 14)])), (ca 6, .inr (4, [.int 0, .int 0, .int 0, .int 0, .int 0, .ref (qm 5), .int 0, .ref (qm 7)])), (ma 1, .inl (cm 1, 1400, .inl (fun _ => 0))), (ma 8, .inl (cm 8, 10240, .inl (fun _ => 0))), (ma 9, .inl (cm 9, 10240, .inl (fun _ => 0)))] := hD
  try dsimp only at hw
  clear hB hz1 hk1 hFc hPc hKc hDc
  obtain rfl : r6 = (-1) := hw
  refine lv_icmp_eq (tgt := 1735) hx hb dL_law_913 (by decide) (fun hc => ?_) (fun hc => absurd (by decide) hc)
  exact law_tail (D := D) l C0 hN hA hbA hA2 (Nat.le_of_ble_eq_true rfl) (Nat.le_of_ble_eq_true rfl) hS hl

set_option maxHeartbeats 4000000 in
set_option maxRecDepth 100000 in
theorem law_case_19 {p : Program} {e : Env} {s : State} {m : MethodId} {below : List Frame} {meth : Method} {c : Code} (l : Launch) {b : Nat} {xs : Nat → Int32} {D : va_G} {A : Nat → Prop} (C0 : lw_At p s m meth c b 7 xs) (hN : NN s) (hA : ∀ q, s.heap.size ≤ q → A q) (hbA : ¬ A b) (hA2 : ∀ q, A q → s.heap.size ≤ q) (x0 m0 : Nat) (ca : Nat → Nat) (cc : Nat → ClassId) (qi : Nat) (qp qm : Nat → Nat) (ma : Nat → Nat) (cm : Nat → ClassId) (H : Heap) (locs : List Loc) (hK : va_K D vwCl [(cc 0, .object RX9), (cc 1, .int), (cm 1, .byte), (cm 3, .long), (cm 8, .int), (cm 9, .int)] s) (hP : va_P D vwCl [(x0, .inr (10, [.ref (ca 0), .ref (ca 1), .int 0, .ref (ca 3), .ref (ca 4), .ref (ca 5), .ref (ca 6)])), (ca 0, .inl (cc 0, 4, .inr (.inr (.inr (.inr (fun _ => none)))))), (ca 1, .inl (cc 1, 1400, .inl (fun _ => 0))), (ca 4, .inr (1, [.int 0, .ref qi])), (ca 5, .inr (6, [.int 0, .int 0, .int 0, .ref (qp 3), .ref (qp 4), .int 0, .int 0, .int 0, .int 0, .int 0, .int 0, .int 0, .ref (qp 12), .int 0, .ref (qp 14)])), (ca 6, .inr (4, [.int 0, .int 0, .int 0, .int 0, .int 0, .ref (qm 5), .int 0, .ref (qm 7)])), (m0, .inr (11, fM ma 0 0 0 0 0)), (ma 1, .inl (cm 1, 1400, .inl (fun _ => 0))), (ma 3, .inl (cm 3, 85, .inr (.inl (fun _ => 0)))), (ma 8, .inl (cm 8, 10240, .inl (fun _ => 0))), (ma 9, .inl (cm 9, 10240, .inl (fun _ => 0)))] H) (hD : va_D A [(x0, .inr (10, [.ref (ca 0), .ref (ca 1), .int 0, .ref (ca 3), .ref (ca 4), .ref (ca 5), .ref (ca 6)])), (ca 0, .inl (cc 0, 4, .inr (.inr (.inr (.inr (fun _ => none)))))), (ca 1, .inl (cc 1, 1400, .inl (fun _ => 0))), (ca 4, .inr (1, [.int 0, .ref qi])), (ca 5, .inr (6, [.int 0, .int 0, .int 0, .ref (qp 3), .ref (qp 4), .int 0, .int 0, .int 0, .int 0, .int 0, .int 0, .int 0, .ref (qp 12), .int 0, .ref (qp 14)])), (ca 6, .inr (4, [.int 0, .int 0, .int 0, .int 0, .int 0, .ref (qm 5), .int 0, .ref (qm 7)])), (m0, .inr (11, fM ma 0 0 0 0 0)), (ma 1, .inl (cm 1, 1400, .inl (fun _ => 0))), (ma 3, .inl (cm 3, 85, .inr (.inl (fun _ => 0)))), (ma 8, .inl (cm 8, 10240, .inl (fun _ => 0))), (ma 9, .inl (cm 9, 10240, .inl (fun _ => 0)))]) (hS : va_S A s.heap H locs) (ls : Array Slot) (hl : lv_has ls 4 [(3, .int 0), (2, .ref m0), (1, .ref x0), (0, .ref b)]) : W p l e room_1 s m #[Value.ref b] below meth c H locs 46 68513 (lw_Z below #[Value.ref b] s) (F0 m 918 ls []) := by
  have C0 := C0
  have C1 := C0
  obtain ⟨hx, hb, hr, hml, hown, hts, hX, hbl, hlocks, hgv⟩ := C1
  have hown : s.vm.findClass RL = some m.cls := hown
  have hin : ∀ k : Nat, k < 7 → vp_in (nI k) 7 := fun k hk => vp_in_nI hk (by decide)
  refine lv_aload_n hx hb dL_law_918 rfl (lv_at hl 2 rfl) ?_
  refine lv_aload_n hx hb dL_law_919 rfl (lv_at hl 3 rfl) ?_
  refine lv_iload_n hx hb dL_law_920 rfl (lv_at hl 0 rfl) ?_
  refine lv_iconst (v := 1) hx hb dL_law_921 (by decide) ?_
  refine lv_iadd hx hb dL_law_922 ?_
  refine lv_topi (fun v1 ev1 => ?_)
  obtain rfl : v1 = 1 := ev1.trans (by decide)
  refine va_sld hx hb hX hbl hbA hS (hin 1 (by omega)) dL_law_923 ?_
  refine lv_topi (fun v2 ev2 => ?_)
  obtain rfl : v2 = xs 1 := ev2
  refine lv_aload_n hx hb dL_law_924 rfl (lv_at hl 3 rfl) ?_
  refine lv_iload_n hx hb dL_law_925 rfl (lv_at hl 0 rfl) ?_
  refine lv_iconst (v := 2) hx hb dL_law_926 (by decide) ?_
  refine lv_iadd hx hb dL_law_927 ?_
  refine lv_topi (fun v3 ev3 => ?_)
  obtain rfl : v3 = 2 := ev3.trans (by decide)
  refine va_sld hx hb hX hbl hbA hS (hin 2 (by omega)) dL_law_928 ?_
  refine lv_topi (fun v4 ev4 => ?_)
  obtain rfl : v4 = xs 2 := ev4
  refine lv_aload_n hx hb dL_law_929 rfl (lv_at hl 3 rfl) ?_
  refine lv_iload_n hx hb dL_law_930 rfl (lv_at hl 0 rfl) ?_
  refine lv_iconst (v := 3) hx hb dL_law_931 (by decide) ?_
  refine lv_iadd hx hb dL_law_932 ?_
  refine lv_topi (fun v5 ev5 => ?_)
  obtain rfl : v5 = 3 := ev5.trans (by decide)
  refine va_sld hx hb hX hbl hbA hS (hin 3 (by omega)) dL_law_933 ?_
  refine lv_topi (fun v6 ev6 => ?_)
  obtain rfl : v6 = xs 3 := ev6
  refine lv_aload_n hx hb dL_law_934 rfl (lv_at hl 3 rfl) ?_
  refine lv_iload_n hx hb dL_law_935 rfl (lv_at hl 0 rfl) ?_
  refine lv_iconst (v := 4) hx hb dL_law_936 (by decide) ?_
  refine lv_iadd hx hb dL_law_937 ?_
  refine lv_topi (fun v7 ev7 => ?_)
  obtain rfl : v7 = 4 := ev7.trans (by decide)
  refine va_sld hx hb hX hbl hbA hS (hin 4 (by omega)) dL_law_938 ?_
  refine lv_topi (fun v8 ev8 => ?_)
  obtain rfl : v8 = xs 4 := ev8
  refine lv_aload_n hx hb dL_law_939 rfl (lv_at hl 3 rfl) ?_
  refine lv_iload_n hx hb dL_law_940 rfl (lv_at hl 0 rfl) ?_
  refine lv_iconst (v := 5) hx hb dL_law_941 (by decide) ?_
  refine lv_iadd hx hb dL_law_942 ?_
  refine lv_topi (fun v9 ev9 => ?_)
  obtain rfl : v9 = 5 := ev9.trans (by decide)
  refine va_sld hx hb hX hbl hbA hS (hin 5 (by omega)) dL_law_943 ?_
  refine lv_topi (fun v10 ev10 => ?_)
  obtain rfl : v10 = xs 5 := ev10
  have hPc := hP.sub (ws' := [(x0, .inr (10, [.ref (ca 0), .ref (ca 1), .int 0, .ref (ca 3), .ref (ca 4), .ref (ca 5), .ref (ca 6)])), (ca 0, .inl (cc 0, 4, .inr (.inr (.inr (.inr (fun _ => none))))))]) [0, 1] rfl
  have hKc := hK.sub (tys' := [(cc 0, .object RX9)]) [0] rfl
  have hFc := va_free0 hS hA
  refine va_calll (va_runV (As := [.int (xs 1), .int (xs 2), .int (xs 3), .int (xs 4), .int (xs 5)]) (rest := []) ⟨hx, hb, hml, hown, hts⟩ (c_X10_outer l D _ x0 ca (cc 0) 0 (xs 1) (xs 2) (xs 3) (xs 4) (xs 5)) (cwV 5 hts g_L_c_X10_outer_99 rfl rfl rfl (by decide +kernel) ⟨(Nat.le_of_ble_eq_true rfl), (Nat.le_of_ble_eq_true rfl)⟩) (PcR_V (q0 := 0) hPc hKc rfl rfl) rfl rfl hl.1 rfl (lv_room (Nat.le_of_ble_eq_true rfl)) dL_law_944 ⟨(Nat.le_of_ble_eq_true rfl), (Nat.le_of_ble_eq_true rfl)⟩) hS (fun q _ h => hFc q h) hFc (fun r11 uu tt H locs htt hvm hw hB hz1 hk1 hS => ?_)
  have hP := va_keep hP hk1
  try dsimp only at hw
  clear hB hz1 hk1 hFc hPc hKc
  obtain rfl : r11 = (-1000000000000000) := hw
  refine lv_aload_n hx hb dL_law_947 rfl (lv_at hl 1 rfl) ?_
  refine lv_aload_n hx hb dL_law_948 rfl (lv_at hl 3 rfl) ?_
  refine lv_iload_n hx hb dL_law_949 rfl (lv_at hl 0 rfl) ?_
  refine lv_iconst (v := 1) hx hb dL_law_950 (by decide) ?_
  refine lv_iadd hx hb dL_law_951 ?_
  refine lv_topi (fun v12 ev12 => ?_)
  obtain rfl : v12 = 1 := ev12.trans (by decide)
  refine va_sld hx hb hX hbl hbA hS (hin 1 (by omega)) dL_law_952 ?_
  refine lv_topi (fun v13 ev13 => ?_)
  obtain rfl : v13 = xs 1 := ev13
  refine lv_aload_n hx hb dL_law_953 rfl (lv_at hl 3 rfl) ?_
  refine lv_iload_n hx hb dL_law_954 rfl (lv_at hl 0 rfl) ?_
  refine lv_iconst (v := 2) hx hb dL_law_955 (by decide) ?_
  refine lv_iadd hx hb dL_law_956 ?_
  refine lv_topi (fun v14 ev14 => ?_)
  obtain rfl : v14 = 2 := ev14.trans (by decide)
  refine va_sld hx hb hX hbl hbA hS (hin 2 (by omega)) dL_law_957 ?_
  refine lv_topi (fun v15 ev15 => ?_)
  obtain rfl : v15 = xs 2 := ev15
  refine lv_aload_n hx hb dL_law_958 rfl (lv_at hl 3 rfl) ?_
  refine lv_iload_n hx hb dL_law_959 rfl (lv_at hl 0 rfl) ?_
  refine lv_iconst (v := 3) hx hb dL_law_960 (by decide) ?_
  refine lv_iadd hx hb dL_law_961 ?_
  refine lv_topi (fun v16 ev16 => ?_)
  obtain rfl : v16 = 3 := ev16.trans (by decide)
  refine va_sld hx hb hX hbl hbA hS (hin 3 (by omega)) dL_law_962 ?_
  refine lv_topi (fun v17 ev17 => ?_)
  obtain rfl : v17 = xs 3 := ev17
  refine lv_aload_n hx hb dL_law_963 rfl (lv_at hl 3 rfl) ?_
  refine lv_iload_n hx hb dL_law_964 rfl (lv_at hl 0 rfl) ?_
  refine lv_iconst (v := 4) hx hb dL_law_965 (by decide) ?_
  refine lv_iadd hx hb dL_law_966 ?_
  refine lv_topi (fun v18 ev18 => ?_)
  obtain rfl : v18 = 4 := ev18.trans (by decide)
  refine va_sld hx hb hX hbl hbA hS (hin 4 (by omega)) dL_law_967 ?_
  refine lv_topi (fun v19 ev19 => ?_)
  obtain rfl : v19 = xs 4 := ev19
  refine lv_aload_n hx hb dL_law_968 rfl (lv_at hl 3 rfl) ?_
  refine lv_iload_n hx hb dL_law_969 rfl (lv_at hl 0 rfl) ?_
  refine lv_iconst (v := 5) hx hb dL_law_970 (by decide) ?_
  refine lv_iadd hx hb dL_law_971 ?_
  refine lv_topi (fun v20 ev20 => ?_)
  obtain rfl : v20 = 5 := ev20.trans (by decide)
  refine va_sld hx hb hX hbl hbA hS (hin 5 (by omega)) dL_law_972 ?_
  refine lv_topi (fun v21 ev21 => ?_)
  obtain rfl : v21 = xs 5 := ev21
  have hPc := hP.sub (ws' := [(m0, .inr (11, fM ma 0 0 0 0 0)), (ma 3, .inl (cm 3, 85, .inr (.inl (fun _ => 0))))]) [6, 8] rfl
  have hKc := hK.sub (tys' := [(cm 3, .long)]) [3] rfl
  have hDc := hD.sub (ws' := [(m0, .inr (11, fM ma 0 0 0 0 0)), (ma 3, .inl (cm 3, 85, .inr (.inl (fun _ => 0))))]) [6, 8] (by decide) rfl
  have hFc := va_free (wc := [(m0, .inr (11, fM ma 0 0 0 0 0)), (ma 3, .inl (cm 3, 85, .inr (.inl (fun _ => 0))))]) hD hS hA [6, 8] rfl
  refine va_calll (va_runV (As := [.int (xs 1), .int (xs 2), .int (xs 3), .int (xs 4), .int (xs 5)]) (rest := [.long (-1000000000000000)]) ⟨hx, hb, hml, hown, hts⟩ (c_X11_outer l D _ m0 ma (cm 3) 0 0 0 0 0 (xs 1) (xs 2) (xs 3) (xs 4) (xs 5)) (cwV 5 hts g_L_c_X11_outer_103 rfl rfl rfl (by decide +kernel) ⟨(Nat.le_of_ble_eq_true rfl), (Nat.le_of_ble_eq_true rfl)⟩) (PcW_V (q0 := 0) hPc hKc hDc rfl rfl) rfl rfl hl.1 rfl (lv_room (Nat.le_of_ble_eq_true rfl)) dL_law_973 ⟨(Nat.le_of_ble_eq_true rfl), (Nat.le_of_ble_eq_true rfl)⟩) hS (fun q _ h => hFc q h) hFc (fun r22 uu tt H locs htt hvm hw hB hz1 hk1 hS => ?_)
  obtain ⟨hP, hD⟩ := va_join (wr := [(x0, .inr (10, [.ref (ca 0), .ref (ca 1), .int 0, .ref (ca 3), .ref (ca 4), .ref (ca 5), .ref (ca 6)])), (ca 0, .inl (cc 0, 4, .inr (.inr (.inr (.inr (fun _ => none)))))), (ca 1, .inl (cc 1, 1400, .inl (fun _ => 0))), (ca 4, .inr (1, [.int 0, .ref qi])), (ca 5, .inr (6, [.int 0, .int 0, .int 0, .ref (qp 3), .ref (qp 4), .int 0, .int 0, .int 0, .int 0, .int 0, .int 0, .int 0, .ref (qp 12), .int 0, .ref (qp 14)])), (ca 6, .inr (4, [.int 0, .int 0, .int 0, .int 0, .int 0, .ref (qm 5), .int 0, .ref (qm 7)])), (ma 1, .inl (cm 1, 1400, .inl (fun _ => 0))), (ma 8, .inl (cm 8, 10240, .inl (fun _ => 0))), (ma 9, .inl (cm 9, 10240, .inl (fun _ => 0)))]) (w1 := []) hP hD [6, 8] [0, 1, 2, 3, 4, 5, 7, 9, 10] rfl rfl (by decide) (by decide) hk1 hFc va_P_nil va_D_nil
  have hP : va_P D vwCl [(x0, .inr (10, [.ref (ca 0), .ref (ca 1), .int 0, .ref (ca 3), .ref (ca 4), .ref (ca 5), .ref (ca 6)])), (ca 0, .inl (cc 0, 4, .inr (.inr (.inr (.inr (fun _ => none)))))), (ca 1, .inl (cc 1, 1400, .inl (fun _ => 0))), (ca 4, .inr (1, [.int 0, .ref qi])), (ca 5, .inr (6, [.int 0, .int 0, .int 0, .ref (qp 3), .ref (qp 4), .int 0, .int 0, .int 0, .int 0, .int 0, .int 0, .int 0, .ref (qp 12), .int 0, .ref (qp 14)])), (ca 6, .inr (4, [.int 0, .int 0, .int 0, .int 0, .int 0, .ref (qm 5), .int 0, .ref (qm 7)])), (ma 1, .inl (cm 1, 1400, .inl (fun _ => 0))), (ma 8, .inl (cm 8, 10240, .inl (fun _ => 0))), (ma 9, .inl (cm 9, 10240, .inl (fun _ => 0)))] H := hP
  have hD : va_D A [(x0, .inr (10, [.ref (ca 0), .ref (ca 1), .int 0, .ref (ca 3), .ref (ca 4), .ref (ca 5), .ref (ca 6)])), (ca 0, .inl (cc 0, 4, .inr (.inr (.inr (.inr (fun _ => none)))))), (ca 1, .inl (cc 1, 1400, .inl (fun _ => 0))), (ca 4, .inr (1, [.int 0, .ref qi])), (ca 5, .inr (6, [.int 0, .int 0, .int 0, .ref (qp 3), .ref (qp 4), .int 0, .int 0, .int 0, .int 0, .int 0, .int 0, .int 0, .ref (qp 12), .int 0, .ref (qp 14)])), (ca 6, .inr (4, [.int 0, .int 0, .int 0, .int 0, .int 0, .ref (qm 5), .int 0, .ref (qm 7)])), (ma 1, .inl (cm 1, 1400, .inl (fun _ => 0))), (ma 8, .inl (cm 8, 10240, .inl (fun _ => 0))), (ma 9, .inl (cm 9, 10240, .inl (fun _ => 0)))] := hD
  try dsimp only at hw
  clear hB hz1 hk1 hFc hPc hKc hDc
  obtain rfl : r22 = (-1000000000000000) := hw
  refine W.lcmp hx hb dL_law_976 ?_
  refine lv_topi (fun v23 ev23 => ?_)
  obtain rfl : v23 = 0 := ev23.trans (by decide)
  refine lv_if_eq (tgt := 1735) hx hb dL_law_977 (by decide) (fun hc => ?_) (fun hc => absurd (by decide) hc)
  exact law_tail (D := D) l C0 hN hA hbA hA2 (Nat.le_of_ble_eq_true rfl) (Nat.le_of_ble_eq_true rfl) hS hl

set_option maxHeartbeats 4000000 in
set_option maxRecDepth 100000 in
theorem law_case_20 {p : Program} {e : Env} {s : State} {m : MethodId} {below : List Frame} {meth : Method} {c : Code} (l : Launch) {b : Nat} {xs : Nat → Int32} {D : va_G} {A : Nat → Prop} (C0 : lw_At p s m meth c b 7 xs) (hN : NN s) (hA : ∀ q, s.heap.size ≤ q → A q) (hbA : ¬ A b) (hA2 : ∀ q, A q → s.heap.size ≤ q) (x0 m0 : Nat) (ca : Nat → Nat) (cc : Nat → ClassId) (qi : Nat) (qp qm : Nat → Nat) (ma : Nat → Nat) (cm : Nat → ClassId) (H : Heap) (locs : List Loc) (hK : va_K D vwCl [(cc 0, .object RX9), (cc 1, .int), (cm 1, .byte), (cm 3, .long), (cm 8, .int), (cm 9, .int)] s) (hP : va_P D vwCl [(x0, .inr (10, [.ref (ca 0), .ref (ca 1), .int 0, .ref (ca 3), .ref (ca 4), .ref (ca 5), .ref (ca 6)])), (ca 0, .inl (cc 0, 4, .inr (.inr (.inr (.inr (fun _ => none)))))), (ca 1, .inl (cc 1, 1400, .inl (fun _ => 0))), (ca 4, .inr (1, [.int 0, .ref qi])), (ca 5, .inr (6, [.int 0, .int 0, .int 0, .ref (qp 3), .ref (qp 4), .int 0, .int 0, .int 0, .int 0, .int 0, .int 0, .int 0, .ref (qp 12), .int 0, .ref (qp 14)])), (ca 6, .inr (4, [.int 0, .int 0, .int 0, .int 0, .int 0, .ref (qm 5), .int 0, .ref (qm 7)])), (m0, .inr (11, fM ma 0 0 0 0 0)), (ma 1, .inl (cm 1, 1400, .inl (fun _ => 0))), (ma 3, .inl (cm 3, 85, .inr (.inl (fun _ => 0)))), (ma 8, .inl (cm 8, 10240, .inl (fun _ => 0))), (ma 9, .inl (cm 9, 10240, .inl (fun _ => 0)))] H) (hD : va_D A [(x0, .inr (10, [.ref (ca 0), .ref (ca 1), .int 0, .ref (ca 3), .ref (ca 4), .ref (ca 5), .ref (ca 6)])), (ca 0, .inl (cc 0, 4, .inr (.inr (.inr (.inr (fun _ => none)))))), (ca 1, .inl (cc 1, 1400, .inl (fun _ => 0))), (ca 4, .inr (1, [.int 0, .ref qi])), (ca 5, .inr (6, [.int 0, .int 0, .int 0, .ref (qp 3), .ref (qp 4), .int 0, .int 0, .int 0, .int 0, .int 0, .int 0, .int 0, .ref (qp 12), .int 0, .ref (qp 14)])), (ca 6, .inr (4, [.int 0, .int 0, .int 0, .int 0, .int 0, .ref (qm 5), .int 0, .ref (qm 7)])), (m0, .inr (11, fM ma 0 0 0 0 0)), (ma 1, .inl (cm 1, 1400, .inl (fun _ => 0))), (ma 3, .inl (cm 3, 85, .inr (.inl (fun _ => 0)))), (ma 8, .inl (cm 8, 10240, .inl (fun _ => 0))), (ma 9, .inl (cm 9, 10240, .inl (fun _ => 0)))]) (hS : va_S A s.heap H locs) (ls : Array Slot) (hl : lv_has ls 4 [(3, .int 0), (2, .ref m0), (1, .ref x0), (0, .ref b)]) : W p l e room_1 s m #[Value.ref b] below meth c H locs 46 68513 (lw_Z below #[Value.ref b] s) (F0 m 982 ls []) := by
  have C0 := C0
  have C1 := C0
  obtain ⟨hx, hb, hr, hml, hown, hts, hX, hbl, hlocks, hgv⟩ := C1
  have hown : s.vm.findClass RL = some m.cls := hown
  have hin : ∀ k : Nat, k < 7 → vp_in (nI k) 7 := fun k hk => vp_in_nI hk (by decide)
  refine lv_aload_n hx hb dL_law_982 rfl (lv_at hl 2 rfl) ?_
  refine lv_aload_n hx hb dL_law_983 rfl (lv_at hl 3 rfl) ?_
  refine lv_iload_n hx hb dL_law_984 rfl (lv_at hl 0 rfl) ?_
  refine lv_iconst (v := 1) hx hb dL_law_985 (by decide) ?_
  refine lv_iadd hx hb dL_law_986 ?_
  refine lv_topi (fun v1 ev1 => ?_)
  obtain rfl : v1 = 1 := ev1.trans (by decide)
  refine va_sld hx hb hX hbl hbA hS (hin 1 (by omega)) dL_law_987 ?_
  refine lv_topi (fun v2 ev2 => ?_)
  obtain rfl : v2 = xs 1 := ev2
  refine lv_aload_n hx hb dL_law_988 rfl (lv_at hl 3 rfl) ?_
  refine lv_iload_n hx hb dL_law_989 rfl (lv_at hl 0 rfl) ?_
  refine lv_iconst (v := 2) hx hb dL_law_990 (by decide) ?_
  refine lv_iadd hx hb dL_law_991 ?_
  refine lv_topi (fun v3 ev3 => ?_)
  obtain rfl : v3 = 2 := ev3.trans (by decide)
  refine va_sld hx hb hX hbl hbA hS (hin 2 (by omega)) dL_law_992 ?_
  refine lv_topi (fun v4 ev4 => ?_)
  obtain rfl : v4 = xs 2 := ev4
  refine lv_aload_n hx hb dL_law_993 rfl (lv_at hl 3 rfl) ?_
  refine lv_iload_n hx hb dL_law_994 rfl (lv_at hl 0 rfl) ?_
  refine lv_iconst (v := 3) hx hb dL_law_995 (by decide) ?_
  refine lv_iadd hx hb dL_law_996 ?_
  refine lv_topi (fun v5 ev5 => ?_)
  obtain rfl : v5 = 3 := ev5.trans (by decide)
  refine va_sld hx hb hX hbl hbA hS (hin 3 (by omega)) dL_law_997 ?_
  refine lv_topi (fun v6 ev6 => ?_)
  obtain rfl : v6 = xs 3 := ev6
  refine lv_i2l hx hb dL_law_998 rfl ?_
  refine lv_bipush (v := 32) hx hb dL_law_999 (by decide) ?_
  refine lv_lshl hx hb dL_law_1001 rfl ?_
  refine lv_topl (fun v7 ev7 => ?_)
  refine lv_aload_n hx hb dL_law_1002 rfl (lv_at hl 3 rfl) ?_
  refine lv_iload_n hx hb dL_law_1003 rfl (lv_at hl 0 rfl) ?_
  refine lv_iconst (v := 4) hx hb dL_law_1004 (by decide) ?_
  refine lv_iadd hx hb dL_law_1005 ?_
  refine lv_topi (fun v8 ev8 => ?_)
  obtain rfl : v8 = 4 := ev8.trans (by decide)
  refine va_sld hx hb hX hbl hbA hS (hin 4 (by omega)) dL_law_1006 ?_
  refine lv_topi (fun v9 ev9 => ?_)
  obtain rfl : v9 = xs 4 := ev9
  refine lv_i2l hx hb dL_law_1007 rfl ?_
  refine lv_ldc2 (v := 4294967295) hx hb hown (hts (.constantLong RL 23 (4294967295)) lww_14) dL_law_1008 ?_
  refine lv_land hx hb dL_law_1011 ?_
  refine lv_topl (fun v10 ev10 => ?_)
  refine lv_lor hx hb dL_law_1012 ?_
  refine lv_topl (fun v11 ev11 => ?_)
  refine lv_aload_n hx hb dL_law_1013 rfl (lv_at hl 3 rfl) ?_
  refine lv_iload_n hx hb dL_law_1014 rfl (lv_at hl 0 rfl) ?_
  refine lv_iconst (v := 5) hx hb dL_law_1015 (by decide) ?_
  refine lv_iadd hx hb dL_law_1016 ?_
  refine lv_topi (fun v12 ev12 => ?_)
  obtain rfl : v12 = 5 := ev12.trans (by decide)
  refine va_sld hx hb hX hbl hbA hS (hin 5 (by omega)) dL_law_1017 ?_
  refine lv_topi (fun v13 ev13 => ?_)
  obtain rfl : v13 = xs 5 := ev13
  have hPc := hP.sub (ws' := [(x0, .inr (10, [.ref (ca 0), .ref (ca 1), .int 0, .ref (ca 3), .ref (ca 4), .ref (ca 5), .ref (ca 6)])), (ca 0, .inl (cc 0, 4, .inr (.inr (.inr (.inr (fun _ => none))))))]) [0, 1] rfl
  have hKc := hK.sub (tys' := [(cc 0, .object RX9)]) [0] rfl
  have hFc := va_free0 hS hA
  refine va_calll (va_runV (As := [.int (xs 1), .int (xs 2), .long v11, .int (xs 5)]) (rest := []) ⟨hx, hb, hml, hown, hts⟩ (c_X10_best l D _ x0 ca (cc 0) 0 (xs 1) (xs 2) v11 (xs 5)) (cwV 4 hts g_L_c_X10_best_104 rfl rfl rfl (by decide +kernel) ⟨(Nat.le_of_ble_eq_true rfl), (Nat.le_of_ble_eq_true rfl)⟩) (PcR_V (q0 := 0) hPc hKc rfl rfl) rfl rfl hl.1 rfl (lv_room (Nat.le_of_ble_eq_true rfl)) dL_law_1018 ⟨(Nat.le_of_ble_eq_true rfl), (Nat.le_of_ble_eq_true rfl)⟩) hS (fun q _ h => hFc q h) hFc (fun r14 uu tt H locs htt hvm hw hB hz1 hk1 hS => ?_)
  have hP := va_keep hP hk1
  try dsimp only at hw
  clear hB hz1 hk1 hFc hPc hKc
  obtain rfl : r14 = (-1000000000000000) := hw
  refine lv_aload_n hx hb dL_law_1021 rfl (lv_at hl 1 rfl) ?_
  refine lv_aload_n hx hb dL_law_1022 rfl (lv_at hl 3 rfl) ?_
  refine lv_iload_n hx hb dL_law_1023 rfl (lv_at hl 0 rfl) ?_
  refine lv_iconst (v := 1) hx hb dL_law_1024 (by decide) ?_
  refine lv_iadd hx hb dL_law_1025 ?_
  refine lv_topi (fun v15 ev15 => ?_)
  obtain rfl : v15 = 1 := ev15.trans (by decide)
  refine va_sld hx hb hX hbl hbA hS (hin 1 (by omega)) dL_law_1026 ?_
  refine lv_topi (fun v16 ev16 => ?_)
  obtain rfl : v16 = xs 1 := ev16
  refine lv_aload_n hx hb dL_law_1027 rfl (lv_at hl 3 rfl) ?_
  refine lv_iload_n hx hb dL_law_1028 rfl (lv_at hl 0 rfl) ?_
  refine lv_iconst (v := 2) hx hb dL_law_1029 (by decide) ?_
  refine lv_iadd hx hb dL_law_1030 ?_
  refine lv_topi (fun v17 ev17 => ?_)
  obtain rfl : v17 = 2 := ev17.trans (by decide)
  refine va_sld hx hb hX hbl hbA hS (hin 2 (by omega)) dL_law_1031 ?_
  refine lv_topi (fun v18 ev18 => ?_)
  obtain rfl : v18 = xs 2 := ev18
  refine lv_aload_n hx hb dL_law_1032 rfl (lv_at hl 3 rfl) ?_
  refine lv_iload_n hx hb dL_law_1033 rfl (lv_at hl 0 rfl) ?_
  refine lv_iconst (v := 3) hx hb dL_law_1034 (by decide) ?_
  refine lv_iadd hx hb dL_law_1035 ?_
  refine lv_topi (fun v19 ev19 => ?_)
  obtain rfl : v19 = 3 := ev19.trans (by decide)
  refine va_sld hx hb hX hbl hbA hS (hin 3 (by omega)) dL_law_1036 ?_
  refine lv_topi (fun v20 ev20 => ?_)
  obtain rfl : v20 = xs 3 := ev20
  refine lv_i2l hx hb dL_law_1037 rfl ?_
  refine lv_bipush (v := 32) hx hb dL_law_1038 (by decide) ?_
  refine lv_lshl hx hb dL_law_1040 rfl ?_
  refine lv_topl (fun v21 ev21 => ?_)
  refine lv_aload_n hx hb dL_law_1041 rfl (lv_at hl 3 rfl) ?_
  refine lv_iload_n hx hb dL_law_1042 rfl (lv_at hl 0 rfl) ?_
  refine lv_iconst (v := 4) hx hb dL_law_1043 (by decide) ?_
  refine lv_iadd hx hb dL_law_1044 ?_
  refine lv_topi (fun v22 ev22 => ?_)
  obtain rfl : v22 = 4 := ev22.trans (by decide)
  refine va_sld hx hb hX hbl hbA hS (hin 4 (by omega)) dL_law_1045 ?_
  refine lv_topi (fun v23 ev23 => ?_)
  obtain rfl : v23 = xs 4 := ev23
  refine lv_i2l hx hb dL_law_1046 rfl ?_
  refine lv_ldc2 (v := 4294967295) hx hb hown (hts (.constantLong RL 23 (4294967295)) lww_14) dL_law_1047 ?_
  refine lv_land hx hb dL_law_1050 ?_
  refine lv_topl (fun v24 ev24 => ?_)
  refine lv_lor hx hb dL_law_1051 ?_
  refine lv_topl (fun v25 ev25 => ?_)
  refine lv_aload_n hx hb dL_law_1052 rfl (lv_at hl 3 rfl) ?_
  refine lv_iload_n hx hb dL_law_1053 rfl (lv_at hl 0 rfl) ?_
  refine lv_iconst (v := 5) hx hb dL_law_1054 (by decide) ?_
  refine lv_iadd hx hb dL_law_1055 ?_
  refine lv_topi (fun v26 ev26 => ?_)
  obtain rfl : v26 = 5 := ev26.trans (by decide)
  refine va_sld hx hb hX hbl hbA hS (hin 5 (by omega)) dL_law_1056 ?_
  refine lv_topi (fun v27 ev27 => ?_)
  obtain rfl : v27 = xs 5 := ev27
  have hPc := hP.sub (ws' := [(m0, .inr (11, fM ma 0 0 0 0 0)), (ma 3, .inl (cm 3, 85, .inr (.inl (fun _ => 0))))]) [6, 8] rfl
  have hKc := hK.sub (tys' := [(cm 3, .long)]) [3] rfl
  have hDc := hD.sub (ws' := [(m0, .inr (11, fM ma 0 0 0 0 0)), (ma 3, .inl (cm 3, 85, .inr (.inl (fun _ => 0))))]) [6, 8] (by decide) rfl
  have hFc := va_free (wc := [(m0, .inr (11, fM ma 0 0 0 0 0)), (ma 3, .inl (cm 3, 85, .inr (.inl (fun _ => 0))))]) hD hS hA [6, 8] rfl
  refine va_calll (va_runV (As := [.int (xs 1), .int (xs 2), .long v25, .int (xs 5)]) (rest := [.long (-1000000000000000)]) ⟨hx, hb, hml, hown, hts⟩ (c_X11_best l D _ m0 ma (cm 3) 0 0 0 0 0 (xs 1) (xs 2) v25 (xs 5)) (cwV 4 hts g_L_c_X11_best_108 rfl rfl rfl (by decide +kernel) ⟨(Nat.le_of_ble_eq_true rfl), (Nat.le_of_ble_eq_true rfl)⟩) (PcW_V (q0 := 0) hPc hKc hDc rfl rfl) rfl rfl hl.1 rfl (lv_room (Nat.le_of_ble_eq_true rfl)) dL_law_1057 ⟨(Nat.le_of_ble_eq_true rfl), (Nat.le_of_ble_eq_true rfl)⟩) hS (fun q _ h => hFc q h) hFc (fun r28 uu tt H locs htt hvm hw hB hz1 hk1 hS => ?_)
  obtain ⟨hP, hD⟩ := va_join (wr := [(x0, .inr (10, [.ref (ca 0), .ref (ca 1), .int 0, .ref (ca 3), .ref (ca 4), .ref (ca 5), .ref (ca 6)])), (ca 0, .inl (cc 0, 4, .inr (.inr (.inr (.inr (fun _ => none)))))), (ca 1, .inl (cc 1, 1400, .inl (fun _ => 0))), (ca 4, .inr (1, [.int 0, .ref qi])), (ca 5, .inr (6, [.int 0, .int 0, .int 0, .ref (qp 3), .ref (qp 4), .int 0, .int 0, .int 0, .int 0, .int 0, .int 0, .int 0, .ref (qp 12), .int 0, .ref (qp 14)])), (ca 6, .inr (4, [.int 0, .int 0, .int 0, .int 0, .int 0, .ref (qm 5), .int 0, .ref (qm 7)])), (ma 1, .inl (cm 1, 1400, .inl (fun _ => 0))), (ma 8, .inl (cm 8, 10240, .inl (fun _ => 0))), (ma 9, .inl (cm 9, 10240, .inl (fun _ => 0)))]) (w1 := []) hP hD [6, 8] [0, 1, 2, 3, 4, 5, 7, 9, 10] rfl rfl (by decide) (by decide) hk1 hFc va_P_nil va_D_nil
  have hP : va_P D vwCl [(x0, .inr (10, [.ref (ca 0), .ref (ca 1), .int 0, .ref (ca 3), .ref (ca 4), .ref (ca 5), .ref (ca 6)])), (ca 0, .inl (cc 0, 4, .inr (.inr (.inr (.inr (fun _ => none)))))), (ca 1, .inl (cc 1, 1400, .inl (fun _ => 0))), (ca 4, .inr (1, [.int 0, .ref qi])), (ca 5, .inr (6, [.int 0, .int 0, .int 0, .ref (qp 3), .ref (qp 4), .int 0, .int 0, .int 0, .int 0, .int 0, .int 0, .int 0, .ref (qp 12), .int 0, .ref (qp 14)])), (ca 6, .inr (4, [.int 0, .int 0, .int 0, .int 0, .int 0, .ref (qm 5), .int 0, .ref (qm 7)])), (ma 1, .inl (cm 1, 1400, .inl (fun _ => 0))), (ma 8, .inl (cm 8, 10240, .inl (fun _ => 0))), (ma 9, .inl (cm 9, 10240, .inl (fun _ => 0)))] H := hP
  have hD : va_D A [(x0, .inr (10, [.ref (ca 0), .ref (ca 1), .int 0, .ref (ca 3), .ref (ca 4), .ref (ca 5), .ref (ca 6)])), (ca 0, .inl (cc 0, 4, .inr (.inr (.inr (.inr (fun _ => none)))))), (ca 1, .inl (cc 1, 1400, .inl (fun _ => 0))), (ca 4, .inr (1, [.int 0, .ref qi])), (ca 5, .inr (6, [.int 0, .int 0, .int 0, .ref (qp 3), .ref (qp 4), .int 0, .int 0, .int 0, .int 0, .int 0, .int 0, .int 0, .ref (qp 12), .int 0, .ref (qp 14)])), (ca 6, .inr (4, [.int 0, .int 0, .int 0, .int 0, .int 0, .ref (qm 5), .int 0, .ref (qm 7)])), (ma 1, .inl (cm 1, 1400, .inl (fun _ => 0))), (ma 8, .inl (cm 8, 10240, .inl (fun _ => 0))), (ma 9, .inl (cm 9, 10240, .inl (fun _ => 0)))] := hD
  try dsimp only at hw
  clear hB hz1 hk1 hFc hPc hKc hDc
  obtain rfl : r28 = (-1000000000000000) := hw
  refine W.lcmp hx hb dL_law_1060 ?_
  refine lv_topi (fun v29 ev29 => ?_)
  obtain rfl : v29 = 0 := ev29.trans (by decide)
  refine lv_if_eq (tgt := 1735) hx hb dL_law_1061 (by decide) (fun hc => ?_) (fun hc => absurd (by decide) hc)
  exact law_tail (D := D) l C0 hN hA hbA hA2 (Nat.le_of_ble_eq_true rfl) (Nat.le_of_ble_eq_true rfl) hS hl
