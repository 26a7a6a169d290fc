set_option maxHeartbeats 4000000 in
set_option maxRecDepth 100000 in
theorem law_case_21 {p : Program} {e : Env} {s : State} {m : MethodId} {below : List Frame} {meth : Method} {c : Code} (l : Launch) {b : Nat} {xs : Nat → Int32} {D : va_G} {A : Nat → Prop} (C0 : lw_At p s m meth c b 7 xs) (hN : NN s) (hA : ∀ q, s.heap.size ≤ q → A q) (hbA : ¬ A b) (hA2 : ∀ q, A q → s.heap.size ≤ q) (x0 m0 : Nat) (ca : Nat → Nat) (cc : Nat → ClassId) (qi : Nat) (qp qm : Nat → Nat) (ma : Nat → Nat) (cm : Nat → ClassId) (H : Heap) (locs : List Loc) (hK : va_K D vwCl [(cc 0, .object RX9), (cc 1, .int), (cm 1, .byte), (cm 3, .long), (cm 8, .int), (cm 9, .int)] s) (hP : va_P D vwCl [(x0, .inr (10, [.ref (ca 0), .ref (ca 1), .int 0, .ref (ca 3), .ref (ca 4), .ref (ca 5), .ref (ca 6)])), (ca 0, .inl (cc 0, 4, .inr (.inr (.inr (.inr (fun _ => none)))))), (ca 1, .inl (cc 1, 1400, .inl (fun _ => 0))), (ca 4, .inr (1, [.int 0, .ref qi])), (ca 5, .inr (6, [.int 0, .int 0, .int 0, .ref (qp 3), .ref (qp 4), .int 0, .int 0, .int 0, .int 0, .int 0, .int 0, .int 0, .ref (qp 12), .int 0, .ref (qp 14)])), (ca 6, .inr (4, [.int 0, .int 0, .int 0, .int 0, .int 0, .ref (qm 5), .int 0, .ref (qm 7)])), (m0, .inr (11, fM ma 0 0 0 0 0)), (ma 1, .inl (cm 1, 1400, .inl (fun _ => 0))), (ma 3, .inl (cm 3, 85, .inr (.inl (fun _ => 0)))), (ma 8, .inl (cm 8, 10240, .inl (fun _ => 0))), (ma 9, .inl (cm 9, 10240, .inl (fun _ => 0)))] H) (hD : va_D A [(x0, .inr (10, [.ref (ca 0), .ref (ca 1), .int 0, .ref (ca 3), .ref (ca 4), .ref (ca 5), .ref (ca 6)])), (ca 0, .inl (cc 0, 4, .inr (.inr (.inr (.inr (fun _ => none)))))), (ca 1, .inl (cc 1, 1400, .inl (fun _ => 0))), (ca 4, .inr (1, [.int 0, .ref qi])), (ca 5, .inr (6, [.int 0, .int 0, .int 0, .ref (qp 3), .ref (qp 4), .int 0, .int 0, .int 0, .int 0, .int 0, .int 0, .int 0, .ref (qp 12), .int 0, .ref (qp 14)])), (ca 6, .inr (4, [.int 0, .int 0, .int 0, .int 0, .int 0, .ref (qm 5), .int 0, .ref (qm 7)])), (m0, .inr (11, fM ma 0 0 0 0 0)), (ma 1, .inl (cm 1, 1400, .inl (fun _ => 0))), (ma 3, .inl (cm 3, 85, .inr (.inl (fun _ => 0)))), (ma 8, .inl (cm 8, 10240, .inl (fun _ => 0))), (ma 9, .inl (cm 9, 10240, .inl (fun _ => 0)))]) (hS : va_S A s.heap H locs) (ls : Array Slot) (hl : lv_has ls 4 [(3, .int 0), (2, .ref m0), (1, .ref x0), (0, .ref b)]) : W p l e room_1 s m #[Value.ref b] below meth c H locs 46 68513 (lw_Z below #[Value.ref b] s) (F0 m 1066 ls []) := by
  have C0 := C0
  have C1 := C0
  obtain ⟨hx, hb, hr, hml, hown, hts, hX, hbl, hlocks, hgv⟩ := C1
  have hown : s.vm.findClass RL = some m.cls := hown
  have hin : ∀ k : Nat, k < 7 → vp_in (nI k) 7 := fun k hk => vp_in_nI hk (by decide)
  refine lv_aload_n hx hb dL_law_1066 rfl (lv_at hl 2 rfl) ?_
  refine lv_aload_n hx hb dL_law_1067 rfl (lv_at hl 3 rfl) ?_
  refine lv_iload_n hx hb dL_law_1068 rfl (lv_at hl 0 rfl) ?_
  refine lv_iconst (v := 1) hx hb dL_law_1069 (by decide) ?_
  refine lv_iadd hx hb dL_law_1070 ?_
  refine lv_topi (fun v1 ev1 => ?_)
  obtain rfl : v1 = 1 := ev1.trans (by decide)
  refine va_sld hx hb hX hbl hbA hS (hin 1 (by omega)) dL_law_1071 ?_
  refine lv_topi (fun v2 ev2 => ?_)
  obtain rfl : v2 = xs 1 := ev2
  refine lv_aload_n hx hb dL_law_1072 rfl (lv_at hl 3 rfl) ?_
  refine lv_iload_n hx hb dL_law_1073 rfl (lv_at hl 0 rfl) ?_
  refine lv_iconst (v := 2) hx hb dL_law_1074 (by decide) ?_
  refine lv_iadd hx hb dL_law_1075 ?_
  refine lv_topi (fun v3 ev3 => ?_)
  obtain rfl : v3 = 2 := ev3.trans (by decide)
  refine va_sld hx hb hX hbl hbA hS (hin 2 (by omega)) dL_law_1076 ?_
  refine lv_topi (fun v4 ev4 => ?_)
  obtain rfl : v4 = xs 2 := ev4
  refine lv_aload_n hx hb dL_law_1077 rfl (lv_at hl 3 rfl) ?_
  refine lv_iload_n hx hb dL_law_1078 rfl (lv_at hl 0 rfl) ?_
  refine lv_iconst (v := 3) hx hb dL_law_1079 (by decide) ?_
  refine lv_iadd hx hb dL_law_1080 ?_
  refine lv_topi (fun v5 ev5 => ?_)
  obtain rfl : v5 = 3 := ev5.trans (by decide)
  refine va_sld hx hb hX hbl hbA hS (hin 3 (by omega)) dL_law_1081 ?_
  refine lv_topi (fun v6 ev6 => ?_)
  obtain rfl : v6 = xs 3 := ev6
  refine lv_aload_n hx hb dL_law_1082 rfl (lv_at hl 3 rfl) ?_
  refine lv_iload_n hx hb dL_law_1083 rfl (lv_at hl 0 rfl) ?_
  refine lv_iconst (v := 4) hx hb dL_law_1084 (by decide) ?_
  refine lv_iadd hx hb dL_law_1085 ?_
  refine lv_topi (fun v7 ev7 => ?_)
  obtain rfl : v7 = 4 := ev7.trans (by decide)
  refine va_sld hx hb hX hbl hbA hS (hin 4 (by omega)) dL_law_1086 ?_
  refine lv_topi (fun v8 ev8 => ?_)
  obtain rfl : v8 = xs 4 := ev8
  have hPc := hP.sub (ws' := [(x0, .inr (10, [.ref (ca 0), .ref (ca 1), .int 0, .ref (ca 3), .ref (ca 4), .ref (ca 5), .ref (ca 6)])), (ca 0, .inl (cc 0, 4, .inr (.inr (.inr (.inr (fun _ => none))))))]) [0, 1] rfl
  have hKc := hK.sub (tys' := [(cc 0, .object RX9)]) [0] rfl
  have hFc := va_free0 hS hA
  refine va_calli (va_runV (As := [.int (xs 1), .int (xs 2), .int (xs 3), .int (xs 4)]) (rest := []) ⟨hx, hb, hml, hown, hts⟩ (c_X10_inner l D _ x0 ca (cc 0) 0 (xs 1) (xs 2) (xs 3) (xs 4)) (cwV 4 hts g_L_c_X10_inner_109 rfl rfl rfl (by decide +kernel) ⟨(Nat.le_of_ble_eq_true rfl), (Nat.le_of_ble_eq_true rfl)⟩) (PcR_V (q0 := 0) hPc hKc rfl rfl) rfl rfl hl.1 rfl (lv_room (Nat.le_of_ble_eq_true rfl)) dL_law_1087 ⟨(Nat.le_of_ble_eq_true rfl), (Nat.le_of_ble_eq_true rfl)⟩) hS (fun q _ h => hFc q h) hFc (fun r9 uu tt H locs htt hvm hw hB hz1 hk1 hS => ?_)
  have hP := va_keep hP hk1
  try dsimp only at hw
  clear hB hz1 hk1 hFc hPc hKc
  obtain rfl : r9 = (-1) := hw
  refine lv_aload_n hx hb dL_law_1090 rfl (lv_at hl 1 rfl) ?_
  refine lv_aload_n hx hb dL_law_1091 rfl (lv_at hl 3 rfl) ?_
  refine lv_iload_n hx hb dL_law_1092 rfl (lv_at hl 0 rfl) ?_
  refine lv_iconst (v := 1) hx hb dL_law_1093 (by decide) ?_
  refine lv_iadd hx hb dL_law_1094 ?_
  refine lv_topi (fun v10 ev10 => ?_)
  obtain rfl : v10 = 1 := ev10.trans (by decide)
  refine va_sld hx hb hX hbl hbA hS (hin 1 (by omega)) dL_law_1095 ?_
  refine lv_topi (fun v11 ev11 => ?_)
  obtain rfl : v11 = xs 1 := ev11
  refine lv_aload_n hx hb dL_law_1096 rfl (lv_at hl 3 rfl) ?_
  refine lv_iload_n hx hb dL_law_1097 rfl (lv_at hl 0 rfl) ?_
  refine lv_iconst (v := 2) hx hb dL_law_1098 (by decide) ?_
  refine lv_iadd hx hb dL_law_1099 ?_
  refine lv_topi (fun v12 ev12 => ?_)
  obtain rfl : v12 = 2 := ev12.trans (by decide)
  refine va_sld hx hb hX hbl hbA hS (hin 2 (by omega)) dL_law_1100 ?_
  refine lv_topi (fun v13 ev13 => ?_)
  obtain rfl : v13 = xs 2 := ev13
  refine lv_aload_n hx hb dL_law_1101 rfl (lv_at hl 3 rfl) ?_
  refine lv_iload_n hx hb dL_law_1102 rfl (lv_at hl 0 rfl) ?_
  refine lv_iconst (v := 3) hx hb dL_law_1103 (by decide) ?_
  refine lv_iadd hx hb dL_law_1104 ?_
  refine lv_topi (fun v14 ev14 => ?_)
  obtain rfl : v14 = 3 := ev14.trans (by decide)
  refine va_sld hx hb hX hbl hbA hS (hin 3 (by omega)) dL_law_1105 ?_
  refine lv_topi (fun v15 ev15 => ?_)
  obtain rfl : v15 = xs 3 := ev15
  refine lv_aload_n hx hb dL_law_1106 rfl (lv_at hl 3 rfl) ?_
  refine lv_iload_n hx hb dL_law_1107 rfl (lv_at hl 0 rfl) ?_
  refine lv_iconst (v := 4) hx hb dL_law_1108 (by decide) ?_
  refine lv_iadd hx hb dL_law_1109 ?_
  refine lv_topi (fun v16 ev16 => ?_)
  obtain rfl : v16 = 4 := ev16.trans (by decide)
  refine va_sld hx hb hX hbl hbA hS (hin 4 (by omega)) dL_law_1110 ?_
  refine lv_topi (fun v17 ev17 => ?_)
  obtain rfl : v17 = xs 4 := ev17
  have hPc := hP.sub (ws' := [(m0, .inr (11, fM ma 0 0 0 0 0)), (ma 3, .inl (cm 3, 85, .inr (.inl (fun _ => 0))))]) [6, 8] rfl
  have hKc := hK.sub (tys' := [(cm 3, .long)]) [3] rfl
  have hDc := hD.sub (ws' := [(m0, .inr (11, fM ma 0 0 0 0 0)), (ma 3, .inl (cm 3, 85, .inr (.inl (fun _ => 0))))]) [6, 8] (by decide) rfl
  have hFc := va_free (wc := [(m0, .inr (11, fM ma 0 0 0 0 0)), (ma 3, .inl (cm 3, 85, .inr (.inl (fun _ => 0))))]) hD hS hA [6, 8] rfl
  refine va_calli (va_runV (As := [.int (xs 1), .int (xs 2), .int (xs 3), .int (xs 4)]) (rest := [.int (-1)]) ⟨hx, hb, hml, hown, hts⟩ (c_X11_inner l D _ m0 ma (cm 3) 0 0 0 0 0 (xs 1) (xs 2) (xs 3) (xs 4)) (cwV 4 hts g_L_c_X11_inner_113 rfl rfl rfl (by decide +kernel) ⟨(Nat.le_of_ble_eq_true rfl), (Nat.le_of_ble_eq_true rfl)⟩) (PcW_V (q0 := 0) hPc hKc hDc rfl rfl) rfl rfl hl.1 rfl (lv_room (Nat.le_of_ble_eq_true rfl)) dL_law_1111 ⟨(Nat.le_of_ble_eq_true rfl), (Nat.le_of_ble_eq_true rfl)⟩) hS (fun q _ h => hFc q h) hFc (fun r18 uu tt H locs htt hvm hw hB hz1 hk1 hS => ?_)
  obtain ⟨hP, hD⟩ := va_join (wr := [(x0, .inr (10, [.ref (ca 0), .ref (ca 1), .int 0, .ref (ca 3), .ref (ca 4), .ref (ca 5), .ref (ca 6)])), (ca 0, .inl (cc 0, 4, .inr (.inr (.inr (.inr (fun _ => none)))))), (ca 1, .inl (cc 1, 1400, .inl (fun _ => 0))), (ca 4, .inr (1, [.int 0, .ref qi])), (ca 5, .inr (6, [.int 0, .int 0, .int 0, .ref (qp 3), .ref (qp 4), .int 0, .int 0, .int 0, .int 0, .int 0, .int 0, .int 0, .ref (qp 12), .int 0, .ref (qp 14)])), (ca 6, .inr (4, [.int 0, .int 0, .int 0, .int 0, .int 0, .ref (qm 5), .int 0, .ref (qm 7)])), (ma 1, .inl (cm 1, 1400, .inl (fun _ => 0))), (ma 8, .inl (cm 8, 10240, .inl (fun _ => 0))), (ma 9, .inl (cm 9, 10240, .inl (fun _ => 0)))]) (w1 := []) hP hD [6, 8] [0, 1, 2, 3, 4, 5, 7, 9, 10] rfl rfl (by decide) (by decide) hk1 hFc va_P_nil va_D_nil
  have hP : va_P D vwCl [(x0, .inr (10, [.ref (ca 0), .ref (ca 1), .int 0, .ref (ca 3), .ref (ca 4), .ref (ca 5), .ref (ca 6)])), (ca 0, .inl (cc 0, 4, .inr (.inr (.inr (.inr (fun _ => none)))))), (ca 1, .inl (cc 1, 1400, .inl (fun _ => 0))), (ca 4, .inr (1, [.int 0, .ref qi])), (ca 5, .inr (6, [.int 0, .int 0, .int 0, .ref (qp 3), .ref (qp 4), .int 0, .int 0, .int 0, .int 0, .int 0, .int 0, .int 0, .ref (qp 12), .int 0, .ref (qp 14)])), (ca 6, .inr (4, [.int 0, .int 0, .int 0, .int 0, .int 0, .ref (qm 5), .int 0, .ref (qm 7)])), (ma 1, .inl (cm 1, 1400, .inl (fun _ => 0))), (ma 8, .inl (cm 8, 10240, .inl (fun _ => 0))), (ma 9, .inl (cm 9, 10240, .inl (fun _ => 0)))] H := hP
  have hD : va_D A [(x0, .inr (10, [.ref (ca 0), .ref (ca 1), .int 0, .ref (ca 3), .ref (ca 4), .ref (ca 5), .ref (ca 6)])), (ca 0, .inl (cc 0, 4, .inr (.inr (.inr (.inr (fun _ => none)))))), (ca 1, .inl (cc 1, 1400, .inl (fun _ => 0))), (ca 4, .inr (1, [.int 0, .ref qi])), (ca 5, .inr (6, [.int 0, .int 0, .int 0, .ref (qp 3), .ref (qp 4), .int 0, .int 0, .int 0, .int 0, .int 0, .int 0, .int 0, .ref (qp 12), .int 0, .ref (qp 14)])), (ca 6, .inr (4, [.int 0, .int 0, .int 0, .int 0, .int 0, .ref (qm 5), .int 0, .ref (qm 7)])), (ma 1, .inl (cm 1, 1400, .inl (fun _ => 0))), (ma 8, .inl (cm 8, 10240, .inl (fun _ => 0))), (ma 9, .inl (cm 9, 10240, .inl (fun _ => 0)))] := hD
  try dsimp only at hw
  clear hB hz1 hk1 hFc hPc hKc hDc
  obtain rfl : r18 = (-1) := hw
  refine lv_icmp_eq (tgt := 1735) hx hb dL_law_1114 (by decide) (fun hc => ?_) (fun hc => absurd (by decide) hc)
  exact law_tail (D := D) l C0 hN hA hbA hA2 (Nat.le_of_ble_eq_true rfl) (Nat.le_of_ble_eq_true rfl) hS hl

set_option maxHeartbeats 4000000 in
set_option maxRecDepth 100000 in
theorem law_case_22 {p : Program} {e : Env} {s : State} {m : MethodId} {below : List Frame} {meth : Method} {c : Code} (l : Launch) {b : Nat} {xs : Nat → Int32} {D : va_G} {A : Nat → Prop} (C0 : lw_At p s m meth c b 7 xs) (hN : NN s) (hA : ∀ q, s.heap.size ≤ q → A q) (hbA : ¬ A b) (hA2 : ∀ q, A q → s.heap.size ≤ q) (x0 m0 : Nat) (ca : Nat → Nat) (cc : Nat → ClassId) (qi : Nat) (qp qm : Nat → Nat) (ma : Nat → Nat) (cm : Nat → ClassId) (H : Heap) (locs : List Loc) (hK : va_K D vwCl [(cc 0, .object RX9), (cc 1, .int), (cm 1, .byte), (cm 3, .long), (cm 8, .int), (cm 9, .int)] s) (hP : va_P D vwCl [(x0, .inr (10, [.ref (ca 0), .ref (ca 1), .int 0, .ref (ca 3), .ref (ca 4), .ref (ca 5), .ref (ca 6)])), (ca 0, .inl (cc 0, 4, .inr (.inr (.inr (.inr (fun _ => none)))))), (ca 1, .inl (cc 1, 1400, .inl (fun _ => 0))), (ca 4, .inr (1, [.int 0, .ref qi])), (ca 5, .inr (6, [.int 0, .int 0, .int 0, .ref (qp 3), .ref (qp 4), .int 0, .int 0, .int 0, .int 0, .int 0, .int 0, .int 0, .ref (qp 12), .int 0, .ref (qp 14)])), (ca 6, .inr (4, [.int 0, .int 0, .int 0, .int 0, .int 0, .ref (qm 5), .int 0, .ref (qm 7)])), (m0, .inr (11, fM ma 0 0 0 0 0)), (ma 1, .inl (cm 1, 1400, .inl (fun _ => 0))), (ma 3, .inl (cm 3, 85, .inr (.inl (fun _ => 0)))), (ma 8, .inl (cm 8, 10240, .inl (fun _ => 0))), (ma 9, .inl (cm 9, 10240, .inl (fun _ => 0)))] H) (hD : va_D A [(x0, .inr (10, [.ref (ca 0), .ref (ca 1), .int 0, .ref (ca 3), .ref (ca 4), .ref (ca 5), .ref (ca 6)])), (ca 0, .inl (cc 0, 4, .inr (.inr (.inr (.inr (fun _ => none)))))), (ca 1, .inl (cc 1, 1400, .inl (fun _ => 0))), (ca 4, .inr (1, [.int 0, .ref qi])), (ca 5, .inr (6, [.int 0, .int 0, .int 0, .ref (qp 3), .ref (qp 4), .int 0, .int 0, .int 0, .int 0, .int 0, .int 0, .int 0, .ref (qp 12), .int 0, .ref (qp 14)])), (ca 6, .inr (4, [.int 0, .int 0, .int 0, .int 0, .int 0, .ref (qm 5), .int 0, .ref (qm 7)])), (m0, .inr (11, fM ma 0 0 0 0 0)), (ma 1, .inl (cm 1, 1400, .inl (fun _ => 0))), (ma 3, .inl (cm 3, 85, .inr (.inl (fun _ => 0)))), (ma 8, .inl (cm 8, 10240, .inl (fun _ => 0))), (ma 9, .inl (cm 9, 10240, .inl (fun _ => 0)))]) (hS : va_S A s.heap H locs) (ls : Array Slot) (hl : lv_has ls 4 [(3, .int 0), (2, .ref m0), (1, .ref x0), (0, .ref b)]) : W p l e room_1 s m #[Value.ref b] below meth c H locs 46 68513 (lw_Z below #[Value.ref b] s) (F0 m 1119 ls []) := by
  have C0 := C0
  have C1 := C0
  obtain ⟨hx, hb, hr, hml, hown, hts, hX, hbl, hlocks, hgv⟩ := C1
  have hown : s.vm.findClass RL = some m.cls := hown
  have hin : ∀ k : Nat, k < 7 → vp_in (nI k) 7 := fun k hk => vp_in_nI hk (by decide)
  refine lv_aload_n hx hb dL_law_1119 rfl (lv_at hl 2 rfl) ?_
  refine lv_aload_n hx hb dL_law_1120 rfl (lv_at hl 3 rfl) ?_
  refine lv_iload_n hx hb dL_law_1121 rfl (lv_at hl 0 rfl) ?_
  refine lv_iconst (v := 1) hx hb dL_law_1122 (by decide) ?_
  refine lv_iadd hx hb dL_law_1123 ?_
  refine lv_topi (fun v1 ev1 => ?_)
  obtain rfl : v1 = 1 := ev1.trans (by decide)
  refine va_sld hx hb hX hbl hbA hS (hin 1 (by omega)) dL_law_1124 ?_
  refine lv_topi (fun v2 ev2 => ?_)
  obtain rfl : v2 = xs 1 := ev2
  refine lv_aload_n hx hb dL_law_1125 rfl (lv_at hl 3 rfl) ?_
  refine lv_iload_n hx hb dL_law_1126 rfl (lv_at hl 0 rfl) ?_
  refine lv_iconst (v := 2) hx hb dL_law_1127 (by decide) ?_
  refine lv_iadd hx hb dL_law_1128 ?_
  refine lv_topi (fun v3 ev3 => ?_)
  obtain rfl : v3 = 2 := ev3.trans (by decide)
  refine va_sld hx hb hX hbl hbA hS (hin 2 (by omega)) dL_law_1129 ?_
  refine lv_topi (fun v4 ev4 => ?_)
  obtain rfl : v4 = xs 2 := ev4
  refine lv_aload_n hx hb dL_law_1130 rfl (lv_at hl 3 rfl) ?_
  refine lv_iload_n hx hb dL_law_1131 rfl (lv_at hl 0 rfl) ?_
  refine lv_iconst (v := 3) hx hb dL_law_1132 (by decide) ?_
  refine lv_iadd hx hb dL_law_1133 ?_
  refine lv_topi (fun v5 ev5 => ?_)
  obtain rfl : v5 = 3 := ev5.trans (by decide)
  refine va_sld hx hb hX hbl hbA hS (hin 3 (by omega)) dL_law_1134 ?_
  refine lv_topi (fun v6 ev6 => ?_)
  obtain rfl : v6 = xs 3 := ev6
  refine lv_aload_n hx hb dL_law_1135 rfl (lv_at hl 3 rfl) ?_
  refine lv_iload_n hx hb dL_law_1136 rfl (lv_at hl 0 rfl) ?_
  refine lv_iconst (v := 4) hx hb dL_law_1137 (by decide) ?_
  refine lv_iadd hx hb dL_law_1138 ?_
  refine lv_topi (fun v7 ev7 => ?_)
  obtain rfl : v7 = 4 := ev7.trans (by decide)
  refine va_sld hx hb hX hbl hbA hS (hin 4 (by omega)) dL_law_1139 ?_
  refine lv_topi (fun v8 ev8 => ?_)
  obtain rfl : v8 = xs 4 := ev8
  refine lv_i2l hx hb dL_law_1140 rfl ?_
  refine lv_bipush (v := 32) hx hb dL_law_1141 (by decide) ?_
  refine lv_lshl hx hb dL_law_1143 rfl ?_
  refine lv_topl (fun v9 ev9 => ?_)
  refine lv_aload_n hx hb dL_law_1144 rfl (lv_at hl 3 rfl) ?_
  refine lv_iload_n hx hb dL_law_1145 rfl (lv_at hl 0 rfl) ?_
  refine lv_iconst (v := 5) hx hb dL_law_1146 (by decide) ?_
  refine lv_iadd hx hb dL_law_1147 ?_
  refine lv_topi (fun v10 ev10 => ?_)
  obtain rfl : v10 = 5 := ev10.trans (by decide)
  refine va_sld hx hb hX hbl hbA hS (hin 5 (by omega)) dL_law_1148 ?_
  refine lv_topi (fun v11 ev11 => ?_)
  obtain rfl : v11 = xs 5 := ev11
  refine lv_i2l hx hb dL_law_1149 rfl ?_
  refine lv_ldc2 (v := 4294967295) hx hb hown (hts (.constantLong RL 23 (4294967295)) lww_14) dL_law_1150 ?_
  refine lv_land hx hb dL_law_1153 ?_
  refine lv_topl (fun v12 ev12 => ?_)
  refine lv_lor hx hb dL_law_1154 ?_
  refine lv_topl (fun v13 ev13 => ?_)
  refine lv_aload_n hx hb dL_law_1155 rfl (lv_at hl 3 rfl) ?_
  refine lv_iload_n hx hb dL_law_1156 rfl (lv_at hl 0 rfl) ?_
  refine lv_bipush (v := 6) hx hb dL_law_1157 (by decide) ?_
  refine lv_iadd hx hb dL_law_1159 ?_
  refine lv_topi (fun v14 ev14 => ?_)
  obtain rfl : v14 = 6 := ev14.trans (by decide)
  refine va_sld hx hb hX hbl hbA hS (hin 6 (by omega)) dL_law_1160 ?_
  refine lv_topi (fun v15 ev15 => ?_)
  obtain rfl : v15 = xs 6 := ev15
  have hPc := hP.sub (ws' := [(x0, .inr (10, [.ref (ca 0), .ref (ca 1), .int 0, .ref (ca 3), .ref (ca 4), .ref (ca 5), .ref (ca 6)])), (ca 0, .inl (cc 0, 4, .inr (.inr (.inr (.inr (fun _ => none))))))]) [0, 1] rfl
  have hKc := hK.sub (tys' := [(cc 0, .object RX9)]) [0] rfl
  have hFc := va_free0 hS hA
  refine va_calli (va_runV (As := [.int (xs 1), .int (xs 2), .int (xs 3), .long v13, .int (xs 6)]) (rest := []) ⟨hx, hb, hml, hown, hts⟩ (c_X10_tries l D _ x0 ca (cc 0) 0 (xs 1) (xs 2) (xs 3) v13 (xs 6)) (cwV 5 hts g_L_c_X10_tries_114 rfl rfl rfl (by decide +kernel) ⟨(Nat.le_of_ble_eq_true rfl), (Nat.le_of_ble_eq_true rfl)⟩) (PcR_V (q0 := 0) hPc hKc rfl rfl) rfl rfl hl.1 rfl (lv_room (Nat.le_of_ble_eq_true rfl)) dL_law_1161 ⟨(Nat.le_of_ble_eq_true rfl), (Nat.le_of_ble_eq_true rfl)⟩) hS (fun q _ h => hFc q h) hFc (fun r16 uu tt H locs htt hvm hw hB hz1 hk1 hS => ?_)
  have hP := va_keep hP hk1
  try dsimp only at hw
  clear hB hz1 hk1 hFc hPc hKc
  obtain rfl : r16 = (-2) := hw
  refine lv_aload_n hx hb dL_law_1164 rfl (lv_at hl 1 rfl) ?_
  refine lv_aload_n hx hb dL_law_1165 rfl (lv_at hl 3 rfl) ?_
  refine lv_iload_n hx hb dL_law_1166 rfl (lv_at hl 0 rfl) ?_
  refine lv_iconst (v := 1) hx hb dL_law_1167 (by decide) ?_
  refine lv_iadd hx hb dL_law_1168 ?_
  refine lv_topi (fun v17 ev17 => ?_)
  obtain rfl : v17 = 1 := ev17.trans (by decide)
  refine va_sld hx hb hX hbl hbA hS (hin 1 (by omega)) dL_law_1169 ?_
  refine lv_topi (fun v18 ev18 => ?_)
  obtain rfl : v18 = xs 1 := ev18
  refine lv_aload_n hx hb dL_law_1170 rfl (lv_at hl 3 rfl) ?_
  refine lv_iload_n hx hb dL_law_1171 rfl (lv_at hl 0 rfl) ?_
  refine lv_iconst (v := 2) hx hb dL_law_1172 (by decide) ?_
  refine lv_iadd hx hb dL_law_1173 ?_
  refine lv_topi (fun v19 ev19 => ?_)
  obtain rfl : v19 = 2 := ev19.trans (by decide)
  refine va_sld hx hb hX hbl hbA hS (hin 2 (by omega)) dL_law_1174 ?_
  refine lv_topi (fun v20 ev20 => ?_)
  obtain rfl : v20 = xs 2 := ev20
  refine lv_aload_n hx hb dL_law_1175 rfl (lv_at hl 3 rfl) ?_
  refine lv_iload_n hx hb dL_law_1176 rfl (lv_at hl 0 rfl) ?_
  refine lv_iconst (v := 3) hx hb dL_law_1177 (by decide) ?_
  refine lv_iadd hx hb dL_law_1178 ?_
  refine lv_topi (fun v21 ev21 => ?_)
  obtain rfl : v21 = 3 := ev21.trans (by decide)
  refine va_sld hx hb hX hbl hbA hS (hin 3 (by omega)) dL_law_1179 ?_
  refine lv_topi (fun v22 ev22 => ?_)
  obtain rfl : v22 = xs 3 := ev22
  refine lv_aload_n hx hb dL_law_1180 rfl (lv_at hl 3 rfl) ?_
  refine lv_iload_n hx hb dL_law_1181 rfl (lv_at hl 0 rfl) ?_
  refine lv_iconst (v := 4) hx hb dL_law_1182 (by decide) ?_
  refine lv_iadd hx hb dL_law_1183 ?_
  refine lv_topi (fun v23 ev23 => ?_)
  obtain rfl : v23 = 4 := ev23.trans (by decide)
  refine va_sld hx hb hX hbl hbA hS (hin 4 (by omega)) dL_law_1184 ?_
  refine lv_topi (fun v24 ev24 => ?_)
  obtain rfl : v24 = xs 4 := ev24
  refine lv_i2l hx hb dL_law_1185 rfl ?_
  refine lv_bipush (v := 32) hx hb dL_law_1186 (by decide) ?_
  refine lv_lshl hx hb dL_law_1188 rfl ?_
  refine lv_topl (fun v25 ev25 => ?_)
  refine lv_aload_n hx hb dL_law_1189 rfl (lv_at hl 3 rfl) ?_
  refine lv_iload_n hx hb dL_law_1190 rfl (lv_at hl 0 rfl) ?_
  refine lv_iconst (v := 5) hx hb dL_law_1191 (by decide) ?_
  refine lv_iadd hx hb dL_law_1192 ?_
  refine lv_topi (fun v26 ev26 => ?_)
  obtain rfl : v26 = 5 := ev26.trans (by decide)
  refine va_sld hx hb hX hbl hbA hS (hin 5 (by omega)) dL_law_1193 ?_
  refine lv_topi (fun v27 ev27 => ?_)
  obtain rfl : v27 = xs 5 := ev27
  refine lv_i2l hx hb dL_law_1194 rfl ?_
  refine lv_ldc2 (v := 4294967295) hx hb hown (hts (.constantLong RL 23 (4294967295)) lww_14) dL_law_1195 ?_
  refine lv_land hx hb dL_law_1198 ?_
  refine lv_topl (fun v28 ev28 => ?_)
  refine lv_lor hx hb dL_law_1199 ?_
  refine lv_topl (fun v29 ev29 => ?_)
  refine lv_aload_n hx hb dL_law_1200 rfl (lv_at hl 3 rfl) ?_
  refine lv_iload_n hx hb dL_law_1201 rfl (lv_at hl 0 rfl) ?_
  refine lv_bipush (v := 6) hx hb dL_law_1202 (by decide) ?_
  refine lv_iadd hx hb dL_law_1204 ?_
  refine lv_topi (fun v30 ev30 => ?_)
  obtain rfl : v30 = 6 := ev30.trans (by decide)
  refine va_sld hx hb hX hbl hbA hS (hin 6 (by omega)) dL_law_1205 ?_
  refine lv_topi (fun v31 ev31 => ?_)
  obtain rfl : v31 = xs 6 := ev31
  have hPc := hP.sub (ws' := [(m0, .inr (11, fM ma 0 0 0 0 0)), (ma 3, .inl (cm 3, 85, .inr (.inl (fun _ => 0))))]) [6, 8] rfl
  have hKc := hK.sub (tys' := [(cm 3, .long)]) [3] rfl
  have hDc := hD.sub (ws' := [(m0, .inr (11, fM ma 0 0 0 0 0)), (ma 3, .inl (cm 3, 85, .inr (.inl (fun _ => 0))))]) [6, 8] (by decide) rfl
  have hFc := va_free (wc := [(m0, .inr (11, fM ma 0 0 0 0 0)), (ma 3, .inl (cm 3, 85, .inr (.inl (fun _ => 0))))]) hD hS hA [6, 8] rfl
  refine va_calli (va_runV (As := [.int (xs 1), .int (xs 2), .int (xs 3), .long v29, .int (xs 6)]) (rest := [.int (-2)]) ⟨hx, hb, hml, hown, hts⟩ (c_X11_tries l D _ m0 ma (cm 3) 0 0 0 0 0 (xs 1) (xs 2) (xs 3) v29 (xs 6)) (cwV 5 hts g_L_c_X11_tries_118 rfl rfl rfl (by decide +kernel) ⟨(Nat.le_of_ble_eq_true rfl), (Nat.le_of_ble_eq_true rfl)⟩) (PcW_V (q0 := 0) hPc hKc hDc rfl rfl) rfl rfl hl.1 rfl (lv_room (Nat.le_of_ble_eq_true rfl)) dL_law_1206 ⟨(Nat.le_of_ble_eq_true rfl), (Nat.le_of_ble_eq_true rfl)⟩) hS (fun q _ h => hFc q h) hFc (fun r32 uu tt H locs htt hvm hw hB hz1 hk1 hS => ?_)
  obtain ⟨hP, hD⟩ := va_join (wr := [(x0, .inr (10, [.ref (ca 0), .ref (ca 1), .int 0, .ref (ca 3), .ref (ca 4), .ref (ca 5), .ref (ca 6)])), (ca 0, .inl (cc 0, 4, .inr (.inr (.inr (.inr (fun _ => none)))))), (ca 1, .inl (cc 1, 1400, .inl (fun _ => 0))), (ca 4, .inr (1, [.int 0, .ref qi])), (ca 5, .inr (6, [.int 0, .int 0, .int 0, .ref (qp 3), .ref (qp 4), .int 0, .int 0, .int 0, .int 0, .int 0, .int 0, .int 0, .ref (qp 12), .int 0, .ref (qp 14)])), (ca 6, .inr (4, [.int 0, .int 0, .int 0, .int 0, .int 0, .ref (qm 5), .int 0, .ref (qm 7)])), (ma 1, .inl (cm 1, 1400, .inl (fun _ => 0))), (ma 8, .inl (cm 8, 10240, .inl (fun _ => 0))), (ma 9, .inl (cm 9, 10240, .inl (fun _ => 0)))]) (w1 := []) hP hD [6, 8] [0, 1, 2, 3, 4, 5, 7, 9, 10] rfl rfl (by decide) (by decide) hk1 hFc va_P_nil va_D_nil
  have hP : va_P D vwCl [(x0, .inr (10, [.ref (ca 0), .ref (ca 1), .int 0, .ref (ca 3), .ref (ca 4), .ref (ca 5), .ref (ca 6)])), (ca 0, .inl (cc 0, 4, .inr (.inr (.inr (.inr (fun _ => none)))))), (ca 1, .inl (cc 1, 1400, .inl (fun _ => 0))), (ca 4, .inr (1, [.int 0, .ref qi])), (ca 5, .inr (6, [.int 0, .int 0, .int 0, .ref (qp 3), .ref (qp 4), .int 0, .int 0, .int 0, .int 0, .int 0, .int 0, .int 0, .ref (qp 12), .int 0, .ref (qp 14)])), (ca 6, .inr (4, [.int 0, .int 0, .int 0, .int 0, .int 0, .ref (qm 5), .int 0, .ref (qm 7)])), (ma 1, .inl (cm 1, 1400, .inl (fun _ => 0))), (ma 8, .inl (cm 8, 10240, .inl (fun _ => 0))), (ma 9, .inl (cm 9, 10240, .inl (fun _ => 0)))] H := hP
  have hD : va_D A [(x0, .inr (10, [.ref (ca 0), .ref (ca 1), .int 0, .ref (ca 3), .ref (ca 4), .ref (ca 5), .ref (ca 6)])), (ca 0, .inl (cc 0, 4, .inr (.inr (.inr (.inr (fun _ => none)))))), (ca 1, .inl (cc 1, 1400, .inl (fun _ => 0))), (ca 4, .inr (1, [.int 0, .ref qi])), (ca 5, .inr (6, [.int 0, .int 0, .int 0, .ref (qp 3), .ref (qp 4), .int 0, .int 0, .int 0, .int 0, .int 0, .int 0, .int 0, .ref (qp 12), .int 0, .ref (qp 14)])), (ca 6, .inr (4, [.int 0, .int 0, .int 0, .int 0, .int 0, .ref (qm 5), .int 0, .ref (qm 7)])), (ma 1, .inl (cm 1, 1400, .inl (fun _ => 0))), (ma 8, .inl (cm 8, 10240, .inl (fun _ => 0))), (ma 9, .inl (cm 9, 10240, .inl (fun _ => 0)))] := hD
  try dsimp only at hw
  clear hB hz1 hk1 hFc hPc hKc hDc
  obtain rfl : r32 = (-2) := hw
  refine lv_icmp_eq (tgt := 1735) hx hb dL_law_1209 (by decide) (fun hc => ?_) (fun hc => absurd (by decide) hc)
  exact law_tail (D := D) l C0 hN hA hbA hA2 (Nat.le_of_ble_eq_true rfl) (Nat.le_of_ble_eq_true rfl) hS hl

set_option maxHeartbeats 4000000 in
set_option maxRecDepth 100000 in
theorem law_case_23 {p : Program} {e : Env} {s : State} {m : MethodId} {below : List Frame} {meth : Method} {c : Code} (l : Launch) {b : Nat} {xs : Nat → Int32} {D : va_G} {A : Nat → Prop} (C0 : lw_At p s m meth c b 7 xs) (hN : NN s) (hA : ∀ q, s.heap.size ≤ q → A q) (hbA : ¬ A b) (hA2 : ∀ q, A q → s.heap.size ≤ q) (x0 m0 : Nat) (ca : Nat → Nat) (cc : Nat → ClassId) (qi : Nat) (qp qm : Nat → Nat) (ma : Nat → Nat) (cm : Nat → ClassId) (H : Heap) (locs : List Loc) (hK : va_K D vwCl [(cc 0, .object RX9), (cc 1, .int), (cm 1, .byte), (cm 3, .long), (cm 8, .int), (cm 9, .int)] s) (hP : va_P D vwCl [(x0, .inr (10, [.ref (ca 0), .ref (ca 1), .int 0, .ref (ca 3), .ref (ca 4), .ref (ca 5), .ref (ca 6)])), (ca 0, .inl (cc 0, 4, .inr (.inr (.inr (.inr (fun _ => none)))))), (ca 1, .inl (cc 1, 1400, .inl (fun _ => 0))), (ca 4, .inr (1, [.int 0, .ref qi])), (ca 5, .inr (6, [.int 0, .int 0, .int 0, .ref (qp 3), .ref (qp 4), .int 0, .int 0, .int 0, .int 0, .int 0, .int 0, .int 0, .ref (qp 12), .int 0, .ref (qp 14)])), (ca 6, .inr (4, [.int 0, .int 0, .int 0, .int 0, .int 0, .ref (qm 5), .int 0, .ref (qm 7)])), (m0, .inr (11, fM ma 0 0 0 0 0)), (ma 1, .inl (cm 1, 1400, .inl (fun _ => 0))), (ma 3, .inl (cm 3, 85, .inr (.inl (fun _ => 0)))), (ma 8, .inl (cm 8, 10240, .inl (fun _ => 0))), (ma 9, .inl (cm 9, 10240, .inl (fun _ => 0)))] H) (hD : va_D A [(x0, .inr (10, [.ref (ca 0), .ref (ca 1), .int 0, .ref (ca 3), .ref (ca 4), .ref (ca 5), .ref (ca 6)])), (ca 0, .inl (cc 0, 4, .inr (.inr (.inr (.inr (fun _ => none)))))), (ca 1, .inl (cc 1, 1400, .inl (fun _ => 0))), (ca 4, .inr (1, [.int 0, .ref qi])), (ca 5, .inr (6, [.int 0, .int 0, .int 0, .ref (qp 3), .ref (qp 4), .int 0, .int 0, .int 0, .int 0, .int 0, .int 0, .int 0, .ref (qp 12), .int 0, .ref (qp 14)])), (ca 6, .inr (4, [.int 0, .int 0, .int 0, .int 0, .int 0, .ref (qm 5), .int 0, .ref (qm 7)])), (m0, .inr (11, fM ma 0 0 0 0 0)), (ma 1, .inl (cm 1, 1400, .inl (fun _ => 0))), (ma 3, .inl (cm 3, 85, .inr (.inl (fun _ => 0)))), (ma 8, .inl (cm 8, 10240, .inl (fun _ => 0))), (ma 9, .inl (cm 9, 10240, .inl (fun _ => 0)))]) (hS : va_S A s.heap H locs) (ls : Array Slot) (hl : lv_has ls 4 [(3, .int 0), (2, .ref m0), (1, .ref x0), (0, .ref b)]) : W p l e room_1 s m #[Value.ref b] below meth c H locs 46 68513 (lw_Z below #[Value.ref b] s) (F0 m 1214 ls []) := by
  have C0 := C0
  have C1 := C0
  obtain ⟨hx, hb, hr, hml, hown, hts, hX, hbl, hlocks, hgv⟩ := C1
  have hown : s.vm.findClass RL = some m.cls := hown
  have hin : ∀ k : Nat, k < 7 → vp_in (nI k) 7 := fun k hk => vp_in_nI hk (by decide)
  refine lv_aload_n hx hb dL_law_1214 rfl (lv_at hl 2 rfl) ?_
  refine lv_aload_n hx hb dL_law_1215 rfl (lv_at hl 3 rfl) ?_
  refine lv_iload_n hx hb dL_law_1216 rfl (lv_at hl 0 rfl) ?_
  refine lv_iconst (v := 1) hx hb dL_law_1217 (by decide) ?_
  refine lv_iadd hx hb dL_law_1218 ?_
  refine lv_topi (fun v1 ev1 => ?_)
  obtain rfl : v1 = 1 := ev1.trans (by decide)
  refine va_sld hx hb hX hbl hbA hS (hin 1 (by omega)) dL_law_1219 ?_
  refine lv_topi (fun v2 ev2 => ?_)
  obtain rfl : v2 = xs 1 := ev2
  refine lv_aload_n hx hb dL_law_1220 rfl (lv_at hl 3 rfl) ?_
  refine lv_iload_n hx hb dL_law_1221 rfl (lv_at hl 0 rfl) ?_
  refine lv_iconst (v := 2) hx hb dL_law_1222 (by decide) ?_
  refine lv_iadd hx hb dL_law_1223 ?_
  refine lv_topi (fun v3 ev3 => ?_)
  obtain rfl : v3 = 2 := ev3.trans (by decide)
  refine va_sld hx hb hX hbl hbA hS (hin 2 (by omega)) dL_law_1224 ?_
  refine lv_topi (fun v4 ev4 => ?_)
  obtain rfl : v4 = xs 2 := ev4
  have hPc := hP.sub (ws' := [(x0, .inr (10, [.ref (ca 0), .ref (ca 1), .int 0, .ref (ca 3), .ref (ca 4), .ref (ca 5), .ref (ca 6)])), (ca 0, .inl (cc 0, 4, .inr (.inr (.inr (.inr (fun _ => none))))))]) [0, 1] rfl
  have hKc := hK.sub (tys' := [(cc 0, .object RX9)]) [0] rfl
  have hFc := va_free0 hS hA
  refine va_calli (va_runV (As := [.int (xs 1), .int (xs 2)]) (rest := []) ⟨hx, hb, hml, hown, hts⟩ (c_X10_would l D _ x0 ca (cc 0) 0 (xs 1) (xs 2)) (cwV 2 hts g_L_c_X10_would_119 rfl rfl rfl (by decide +kernel) ⟨(Nat.le_of_ble_eq_true rfl), (Nat.le_of_ble_eq_true rfl)⟩) (PcR_V (q0 := 0) hPc hKc rfl rfl) rfl rfl hl.1 rfl (lv_room (Nat.le_of_ble_eq_true rfl)) dL_law_1225 ⟨(Nat.le_of_ble_eq_true rfl), (Nat.le_of_ble_eq_true rfl)⟩) hS (fun q _ h => hFc q h) hFc (fun r5 uu tt H locs htt hvm hw hB hz1 hk1 hS => ?_)
  have hP := va_keep hP hk1
  try dsimp only at hw
  clear hB hz1 hk1 hFc hPc hKc
  obtain rfl : r5 = (-2) := hw
  refine lv_aload_n hx hb dL_law_1228 rfl (lv_at hl 1 rfl) ?_
  refine lv_aload_n hx hb dL_law_1229 rfl (lv_at hl 3 rfl) ?_
  refine lv_iload_n hx hb dL_law_1230 rfl (lv_at hl 0 rfl) ?_
  refine lv_iconst (v := 1) hx hb dL_law_1231 (by decide) ?_
  refine lv_iadd hx hb dL_law_1232 ?_
  refine lv_topi (fun v6 ev6 => ?_)
  obtain rfl : v6 = 1 := ev6.trans (by decide)
  refine va_sld hx hb hX hbl hbA hS (hin 1 (by omega)) dL_law_1233 ?_
  refine lv_topi (fun v7 ev7 => ?_)
  obtain rfl : v7 = xs 1 := ev7
  refine lv_aload_n hx hb dL_law_1234 rfl (lv_at hl 3 rfl) ?_
  refine lv_iload_n hx hb dL_law_1235 rfl (lv_at hl 0 rfl) ?_
  refine lv_iconst (v := 2) hx hb dL_law_1236 (by decide) ?_
  refine lv_iadd hx hb dL_law_1237 ?_
  refine lv_topi (fun v8 ev8 => ?_)
  obtain rfl : v8 = 2 := ev8.trans (by decide)
  refine va_sld hx hb hX hbl hbA hS (hin 2 (by omega)) dL_law_1238 ?_
  refine lv_topi (fun v9 ev9 => ?_)
  obtain rfl : v9 = xs 2 := ev9
  have hPc := hP.sub (ws' := [(m0, .inr (11, fM ma 0 0 0 0 0)), (ma 3, .inl (cm 3, 85, .inr (.inl (fun _ => 0))))]) [6, 8] rfl
  have hKc := hK.sub (tys' := [(cm 3, .long)]) [3] rfl
  have hDc := hD.sub (ws' := [(m0, .inr (11, fM ma 0 0 0 0 0)), (ma 3, .inl (cm 3, 85, .inr (.inl (fun _ => 0))))]) [6, 8] (by decide) rfl
  have hFc := va_free (wc := [(m0, .inr (11, fM ma 0 0 0 0 0)), (ma 3, .inl (cm 3, 85, .inr (.inl (fun _ => 0))))]) hD hS hA [6, 8] rfl
  refine va_calli (va_runV (As := [.int (xs 1), .int (xs 2)]) (rest := [.int (-2)]) ⟨hx, hb, hml, hown, hts⟩ (c_X11_would l D _ m0 ma (cm 3) 0 0 0 0 0 (xs 1) (xs 2)) (cwV 2 hts g_L_c_X11_would_122 rfl rfl rfl (by decide +kernel) ⟨(Nat.le_of_ble_eq_true rfl), (Nat.le_of_ble_eq_true rfl)⟩) (PcW_V (q0 := 0) hPc hKc hDc rfl rfl) rfl rfl hl.1 rfl (lv_room (Nat.le_of_ble_eq_true rfl)) dL_law_1239 ⟨(Nat.le_of_ble_eq_true rfl), (Nat.le_of_ble_eq_true rfl)⟩) hS (fun q _ h => hFc q h) hFc (fun r10 uu tt H locs htt hvm hw hB hz1 hk1 hS => ?_)
  obtain ⟨hP, hD⟩ := va_join (wr := [(x0, .inr (10, [.ref (ca 0), .ref (ca 1), .int 0, .ref (ca 3), .ref (ca 4), .ref (ca 5), .ref (ca 6)])), (ca 0, .inl (cc 0, 4, .inr (.inr (.inr (.inr (fun _ => none)))))), (ca 1, .inl (cc 1, 1400, .inl (fun _ => 0))), (ca 4, .inr (1, [.int 0, .ref qi])), (ca 5, .inr (6, [.int 0, .int 0, .int 0, .ref (qp 3), .ref (qp 4), .int 0, .int 0, .int 0, .int 0, .int 0, .int 0, .int 0, .ref (qp 12), .int 0, .ref (qp 14)])), (ca 6, .inr (4, [.int 0, .int 0, .int 0, .int 0, .int 0, .ref (qm 5), .int 0, .ref (qm 7)])), (ma 1, .inl (cm 1, 1400, .inl (fun _ => 0))), (ma 8, .inl (cm 8, 10240, .inl (fun _ => 0))), (ma 9, .inl (cm 9, 10240, .inl (fun _ => 0)))]) (w1 := []) hP hD [6, 8] [0, 1, 2, 3, 4, 5, 7, 9, 10] rfl rfl (by decide) (by decide) hk1 hFc va_P_nil va_D_nil
  have hP : va_P D vwCl [(x0, .inr (10, [.ref (ca 0), .ref (ca 1), .int 0, .ref (ca 3), .ref (ca 4), .ref (ca 5), .ref (ca 6)])), (ca 0, .inl (cc 0, 4, .inr (.inr (.inr (.inr (fun _ => none)))))), (ca 1, .inl (cc 1, 1400, .inl (fun _ => 0))), (ca 4, .inr (1, [.int 0, .ref qi])), (ca 5, .inr (6, [.int 0, .int 0, .int 0, .ref (qp 3), .ref (qp 4), .int 0, .int 0, .int 0, .int 0, .int 0, .int 0, .int 0, .ref (qp 12), .int 0, .ref (qp 14)])), (ca 6, .inr (4, [.int 0, .int 0, .int 0, .int 0, .int 0, .ref (qm 5), .int 0, .ref (qm 7)])), (ma 1, .inl (cm 1, 1400, .inl (fun _ => 0))), (ma 8, .inl (cm 8, 10240, .inl (fun _ => 0))), (ma 9, .inl (cm 9, 10240, .inl (fun _ => 0)))] H := hP
  have hD : va_D A [(x0, .inr (10, [.ref (ca 0), .ref (ca 1), .int 0, .ref (ca 3), .ref (ca 4), .ref (ca 5), .ref (ca 6)])), (ca 0, .inl (cc 0, 4, .inr (.inr (.inr (.inr (fun _ => none)))))), (ca 1, .inl (cc 1, 1400, .inl (fun _ => 0))), (ca 4, .inr (1, [.int 0, .ref qi])), (ca 5, .inr (6, [.int 0, .int 0, .int 0, .ref (qp 3), .ref (qp 4), .int 0, .int 0, .int 0, .int 0, .int 0, .int 0, .int 0, .ref (qp 12), .int 0, .ref (qp 14)])), (ca 6, .inr (4, [.int 0, .int 0, .int 0, .int 0, .int 0, .ref (qm 5), .int 0, .ref (qm 7)])), (ma 1, .inl (cm 1, 1400, .inl (fun _ => 0))), (ma 8, .inl (cm 8, 10240, .inl (fun _ => 0))), (ma 9, .inl (cm 9, 10240, .inl (fun _ => 0)))] := hD
  try dsimp only at hw
  clear hB hz1 hk1 hFc hPc hKc hDc
  obtain rfl : r10 = (-2) := hw
  refine lv_icmp_eq (tgt := 1735) hx hb dL_law_1242 (by decide) (fun hc => ?_) (fun hc => absurd (by decide) hc)
  exact law_tail (D := D) l C0 hN hA hbA hA2 (Nat.le_of_ble_eq_true rfl) (Nat.le_of_ble_eq_true rfl) hS hl

set_option maxHeartbeats 4000000 in
set_option maxRecDepth 100000 in
theorem law_case_24 {p : Program} {e : Env} {s : State} {m : MethodId} {below : List Frame} {meth : Method} {c : Code} (l : Launch) {b : Nat} {xs : Nat → Int32} {D : va_G} {A : Nat → Prop} (C0 : lw_At p s m meth c b 7 xs) (hN : NN s) (hA : ∀ q, s.heap.size ≤ q → A q) (hbA : ¬ A b) (hA2 : ∀ q, A q → s.heap.size ≤ q) (x0 m0 : Nat) (ca : Nat → Nat) (cc : Nat → ClassId) (qi : Nat) (qp qm : Nat → Nat) (ma : Nat → Nat) (cm : Nat → ClassId) (H : Heap) (locs : List Loc) (hK : va_K D vwCl [(cc 0, .object RX9), (cc 1, .int), (cm 1, .byte), (cm 3, .long), (cm 8, .int), (cm 9, .int)] s) (hP : va_P D vwCl [(x0, .inr (10, [.ref (ca 0), .ref (ca 1), .int 0, .ref (ca 3), .ref (ca 4), .ref (ca 5), .ref (ca 6)])), (ca 0, .inl (cc 0, 4, .inr (.inr (.inr (.inr (fun _ => none)))))), (ca 1, .inl (cc 1, 1400, .inl (fun _ => 0))), (ca 4, .inr (1, [.int 0, .ref qi])), (ca 5, .inr (6, [.int 0, .int 0, .int 0, .ref (qp 3), .ref (qp 4), .int 0, .int 0, .int 0, .int 0, .int 0, .int 0, .int 0, .ref (qp 12), .int 0, .ref (qp 14)])), (ca 6, .inr (4, [.int 0, .int 0, .int 0, .int 0, .int 0, .ref (qm 5), .int 0, .ref (qm 7)])), (m0, .inr (11, fM ma 0 0 0 0 0)), (ma 1, .inl (cm 1, 1400, .inl (fun _ => 0))), (ma 3, .inl (cm 3, 85, .inr (.inl (fun _ => 0)))), (ma 8, .inl (cm 8, 10240, .inl (fun _ => 0))), (ma 9, .inl (cm 9, 10240, .inl (fun _ => 0)))] H) (hD : va_D A [(x0, .inr (10, [.ref (ca 0), .ref (ca 1), .int 0, .ref (ca 3), .ref (ca 4), .ref (ca 5), .ref (ca 6)])), (ca 0, .inl (cc 0, 4, .inr (.inr (.inr (.inr (fun _ => none)))))), (ca 1, .inl (cc 1, 1400, .inl (fun _ => 0))), (ca 4, .inr (1, [.int 0, .ref qi])), (ca 5, .inr (6, [.int 0, .int 0, .int 0, .ref (qp 3), .ref (qp 4), .int 0, .int 0, .int 0, .int 0, .int 0, .int 0, .int 0, .ref (qp 12), .int 0, .ref (qp 14)])), (ca 6, .inr (4, [.int 0, .int 0, .int 0, .int 0, .int 0, .ref (qm 5), .int 0, .ref (qm 7)])), (m0, .inr (11, fM ma 0 0 0 0 0)), (ma 1, .inl (cm 1, 1400, .inl (fun _ => 0))), (ma 3, .inl (cm 3, 85, .inr (.inl (fun _ => 0)))), (ma 8, .inl (cm 8, 10240, .inl (fun _ => 0))), (ma 9, .inl (cm 9, 10240, .inl (fun _ => 0)))]) (hS : va_S A s.heap H locs) (ls : Array Slot) (hl : lv_has ls 4 [(3, .int 0), (2, .ref m0), (1, .ref x0), (0, .ref b)]) : W p l e room_1 s m #[Value.ref b] below meth c H locs 46 68513 (lw_Z below #[Value.ref b] s) (F0 m 1247 ls []) := by
  have C0 := C0
  have C1 := C0
  obtain ⟨hx, hb, hr, hml, hown, hts, hX, hbl, hlocks, hgv⟩ := C1
  have hown : s.vm.findClass RL = some m.cls := hown
  have hin : ∀ k : Nat, k < 7 → vp_in (nI k) 7 := fun k hk => vp_in_nI hk (by decide)
  refine lv_aload_n hx hb dL_law_1247 rfl (lv_at hl 2 rfl) ?_
  refine lv_aload_n hx hb dL_law_1248 rfl (lv_at hl 3 rfl) ?_
  refine lv_iload_n hx hb dL_law_1249 rfl (lv_at hl 0 rfl) ?_
  refine lv_iconst (v := 1) hx hb dL_law_1250 (by decide) ?_
  refine lv_iadd hx hb dL_law_1251 ?_
  refine lv_topi (fun v1 ev1 => ?_)
  obtain rfl : v1 = 1 := ev1.trans (by decide)
  refine va_sld hx hb hX hbl hbA hS (hin 1 (by omega)) dL_law_1252 ?_
  refine lv_topi (fun v2 ev2 => ?_)
  obtain rfl : v2 = xs 1 := ev2
  refine lv_aload_n hx hb dL_law_1253 rfl (lv_at hl 3 rfl) ?_
  refine lv_iload_n hx hb dL_law_1254 rfl (lv_at hl 0 rfl) ?_
  refine lv_iconst (v := 2) hx hb dL_law_1255 (by decide) ?_
  refine lv_iadd hx hb dL_law_1256 ?_
  refine lv_topi (fun v3 ev3 => ?_)
  obtain rfl : v3 = 2 := ev3.trans (by decide)
  refine va_sld hx hb hX hbl hbA hS (hin 2 (by omega)) dL_law_1257 ?_
  refine lv_topi (fun v4 ev4 => ?_)
  obtain rfl : v4 = xs 2 := ev4
  refine lv_i2l hx hb dL_law_1258 rfl ?_
  refine lv_bipush (v := 32) hx hb dL_law_1259 (by decide) ?_
  refine lv_lshl hx hb dL_law_1261 rfl ?_
  refine lv_topl (fun v5 ev5 => ?_)
  refine lv_aload_n hx hb dL_law_1262 rfl (lv_at hl 3 rfl) ?_
  refine lv_iload_n hx hb dL_law_1263 rfl (lv_at hl 0 rfl) ?_
  refine lv_iconst (v := 3) hx hb dL_law_1264 (by decide) ?_
  refine lv_iadd hx hb dL_law_1265 ?_
  refine lv_topi (fun v6 ev6 => ?_)
  obtain rfl : v6 = 3 := ev6.trans (by decide)
  refine va_sld hx hb hX hbl hbA hS (hin 3 (by omega)) dL_law_1266 ?_
  refine lv_topi (fun v7 ev7 => ?_)
  obtain rfl : v7 = xs 3 := ev7
  refine lv_i2l hx hb dL_law_1267 rfl ?_
  refine lv_ldc2 (v := 4294967295) hx hb hown (hts (.constantLong RL 23 (4294967295)) lww_14) dL_law_1268 ?_
  refine lv_land hx hb dL_law_1271 ?_
  refine lv_topl (fun v8 ev8 => ?_)
  refine lv_lor hx hb dL_law_1272 ?_
  refine lv_topl (fun v9 ev9 => ?_)
  refine lv_aload_n hx hb dL_law_1273 rfl (lv_at hl 3 rfl) ?_
  refine lv_iload_n hx hb dL_law_1274 rfl (lv_at hl 0 rfl) ?_
  refine lv_iconst (v := 4) hx hb dL_law_1275 (by decide) ?_
  refine lv_iadd hx hb dL_law_1276 ?_
  refine lv_topi (fun v10 ev10 => ?_)
  obtain rfl : v10 = 4 := ev10.trans (by decide)
  refine va_sld hx hb hX hbl hbA hS (hin 4 (by omega)) dL_law_1277 ?_
  refine lv_topi (fun v11 ev11 => ?_)
  obtain rfl : v11 = xs 4 := ev11
  have hPc := hP.sub (ws' := [(x0, .inr (10, [.ref (ca 0), .ref (ca 1), .int 0, .ref (ca 3), .ref (ca 4), .ref (ca 5), .ref (ca 6)])), (ca 0, .inl (cc 0, 4, .inr (.inr (.inr (.inr (fun _ => none))))))]) [0, 1] rfl
  have hKc := hK.sub (tys' := [(cc 0, .object RX9)]) [0] rfl
  have hFc := va_free0 hS hA
  refine va_calll (va_runV (As := [.int (xs 1), .long v9, .int (xs 4)]) (rest := []) ⟨hx, hb, hml, hown, hts⟩ (c_X10_frozen l D _ x0 ca (cc 0) 0 (xs 1) v9 (xs 4)) (cwV 3 hts g_L_c_X10_frozen_123 rfl rfl rfl (by decide +kernel) ⟨(Nat.le_of_ble_eq_true rfl), (Nat.le_of_ble_eq_true rfl)⟩) (PcR_V (q0 := 0) hPc hKc rfl rfl) rfl rfl hl.1 rfl (lv_room (Nat.le_of_ble_eq_true rfl)) dL_law_1278 ⟨(Nat.le_of_ble_eq_true rfl), (Nat.le_of_ble_eq_true rfl)⟩) hS (fun q _ h => hFc q h) hFc (fun r12 uu tt H locs htt hvm hw hB hz1 hk1 hS => ?_)
  have hP := va_keep hP hk1
  try dsimp only at hw
  clear hB hz1 hk1 hFc hPc hKc
  obtain rfl : r12 = (-1000000000000000) := hw
  refine lv_aload_n hx hb dL_law_1281 rfl (lv_at hl 1 rfl) ?_
  refine lv_aload_n hx hb dL_law_1282 rfl (lv_at hl 3 rfl) ?_
  refine lv_iload_n hx hb dL_law_1283 rfl (lv_at hl 0 rfl) ?_
  refine lv_iconst (v := 1) hx hb dL_law_1284 (by decide) ?_
  refine lv_iadd hx hb dL_law_1285 ?_
  refine lv_topi (fun v13 ev13 => ?_)
  obtain rfl : v13 = 1 := ev13.trans (by decide)
  refine va_sld hx hb hX hbl hbA hS (hin 1 (by omega)) dL_law_1286 ?_
  refine lv_topi (fun v14 ev14 => ?_)
  obtain rfl : v14 = xs 1 := ev14
  refine lv_aload_n hx hb dL_law_1287 rfl (lv_at hl 3 rfl) ?_
  refine lv_iload_n hx hb dL_law_1288 rfl (lv_at hl 0 rfl) ?_
  refine lv_iconst (v := 2) hx hb dL_law_1289 (by decide) ?_
  refine lv_iadd hx hb dL_law_1290 ?_
  refine lv_topi (fun v15 ev15 => ?_)
  obtain rfl : v15 = 2 := ev15.trans (by decide)
  refine va_sld hx hb hX hbl hbA hS (hin 2 (by omega)) dL_law_1291 ?_
  refine lv_topi (fun v16 ev16 => ?_)
  obtain rfl : v16 = xs 2 := ev16
  refine lv_i2l hx hb dL_law_1292 rfl ?_
  refine lv_bipush (v := 32) hx hb dL_law_1293 (by decide) ?_
  refine lv_lshl hx hb dL_law_1295 rfl ?_
  refine lv_topl (fun v17 ev17 => ?_)
  refine lv_aload_n hx hb dL_law_1296 rfl (lv_at hl 3 rfl) ?_
  refine lv_iload_n hx hb dL_law_1297 rfl (lv_at hl 0 rfl) ?_
  refine lv_iconst (v := 3) hx hb dL_law_1298 (by decide) ?_
  refine lv_iadd hx hb dL_law_1299 ?_
  refine lv_topi (fun v18 ev18 => ?_)
  obtain rfl : v18 = 3 := ev18.trans (by decide)
  refine va_sld hx hb hX hbl hbA hS (hin 3 (by omega)) dL_law_1300 ?_
  refine lv_topi (fun v19 ev19 => ?_)
  obtain rfl : v19 = xs 3 := ev19
  refine lv_i2l hx hb dL_law_1301 rfl ?_
  refine lv_ldc2 (v := 4294967295) hx hb hown (hts (.constantLong RL 23 (4294967295)) lww_14) dL_law_1302 ?_
  refine lv_land hx hb dL_law_1305 ?_
  refine lv_topl (fun v20 ev20 => ?_)
  refine lv_lor hx hb dL_law_1306 ?_
  refine lv_topl (fun v21 ev21 => ?_)
  refine lv_aload_n hx hb dL_law_1307 rfl (lv_at hl 3 rfl) ?_
  refine lv_iload_n hx hb dL_law_1308 rfl (lv_at hl 0 rfl) ?_
  refine lv_iconst (v := 4) hx hb dL_law_1309 (by decide) ?_
  refine lv_iadd hx hb dL_law_1310 ?_
  refine lv_topi (fun v22 ev22 => ?_)
  obtain rfl : v22 = 4 := ev22.trans (by decide)
  refine va_sld hx hb hX hbl hbA hS (hin 4 (by omega)) dL_law_1311 ?_
  refine lv_topi (fun v23 ev23 => ?_)
  obtain rfl : v23 = xs 4 := ev23
  have hPc := hP.sub (ws' := [(m0, .inr (11, fM ma 0 0 0 0 0)), (ma 3, .inl (cm 3, 85, .inr (.inl (fun _ => 0))))]) [6, 8] rfl
  have hKc := hK.sub (tys' := [(cm 3, .long)]) [3] rfl
  have hDc := hD.sub (ws' := [(m0, .inr (11, fM ma 0 0 0 0 0)), (ma 3, .inl (cm 3, 85, .inr (.inl (fun _ => 0))))]) [6, 8] (by decide) rfl
  have hFc := va_free (wc := [(m0, .inr (11, fM ma 0 0 0 0 0)), (ma 3, .inl (cm 3, 85, .inr (.inl (fun _ => 0))))]) hD hS hA [6, 8] rfl
  refine va_calll (va_runV (As := [.int (xs 1), .long v21, .int (xs 4)]) (rest := [.long (-1000000000000000)]) ⟨hx, hb, hml, hown, hts⟩ (c_X11_frozen l D _ m0 ma (cm 3) 0 0 0 0 0 (xs 1) v21 (xs 4)) (cwV 3 hts g_L_c_X11_frozen_127 rfl rfl rfl (by decide +kernel) ⟨(Nat.le_of_ble_eq_true rfl), (Nat.le_of_ble_eq_true rfl)⟩) (PcW_V (q0 := 0) hPc hKc hDc rfl rfl) rfl rfl hl.1 rfl (lv_room (Nat.le_of_ble_eq_true rfl)) dL_law_1312 ⟨(Nat.le_of_ble_eq_true rfl), (Nat.le_of_ble_eq_true rfl)⟩) hS (fun q _ h => hFc q h) hFc (fun r24 uu tt H locs htt hvm hw hB hz1 hk1 hS => ?_)
  obtain ⟨hP, hD⟩ := va_join (wr := [(x0, .inr (10, [.ref (ca 0), .ref (ca 1), .int 0, .ref (ca 3), .ref (ca 4), .ref (ca 5), .ref (ca 6)])), (ca 0, .inl (cc 0, 4, .inr (.inr (.inr (.inr (fun _ => none)))))), (ca 1, .inl (cc 1, 1400, .inl (fun _ => 0))), (ca 4, .inr (1, [.int 0, .ref qi])), (ca 5, .inr (6, [.int 0, .int 0, .int 0, .ref (qp 3), .ref (qp 4), .int 0, .int 0, .int 0, .int 0, .int 0, .int 0, .int 0, .ref (qp 12), .int 0, .ref (qp 14)])), (ca 6, .inr (4, [.int 0, .int 0, .int 0, .int 0, .int 0, .ref (qm 5), .int 0, .ref (qm 7)])), (ma 1, .inl (cm 1, 1400, .inl (fun _ => 0))), (ma 8, .inl (cm 8, 10240, .inl (fun _ => 0))), (ma 9, .inl (cm 9, 10240, .inl (fun _ => 0)))]) (w1 := []) hP hD [6, 8] [0, 1, 2, 3, 4, 5, 7, 9, 10] rfl rfl (by decide) (by decide) hk1 hFc va_P_nil va_D_nil
  have hP : va_P D vwCl [(x0, .inr (10, [.ref (ca 0), .ref (ca 1), .int 0, .ref (ca 3), .ref (ca 4), .ref (ca 5), .ref (ca 6)])), (ca 0, .inl (cc 0, 4, .inr (.inr (.inr (.inr (fun _ => none)))))), (ca 1, .inl (cc 1, 1400, .inl (fun _ => 0))), (ca 4, .inr (1, [.int 0, .ref qi])), (ca 5, .inr (6, [.int 0, .int 0, .int 0, .ref (qp 3), .ref (qp 4), .int 0, .int 0, .int 0, .int 0, .int 0, .int 0, .int 0, .ref (qp 12), .int 0, .ref (qp 14)])), (ca 6, .inr (4, [.int 0, .int 0, .int 0, .int 0, .int 0, .ref (qm 5), .int 0, .ref (qm 7)])), (ma 1, .inl (cm 1, 1400, .inl (fun _ => 0))), (ma 8, .inl (cm 8, 10240, .inl (fun _ => 0))), (ma 9, .inl (cm 9, 10240, .inl (fun _ => 0)))] H := hP
  have hD : va_D A [(x0, .inr (10, [.ref (ca 0), .ref (ca 1), .int 0, .ref (ca 3), .ref (ca 4), .ref (ca 5), .ref (ca 6)])), (ca 0, .inl (cc 0, 4, .inr (.inr (.inr (.inr (fun _ => none)))))), (ca 1, .inl (cc 1, 1400, .inl (fun _ => 0))), (ca 4, .inr (1, [.int 0, .ref qi])), (ca 5, .inr (6, [.int 0, .int 0, .int 0, .ref (qp 3), .ref (qp 4), .int 0, .int 0, .int 0, .int 0, .int 0, .int 0, .int 0, .ref (qp 12), .int 0, .ref (qp 14)])), (ca 6, .inr (4, [.int 0, .int 0, .int 0, .int 0, .int 0, .ref (qm 5), .int 0, .ref (qm 7)])), (ma 1, .inl (cm 1, 1400, .inl (fun _ => 0))), (ma 8, .inl (cm 8, 10240, .inl (fun _ => 0))), (ma 9, .inl (cm 9, 10240, .inl (fun _ => 0)))] := hD
  try dsimp only at hw
  clear hB hz1 hk1 hFc hPc hKc hDc
  obtain rfl : r24 = (-1000000000000000) := hw
  refine W.lcmp hx hb dL_law_1315 ?_
  refine lv_topi (fun v25 ev25 => ?_)
  obtain rfl : v25 = 0 := ev25.trans (by decide)
  refine lv_if_eq (tgt := 1735) hx hb dL_law_1316 (by decide) (fun hc => ?_) (fun hc => absurd (by decide) hc)
  exact law_tail (D := D) l C0 hN hA hbA hA2 (Nat.le_of_ble_eq_true rfl) (Nat.le_of_ble_eq_true rfl) hS hl

set_option maxHeartbeats 4000000 in
set_option maxRecDepth 100000 in
theorem law_case_25 {p : Program} {e : Env} {s : State} {m : MethodId} {below : List Frame} {meth : Method} {c : Code} (l : Launch) {b : Nat} {xs : Nat → Int32} {D : va_G} {A : Nat → Prop} (C0 : lw_At p s m meth c b 7 xs) (hN : NN s) (hA : ∀ q, s.heap.size ≤ q → A q) (hbA : ¬ A b) (hA2 : ∀ q, A q → s.heap.size ≤ q) (x0 m0 : Nat) (ca : Nat → Nat) (cc : Nat → ClassId) (qi : Nat) (qp qm : Nat → Nat) (ma : Nat → Nat) (cm : Nat → ClassId) (H : Heap) (locs : List Loc) (hK : va_K D vwCl [(cc 0, .object RX9), (cc 1, .int), (cm 1, .byte), (cm 3, .long), (cm 8, .int), (cm 9, .int)] s) (hP : va_P D vwCl [(x0, .inr (10, [.ref (ca 0), .ref (ca 1), .int 0, .ref (ca 3), .ref (ca 4), .ref (ca 5), .ref (ca 6)])), (ca 0, .inl (cc 0, 4, .inr (.inr (.inr (.inr (fun _ => none)))))), (ca 1, .inl (cc 1, 1400, .inl (fun _ => 0))), (ca 4, .inr (1, [.int 0, .ref qi])), (ca 5, .inr (6, [.int 0, .int 0, .int 0, .ref (qp 3), .ref (qp 4), .int 0, .int 0, .int 0, .int 0, .int 0, .int 0, .int 0, .ref (qp 12), .int 0, .ref (qp 14)])), (ca 6, .inr (4, [.int 0, .int 0, .int 0, .int 0, .int 0, .ref (qm 5), .int 0, .ref (qm 7)])), (m0, .inr (11, fM ma 0 0 0 0 0)), (ma 1, .inl (cm 1, 1400, .inl (fun _ => 0))), (ma 3, .inl (cm 3, 85, .inr (.inl (fun _ => 0)))), (ma 8, .inl (cm 8, 10240, .inl (fun _ => 0))), (ma 9, .inl (cm 9, 10240, .inl (fun _ => 0)))] H) (hD : va_D A [(x0, .inr (10, [.ref (ca 0), .ref (ca 1), .int 0, .ref (ca 3), .ref (ca 4), .ref (ca 5), .ref (ca 6)])), (ca 0, .inl (cc 0, 4, .inr (.inr (.inr (.inr (fun _ => none)))))), (ca 1, .inl (cc 1, 1400, .inl (fun _ => 0))), (ca 4, .inr (1, [.int 0, .ref qi])), (ca 5, .inr (6, [.int 0, .int 0, .int 0, .ref (qp 3), .ref (qp 4), .int 0, .int 0, .int 0, .int 0, .int 0, .int 0, .int 0, .ref (qp 12), .int 0, .ref (qp 14)])), (ca 6, .inr (4, [.int 0, .int 0, .int 0, .int 0, .int 0, .ref (qm 5), .int 0, .ref (qm 7)])), (m0, .inr (11, fM ma 0 0 0 0 0)), (ma 1, .inl (cm 1, 1400, .inl (fun _ => 0))), (ma 3, .inl (cm 3, 85, .inr (.inl (fun _ => 0)))), (ma 8, .inl (cm 8, 10240, .inl (fun _ => 0))), (ma 9, .inl (cm 9, 10240, .inl (fun _ => 0)))]) (hS : va_S A s.heap H locs) (ls : Array Slot) (hl : lv_has ls 4 [(3, .int 0), (2, .ref m0), (1, .ref x0), (0, .ref b)]) : W p l e room_1 s m #[Value.ref b] below meth c H locs 46 68513 (lw_Z below #[Value.ref b] s) (F0 m 1321 ls []) := by
  have C0 := C0
  have C1 := C0
  obtain ⟨hx, hb, hr, hml, hown, hts, hX, hbl, hlocks, hgv⟩ := C1
  have hown : s.vm.findClass RL = some m.cls := hown
  have hin : ∀ k : Nat, k < 7 → vp_in (nI k) 7 := fun k hk => vp_in_nI hk (by decide)
  refine lv_aload_n hx hb dL_law_1321 rfl (lv_at hl 2 rfl) ?_
  refine lv_aload_n hx hb dL_law_1322 rfl (lv_at hl 3 rfl) ?_
  refine lv_iload_n hx hb dL_law_1323 rfl (lv_at hl 0 rfl) ?_
  refine lv_iconst (v := 1) hx hb dL_law_1324 (by decide) ?_
  refine lv_iadd hx hb dL_law_1325 ?_
  refine lv_topi (fun v1 ev1 => ?_)
  obtain rfl : v1 = 1 := ev1.trans (by decide)
  refine va_sld hx hb hX hbl hbA hS (hin 1 (by omega)) dL_law_1326 ?_
  refine lv_topi (fun v2 ev2 => ?_)
  obtain rfl : v2 = xs 1 := ev2
  refine lv_aload_n hx hb dL_law_1327 rfl (lv_at hl 3 rfl) ?_
  refine lv_iload_n hx hb dL_law_1328 rfl (lv_at hl 0 rfl) ?_
  refine lv_iconst (v := 2) hx hb dL_law_1329 (by decide) ?_
  refine lv_iadd hx hb dL_law_1330 ?_
  refine lv_topi (fun v3 ev3 => ?_)
  obtain rfl : v3 = 2 := ev3.trans (by decide)
  refine va_sld hx hb hX hbl hbA hS (hin 2 (by omega)) dL_law_1331 ?_
  refine lv_topi (fun v4 ev4 => ?_)
  obtain rfl : v4 = xs 2 := ev4
  refine lv_i2l hx hb dL_law_1332 rfl ?_
  refine lv_bipush (v := 32) hx hb dL_law_1333 (by decide) ?_
  refine lv_lshl hx hb dL_law_1335 rfl ?_
  refine lv_topl (fun v5 ev5 => ?_)
  refine lv_aload_n hx hb dL_law_1336 rfl (lv_at hl 3 rfl) ?_
  refine lv_iload_n hx hb dL_law_1337 rfl (lv_at hl 0 rfl) ?_
  refine lv_iconst (v := 3) hx hb dL_law_1338 (by decide) ?_
  refine lv_iadd hx hb dL_law_1339 ?_
  refine lv_topi (fun v6 ev6 => ?_)
  obtain rfl : v6 = 3 := ev6.trans (by decide)
  refine va_sld hx hb hX hbl hbA hS (hin 3 (by omega)) dL_law_1340 ?_
  refine lv_topi (fun v7 ev7 => ?_)
  obtain rfl : v7 = xs 3 := ev7
  refine lv_i2l hx hb dL_law_1341 rfl ?_
  refine lv_ldc2 (v := 4294967295) hx hb hown (hts (.constantLong RL 23 (4294967295)) lww_14) dL_law_1342 ?_
  refine lv_land hx hb dL_law_1345 ?_
  refine lv_topl (fun v8 ev8 => ?_)
  refine lv_lor hx hb dL_law_1346 ?_
  refine lv_topl (fun v9 ev9 => ?_)
  refine lv_aload_n hx hb dL_law_1347 rfl (lv_at hl 3 rfl) ?_
  refine lv_iload_n hx hb dL_law_1348 rfl (lv_at hl 0 rfl) ?_
  refine lv_iconst (v := 4) hx hb dL_law_1349 (by decide) ?_
  refine lv_iadd hx hb dL_law_1350 ?_
  refine lv_topi (fun v10 ev10 => ?_)
  obtain rfl : v10 = 4 := ev10.trans (by decide)
  refine va_sld hx hb hX hbl hbA hS (hin 4 (by omega)) dL_law_1351 ?_
  refine lv_topi (fun v11 ev11 => ?_)
  obtain rfl : v11 = xs 4 := ev11
  have hPc := hP.sub (ws' := [(x0, .inr (10, [.ref (ca 0), .ref (ca 1), .int 0, .ref (ca 3), .ref (ca 4), .ref (ca 5), .ref (ca 6)])), (ca 0, .inl (cc 0, 4, .inr (.inr (.inr (.inr (fun _ => none))))))]) [0, 1] rfl
  have hKc := hK.sub (tys' := [(cc 0, .object RX9)]) [0] rfl
  have hFc := va_free0 hS hA
  refine va_calli (va_runV (As := [.int (xs 1), .long v9, .int (xs 4)]) (rest := []) ⟨hx, hb, hml, hown, hts⟩ (c_X10_frozenAt l D _ x0 ca (cc 0) 0 (xs 1) v9 (xs 4)) (cwV 3 hts g_L_c_X10_frozenAt_128 rfl rfl rfl (by decide +kernel) ⟨(Nat.le_of_ble_eq_true rfl), (Nat.le_of_ble_eq_true rfl)⟩) (PcR_V (q0 := 0) hPc hKc rfl rfl) rfl rfl hl.1 rfl (lv_room (Nat.le_of_ble_eq_true rfl)) dL_law_1352 ⟨(Nat.le_of_ble_eq_true rfl), (Nat.le_of_ble_eq_true rfl)⟩) hS (fun q _ h => hFc q h) hFc (fun r12 uu tt H locs htt hvm hw hB hz1 hk1 hS => ?_)
  have hP := va_keep hP hk1
  try dsimp only at hw
  clear hB hz1 hk1 hFc hPc hKc
  obtain rfl : r12 = (-1) := hw
  refine lv_aload_n hx hb dL_law_1355 rfl (lv_at hl 1 rfl) ?_
  refine lv_aload_n hx hb dL_law_1356 rfl (lv_at hl 3 rfl) ?_
  refine lv_iload_n hx hb dL_law_1357 rfl (lv_at hl 0 rfl) ?_
  refine lv_iconst (v := 1) hx hb dL_law_1358 (by decide) ?_
  refine lv_iadd hx hb dL_law_1359 ?_
  refine lv_topi (fun v13 ev13 => ?_)
  obtain rfl : v13 = 1 := ev13.trans (by decide)
  refine va_sld hx hb hX hbl hbA hS (hin 1 (by omega)) dL_law_1360 ?_
  refine lv_topi (fun v14 ev14 => ?_)
  obtain rfl : v14 = xs 1 := ev14
  refine lv_aload_n hx hb dL_law_1361 rfl (lv_at hl 3 rfl) ?_
  refine lv_iload_n hx hb dL_law_1362 rfl (lv_at hl 0 rfl) ?_
  refine lv_iconst (v := 2) hx hb dL_law_1363 (by decide) ?_
  refine lv_iadd hx hb dL_law_1364 ?_
  refine lv_topi (fun v15 ev15 => ?_)
  obtain rfl : v15 = 2 := ev15.trans (by decide)
  refine va_sld hx hb hX hbl hbA hS (hin 2 (by omega)) dL_law_1365 ?_
  refine lv_topi (fun v16 ev16 => ?_)
  obtain rfl : v16 = xs 2 := ev16
  refine lv_i2l hx hb dL_law_1366 rfl ?_
  refine lv_bipush (v := 32) hx hb dL_law_1367 (by decide) ?_
  refine lv_lshl hx hb dL_law_1369 rfl ?_
  refine lv_topl (fun v17 ev17 => ?_)
  refine lv_aload_n hx hb dL_law_1370 rfl (lv_at hl 3 rfl) ?_
  refine lv_iload_n hx hb dL_law_1371 rfl (lv_at hl 0 rfl) ?_
  refine lv_iconst (v := 3) hx hb dL_law_1372 (by decide) ?_
  refine lv_iadd hx hb dL_law_1373 ?_
  refine lv_topi (fun v18 ev18 => ?_)
  obtain rfl : v18 = 3 := ev18.trans (by decide)
  refine va_sld hx hb hX hbl hbA hS (hin 3 (by omega)) dL_law_1374 ?_
  refine lv_topi (fun v19 ev19 => ?_)
  obtain rfl : v19 = xs 3 := ev19
  refine lv_i2l hx hb dL_law_1375 rfl ?_
  refine lv_ldc2 (v := 4294967295) hx hb hown (hts (.constantLong RL 23 (4294967295)) lww_14) dL_law_1376 ?_
  refine lv_land hx hb dL_law_1379 ?_
  refine lv_topl (fun v20 ev20 => ?_)
  refine lv_lor hx hb dL_law_1380 ?_
  refine lv_topl (fun v21 ev21 => ?_)
  refine lv_aload_n hx hb dL_law_1381 rfl (lv_at hl 3 rfl) ?_
  refine lv_iload_n hx hb dL_law_1382 rfl (lv_at hl 0 rfl) ?_
  refine lv_iconst (v := 4) hx hb dL_law_1383 (by decide) ?_
  refine lv_iadd hx hb dL_law_1384 ?_
  refine lv_topi (fun v22 ev22 => ?_)
  obtain rfl : v22 = 4 := ev22.trans (by decide)
  refine va_sld hx hb hX hbl hbA hS (hin 4 (by omega)) dL_law_1385 ?_
  refine lv_topi (fun v23 ev23 => ?_)
  obtain rfl : v23 = xs 4 := ev23
  have hPc := hP.sub (ws' := [(m0, .inr (11, fM ma 0 0 0 0 0)), (ma 3, .inl (cm 3, 85, .inr (.inl (fun _ => 0))))]) [6, 8] rfl
  have hKc := hK.sub (tys' := [(cm 3, .long)]) [3] rfl
  have hDc := hD.sub (ws' := [(m0, .inr (11, fM ma 0 0 0 0 0)), (ma 3, .inl (cm 3, 85, .inr (.inl (fun _ => 0))))]) [6, 8] (by decide) rfl
  have hFc := va_free (wc := [(m0, .inr (11, fM ma 0 0 0 0 0)), (ma 3, .inl (cm 3, 85, .inr (.inl (fun _ => 0))))]) hD hS hA [6, 8] rfl
  refine va_calli (va_runV (As := [.int (xs 1), .long v21, .int (xs 4)]) (rest := [.int (-1)]) ⟨hx, hb, hml, hown, hts⟩ (c_X11_frozenAt l D _ m0 ma (cm 3) 0 0 0 0 0 (xs 1) v21 (xs 4)) (cwV 3 hts g_L_c_X11_frozenAt_132 rfl rfl rfl (by decide +kernel) ⟨(Nat.le_of_ble_eq_true rfl), (Nat.le_of_ble_eq_true rfl)⟩) (PcW_V (q0 := 0) hPc hKc hDc rfl rfl) rfl rfl hl.1 rfl (lv_room (Nat.le_of_ble_eq_true rfl)) dL_law_1386 ⟨(Nat.le_of_ble_eq_true rfl), (Nat.le_of_ble_eq_true rfl)⟩) hS (fun q _ h => hFc q h) hFc (fun r24 uu tt H locs htt hvm hw hB hz1 hk1 hS => ?_)
  obtain ⟨hP, hD⟩ := va_join (wr := [(x0, .inr (10, [.ref (ca 0), .ref (ca 1), .int 0, .ref (ca 3), .ref (ca 4), .ref (ca 5), .ref (ca 6)])), (ca 0, .inl (cc 0, 4, .inr (.inr (.inr (.inr (fun _ => none)))))), (ca 1, .inl (cc 1, 1400, .inl (fun _ => 0))), (ca 4, .inr (1, [.int 0, .ref qi])), (ca 5, .inr (6, [.int 0, .int 0, .int 0, .ref (qp 3), .ref (qp 4), .int 0, .int 0, .int 0, .int 0, .int 0, .int 0, .int 0, .ref (qp 12), .int 0, .ref (qp 14)])), (ca 6, .inr (4, [.int 0, .int 0, .int 0, .int 0, .int 0, .ref (qm 5), .int 0, .ref (qm 7)])), (ma 1, .inl (cm 1, 1400, .inl (fun _ => 0))), (ma 8, .inl (cm 8, 10240, .inl (fun _ => 0))), (ma 9, .inl (cm 9, 10240, .inl (fun _ => 0)))]) (w1 := []) hP hD [6, 8] [0, 1, 2, 3, 4, 5, 7, 9, 10] rfl rfl (by decide) (by decide) hk1 hFc va_P_nil va_D_nil
  have hP : va_P D vwCl [(x0, .inr (10, [.ref (ca 0), .ref (ca 1), .int 0, .ref (ca 3), .ref (ca 4), .ref (ca 5), .ref (ca 6)])), (ca 0, .inl (cc 0, 4, .inr (.inr (.inr (.inr (fun _ => none)))))), (ca 1, .inl (cc 1, 1400, .inl (fun _ => 0))), (ca 4, .inr (1, [.int 0, .ref qi])), (ca 5, .inr (6, [.int 0, .int 0, .int 0, .ref (qp 3), .ref (qp 4), .int 0, .int 0, .int 0, .int 0, .int 0, .int 0, .int 0, .ref (qp 12), .int 0, .ref (qp 14)])), (ca 6, .inr (4, [.int 0, .int 0, .int 0, .int 0, .int 0, .ref (qm 5), .int 0, .ref (qm 7)])), (ma 1, .inl (cm 1, 1400, .inl (fun _ => 0))), (ma 8, .inl (cm 8, 10240, .inl (fun _ => 0))), (ma 9, .inl (cm 9, 10240, .inl (fun _ => 0)))] H := hP
  have hD : va_D A [(x0, .inr (10, [.ref (ca 0), .ref (ca 1), .int 0, .ref (ca 3), .ref (ca 4), .ref (ca 5), .ref (ca 6)])), (ca 0, .inl (cc 0, 4, .inr (.inr (.inr (.inr (fun _ => none)))))), (ca 1, .inl (cc 1, 1400, .inl (fun _ => 0))), (ca 4, .inr (1, [.int 0, .ref qi])), (ca 5, .inr (6, [.int 0, .int 0, .int 0, .ref (qp 3), .ref (qp 4), .int 0, .int 0, .int 0, .int 0, .int 0, .int 0, .int 0, .ref (qp 12), .int 0, .ref (qp 14)])), (ca 6, .inr (4, [.int 0, .int 0, .int 0, .int 0, .int 0, .ref (qm 5), .int 0, .ref (qm 7)])), (ma 1, .inl (cm 1, 1400, .inl (fun _ => 0))), (ma 8, .inl (cm 8, 10240, .inl (fun _ => 0))), (ma 9, .inl (cm 9, 10240, .inl (fun _ => 0)))] := hD
  try dsimp only at hw
  clear hB hz1 hk1 hFc hPc hKc hDc
  obtain rfl : r24 = (-1) := hw
  refine lv_icmp_eq (tgt := 1735) hx hb dL_law_1389 (by decide) (fun hc => ?_) (fun hc => absurd (by decide) hc)
  exact law_tail (D := D) l C0 hN hA hbA hA2 (Nat.le_of_ble_eq_true rfl) (Nat.le_of_ble_eq_true rfl) hS hl

set_option maxHeartbeats 4000000 in
set_option maxRecDepth 100000 in
theorem law_case_26 {p : Program} {e : Env} {s : State} {m : MethodId} {below : List Frame} {meth : Method} {c : Code} (l : Launch) {b : Nat} {xs : Nat → Int32} {D : va_G} {A : Nat → Prop} (C0 : lw_At p s m meth c b 7 xs) (hN : NN s) (hA : ∀ q, s.heap.size ≤ q → A q) (hbA : ¬ A b) (hA2 : ∀ q, A q → s.heap.size ≤ q) (x0 m0 : Nat) (ca : Nat → Nat) (cc : Nat → ClassId) (qi : Nat) (qp qm : Nat → Nat) (ma : Nat → Nat) (cm : Nat → ClassId) (H : Heap) (locs : List Loc) (hK : va_K D vwCl [(cc 0, .object RX9), (cc 1, .int), (cm 1, .byte), (cm 3, .long), (cm 8, .int), (cm 9, .int)] s) (hP : va_P D vwCl [(x0, .inr (10, [.ref (ca 0), .ref (ca 1), .int 0, .ref (ca 3), .ref (ca 4), .ref (ca 5), .ref (ca 6)])), (ca 0, .inl (cc 0, 4, .inr (.inr (.inr (.inr (fun _ => none)))))), (ca 1, .inl (cc 1, 1400, .inl (fun _ => 0))), (ca 4, .inr (1, [.int 0, .ref qi])), (ca 5, .inr (6, [.int 0, .int 0, .int 0, .ref (qp 3), .ref (qp 4), .int 0, .int 0, .int 0, .int 0, .int 0, .int 0, .int 0, .ref (qp 12), .int 0, .ref (qp 14)])), (ca 6, .inr (4, [.int 0, .int 0, .int 0, .int 0, .int 0, .ref (qm 5), .int 0, .ref (qm 7)])), (m0, .inr (11, fM ma 0 0 0 0 0)), (ma 1, .inl (cm 1, 1400, .inl (fun _ => 0))), (ma 3, .inl (cm 3, 85, .inr (.inl (fun _ => 0)))), (ma 8, .inl (cm 8, 10240, .inl (fun _ => 0))), (ma 9, .inl (cm 9, 10240, .inl (fun _ => 0)))] H) (hD : va_D A [(x0, .inr (10, [.ref (ca 0), .ref (ca 1), .int 0, .ref (ca 3), .ref (ca 4), .ref (ca 5), .ref (ca 6)])), (ca 0, .inl (cc 0, 4, .inr (.inr (.inr (.inr (fun _ => none)))))), (ca 1, .inl (cc 1, 1400, .inl (fun _ => 0))), (ca 4, .inr (1, [.int 0, .ref qi])), (ca 5, .inr (6, [.int 0, .int 0, .int 0, .ref (qp 3), .ref (qp 4), .int 0, .int 0, .int 0, .int 0, .int 0, .int 0, .int 0, .ref (qp 12), .int 0, .ref (qp 14)])), (ca 6, .inr (4, [.int 0, .int 0, .int 0, .int 0, .int 0, .ref (qm 5), .int 0, .ref (qm 7)])), (m0, .inr (11, fM ma 0 0 0 0 0)), (ma 1, .inl (cm 1, 1400, .inl (fun _ => 0))), (ma 3, .inl (cm 3, 85, .inr (.inl (fun _ => 0)))), (ma 8, .inl (cm 8, 10240, .inl (fun _ => 0))), (ma 9, .inl (cm 9, 10240, .inl (fun _ => 0)))]) (hS : va_S A s.heap H locs) (ls : Array Slot) (hl : lv_has ls 4 [(3, .int 0), (2, .ref m0), (1, .ref x0), (0, .ref b)]) : W p l e room_1 s m #[Value.ref b] below meth c H locs 46 68513 (lw_Z below #[Value.ref b] s) (F0 m 1394 ls []) := by
  have C0 := C0
  have C1 := C0
  obtain ⟨hx, hb, hr, hml, hown, hts, hX, hbl, hlocks, hgv⟩ := C1
  have hown : s.vm.findClass RL = some m.cls := hown
  have hin : ∀ k : Nat, k < 7 → vp_in (nI k) 7 := fun k hk => vp_in_nI hk (by decide)
  refine lv_aload_n hx hb dL_law_1394 rfl (lv_at hl 2 rfl) ?_
  refine lv_aload_n hx hb dL_law_1395 rfl (lv_at hl 3 rfl) ?_
  refine lv_iload_n hx hb dL_law_1396 rfl (lv_at hl 0 rfl) ?_
  refine lv_iconst (v := 1) hx hb dL_law_1397 (by decide) ?_
  refine lv_iadd hx hb dL_law_1398 ?_
  refine lv_topi (fun v1 ev1 => ?_)
  obtain rfl : v1 = 1 := ev1.trans (by decide)
  refine va_sld hx hb hX hbl hbA hS (hin 1 (by omega)) dL_law_1399 ?_
  refine lv_topi (fun v2 ev2 => ?_)
  obtain rfl : v2 = xs 1 := ev2
  refine lv_aload_n hx hb dL_law_1400 rfl (lv_at hl 3 rfl) ?_
  refine lv_iload_n hx hb dL_law_1401 rfl (lv_at hl 0 rfl) ?_
  refine lv_iconst (v := 2) hx hb dL_law_1402 (by decide) ?_
  refine lv_iadd hx hb dL_law_1403 ?_
  refine lv_topi (fun v3 ev3 => ?_)
  obtain rfl : v3 = 2 := ev3.trans (by decide)
  refine va_sld hx hb hX hbl hbA hS (hin 2 (by omega)) dL_law_1404 ?_
  refine lv_topi (fun v4 ev4 => ?_)
  obtain rfl : v4 = xs 2 := ev4
  refine lv_aload_n hx hb dL_law_1405 rfl (lv_at hl 3 rfl) ?_
  refine lv_iload_n hx hb dL_law_1406 rfl (lv_at hl 0 rfl) ?_
  refine lv_iconst (v := 3) hx hb dL_law_1407 (by decide) ?_
  refine lv_iadd hx hb dL_law_1408 ?_
  refine lv_topi (fun v5 ev5 => ?_)
  obtain rfl : v5 = 3 := ev5.trans (by decide)
  refine va_sld hx hb hX hbl hbA hS (hin 3 (by omega)) dL_law_1409 ?_
  refine lv_topi (fun v6 ev6 => ?_)
  obtain rfl : v6 = xs 3 := ev6
  have hPc := hP.sub (ws' := [(x0, .inr (10, [.ref (ca 0), .ref (ca 1), .int 0, .ref (ca 3), .ref (ca 4), .ref (ca 5), .ref (ca 6)])), (ca 0, .inl (cc 0, 4, .inr (.inr (.inr (.inr (fun _ => none))))))]) [0, 1] rfl
  have hKc := hK.sub (tys' := [(cc 0, .object RX9)]) [0] rfl
  have hFc := va_free0 hS hA
  refine va_calli (va_runV (As := [.int (xs 1), .int (xs 2), .int (xs 3)]) (rest := []) ⟨hx, hb, hml, hown, hts⟩ (c_X10_shared l D _ x0 ca (cc 0) 0 (xs 1) (xs 2) (xs 3)) (cwV 3 hts g_L_c_X10_shared_133 rfl rfl rfl (by decide +kernel) ⟨(Nat.le_of_ble_eq_true rfl), (Nat.le_of_ble_eq_true rfl)⟩) (PcR_V (q0 := 0) hPc hKc rfl rfl) rfl rfl hl.1 rfl (lv_room (Nat.le_of_ble_eq_true rfl)) dL_law_1410 ⟨(Nat.le_of_ble_eq_true rfl), (Nat.le_of_ble_eq_true rfl)⟩) hS (fun q _ h => hFc q h) hFc (fun r7 uu tt H locs htt hvm hw hB hz1 hk1 hS => ?_)
  have hP := va_keep hP hk1
  try dsimp only at hw
  clear hB hz1 hk1 hFc hPc hKc
  obtain rfl : r7 = (-1) := hw
  refine lv_aload_n hx hb dL_law_1413 rfl (lv_at hl 1 rfl) ?_
  refine lv_aload_n hx hb dL_law_1414 rfl (lv_at hl 3 rfl) ?_
  refine lv_iload_n hx hb dL_law_1415 rfl (lv_at hl 0 rfl) ?_
  refine lv_iconst (v := 1) hx hb dL_law_1416 (by decide) ?_
  refine lv_iadd hx hb dL_law_1417 ?_
  refine lv_topi (fun v8 ev8 => ?_)
  obtain rfl : v8 = 1 := ev8.trans (by decide)
  refine va_sld hx hb hX hbl hbA hS (hin 1 (by omega)) dL_law_1418 ?_
  refine lv_topi (fun v9 ev9 => ?_)
  obtain rfl : v9 = xs 1 := ev9
  refine lv_aload_n hx hb dL_law_1419 rfl (lv_at hl 3 rfl) ?_
  refine lv_iload_n hx hb dL_law_1420 rfl (lv_at hl 0 rfl) ?_
  refine lv_iconst (v := 2) hx hb dL_law_1421 (by decide) ?_
  refine lv_iadd hx hb dL_law_1422 ?_
  refine lv_topi (fun v10 ev10 => ?_)
  obtain rfl : v10 = 2 := ev10.trans (by decide)
  refine va_sld hx hb hX hbl hbA hS (hin 2 (by omega)) dL_law_1423 ?_
  refine lv_topi (fun v11 ev11 => ?_)
  obtain rfl : v11 = xs 2 := ev11
  refine lv_aload_n hx hb dL_law_1424 rfl (lv_at hl 3 rfl) ?_
  refine lv_iload_n hx hb dL_law_1425 rfl (lv_at hl 0 rfl) ?_
  refine lv_iconst (v := 3) hx hb dL_law_1426 (by decide) ?_
  refine lv_iadd hx hb dL_law_1427 ?_
  refine lv_topi (fun v12 ev12 => ?_)
  obtain rfl : v12 = 3 := ev12.trans (by decide)
  refine va_sld hx hb hX hbl hbA hS (hin 3 (by omega)) dL_law_1428 ?_
  refine lv_topi (fun v13 ev13 => ?_)
  obtain rfl : v13 = xs 3 := ev13
  have hPc := hP.sub (ws' := [(m0, .inr (11, fM ma 0 0 0 0 0)), (ma 3, .inl (cm 3, 85, .inr (.inl (fun _ => 0))))]) [6, 8] rfl
  have hKc := hK.sub (tys' := [(cm 3, .long)]) [3] rfl
  have hDc := hD.sub (ws' := [(m0, .inr (11, fM ma 0 0 0 0 0)), (ma 3, .inl (cm 3, 85, .inr (.inl (fun _ => 0))))]) [6, 8] (by decide) rfl
  have hFc := va_free (wc := [(m0, .inr (11, fM ma 0 0 0 0 0)), (ma 3, .inl (cm 3, 85, .inr (.inl (fun _ => 0))))]) hD hS hA [6, 8] rfl
  refine va_calli (va_runV (As := [.int (xs 1), .int (xs 2), .int (xs 3)]) (rest := [.int (-1)]) ⟨hx, hb, hml, hown, hts⟩ (c_X11_shared l D _ m0 ma (cm 3) 0 0 0 0 0 (xs 1) (xs 2) (xs 3)) (cwV 3 hts g_L_c_X11_shared_136 rfl rfl rfl (by decide +kernel) ⟨(Nat.le_of_ble_eq_true rfl), (Nat.le_of_ble_eq_true rfl)⟩) (PcW_V (q0 := 0) hPc hKc hDc rfl rfl) rfl rfl hl.1 rfl (lv_room (Nat.le_of_ble_eq_true rfl)) dL_law_1429 ⟨(Nat.le_of_ble_eq_true rfl), (Nat.le_of_ble_eq_true rfl)⟩) hS (fun q _ h => hFc q h) hFc (fun r14 uu tt H locs htt hvm hw hB hz1 hk1 hS => ?_)
  obtain ⟨hP, hD⟩ := va_join (wr := [(x0, .inr (10, [.ref (ca 0), .ref (ca 1), .int 0, .ref (ca 3), .ref (ca 4), .ref (ca 5), .ref (ca 6)])), (ca 0, .inl (cc 0, 4, .inr (.inr (.inr (.inr (fun _ => none)))))), (ca 1, .inl (cc 1, 1400, .inl (fun _ => 0))), (ca 4, .inr (1, [.int 0, .ref qi])), (ca 5, .inr (6, [.int 0, .int 0, .int 0, .ref (qp 3), .ref (qp 4), .int 0, .int 0, .int 0, .int 0, .int 0, .int 0, .int 0, .ref (qp 12), .int 0, .ref (qp 14)])), (ca 6, .inr (4, [.int 0, .int 0, .int 0, .int 0, .int 0, .ref (qm 5), .int 0, .ref (qm 7)])), (ma 1, .inl (cm 1, 1400, .inl (fun _ => 0))), (ma 8, .inl (cm 8, 10240, .inl (fun _ => 0))), (ma 9, .inl (cm 9, 10240, .inl (fun _ => 0)))]) (w1 := []) hP hD [6, 8] [0, 1, 2, 3, 4, 5, 7, 9, 10] rfl rfl (by decide) (by decide) hk1 hFc va_P_nil va_D_nil
  have hP : va_P D vwCl [(x0, .inr (10, [.ref (ca 0), .ref (ca 1), .int 0, .ref (ca 3), .ref (ca 4), .ref (ca 5), .ref (ca 6)])), (ca 0, .inl (cc 0, 4, .inr (.inr (.inr (.inr (fun _ => none)))))), (ca 1, .inl (cc 1, 1400, .inl (fun _ => 0))), (ca 4, .inr (1, [.int 0, .ref qi])), (ca 5, .inr (6, [.int 0, .int 0, .int 0, .ref (qp 3), .ref (qp 4), .int 0, .int 0, .int 0, .int 0, .int 0, .int 0, .int 0, .ref (qp 12), .int 0, .ref (qp 14)])), (ca 6, .inr (4, [.int 0, .int 0, .int 0, .int 0, .int 0, .ref (qm 5), .int 0, .ref (qm 7)])), (ma 1, .inl (cm 1, 1400, .inl (fun _ => 0))), (ma 8, .inl (cm 8, 10240, .inl (fun _ => 0))), (ma 9, .inl (cm 9, 10240, .inl (fun _ => 0)))] H := hP
  have hD : va_D A [(x0, .inr (10, [.ref (ca 0), .ref (ca 1), .int 0, .ref (ca 3), .ref (ca 4), .ref (ca 5), .ref (ca 6)])), (ca 0, .inl (cc 0, 4, .inr (.inr (.inr (.inr (fun _ => none)))))), (ca 1, .inl (cc 1, 1400, .inl (fun _ => 0))), (ca 4, .inr (1, [.int 0, .ref qi])), (ca 5, .inr (6, [.int 0, .int 0, .int 0, .ref (qp 3), .ref (qp 4), .int 0, .int 0, .int 0, .int 0, .int 0, .int 0, .int 0, .ref (qp 12), .int 0, .ref (qp 14)])), (ca 6, .inr (4, [.int 0, .int 0, .int 0, .int 0, .int 0, .ref (qm 5), .int 0, .ref (qm 7)])), (ma 1, .inl (cm 1, 1400, .inl (fun _ => 0))), (ma 8, .inl (cm 8, 10240, .inl (fun _ => 0))), (ma 9, .inl (cm 9, 10240, .inl (fun _ => 0)))] := hD
  try dsimp only at hw
  clear hB hz1 hk1 hFc hPc hKc hDc
  obtain rfl : r14 = (-1) := hw
  refine lv_icmp_eq (tgt := 1735) hx hb dL_law_1432 (by decide) (fun hc => ?_) (fun hc => absurd (by decide) hc)
  exact law_tail (D := D) l C0 hN hA hbA hA2 (Nat.le_of_ble_eq_true rfl) (Nat.le_of_ble_eq_true rfl) hS hl

set_option maxHeartbeats 4000000 in
set_option maxRecDepth 100000 in
theorem law_case_27 {p : Program} {e : Env} {s : State} {m : MethodId} {below : List Frame} {meth : Method} {c : Code} (l : Launch) {b : Nat} {xs : Nat → Int32} {D : va_G} {A : Nat → Prop} (C0 : lw_At p s m meth c b 7 xs) (hN : NN s) (hA : ∀ q, s.heap.size ≤ q → A q) (hbA : ¬ A b) (hA2 : ∀ q, A q → s.heap.size ≤ q) (x0 m0 : Nat) (ca : Nat → Nat) (cc : Nat → ClassId) (qi : Nat) (qp qm : Nat → Nat) (ma : Nat → Nat) (cm : Nat → ClassId) (H : Heap) (locs : List Loc) (hK : va_K D vwCl [(cc 0, .object RX9), (cc 1, .int), (cm 1, .byte), (cm 3, .long), (cm 8, .int), (cm 9, .int)] s) (hP : va_P D vwCl [(x0, .inr (10, [.ref (ca 0), .ref (ca 1), .int 0, .ref (ca 3), .ref (ca 4), .ref (ca 5), .ref (ca 6)])), (ca 0, .inl (cc 0, 4, .inr (.inr (.inr (.inr (fun _ => none)))))), (ca 1, .inl (cc 1, 1400, .inl (fun _ => 0))), (ca 4, .inr (1, [.int 0, .ref qi])), (ca 5, .inr (6, [.int 0, .int 0, .int 0, .ref (qp 3), .ref (qp 4), .int 0, .int 0, .int 0, .int 0, .int 0, .int 0, .int 0, .ref (qp 12), .int 0, .ref (qp 14)])), (ca 6, .inr (4, [.int 0, .int 0, .int 0, .int 0, .int 0, .ref (qm 5), .int 0, .ref (qm 7)])), (m0, .inr (11, fM ma 0 0 0 0 0)), (ma 1, .inl (cm 1, 1400, .inl (fun _ => 0))), (ma 3, .inl (cm 3, 85, .inr (.inl (fun _ => 0)))), (ma 8, .inl (cm 8, 10240, .inl (fun _ => 0))), (ma 9, .inl (cm 9, 10240, .inl (fun _ => 0)))] H) (hD : va_D A [(x0, .inr (10, [.ref (ca 0), .ref (ca 1), .int 0, .ref (ca 3), .ref (ca 4), .ref (ca 5), .ref (ca 6)])), (ca 0, .inl (cc 0, 4, .inr (.inr (.inr (.inr (fun _ => none)))))), (ca 1, .inl (cc 1, 1400, .inl (fun _ => 0))), (ca 4, .inr (1, [.int 0, .ref qi])), (ca 5, .inr (6, [.int 0, .int 0, .int 0, .ref (qp 3), .ref (qp 4), .int 0, .int 0, .int 0, .int 0, .int 0, .int 0, .int 0, .ref (qp 12), .int 0, .ref (qp 14)])), (ca 6, .inr (4, [.int 0, .int 0, .int 0, .int 0, .int 0, .ref (qm 5), .int 0, .ref (qm 7)])), (m0, .inr (11, fM ma 0 0 0 0 0)), (ma 1, .inl (cm 1, 1400, .inl (fun _ => 0))), (ma 3, .inl (cm 3, 85, .inr (.inl (fun _ => 0)))), (ma 8, .inl (cm 8, 10240, .inl (fun _ => 0))), (ma 9, .inl (cm 9, 10240, .inl (fun _ => 0)))]) (hS : va_S A s.heap H locs) (ls : Array Slot) (hl : lv_has ls 4 [(3, .int 0), (2, .ref m0), (1, .ref x0), (0, .ref b)]) : W p l e room_1 s m #[Value.ref b] below meth c H locs 46 68513 (lw_Z below #[Value.ref b] s) (F0 m 1437 ls []) := by
  have C0 := C0
  have C1 := C0
  obtain ⟨hx, hb, hr, hml, hown, hts, hX, hbl, hlocks, hgv⟩ := C1
  have hown : s.vm.findClass RL = some m.cls := hown
  have hin : ∀ k : Nat, k < 7 → vp_in (nI k) 7 := fun k hk => vp_in_nI hk (by decide)
  refine lv_aload_n hx hb dL_law_1437 rfl (lv_at hl 2 rfl) ?_
  refine lv_aload_n hx hb dL_law_1438 rfl (lv_at hl 3 rfl) ?_
  refine lv_iload_n hx hb dL_law_1439 rfl (lv_at hl 0 rfl) ?_
  refine lv_iconst (v := 1) hx hb dL_law_1440 (by decide) ?_
  refine lv_iadd hx hb dL_law_1441 ?_
  refine lv_topi (fun v1 ev1 => ?_)
  obtain rfl : v1 = 1 := ev1.trans (by decide)
  refine va_sld hx hb hX hbl hbA hS (hin 1 (by omega)) dL_law_1442 ?_
  refine lv_topi (fun v2 ev2 => ?_)
  obtain rfl : v2 = xs 1 := ev2
  refine lv_aload_n hx hb dL_law_1443 rfl (lv_at hl 3 rfl) ?_
  refine lv_iload_n hx hb dL_law_1444 rfl (lv_at hl 0 rfl) ?_
  refine lv_iconst (v := 2) hx hb dL_law_1445 (by decide) ?_
  refine lv_iadd hx hb dL_law_1446 ?_
  refine lv_topi (fun v3 ev3 => ?_)
  obtain rfl : v3 = 2 := ev3.trans (by decide)
  refine va_sld hx hb hX hbl hbA hS (hin 2 (by omega)) dL_law_1447 ?_
  refine lv_topi (fun v4 ev4 => ?_)
  obtain rfl : v4 = xs 2 := ev4
  have hPc := hP.sub (ws' := [(x0, .inr (10, [.ref (ca 0), .ref (ca 1), .int 0, .ref (ca 3), .ref (ca 4), .ref (ca 5), .ref (ca 6)])), (ca 0, .inl (cc 0, 4, .inr (.inr (.inr (.inr (fun _ => none))))))]) [0, 1] rfl
  have hKc := hK.sub (tys' := [(cc 0, .object RX9)]) [0] rfl
  have hFc := va_free0 hS hA
  refine va_calli (va_runV (As := [.int (xs 1), .int (xs 2)]) (rest := []) ⟨hx, hb, hml, hown, hts⟩ (c_X10_join l D _ x0 ca (cc 0) 0 (xs 1) (xs 2)) (cwV 2 hts g_L_c_X10_join_137 rfl rfl rfl (by decide +kernel) ⟨(Nat.le_of_ble_eq_true rfl), (Nat.le_of_ble_eq_true rfl)⟩) (PcR_V (q0 := 0) hPc hKc rfl rfl) rfl rfl hl.1 rfl (lv_room (Nat.le_of_ble_eq_true rfl)) dL_law_1448 ⟨(Nat.le_of_ble_eq_true rfl), (Nat.le_of_ble_eq_true rfl)⟩) hS (fun q _ h => hFc q h) hFc (fun r5 uu tt H locs htt hvm hw hB hz1 hk1 hS => ?_)
  have hP := va_keep hP hk1
  try dsimp only at hw
  clear hB hz1 hk1 hFc hPc hKc
  obtain rfl : r5 = (-2) := hw
  refine lv_aload_n hx hb dL_law_1451 rfl (lv_at hl 1 rfl) ?_
  refine lv_aload_n hx hb dL_law_1452 rfl (lv_at hl 3 rfl) ?_
  refine lv_iload_n hx hb dL_law_1453 rfl (lv_at hl 0 rfl) ?_
  refine lv_iconst (v := 1) hx hb dL_law_1454 (by decide) ?_
  refine lv_iadd hx hb dL_law_1455 ?_
  refine lv_topi (fun v6 ev6 => ?_)
  obtain rfl : v6 = 1 := ev6.trans (by decide)
  refine va_sld hx hb hX hbl hbA hS (hin 1 (by omega)) dL_law_1456 ?_
  refine lv_topi (fun v7 ev7 => ?_)
  obtain rfl : v7 = xs 1 := ev7
  refine lv_aload_n hx hb dL_law_1457 rfl (lv_at hl 3 rfl) ?_
  refine lv_iload_n hx hb dL_law_1458 rfl (lv_at hl 0 rfl) ?_
  refine lv_iconst (v := 2) hx hb dL_law_1459 (by decide) ?_
  refine lv_iadd hx hb dL_law_1460 ?_
  refine lv_topi (fun v8 ev8 => ?_)
  obtain rfl : v8 = 2 := ev8.trans (by decide)
  refine va_sld hx hb hX hbl hbA hS (hin 2 (by omega)) dL_law_1461 ?_
  refine lv_topi (fun v9 ev9 => ?_)
  obtain rfl : v9 = xs 2 := ev9
  have hPc := hP.sub (ws' := [(m0, .inr (11, fM ma 0 0 0 0 0)), (ma 3, .inl (cm 3, 85, .inr (.inl (fun _ => 0))))]) [6, 8] rfl
  have hKc := hK.sub (tys' := [(cm 3, .long)]) [3] rfl
  have hDc := hD.sub (ws' := [(m0, .inr (11, fM ma 0 0 0 0 0)), (ma 3, .inl (cm 3, 85, .inr (.inl (fun _ => 0))))]) [6, 8] (by decide) rfl
  have hFc := va_free (wc := [(m0, .inr (11, fM ma 0 0 0 0 0)), (ma 3, .inl (cm 3, 85, .inr (.inl (fun _ => 0))))]) hD hS hA [6, 8] rfl
  refine va_calli (va_runV (As := [.int (xs 1), .int (xs 2)]) (rest := [.int (-2)]) ⟨hx, hb, hml, hown, hts⟩ (c_X11_join l D _ m0 ma (cm 3) 0 0 0 0 0 (xs 1) (xs 2)) (cwV 2 hts g_L_c_X11_join_140 rfl rfl rfl (by decide +kernel) ⟨(Nat.le_of_ble_eq_true rfl), (Nat.le_of_ble_eq_true rfl)⟩) (PcW_V (q0 := 0) hPc hKc hDc rfl rfl) rfl rfl hl.1 rfl (lv_room (Nat.le_of_ble_eq_true rfl)) dL_law_1462 ⟨(Nat.le_of_ble_eq_true rfl), (Nat.le_of_ble_eq_true rfl)⟩) hS (fun q _ h => hFc q h) hFc (fun r10 uu tt H locs htt hvm hw hB hz1 hk1 hS => ?_)
  obtain ⟨hP, hD⟩ := va_join (wr := [(x0, .inr (10, [.ref (ca 0), .ref (ca 1), .int 0, .ref (ca 3), .ref (ca 4), .ref (ca 5), .ref (ca 6)])), (ca 0, .inl (cc 0, 4, .inr (.inr (.inr (.inr (fun _ => none)))))), (ca 1, .inl (cc 1, 1400, .inl (fun _ => 0))), (ca 4, .inr (1, [.int 0, .ref qi])), (ca 5, .inr (6, [.int 0, .int 0, .int 0, .ref (qp 3), .ref (qp 4), .int 0, .int 0, .int 0, .int 0, .int 0, .int 0, .int 0, .ref (qp 12), .int 0, .ref (qp 14)])), (ca 6, .inr (4, [.int 0, .int 0, .int 0, .int 0, .int 0, .ref (qm 5), .int 0, .ref (qm 7)])), (ma 1, .inl (cm 1, 1400, .inl (fun _ => 0))), (ma 8, .inl (cm 8, 10240, .inl (fun _ => 0))), (ma 9, .inl (cm 9, 10240, .inl (fun _ => 0)))]) (w1 := []) hP hD [6, 8] [0, 1, 2, 3, 4, 5, 7, 9, 10] rfl rfl (by decide) (by decide) hk1 hFc va_P_nil va_D_nil
  have hP : va_P D vwCl [(x0, .inr (10, [.ref (ca 0), .ref (ca 1), .int 0, .ref (ca 3), .ref (ca 4), .ref (ca 5), .ref (ca 6)])), (ca 0, .inl (cc 0, 4, .inr (.inr (.inr (.inr (fun _ => none)))))), (ca 1, .inl (cc 1, 1400, .inl (fun _ => 0))), (ca 4, .inr (1, [.int 0, .ref qi])), (ca 5, .inr (6, [.int 0, .int 0, .int 0, .ref (qp 3), .ref (qp 4), .int 0, .int 0, .int 0, .int 0, .int 0, .int 0, .int 0, .ref (qp 12), .int 0, .ref (qp 14)])), (ca 6, .inr (4, [.int 0, .int 0, .int 0, .int 0, .int 0, .ref (qm 5), .int 0, .ref (qm 7)])), (ma 1, .inl (cm 1, 1400, .inl (fun _ => 0))), (ma 8, .inl (cm 8, 10240, .inl (fun _ => 0))), (ma 9, .inl (cm 9, 10240, .inl (fun _ => 0)))] H := hP
  have hD : va_D A [(x0, .inr (10, [.ref (ca 0), .ref (ca 1), .int 0, .ref (ca 3), .ref (ca 4), .ref (ca 5), .ref (ca 6)])), (ca 0, .inl (cc 0, 4, .inr (.inr (.inr (.inr (fun _ => none)))))), (ca 1, .inl (cc 1, 1400, .inl (fun _ => 0))), (ca 4, .inr (1, [.int 0, .ref qi])), (ca 5, .inr (6, [.int 0, .int 0, .int 0, .ref (qp 3), .ref (qp 4), .int 0, .int 0, .int 0, .int 0, .int 0, .int 0, .int 0, .ref (qp 12), .int 0, .ref (qp 14)])), (ca 6, .inr (4, [.int 0, .int 0, .int 0, .int 0, .int 0, .ref (qm 5), .int 0, .ref (qm 7)])), (ma 1, .inl (cm 1, 1400, .inl (fun _ => 0))), (ma 8, .inl (cm 8, 10240, .inl (fun _ => 0))), (ma 9, .inl (cm 9, 10240, .inl (fun _ => 0)))] := hD
  try dsimp only at hw
  clear hB hz1 hk1 hFc hPc hKc hDc
  obtain rfl : r10 = (-2) := hw
  refine lv_icmp_eq (tgt := 1735) hx hb dL_law_1465 (by decide) (fun hc => ?_) (fun hc => absurd (by decide) hc)
  exact law_tail (D := D) l C0 hN hA hbA hA2 (Nat.le_of_ble_eq_true rfl) (Nat.le_of_ble_eq_true rfl) hS hl

set_option maxHeartbeats 4000000 in
set_option maxRecDepth 100000 in
theorem law_case_28 {p : Program} {e : Env} {s : State} {m : MethodId} {below : List Frame} {meth : Method} {c : Code} (l : Launch) {b : Nat} {xs : Nat → Int32} {D : va_G} {A : Nat → Prop} (C0 : lw_At p s m meth c b 7 xs) (hN : NN s) (hA : ∀ q, s.heap.size ≤ q → A q) (hbA : ¬ A b) (hA2 : ∀ q, A q → s.heap.size ≤ q) (x0 m0 : Nat) (ca : Nat → Nat) (cc : Nat → ClassId) (qi : Nat) (qp qm : Nat → Nat) (ma : Nat → Nat) (cm : Nat → ClassId) (H : Heap) (locs : List Loc) (hK : va_K D vwCl [(cc 0, .object RX9), (cc 1, .int), (cm 1, .byte), (cm 3, .long), (cm 8, .int), (cm 9, .int)] s) (hP : va_P D vwCl [(x0, .inr (10, [.ref (ca 0), .ref (ca 1), .int 0, .ref (ca 3), .ref (ca 4), .ref (ca 5), .ref (ca 6)])), (ca 0, .inl (cc 0, 4, .inr (.inr (.inr (.inr (fun _ => none)))))), (ca 1, .inl (cc 1, 1400, .inl (fun _ => 0))), (ca 4, .inr (1, [.int 0, .ref qi])), (ca 5, .inr (6, [.int 0, .int 0, .int 0, .ref (qp 3), .ref (qp 4), .int 0, .int 0, .int 0, .int 0, .int 0, .int 0, .int 0, .ref (qp 12), .int 0, .ref (qp 14)])), (ca 6, .inr (4, [.int 0, .int 0, .int 0, .int 0, .int 0, .ref (qm 5), .int 0, .ref (qm 7)])), (m0, .inr (11, fM ma 0 0 0 0 0)), (ma 1, .inl (cm 1, 1400, .inl (fun _ => 0))), (ma 3, .inl (cm 3, 85, .inr (.inl (fun _ => 0)))), (ma 8, .inl (cm 8, 10240, .inl (fun _ => 0))), (ma 9, .inl (cm 9, 10240, .inl (fun _ => 0)))] H) (hD : va_D A [(x0, .inr (10, [.ref (ca 0), .ref (ca 1), .int 0, .ref (ca 3), .ref (ca 4), .ref (ca 5), .ref (ca 6)])), (ca 0, .inl (cc 0, 4, .inr (.inr (.inr (.inr (fun _ => none)))))), (ca 1, .inl (cc 1, 1400, .inl (fun _ => 0))), (ca 4, .inr (1, [.int 0, .ref qi])), (ca 5, .inr (6, [.int 0, .int 0, .int 0, .ref (qp 3), .ref (qp 4), .int 0, .int 0, .int 0, .int 0, .int 0, .int 0, .int 0, .ref (qp 12), .int 0, .ref (qp 14)])), (ca 6, .inr (4, [.int 0, .int 0, .int 0, .int 0, .int 0, .ref (qm 5), .int 0, .ref (qm 7)])), (m0, .inr (11, fM ma 0 0 0 0 0)), (ma 1, .inl (cm 1, 1400, .inl (fun _ => 0))), (ma 3, .inl (cm 3, 85, .inr (.inl (fun _ => 0)))), (ma 8, .inl (cm 8, 10240, .inl (fun _ => 0))), (ma 9, .inl (cm 9, 10240, .inl (fun _ => 0)))]) (hS : va_S A s.heap H locs) (ls : Array Slot) (hl : lv_has ls 4 [(3, .int 0), (2, .ref m0), (1, .ref x0), (0, .ref b)]) : W p l e room_1 s m #[Value.ref b] below meth c H locs 46 68513 (lw_Z below #[Value.ref b] s) (F0 m 1470 ls []) := by
  have C0 := C0
  have C1 := C0
  obtain ⟨hx, hb, hr, hml, hown, hts, hX, hbl, hlocks, hgv⟩ := C1
  have hown : s.vm.findClass RL = some m.cls := hown
  have hin : ∀ k : Nat, k < 7 → vp_in (nI k) 7 := fun k hk => vp_in_nI hk (by decide)
  refine lv_aload_n hx hb dL_law_1470 rfl (lv_at hl 2 rfl) ?_
  refine lv_aload_n hx hb dL_law_1471 rfl (lv_at hl 3 rfl) ?_
  refine lv_iload_n hx hb dL_law_1472 rfl (lv_at hl 0 rfl) ?_
  refine lv_iconst (v := 1) hx hb dL_law_1473 (by decide) ?_
  refine lv_iadd hx hb dL_law_1474 ?_
  refine lv_topi (fun v1 ev1 => ?_)
  obtain rfl : v1 = 1 := ev1.trans (by decide)
  refine va_sld hx hb hX hbl hbA hS (hin 1 (by omega)) dL_law_1475 ?_
  refine lv_topi (fun v2 ev2 => ?_)
  obtain rfl : v2 = xs 1 := ev2
  refine lv_aload_n hx hb dL_law_1476 rfl (lv_at hl 3 rfl) ?_
  refine lv_iload_n hx hb dL_law_1477 rfl (lv_at hl 0 rfl) ?_
  refine lv_iconst (v := 2) hx hb dL_law_1478 (by decide) ?_
  refine lv_iadd hx hb dL_law_1479 ?_
  refine lv_topi (fun v3 ev3 => ?_)
  obtain rfl : v3 = 2 := ev3.trans (by decide)
  refine va_sld hx hb hX hbl hbA hS (hin 2 (by omega)) dL_law_1480 ?_
  refine lv_topi (fun v4 ev4 => ?_)
  obtain rfl : v4 = xs 2 := ev4
  refine lv_aload_n hx hb dL_law_1481 rfl (lv_at hl 3 rfl) ?_
  refine lv_iload_n hx hb dL_law_1482 rfl (lv_at hl 0 rfl) ?_
  refine lv_iconst (v := 3) hx hb dL_law_1483 (by decide) ?_
  refine lv_iadd hx hb dL_law_1484 ?_
  refine lv_topi (fun v5 ev5 => ?_)
  obtain rfl : v5 = 3 := ev5.trans (by decide)
  refine va_sld hx hb hX hbl hbA hS (hin 3 (by omega)) dL_law_1485 ?_
  refine lv_topi (fun v6 ev6 => ?_)
  obtain rfl : v6 = xs 3 := ev6
  refine lv_if_eq (tgt := 1493) hx hb dL_law_1486 (by decide) (fun hc7 => ?_) (fun hc7 => ?_)
  ·
    refine lv_iconst (v := 0) hx hb dL_law_1493 (by decide) ?_
    have hPc := hP.sub (ws' := [(x0, .inr (10, [.ref (ca 0), .ref (ca 1), .int 0, .ref (ca 3), .ref (ca 4), .ref (ca 5), .ref (ca 6)])), (ca 0, .inl (cc 0, 4, .inr (.inr (.inr (.inr (fun _ => none))))))]) [0, 1] rfl
    have hKc := hK.sub (tys' := [(cc 0, .object RX9)]) [0] rfl
    have hFc := va_free0 hS hA
    refine va_calli (va_runV (As := [.int (xs 1), .int (xs 2), .int 0]) (rest := []) ⟨hx, hb, hml, hown, hts⟩ (c_X10_cut l D _ x0 ca (cc 0) 0 (xs 1) (xs 2) 0) (cwV 3 hts g_L_c_X10_cut_141 rfl rfl rfl (by decide +kernel) ⟨(Nat.le_of_ble_eq_true rfl), (Nat.le_of_ble_eq_true rfl)⟩) (PcR_V (q0 := 0) hPc hKc rfl rfl) rfl rfl hl.1 rfl (lv_room (Nat.le_of_ble_eq_true rfl)) dL_law_1494 ⟨(Nat.le_of_ble_eq_true rfl), (Nat.le_of_ble_eq_true rfl)⟩) hS (fun q _ h => hFc q h) hFc (fun r8 uu tt H locs htt hvm hw hB hz1 hk1 hS => ?_)
    have hP := va_keep hP hk1
    try dsimp only at hw
    clear hB hz1 hk1 hFc hPc hKc
    obtain rfl : r8 = (-2) := hw
    refine lv_aload_n hx hb dL_law_1497 rfl (lv_at hl 1 rfl) ?_
    refine lv_aload_n hx hb dL_law_1498 rfl (lv_at hl 3 rfl) ?_
    refine lv_iload_n hx hb dL_law_1499 rfl (lv_at hl 0 rfl) ?_
    refine lv_iconst (v := 1) hx hb dL_law_1500 (by decide) ?_
    refine lv_iadd hx hb dL_law_1501 ?_
    refine lv_topi (fun v9 ev9 => ?_)
    obtain rfl : v9 = 1 := ev9.trans (by decide)
    refine va_sld hx hb hX hbl hbA hS (hin 1 (by omega)) dL_law_1502 ?_
    refine lv_topi (fun v10 ev10 => ?_)
    obtain rfl : v10 = xs 1 := ev10
    refine lv_aload_n hx hb dL_law_1503 rfl (lv_at hl 3 rfl) ?_
    refine lv_iload_n hx hb dL_law_1504 rfl (lv_at hl 0 rfl) ?_
    refine lv_iconst (v := 2) hx hb dL_law_1505 (by decide) ?_
    refine lv_iadd hx hb dL_law_1506 ?_
    refine lv_topi (fun v11 ev11 => ?_)
    obtain rfl : v11 = 2 := ev11.trans (by decide)
    refine va_sld hx hb hX hbl hbA hS (hin 2 (by omega)) dL_law_1507 ?_
    refine lv_topi (fun v12 ev12 => ?_)
    obtain rfl : v12 = xs 2 := ev12
    refine lv_aload_n hx hb dL_law_1508 rfl (lv_at hl 3 rfl) ?_
    refine lv_iload_n hx hb dL_law_1509 rfl (lv_at hl 0 rfl) ?_
    refine lv_iconst (v := 3) hx hb dL_law_1510 (by decide) ?_
    refine lv_iadd hx hb dL_law_1511 ?_
    refine lv_topi (fun v13 ev13 => ?_)
    obtain rfl : v13 = 3 := ev13.trans (by decide)
    refine va_sld hx hb hX hbl hbA hS (hin 3 (by omega)) dL_law_1512 ?_
    refine lv_topi (fun v14 ev14 => ?_)
    obtain rfl : v14 = xs 3 := ev14
    refine lv_if_eq (tgt := 1520) hx hb dL_law_1513 (by decide) (fun hc15 => ?_) (fun hc15 => ?_)
    ·
      refine lv_iconst (v := 0) hx hb dL_law_1520 (by decide) ?_
      have hPc := hP.sub (ws' := [(m0, .inr (11, fM ma 0 0 0 0 0)), (ma 3, .inl (cm 3, 85, .inr (.inl (fun _ => 0))))]) [6, 8] rfl
      have hKc := hK.sub (tys' := [(cm 3, .long)]) [3] rfl
      have hDc := hD.sub (ws' := [(m0, .inr (11, fM ma 0 0 0 0 0)), (ma 3, .inl (cm 3, 85, .inr (.inl (fun _ => 0))))]) [6, 8] (by decide) rfl
      have hFc := va_free (wc := [(m0, .inr (11, fM ma 0 0 0 0 0)), (ma 3, .inl (cm 3, 85, .inr (.inl (fun _ => 0))))]) hD hS hA [6, 8] rfl
      refine va_calli (va_runV (As := [.int (xs 1), .int (xs 2), .int 0]) (rest := [.int (-2)]) ⟨hx, hb, hml, hown, hts⟩ (c_X11_cut l D _ m0 ma (cm 3) 0 0 0 0 0 (xs 1) (xs 2) 0) (cwV 3 hts g_L_c_X11_cut_145 rfl rfl rfl (by decide +kernel) ⟨(Nat.le_of_ble_eq_true rfl), (Nat.le_of_ble_eq_true rfl)⟩) (PcW_V (q0 := 0) hPc hKc hDc rfl rfl) rfl rfl hl.1 rfl (lv_room (Nat.le_of_ble_eq_true rfl)) dL_law_1521 ⟨(Nat.le_of_ble_eq_true rfl), (Nat.le_of_ble_eq_true rfl)⟩) hS (fun q _ h => hFc q h) hFc (fun r16 uu tt H locs htt hvm hw hB hz1 hk1 hS => ?_)
      obtain ⟨hP, hD⟩ := va_join (wr := [(x0, .inr (10, [.ref (ca 0), .ref (ca 1), .int 0, .ref (ca 3), .ref (ca 4), .ref (ca 5), .ref (ca 6)])), (ca 0, .inl (cc 0, 4, .inr (.inr (.inr (.inr (fun _ => none)))))), (ca 1, .inl (cc 1, 1400, .inl (fun _ => 0))), (ca 4, .inr (1, [.int 0, .ref qi])), (ca 5, .inr (6, [.int 0, .int 0, .int 0, .ref (qp 3), .ref (qp 4), .int 0, .int 0, .int 0, .int 0, .int 0, .int 0, .int 0, .ref (qp 12), .int 0, .ref (qp 14)])), (ca 6, .inr (4, [.int 0, .int 0, .int 0, .int 0, .int 0, .ref (qm 5), .int 0, .ref (qm 7)])), (ma 1, .inl (cm 1, 1400, .inl (fun _ => 0))), (ma 8, .inl (cm 8, 10240, .inl (fun _ => 0))), (ma 9, .inl (cm 9, 10240, .inl (fun _ => 0)))]) (w1 := []) hP hD [6, 8] [0, 1, 2, 3, 4, 5, 7, 9, 10] rfl rfl (by decide) (by decide) hk1 hFc va_P_nil va_D_nil
      have hP : va_P D vwCl [(x0, .inr (10, [.ref (ca 0), .ref (ca 1), .int 0, .ref (ca 3), .ref (ca 4), .ref (ca 5), .ref (ca 6)])), (ca 0, .inl (cc 0, 4, .inr (.inr (.inr (.inr (fun _ => none)))))), (ca 1, .inl (cc 1, 1400, .inl (fun _ => 0))), (ca 4, .inr (1, [.int 0, .ref qi])), (ca 5, .inr (6, [.int 0, .int 0, .int 0, .ref (qp 3), .ref (qp 4), .int 0, .int 0, .int 0, .int 0, .int 0, .int 0, .int 0, .ref (qp 12), .int 0, .ref (qp 14)])), (ca 6, .inr (4, [.int 0, .int 0, .int 0, .int 0, .int 0, .ref (qm 5), .int 0, .ref (qm 7)])), (ma 1, .inl (cm 1, 1400, .inl (fun _ => 0))), (ma 8, .inl (cm 8, 10240, .inl (fun _ => 0))), (ma 9, .inl (cm 9, 10240, .inl (fun _ => 0)))] H := hP
      have hD : va_D A [(x0, .inr (10, [.ref (ca 0), .ref (ca 1), .int 0, .ref (ca 3), .ref (ca 4), .ref (ca 5), .ref (ca 6)])), (ca 0, .inl (cc 0, 4, .inr (.inr (.inr (.inr (fun _ => none)))))), (ca 1, .inl (cc 1, 1400, .inl (fun _ => 0))), (ca 4, .inr (1, [.int 0, .ref qi])), (ca 5, .inr (6, [.int 0, .int 0, .int 0, .ref (qp 3), .ref (qp 4), .int 0, .int 0, .int 0, .int 0, .int 0, .int 0, .int 0, .ref (qp 12), .int 0, .ref (qp 14)])), (ca 6, .inr (4, [.int 0, .int 0, .int 0, .int 0, .int 0, .ref (qm 5), .int 0, .ref (qm 7)])), (ma 1, .inl (cm 1, 1400, .inl (fun _ => 0))), (ma 8, .inl (cm 8, 10240, .inl (fun _ => 0))), (ma 9, .inl (cm 9, 10240, .inl (fun _ => 0)))] := hD
      try dsimp only at hw
      clear hB hz1 hk1 hFc hPc hKc hDc
      obtain rfl : r16 = (-2) := hw
      refine lv_icmp_eq (tgt := 1735) hx hb dL_law_1524 (by decide) (fun hc => ?_) (fun hc => absurd (by decide) hc)
      exact law_tail (D := D) l C0 hN hA hbA hA2 (Nat.le_of_ble_eq_true rfl) (Nat.le_of_ble_eq_true rfl) hS hl
    ·
      refine lv_iconst (v := 1) hx hb dL_law_1516 (by decide) ?_
      refine lv_goto (tgt := 1521) hx hb dL_law_1517 (by decide) ?_
      have hPc := hP.sub (ws' := [(m0, .inr (11, fM ma 0 0 0 0 0)), (ma 3, .inl (cm 3, 85, .inr (.inl (fun _ => 0))))]) [6, 8] rfl
      have hKc := hK.sub (tys' := [(cm 3, .long)]) [3] rfl
      have hDc := hD.sub (ws' := [(m0, .inr (11, fM ma 0 0 0 0 0)), (ma 3, .inl (cm 3, 85, .inr (.inl (fun _ => 0))))]) [6, 8] (by decide) rfl
      have hFc := va_free (wc := [(m0, .inr (11, fM ma 0 0 0 0 0)), (ma 3, .inl (cm 3, 85, .inr (.inl (fun _ => 0))))]) hD hS hA [6, 8] rfl
      refine va_calli (va_runV (As := [.int (xs 1), .int (xs 2), .int 1]) (rest := [.int (-2)]) ⟨hx, hb, hml, hown, hts⟩ (c_X11_cut l D _ m0 ma (cm 3) 0 0 0 0 0 (xs 1) (xs 2) 1) (cwV 3 hts g_L_c_X11_cut_145 rfl rfl rfl (by decide +kernel) ⟨(Nat.le_of_ble_eq_true rfl), (Nat.le_of_ble_eq_true rfl)⟩) (PcW_V (q0 := 0) hPc hKc hDc rfl rfl) rfl rfl hl.1 rfl (lv_room (Nat.le_of_ble_eq_true rfl)) dL_law_1521 ⟨(Nat.le_of_ble_eq_true rfl), (Nat.le_of_ble_eq_true rfl)⟩) hS (fun q _ h => hFc q h) hFc (fun r17 uu tt H locs htt hvm hw hB hz1 hk1 hS => ?_)
      obtain ⟨hP, hD⟩ := va_join (wr := [(x0, .inr (10, [.ref (ca 0), .ref (ca 1), .int 0, .ref (ca 3), .ref (ca 4), .ref (ca 5), .ref (ca 6)])), (ca 0, .inl (cc 0, 4, .inr (.inr (.inr (.inr (fun _ => none)))))), (ca 1, .inl (cc 1, 1400, .inl (fun _ => 0))), (ca 4, .inr (1, [.int 0, .ref qi])), (ca 5, .inr (6, [.int 0, .int 0, .int 0, .ref (qp 3), .ref (qp 4), .int 0, .int 0, .int 0, .int 0, .int 0, .int 0, .int 0, .ref (qp 12), .int 0, .ref (qp 14)])), (ca 6, .inr (4, [.int 0, .int 0, .int 0, .int 0, .int 0, .ref (qm 5), .int 0, .ref (qm 7)])), (ma 1, .inl (cm 1, 1400, .inl (fun _ => 0))), (ma 8, .inl (cm 8, 10240, .inl (fun _ => 0))), (ma 9, .inl (cm 9, 10240, .inl (fun _ => 0)))]) (w1 := []) hP hD [6, 8] [0, 1, 2, 3, 4, 5, 7, 9, 10] rfl rfl (by decide) (by decide) hk1 hFc va_P_nil va_D_nil
      have hP : va_P D vwCl [(x0, .inr (10, [.ref (ca 0), .ref (ca 1), .int 0, .ref (ca 3), .ref (ca 4), .ref (ca 5), .ref (ca 6)])), (ca 0, .inl (cc 0, 4, .inr (.inr (.inr (.inr (fun _ => none)))))), (ca 1, .inl (cc 1, 1400, .inl (fun _ => 0))), (ca 4, .inr (1, [.int 0, .ref qi])), (ca 5, .inr (6, [.int 0, .int 0, .int 0, .ref (qp 3), .ref (qp 4), .int 0, .int 0, .int 0, .int 0, .int 0, .int 0, .int 0, .ref (qp 12), .int 0, .ref (qp 14)])), (ca 6, .inr (4, [.int 0, .int 0, .int 0, .int 0, .int 0, .ref (qm 5), .int 0, .ref (qm 7)])), (ma 1, .inl (cm 1, 1400, .inl (fun _ => 0))), (ma 8, .inl (cm 8, 10240, .inl (fun _ => 0))), (ma 9, .inl (cm 9, 10240, .inl (fun _ => 0)))] H := hP
      have hD : va_D A [(x0, .inr (10, [.ref (ca 0), .ref (ca 1), .int 0, .ref (ca 3), .ref (ca 4), .ref (ca 5), .ref (ca 6)])), (ca 0, .inl (cc 0, 4, .inr (.inr (.inr (.inr (fun _ => none)))))), (ca 1, .inl (cc 1, 1400, .inl (fun _ => 0))), (ca 4, .inr (1, [.int 0, .ref qi])), (ca 5, .inr (6, [.int 0, .int 0, .int 0, .ref (qp 3), .ref (qp 4), .int 0, .int 0, .int 0, .int 0, .int 0, .int 0, .int 0, .ref (qp 12), .int 0, .ref (qp 14)])), (ca 6, .inr (4, [.int 0, .int 0, .int 0, .int 0, .int 0, .ref (qm 5), .int 0, .ref (qm 7)])), (ma 1, .inl (cm 1, 1400, .inl (fun _ => 0))), (ma 8, .inl (cm 8, 10240, .inl (fun _ => 0))), (ma 9, .inl (cm 9, 10240, .inl (fun _ => 0)))] := hD
      try dsimp only at hw
      clear hB hz1 hk1 hFc hPc hKc hDc
      obtain rfl : r17 = (-2) := hw
      refine lv_icmp_eq (tgt := 1735) hx hb dL_law_1524 (by decide) (fun hc => ?_) (fun hc => absurd (by decide) hc)
      exact law_tail (D := D) l C0 hN hA hbA hA2 (Nat.le_of_ble_eq_true rfl) (Nat.le_of_ble_eq_true rfl) hS hl
  ·
    refine lv_iconst (v := 1) hx hb dL_law_1489 (by decide) ?_
    refine lv_goto (tgt := 1494) hx hb dL_law_1490 (by decide) ?_
    have hPc := hP.sub (ws' := [(x0, .inr (10, [.ref (ca 0), .ref (ca 1), .int 0, .ref (ca 3), .ref (ca 4), .ref (ca 5), .ref (ca 6)])), (ca 0, .inl (cc 0, 4, .inr (.inr (.inr (.inr (fun _ => none))))))]) [0, 1] rfl
    have hKc := hK.sub (tys' := [(cc 0, .object RX9)]) [0] rfl
    have hFc := va_free0 hS hA
    refine va_calli (va_runV (As := [.int (xs 1), .int (xs 2), .int 1]) (rest := []) ⟨hx, hb, hml, hown, hts⟩ (c_X10_cut l D _ x0 ca (cc 0) 0 (xs 1) (xs 2) 1) (cwV 3 hts g_L_c_X10_cut_141 rfl rfl rfl (by decide +kernel) ⟨(Nat.le_of_ble_eq_true rfl), (Nat.le_of_ble_eq_true rfl)⟩) (PcR_V (q0 := 0) hPc hKc rfl rfl) rfl rfl hl.1 rfl (lv_room (Nat.le_of_ble_eq_true rfl)) dL_law_1494 ⟨(Nat.le_of_ble_eq_true rfl), (Nat.le_of_ble_eq_true rfl)⟩) hS (fun q _ h => hFc q h) hFc (fun r18 uu tt H locs htt hvm hw hB hz1 hk1 hS => ?_)
    have hP := va_keep hP hk1
    try dsimp only at hw
    clear hB hz1 hk1 hFc hPc hKc
    obtain rfl : r18 = (-2) := hw
    refine lv_aload_n hx hb dL_law_1497 rfl (lv_at hl 1 rfl) ?_
    refine lv_aload_n hx hb dL_law_1498 rfl (lv_at hl 3 rfl) ?_
    refine lv_iload_n hx hb dL_law_1499 rfl (lv_at hl 0 rfl) ?_
    refine lv_iconst (v := 1) hx hb dL_law_1500 (by decide) ?_
    refine lv_iadd hx hb dL_law_1501 ?_
    refine lv_topi (fun v19 ev19 => ?_)
    obtain rfl : v19 = 1 := ev19.trans (by decide)
    refine va_sld hx hb hX hbl hbA hS (hin 1 (by omega)) dL_law_1502 ?_
    refine lv_topi (fun v20 ev20 => ?_)
    obtain rfl : v20 = xs 1 := ev20
    refine lv_aload_n hx hb dL_law_1503 rfl (lv_at hl 3 rfl) ?_
    refine lv_iload_n hx hb dL_law_1504 rfl (lv_at hl 0 rfl) ?_
    refine lv_iconst (v := 2) hx hb dL_law_1505 (by decide) ?_
    refine lv_iadd hx hb dL_law_1506 ?_
    refine lv_topi (fun v21 ev21 => ?_)
    obtain rfl : v21 = 2 := ev21.trans (by decide)
    refine va_sld hx hb hX hbl hbA hS (hin 2 (by omega)) dL_law_1507 ?_
    refine lv_topi (fun v22 ev22 => ?_)
    obtain rfl : v22 = xs 2 := ev22
    refine lv_aload_n hx hb dL_law_1508 rfl (lv_at hl 3 rfl) ?_
    refine lv_iload_n hx hb dL_law_1509 rfl (lv_at hl 0 rfl) ?_
    refine lv_iconst (v := 3) hx hb dL_law_1510 (by decide) ?_
    refine lv_iadd hx hb dL_law_1511 ?_
    refine lv_topi (fun v23 ev23 => ?_)
    obtain rfl : v23 = 3 := ev23.trans (by decide)
    refine va_sld hx hb hX hbl hbA hS (hin 3 (by omega)) dL_law_1512 ?_
    refine lv_topi (fun v24 ev24 => ?_)
    obtain rfl : v24 = xs 3 := ev24
    refine lv_if_eq (tgt := 1520) hx hb dL_law_1513 (by decide) (fun hc25 => ?_) (fun hc25 => ?_)
    ·
      refine lv_iconst (v := 0) hx hb dL_law_1520 (by decide) ?_
      have hPc := hP.sub (ws' := [(m0, .inr (11, fM ma 0 0 0 0 0)), (ma 3, .inl (cm 3, 85, .inr (.inl (fun _ => 0))))]) [6, 8] rfl
      have hKc := hK.sub (tys' := [(cm 3, .long)]) [3] rfl
      have hDc := hD.sub (ws' := [(m0, .inr (11, fM ma 0 0 0 0 0)), (ma 3, .inl (cm 3, 85, .inr (.inl (fun _ => 0))))]) [6, 8] (by decide) rfl
      have hFc := va_free (wc := [(m0, .inr (11, fM ma 0 0 0 0 0)), (ma 3, .inl (cm 3, 85, .inr (.inl (fun _ => 0))))]) hD hS hA [6, 8] rfl
      refine va_calli (va_runV (As := [.int (xs 1), .int (xs 2), .int 0]) (rest := [.int (-2)]) ⟨hx, hb, hml, hown, hts⟩ (c_X11_cut l D _ m0 ma (cm 3) 0 0 0 0 0 (xs 1) (xs 2) 0) (cwV 3 hts g_L_c_X11_cut_145 rfl rfl rfl (by decide +kernel) ⟨(Nat.le_of_ble_eq_true rfl), (Nat.le_of_ble_eq_true rfl)⟩) (PcW_V (q0 := 0) hPc hKc hDc rfl rfl) rfl rfl hl.1 rfl (lv_room (Nat.le_of_ble_eq_true rfl)) dL_law_1521 ⟨(Nat.le_of_ble_eq_true rfl), (Nat.le_of_ble_eq_true rfl)⟩) hS (fun q _ h => hFc q h) hFc (fun r26 uu tt H locs htt hvm hw hB hz1 hk1 hS => ?_)
      obtain ⟨hP, hD⟩ := va_join (wr := [(x0, .inr (10, [.ref (ca 0), .ref (ca 1), .int 0, .ref (ca 3), .ref (ca 4), .ref (ca 5), .ref (ca 6)])), (ca 0, .inl (cc 0, 4, .inr (.inr (.inr (.inr (fun _ => none)))))), (ca 1, .inl (cc 1, 1400, .inl (fun _ => 0))), (ca 4, .inr (1, [.int 0, .ref qi])), (ca 5, .inr (6, [.int 0, .int 0, .int 0, .ref (qp 3), .ref (qp 4), .int 0, .int 0, .int 0, .int 0, .int 0, .int 0, .int 0, .ref (qp 12), .int 0, .ref (qp 14)])), (ca 6, .inr (4, [.int 0, .int 0, .int 0, .int 0, .int 0, .ref (qm 5), .int 0, .ref (qm 7)])), (ma 1, .inl (cm 1, 1400, .inl (fun _ => 0))), (ma 8, .inl (cm 8, 10240, .inl (fun _ => 0))), (ma 9, .inl (cm 9, 10240, .inl (fun _ => 0)))]) (w1 := []) hP hD [6, 8] [0, 1, 2, 3, 4, 5, 7, 9, 10] rfl rfl (by decide) (by decide) hk1 hFc va_P_nil va_D_nil
      have hP : va_P D vwCl [(x0, .inr (10, [.ref (ca 0), .ref (ca 1), .int 0, .ref (ca 3), .ref (ca 4), .ref (ca 5), .ref (ca 6)])), (ca 0, .inl (cc 0, 4, .inr (.inr (.inr (.inr (fun _ => none)))))), (ca 1, .inl (cc 1, 1400, .inl (fun _ => 0))), (ca 4, .inr (1, [.int 0, .ref qi])), (ca 5, .inr (6, [.int 0, .int 0, .int 0, .ref (qp 3), .ref (qp 4), .int 0, .int 0, .int 0, .int 0, .int 0, .int 0, .int 0, .ref (qp 12), .int 0, .ref (qp 14)])), (ca 6, .inr (4, [.int 0, .int 0, .int 0, .int 0, .int 0, .ref (qm 5), .int 0, .ref (qm 7)])), (ma 1, .inl (cm 1, 1400, .inl (fun _ => 0))), (ma 8, .inl (cm 8, 10240, .inl (fun _ => 0))), (ma 9, .inl (cm 9, 10240, .inl (fun _ => 0)))] H := hP
      have hD : va_D A [(x0, .inr (10, [.ref (ca 0), .ref (ca 1), .int 0, .ref (ca 3), .ref (ca 4), .ref (ca 5), .ref (ca 6)])), (ca 0, .inl (cc 0, 4, .inr (.inr (.inr (.inr (fun _ => none)))))), (ca 1, .inl (cc 1, 1400, .inl (fun _ => 0))), (ca 4, .inr (1, [.int 0, .ref qi])), (ca 5, .inr (6, [.int 0, .int 0, .int 0, .ref (qp 3), .ref (qp 4), .int 0, .int 0, .int 0, .int 0, .int 0, .int 0, .int 0, .ref (qp 12), .int 0, .ref (qp 14)])), (ca 6, .inr (4, [.int 0, .int 0, .int 0, .int 0, .int 0, .ref (qm 5), .int 0, .ref (qm 7)])), (ma 1, .inl (cm 1, 1400, .inl (fun _ => 0))), (ma 8, .inl (cm 8, 10240, .inl (fun _ => 0))), (ma 9, .inl (cm 9, 10240, .inl (fun _ => 0)))] := hD
      try dsimp only at hw
      clear hB hz1 hk1 hFc hPc hKc hDc
      obtain rfl : r26 = (-2) := hw
      refine lv_icmp_eq (tgt := 1735) hx hb dL_law_1524 (by decide) (fun hc => ?_) (fun hc => absurd (by decide) hc)
      exact law_tail (D := D) l C0 hN hA hbA hA2 (Nat.le_of_ble_eq_true rfl) (Nat.le_of_ble_eq_true rfl) hS hl
    ·
      refine lv_iconst (v := 1) hx hb dL_law_1516 (by decide) ?_
      refine lv_goto (tgt := 1521) hx hb dL_law_1517 (by decide) ?_
      have hPc := hP.sub (ws' := [(m0, .inr (11, fM ma 0 0 0 0 0)), (ma 3, .inl (cm 3, 85, .inr (.inl (fun _ => 0))))]) [6, 8] rfl
      have hKc := hK.sub (tys' := [(cm 3, .long)]) [3] rfl
      have hDc := hD.sub (ws' := [(m0, .inr (11, fM ma 0 0 0 0 0)), (ma 3, .inl (cm 3, 85, .inr (.inl (fun _ => 0))))]) [6, 8] (by decide) rfl
      have hFc := va_free (wc := [(m0, .inr (11, fM ma 0 0 0 0 0)), (ma 3, .inl (cm 3, 85, .inr (.inl (fun _ => 0))))]) hD hS hA [6, 8] rfl
      refine va_calli (va_runV (As := [.int (xs 1), .int (xs 2), .int 1]) (rest := [.int (-2)]) ⟨hx, hb, hml, hown, hts⟩ (c_X11_cut l D _ m0 ma (cm 3) 0 0 0 0 0 (xs 1) (xs 2) 1) (cwV 3 hts g_L_c_X11_cut_145 rfl rfl rfl (by decide +kernel) ⟨(Nat.le_of_ble_eq_true rfl), (Nat.le_of_ble_eq_true rfl)⟩) (PcW_V (q0 := 0) hPc hKc hDc rfl rfl) rfl rfl hl.1 rfl (lv_room (Nat.le_of_ble_eq_true rfl)) dL_law_1521 ⟨(Nat.le_of_ble_eq_true rfl), (Nat.le_of_ble_eq_true rfl)⟩) hS (fun q _ h => hFc q h) hFc (fun r27 uu tt H locs htt hvm hw hB hz1 hk1 hS => ?_)
      obtain ⟨hP, hD⟩ := va_join (wr := [(x0, .inr (10, [.ref (ca 0), .ref (ca 1), .int 0, .ref (ca 3), .ref (ca 4), .ref (ca 5), .ref (ca 6)])), (ca 0, .inl (cc 0, 4, .inr (.inr (.inr (.inr (fun _ => none)))))), (ca 1, .inl (cc 1, 1400, .inl (fun _ => 0))), (ca 4, .inr (1, [.int 0, .ref qi])), (ca 5, .inr (6, [.int 0, .int 0, .int 0, .ref (qp 3), .ref (qp 4), .int 0, .int 0, .int 0, .int 0, .int 0, .int 0, .int 0, .ref (qp 12), .int 0, .ref (qp 14)])), (ca 6, .inr (4, [.int 0, .int 0, .int 0, .int 0, .int 0, .ref (qm 5), .int 0, .ref (qm 7)])), (ma 1, .inl (cm 1, 1400, .inl (fun _ => 0))), (ma 8, .inl (cm 8, 10240, .inl (fun _ => 0))), (ma 9, .inl (cm 9, 10240, .inl (fun _ => 0)))]) (w1 := []) hP hD [6, 8] [0, 1, 2, 3, 4, 5, 7, 9, 10] rfl rfl (by decide) (by decide) hk1 hFc va_P_nil va_D_nil
      have hP : va_P D vwCl [(x0, .inr (10, [.ref (ca 0), .ref (ca 1), .int 0, .ref (ca 3), .ref (ca 4), .ref (ca 5), .ref (ca 6)])), (ca 0, .inl (cc 0, 4, .inr (.inr (.inr (.inr (fun _ => none)))))), (ca 1, .inl (cc 1, 1400, .inl (fun _ => 0))), (ca 4, .inr (1, [.int 0, .ref qi])), (ca 5, .inr (6, [.int 0, .int 0, .int 0, .ref (qp 3), .ref (qp 4), .int 0, .int 0, .int 0, .int 0, .int 0, .int 0, .int 0, .ref (qp 12), .int 0, .ref (qp 14)])), (ca 6, .inr (4, [.int 0, .int 0, .int 0, .int 0, .int 0, .ref (qm 5), .int 0, .ref (qm 7)])), (ma 1, .inl (cm 1, 1400, .inl (fun _ => 0))), (ma 8, .inl (cm 8, 10240, .inl (fun _ => 0))), (ma 9, .inl (cm 9, 10240, .inl (fun _ => 0)))] H := hP
      have hD : va_D A [(x0, .inr (10, [.ref (ca 0), .ref (ca 1), .int 0, .ref (ca 3), .ref (ca 4), .ref (ca 5), .ref (ca 6)])), (ca 0, .inl (cc 0, 4, .inr (.inr (.inr (.inr (fun _ => none)))))), (ca 1, .inl (cc 1, 1400, .inl (fun _ => 0))), (ca 4, .inr (1, [.int 0, .ref qi])), (ca 5, .inr (6, [.int 0, .int 0, .int 0, .ref (qp 3), .ref (qp 4), .int 0, .int 0, .int 0, .int 0, .int 0, .int 0, .int 0, .ref (qp 12), .int 0, .ref (qp 14)])), (ca 6, .inr (4, [.int 0, .int 0, .int 0, .int 0, .int 0, .ref (qm 5), .int 0, .ref (qm 7)])), (ma 1, .inl (cm 1, 1400, .inl (fun _ => 0))), (ma 8, .inl (cm 8, 10240, .inl (fun _ => 0))), (ma 9, .inl (cm 9, 10240, .inl (fun _ => 0)))] := hD
      try dsimp only at hw
      clear hB hz1 hk1 hFc hPc hKc hDc
      obtain rfl : r27 = (-2) := hw
      refine lv_icmp_eq (tgt := 1735) hx hb dL_law_1524 (by decide) (fun hc => ?_) (fun hc => absurd (by decide) hc)
      exact law_tail (D := D) l C0 hN hA hbA hA2 (Nat.le_of_ble_eq_true rfl) (Nat.le_of_ble_eq_true rfl) hS hl

set_option maxHeartbeats 4000000 in
set_option maxRecDepth 100000 in
theorem law_case_29 {p : Program} {e : Env} {s : State} {m : MethodId} {below : List Frame} {meth : Method} {c : Code} (l : Launch) {b : Nat} {xs : Nat → Int32} {D : va_G} {A : Nat → Prop} (C0 : lw_At p s m meth c b 7 xs) (hN : NN s) (hA : ∀ q, s.heap.size ≤ q → A q) (hbA : ¬ A b) (hA2 : ∀ q, A q → s.heap.size ≤ q) (x0 m0 : Nat) (ca : Nat → Nat) (cc : Nat → ClassId) (qi : Nat) (qp qm : Nat → Nat) (ma : Nat → Nat) (cm : Nat → ClassId) (H : Heap) (locs : List Loc) (hK : va_K D vwCl [(cc 0, .object RX9), (cc 1, .int), (cm 1, .byte), (cm 3, .long), (cm 8, .int), (cm 9, .int)] s) (hP : va_P D vwCl [(x0, .inr (10, [.ref (ca 0), .ref (ca 1), .int 0, .ref (ca 3), .ref (ca 4), .ref (ca 5), .ref (ca 6)])), (ca 0, .inl (cc 0, 4, .inr (.inr (.inr (.inr (fun _ => none)))))), (ca 1, .inl (cc 1, 1400, .inl (fun _ => 0))), (ca 4, .inr (1, [.int 0, .ref qi])), (ca 5, .inr (6, [.int 0, .int 0, .int 0, .ref (qp 3), .ref (qp 4), .int 0, .int 0, .int 0, .int 0, .int 0, .int 0, .int 0, .ref (qp 12), .int 0, .ref (qp 14)])), (ca 6, .inr (4, [.int 0, .int 0, .int 0, .int 0, .int 0, .ref (qm 5), .int 0, .ref (qm 7)])), (m0, .inr (11, fM ma 0 0 0 0 0)), (ma 1, .inl (cm 1, 1400, .inl (fun _ => 0))), (ma 3, .inl (cm 3, 85, .inr (.inl (fun _ => 0)))), (ma 8, .inl (cm 8, 10240, .inl (fun _ => 0))), (ma 9, .inl (cm 9, 10240, .inl (fun _ => 0)))] H) (hD : va_D A [(x0, .inr (10, [.ref (ca 0), .ref (ca 1), .int 0, .ref (ca 3), .ref (ca 4), .ref (ca 5), .ref (ca 6)])), (ca 0, .inl (cc 0, 4, .inr (.inr (.inr (.inr (fun _ => none)))))), (ca 1, .inl (cc 1, 1400, .inl (fun _ => 0))), (ca 4, .inr (1, [.int 0, .ref qi])), (ca 5, .inr (6, [.int 0, .int 0, .int 0, .ref (qp 3), .ref (qp 4), .int 0, .int 0, .int 0, .int 0, .int 0, .int 0, .int 0, .ref (qp 12), .int 0, .ref (qp 14)])), (ca 6, .inr (4, [.int 0, .int 0, .int 0, .int 0, .int 0, .ref (qm 5), .int 0, .ref (qm 7)])), (m0, .inr (11, fM ma 0 0 0 0 0)), (ma 1, .inl (cm 1, 1400, .inl (fun _ => 0))), (ma 3, .inl (cm 3, 85, .inr (.inl (fun _ => 0)))), (ma 8, .inl (cm 8, 10240, .inl (fun _ => 0))), (ma 9, .inl (cm 9, 10240, .inl (fun _ => 0)))]) (hS : va_S A s.heap H locs) (ls : Array Slot) (hl : lv_has ls 4 [(3, .int 0), (2, .ref m0), (1, .ref x0), (0, .ref b)]) : W p l e room_1 s m #[Value.ref b] below meth c H locs 46 68513 (lw_Z below #[Value.ref b] s) (F0 m 1529 ls []) := by
  have C0 := C0
  have C1 := C0
  obtain ⟨hx, hb, hr, hml, hown, hts, hX, hbl, hlocks, hgv⟩ := C1
  have hown : s.vm.findClass RL = some m.cls := hown
  have hin : ∀ k : Nat, k < 7 → vp_in (nI k) 7 := fun k hk => vp_in_nI hk (by decide)
  refine lv_aload_n hx hb dL_law_1529 rfl (lv_at hl 2 rfl) ?_
  refine lv_aload_n hx hb dL_law_1530 rfl (lv_at hl 3 rfl) ?_
  refine lv_iload_n hx hb dL_law_1531 rfl (lv_at hl 0 rfl) ?_
  refine lv_iconst (v := 1) hx hb dL_law_1532 (by decide) ?_
  refine lv_iadd hx hb dL_law_1533 ?_
  refine lv_topi (fun v1 ev1 => ?_)
  obtain rfl : v1 = 1 := ev1.trans (by decide)
  refine va_sld hx hb hX hbl hbA hS (hin 1 (by omega)) dL_law_1534 ?_
  refine lv_topi (fun v2 ev2 => ?_)
  obtain rfl : v2 = xs 1 := ev2
  refine lv_aload_n hx hb dL_law_1535 rfl (lv_at hl 3 rfl) ?_
  refine lv_iload_n hx hb dL_law_1536 rfl (lv_at hl 0 rfl) ?_
  refine lv_iconst (v := 2) hx hb dL_law_1537 (by decide) ?_
  refine lv_iadd hx hb dL_law_1538 ?_
  refine lv_topi (fun v3 ev3 => ?_)
  obtain rfl : v3 = 2 := ev3.trans (by decide)
  refine va_sld hx hb hX hbl hbA hS (hin 2 (by omega)) dL_law_1539 ?_
  refine lv_topi (fun v4 ev4 => ?_)
  obtain rfl : v4 = xs 2 := ev4
  have hPc := hP.sub (ws' := [(x0, .inr (10, [.ref (ca 0), .ref (ca 1), .int 0, .ref (ca 3), .ref (ca 4), .ref (ca 5), .ref (ca 6)])), (ca 0, .inl (cc 0, 4, .inr (.inr (.inr (.inr (fun _ => none))))))]) [0, 1] rfl
  have hKc := hK.sub (tys' := [(cc 0, .object RX9)]) [0] rfl
  have hFc := va_free0 hS hA
  refine va_calll (va_runV (As := [.int (xs 1), .int (xs 2)]) (rest := []) ⟨hx, hb, hml, hown, hts⟩ (c_X10_values l D _ x0 ca (cc 0) 0 (xs 1) (xs 2)) (cwV 2 hts g_L_c_X10_values_146 rfl rfl rfl (by decide +kernel) ⟨(Nat.le_of_ble_eq_true rfl), (Nat.le_of_ble_eq_true rfl)⟩) (PcR_V (q0 := 0) hPc hKc rfl rfl) rfl rfl hl.1 rfl (lv_room (Nat.le_of_ble_eq_true rfl)) dL_law_1540 ⟨(Nat.le_of_ble_eq_true rfl), (Nat.le_of_ble_eq_true rfl)⟩) hS (fun q _ h => hFc q h) hFc (fun r5 uu tt H locs htt hvm hw hB hz1 hk1 hS => ?_)
  have hP := va_keep hP hk1
  try dsimp only at hw
  clear hB hz1 hk1 hFc hPc hKc
  obtain rfl : r5 = (-1000000000000000) := hw
  refine lv_aload_n hx hb dL_law_1543 rfl (lv_at hl 1 rfl) ?_
  refine lv_aload_n hx hb dL_law_1544 rfl (lv_at hl 3 rfl) ?_
  refine lv_iload_n hx hb dL_law_1545 rfl (lv_at hl 0 rfl) ?_
  refine lv_iconst (v := 1) hx hb dL_law_1546 (by decide) ?_
  refine lv_iadd hx hb dL_law_1547 ?_
  refine lv_topi (fun v6 ev6 => ?_)
  obtain rfl : v6 = 1 := ev6.trans (by decide)
  refine va_sld hx hb hX hbl hbA hS (hin 1 (by omega)) dL_law_1548 ?_
  refine lv_topi (fun v7 ev7 => ?_)
  obtain rfl : v7 = xs 1 := ev7
  refine lv_aload_n hx hb dL_law_1549 rfl (lv_at hl 3 rfl) ?_
  refine lv_iload_n hx hb dL_law_1550 rfl (lv_at hl 0 rfl) ?_
  refine lv_iconst (v := 2) hx hb dL_law_1551 (by decide) ?_
  refine lv_iadd hx hb dL_law_1552 ?_
  refine lv_topi (fun v8 ev8 => ?_)
  obtain rfl : v8 = 2 := ev8.trans (by decide)
  refine va_sld hx hb hX hbl hbA hS (hin 2 (by omega)) dL_law_1553 ?_
  refine lv_topi (fun v9 ev9 => ?_)
  obtain rfl : v9 = xs 2 := ev9
  have hPc := hP.sub (ws' := [(m0, .inr (11, fM ma 0 0 0 0 0)), (ma 3, .inl (cm 3, 85, .inr (.inl (fun _ => 0))))]) [6, 8] rfl
  have hKc := hK.sub (tys' := [(cm 3, .long)]) [3] rfl
  have hDc := hD.sub (ws' := [(m0, .inr (11, fM ma 0 0 0 0 0)), (ma 3, .inl (cm 3, 85, .inr (.inl (fun _ => 0))))]) [6, 8] (by decide) rfl
  have hFc := va_free (wc := [(m0, .inr (11, fM ma 0 0 0 0 0)), (ma 3, .inl (cm 3, 85, .inr (.inl (fun _ => 0))))]) hD hS hA [6, 8] rfl
  refine va_calll (va_runV (As := [.int (xs 1), .int (xs 2)]) (rest := [.long (-1000000000000000)]) ⟨hx, hb, hml, hown, hts⟩ (c_X11_values l D _ m0 ma (cm 3) 0 0 0 0 0 (xs 1) (xs 2)) (cwV 2 hts g_L_c_X11_values_149 rfl rfl rfl (by decide +kernel) ⟨(Nat.le_of_ble_eq_true rfl), (Nat.le_of_ble_eq_true rfl)⟩) (PcW_V (q0 := 0) hPc hKc hDc rfl rfl) rfl rfl hl.1 rfl (lv_room (Nat.le_of_ble_eq_true rfl)) dL_law_1554 ⟨(Nat.le_of_ble_eq_true rfl), (Nat.le_of_ble_eq_true rfl)⟩) hS (fun q _ h => hFc q h) hFc (fun r10 uu tt H locs htt hvm hw hB hz1 hk1 hS => ?_)
  obtain ⟨hP, hD⟩ := va_join (wr := [(x0, .inr (10, [.ref (ca 0), .ref (ca 1), .int 0, .ref (ca 3), .ref (ca 4), .ref (ca 5), .ref (ca 6)])), (ca 0, .inl (cc 0, 4, .inr (.inr (.inr (.inr (fun _ => none)))))), (ca 1, .inl (cc 1, 1400, .inl (fun _ => 0))), (ca 4, .inr (1, [.int 0, .ref qi])), (ca 5, .inr (6, [.int 0, .int 0, .int 0, .ref (qp 3), .ref (qp 4), .int 0, .int 0, .int 0, .int 0, .int 0, .int 0, .int 0, .ref (qp 12), .int 0, .ref (qp 14)])), (ca 6, .inr (4, [.int 0, .int 0, .int 0, .int 0, .int 0, .ref (qm 5), .int 0, .ref (qm 7)])), (ma 1, .inl (cm 1, 1400, .inl (fun _ => 0))), (ma 8, .inl (cm 8, 10240, .inl (fun _ => 0))), (ma 9, .inl (cm 9, 10240, .inl (fun _ => 0)))]) (w1 := []) hP hD [6, 8] [0, 1, 2, 3, 4, 5, 7, 9, 10] rfl rfl (by decide) (by decide) hk1 hFc va_P_nil va_D_nil
  have hP : va_P D vwCl [(x0, .inr (10, [.ref (ca 0), .ref (ca 1), .int 0, .ref (ca 3), .ref (ca 4), .ref (ca 5), .ref (ca 6)])), (ca 0, .inl (cc 0, 4, .inr (.inr (.inr (.inr (fun _ => none)))))), (ca 1, .inl (cc 1, 1400, .inl (fun _ => 0))), (ca 4, .inr (1, [.int 0, .ref qi])), (ca 5, .inr (6, [.int 0, .int 0, .int 0, .ref (qp 3), .ref (qp 4), .int 0, .int 0, .int 0, .int 0, .int 0, .int 0, .int 0, .ref (qp 12), .int 0, .ref (qp 14)])), (ca 6, .inr (4, [.int 0, .int 0, .int 0, .int 0, .int 0, .ref (qm 5), .int 0, .ref (qm 7)])), (ma 1, .inl (cm 1, 1400, .inl (fun _ => 0))), (ma 8, .inl (cm 8, 10240, .inl (fun _ => 0))), (ma 9, .inl (cm 9, 10240, .inl (fun _ => 0)))] H := hP
  have hD : va_D A [(x0, .inr (10, [.ref (ca 0), .ref (ca 1), .int 0, .ref (ca 3), .ref (ca 4), .ref (ca 5), .ref (ca 6)])), (ca 0, .inl (cc 0, 4, .inr (.inr (.inr (.inr (fun _ => none)))))), (ca 1, .inl (cc 1, 1400, .inl (fun _ => 0))), (ca 4, .inr (1, [.int 0, .ref qi])), (ca 5, .inr (6, [.int 0, .int 0, .int 0, .ref (qp 3), .ref (qp 4), .int 0, .int 0, .int 0, .int 0, .int 0, .int 0, .int 0, .ref (qp 12), .int 0, .ref (qp 14)])), (ca 6, .inr (4, [.int 0, .int 0, .int 0, .int 0, .int 0, .ref (qm 5), .int 0, .ref (qm 7)])), (ma 1, .inl (cm 1, 1400, .inl (fun _ => 0))), (ma 8, .inl (cm 8, 10240, .inl (fun _ => 0))), (ma 9, .inl (cm 9, 10240, .inl (fun _ => 0)))] := hD
  try dsimp only at hw
  clear hB hz1 hk1 hFc hPc hKc hDc
  obtain rfl : r10 = (-1000000000000000) := hw
  refine W.lcmp hx hb dL_law_1557 ?_
  refine lv_topi (fun v11 ev11 => ?_)
  obtain rfl : v11 = 0 := ev11.trans (by decide)
  refine lv_if_eq (tgt := 1735) hx hb dL_law_1558 (by decide) (fun hc => ?_) (fun hc => absurd (by decide) hc)
  exact law_tail (D := D) l C0 hN hA hbA hA2 (Nat.le_of_ble_eq_true rfl) (Nat.le_of_ble_eq_true rfl) hS hl

set_option maxHeartbeats 4000000 in
set_option maxRecDepth 100000 in
theorem law_case_30 {p : Program} {e : Env} {s : State} {m : MethodId} {below : List Frame} {meth : Method} {c : Code} (l : Launch) {b : Nat} {xs : Nat → Int32} {D : va_G} {A : Nat → Prop} (C0 : lw_At p s m meth c b 7 xs) (hN : NN s) (hA : ∀ q, s.heap.size ≤ q → A q) (hbA : ¬ A b) (hA2 : ∀ q, A q → s.heap.size ≤ q) (x0 m0 : Nat) (ca : Nat → Nat) (cc : Nat → ClassId) (qi : Nat) (qp qm : Nat → Nat) (ma : Nat → Nat) (cm : Nat → ClassId) (H : Heap) (locs : List Loc) (hK : va_K D vwCl [(cc 0, .object RX9), (cc 1, .int), (cm 1, .byte), (cm 3, .long), (cm 8, .int), (cm 9, .int)] s) (hP : va_P D vwCl [(x0, .inr (10, [.ref (ca 0), .ref (ca 1), .int 0, .ref (ca 3), .ref (ca 4), .ref (ca 5), .ref (ca 6)])), (ca 0, .inl (cc 0, 4, .inr (.inr (.inr (.inr (fun _ => none)))))), (ca 1, .inl (cc 1, 1400, .inl (fun _ => 0))), (ca 4, .inr (1, [.int 0, .ref qi])), (ca 5, .inr (6, [.int 0, .int 0, .int 0, .ref (qp 3), .ref (qp 4), .int 0, .int 0, .int 0, .int 0, .int 0, .int 0, .int 0, .ref (qp 12), .int 0, .ref (qp 14)])), (ca 6, .inr (4, [.int 0, .int 0, .int 0, .int 0, .int 0, .ref (qm 5), .int 0, .ref (qm 7)])), (m0, .inr (11, fM ma 0 0 0 0 0)), (ma 1, .inl (cm 1, 1400, .inl (fun _ => 0))), (ma 3, .inl (cm 3, 85, .inr (.inl (fun _ => 0)))), (ma 8, .inl (cm 8, 10240, .inl (fun _ => 0))), (ma 9, .inl (cm 9, 10240, .inl (fun _ => 0)))] H) (hD : va_D A [(x0, .inr (10, [.ref (ca 0), .ref (ca 1), .int 0, .ref (ca 3), .ref (ca 4), .ref (ca 5), .ref (ca 6)])), (ca 0, .inl (cc 0, 4, .inr (.inr (.inr (.inr (fun _ => none)))))), (ca 1, .inl (cc 1, 1400, .inl (fun _ => 0))), (ca 4, .inr (1, [.int 0, .ref qi])), (ca 5, .inr (6, [.int 0, .int 0, .int 0, .ref (qp 3), .ref (qp 4), .int 0, .int 0, .int 0, .int 0, .int 0, .int 0, .int 0, .ref (qp 12), .int 0, .ref (qp 14)])), (ca 6, .inr (4, [.int 0, .int 0, .int 0, .int 0, .int 0, .ref (qm 5), .int 0, .ref (qm 7)])), (m0, .inr (11, fM ma 0 0 0 0 0)), (ma 1, .inl (cm 1, 1400, .inl (fun _ => 0))), (ma 3, .inl (cm 3, 85, .inr (.inl (fun _ => 0)))), (ma 8, .inl (cm 8, 10240, .inl (fun _ => 0))), (ma 9, .inl (cm 9, 10240, .inl (fun _ => 0)))]) (hS : va_S A s.heap H locs) (ls : Array Slot) (hl : lv_has ls 4 [(3, .int 0), (2, .ref m0), (1, .ref x0), (0, .ref b)]) : W p l e room_1 s m #[Value.ref b] below meth c H locs 46 68513 (lw_Z below #[Value.ref b] s) (F0 m 1563 ls []) := by
  have C0 := C0
  have C1 := C0
  obtain ⟨hx, hb, hr, hml, hown, hts, hX, hbl, hlocks, hgv⟩ := C1
  have hown : s.vm.findClass RL = some m.cls := hown
  have hin : ∀ k : Nat, k < 7 → vp_in (nI k) 7 := fun k hk => vp_in_nI hk (by decide)
  refine lv_aload_n hx hb dL_law_1563 rfl (lv_at hl 2 rfl) ?_
  refine lv_aload_n hx hb dL_law_1564 rfl (lv_at hl 3 rfl) ?_
  refine lv_iload_n hx hb dL_law_1565 rfl (lv_at hl 0 rfl) ?_
  refine lv_iconst (v := 1) hx hb dL_law_1566 (by decide) ?_
  refine lv_iadd hx hb dL_law_1567 ?_
  refine lv_topi (fun v1 ev1 => ?_)
  obtain rfl : v1 = 1 := ev1.trans (by decide)
  refine va_sld hx hb hX hbl hbA hS (hin 1 (by omega)) dL_law_1568 ?_
  refine lv_topi (fun v2 ev2 => ?_)
  obtain rfl : v2 = xs 1 := ev2
  have hPc := hP.sub (ws' := [(x0, .inr (10, [.ref (ca 0), .ref (ca 1), .int 0, .ref (ca 3), .ref (ca 4), .ref (ca 5), .ref (ca 6)])), (ca 0, .inl (cc 0, 4, .inr (.inr (.inr (.inr (fun _ => none))))))]) [0, 1] rfl
  have hKc := hK.sub (tys' := [(cc 0, .object RX9)]) [0] rfl
  have hFc := va_free0 hS hA
  refine va_calli (va_runV (As := [.int (xs 1)]) (rest := []) ⟨hx, hb, hml, hown, hts⟩ (c_X10_run l D _ x0 ca (cc 0) 0 (xs 1)) (cwV 1 hts g_L_c_X10_run_150 rfl rfl rfl (by decide +kernel) ⟨(Nat.le_of_ble_eq_true rfl), (Nat.le_of_ble_eq_true rfl)⟩) (PcR_V (q0 := 0) hPc hKc rfl rfl) rfl rfl hl.1 rfl (lv_room (Nat.le_of_ble_eq_true rfl)) dL_law_1569 ⟨(Nat.le_of_ble_eq_true rfl), (Nat.le_of_ble_eq_true rfl)⟩) hS (fun q _ h => hFc q h) hFc (fun r3 uu tt H locs htt hvm hw hB hz1 hk1 hS => ?_)
  have hP := va_keep hP hk1
  try dsimp only at hw
  clear hB hz1 hk1 hFc hPc hKc
  obtain rfl : r3 = (-2) := hw
  refine lv_aload_n hx hb dL_law_1572 rfl (lv_at hl 1 rfl) ?_
  refine lv_aload_n hx hb dL_law_1573 rfl (lv_at hl 3 rfl) ?_
  refine lv_iload_n hx hb dL_law_1574 rfl (lv_at hl 0 rfl) ?_
  refine lv_iconst (v := 1) hx hb dL_law_1575 (by decide) ?_
  refine lv_iadd hx hb dL_law_1576 ?_
  refine lv_topi (fun v4 ev4 => ?_)
  obtain rfl : v4 = 1 := ev4.trans (by decide)
  refine va_sld hx hb hX hbl hbA hS (hin 1 (by omega)) dL_law_1577 ?_
  refine lv_topi (fun v5 ev5 => ?_)
  obtain rfl : v5 = xs 1 := ev5
  have hPc := hP.sub (ws' := [(m0, .inr (11, fM ma 0 0 0 0 0)), (ma 3, .inl (cm 3, 85, .inr (.inl (fun _ => 0))))]) [6, 8] rfl
  have hKc := hK.sub (tys' := [(cm 3, .long)]) [3] rfl
  have hDc := hD.sub (ws' := [(m0, .inr (11, fM ma 0 0 0 0 0)), (ma 3, .inl (cm 3, 85, .inr (.inl (fun _ => 0))))]) [6, 8] (by decide) rfl
  have hFc := va_free (wc := [(m0, .inr (11, fM ma 0 0 0 0 0)), (ma 3, .inl (cm 3, 85, .inr (.inl (fun _ => 0))))]) hD hS hA [6, 8] rfl
  refine va_calli (va_runV (As := [.int (xs 1)]) (rest := [.int (-2)]) ⟨hx, hb, hml, hown, hts⟩ (c_X11_run l D _ m0 ma (cm 3) 0 0 0 0 0 (xs 1)) (cwV 1 hts g_L_c_X11_run_153 rfl rfl rfl (by decide +kernel) ⟨(Nat.le_of_ble_eq_true rfl), (Nat.le_of_ble_eq_true rfl)⟩) (PcW_V (q0 := 0) hPc hKc hDc rfl rfl) rfl rfl hl.1 rfl (lv_room (Nat.le_of_ble_eq_true rfl)) dL_law_1578 ⟨(Nat.le_of_ble_eq_true rfl), (Nat.le_of_ble_eq_true rfl)⟩) hS (fun q _ h => hFc q h) hFc (fun r6 uu tt H locs htt hvm hw hB hz1 hk1 hS => ?_)
  obtain ⟨hP, hD⟩ := va_join (wr := [(x0, .inr (10, [.ref (ca 0), .ref (ca 1), .int 0, .ref (ca 3), .ref (ca 4), .ref (ca 5), .ref (ca 6)])), (ca 0, .inl (cc 0, 4, .inr (.inr (.inr (.inr (fun _ => none)))))), (ca 1, .inl (cc 1, 1400, .inl (fun _ => 0))), (ca 4, .inr (1, [.int 0, .ref qi])), (ca 5, .inr (6, [.int 0, .int 0, .int 0, .ref (qp 3), .ref (qp 4), .int 0, .int 0, .int 0, .int 0, .int 0, .int 0, .int 0, .ref (qp 12), .int 0, .ref (qp 14)])), (ca 6, .inr (4, [.int 0, .int 0, .int 0, .int 0, .int 0, .ref (qm 5), .int 0, .ref (qm 7)])), (ma 1, .inl (cm 1, 1400, .inl (fun _ => 0))), (ma 8, .inl (cm 8, 10240, .inl (fun _ => 0))), (ma 9, .inl (cm 9, 10240, .inl (fun _ => 0)))]) (w1 := []) hP hD [6, 8] [0, 1, 2, 3, 4, 5, 7, 9, 10] rfl rfl (by decide) (by decide) hk1 hFc va_P_nil va_D_nil
  have hP : va_P D vwCl [(x0, .inr (10, [.ref (ca 0), .ref (ca 1), .int 0, .ref (ca 3), .ref (ca 4), .ref (ca 5), .ref (ca 6)])), (ca 0, .inl (cc 0, 4, .inr (.inr (.inr (.inr (fun _ => none)))))), (ca 1, .inl (cc 1, 1400, .inl (fun _ => 0))), (ca 4, .inr (1, [.int 0, .ref qi])), (ca 5, .inr (6, [.int 0, .int 0, .int 0, .ref (qp 3), .ref (qp 4), .int 0, .int 0, .int 0, .int 0, .int 0, .int 0, .int 0, .ref (qp 12), .int 0, .ref (qp 14)])), (ca 6, .inr (4, [.int 0, .int 0, .int 0, .int 0, .int 0, .ref (qm 5), .int 0, .ref (qm 7)])), (ma 1, .inl (cm 1, 1400, .inl (fun _ => 0))), (ma 8, .inl (cm 8, 10240, .inl (fun _ => 0))), (ma 9, .inl (cm 9, 10240, .inl (fun _ => 0)))] H := hP
  have hD : va_D A [(x0, .inr (10, [.ref (ca 0), .ref (ca 1), .int 0, .ref (ca 3), .ref (ca 4), .ref (ca 5), .ref (ca 6)])), (ca 0, .inl (cc 0, 4, .inr (.inr (.inr (.inr (fun _ => none)))))), (ca 1, .inl (cc 1, 1400, .inl (fun _ => 0))), (ca 4, .inr (1, [.int 0, .ref qi])), (ca 5, .inr (6, [.int 0, .int 0, .int 0, .ref (qp 3), .ref (qp 4), .int 0, .int 0, .int 0, .int 0, .int 0, .int 0, .int 0, .ref (qp 12), .int 0, .ref (qp 14)])), (ca 6, .inr (4, [.int 0, .int 0, .int 0, .int 0, .int 0, .ref (qm 5), .int 0, .ref (qm 7)])), (ma 1, .inl (cm 1, 1400, .inl (fun _ => 0))), (ma 8, .inl (cm 8, 10240, .inl (fun _ => 0))), (ma 9, .inl (cm 9, 10240, .inl (fun _ => 0)))] := hD
  try dsimp only at hw
  clear hB hz1 hk1 hFc hPc hKc hDc
  obtain rfl : r6 = (-2) := hw
  refine lv_icmp_eq (tgt := 1735) hx hb dL_law_1581 (by decide) (fun hc => ?_) (fun hc => absurd (by decide) hc)
  exact law_tail (D := D) l C0 hN hA hbA hA2 (Nat.le_of_ble_eq_true rfl) (Nat.le_of_ble_eq_true rfl) hS hl
