set_option maxHeartbeats 4000000 in
set_option maxRecDepth 100000 in
theorem law_case_0 {p : Program} {e : Env} {s : State} {m : MethodId} {below : List Frame} {meth : Method} {c : Code} (l : Launch) {b : Nat} {xs : Nat → Int32} {D : va_G} {A : Nat → Prop} (C0 : lw_At p s m meth c b 7 xs) (hN : NN s) (hA : ∀ q, s.heap.size ≤ q → A q) (hbA : ¬ A b) (hA2 : ∀ q, A q → s.heap.size ≤ q) (x0 m0 : Nat) (ca : Nat → Nat) (cc : Nat → ClassId) (qi : Nat) (qp qm : Nat → Nat) (ma : Nat → Nat) (cm : Nat → ClassId) (H : Heap) (locs : List Loc) (hK : va_K D vwCl [(cc 0, .object RX9), (cc 1, .int), (cm 1, .byte), (cm 3, .long), (cm 8, .int), (cm 9, .int)] s) (hP : va_P D vwCl [(x0, .inr (10, [.ref (ca 0), .ref (ca 1), .int 0, .ref (ca 3), .ref (ca 4), .ref (ca 5), .ref (ca 6)])), (ca 0, .inl (cc 0, 4, .inr (.inr (.inr (.inr (fun _ => none)))))), (ca 1, .inl (cc 1, 1400, .inl (fun _ => 0))), (ca 4, .inr (1, [.int 0, .ref qi])), (ca 5, .inr (6, [.int 0, .int 0, .int 0, .ref (qp 3), .ref (qp 4), .int 0, .int 0, .int 0, .int 0, .int 0, .int 0, .int 0, .ref (qp 12), .int 0, .ref (qp 14)])), (ca 6, .inr (4, [.int 0, .int 0, .int 0, .int 0, .int 0, .ref (qm 5), .int 0, .ref (qm 7)])), (m0, .inr (11, fM ma 0 0 0 0 0)), (ma 1, .inl (cm 1, 1400, .inl (fun _ => 0))), (ma 3, .inl (cm 3, 85, .inr (.inl (fun _ => 0)))), (ma 8, .inl (cm 8, 10240, .inl (fun _ => 0))), (ma 9, .inl (cm 9, 10240, .inl (fun _ => 0)))] H) (hD : va_D A [(x0, .inr (10, [.ref (ca 0), .ref (ca 1), .int 0, .ref (ca 3), .ref (ca 4), .ref (ca 5), .ref (ca 6)])), (ca 0, .inl (cc 0, 4, .inr (.inr (.inr (.inr (fun _ => none)))))), (ca 1, .inl (cc 1, 1400, .inl (fun _ => 0))), (ca 4, .inr (1, [.int 0, .ref qi])), (ca 5, .inr (6, [.int 0, .int 0, .int 0, .ref (qp 3), .ref (qp 4), .int 0, .int 0, .int 0, .int 0, .int 0, .int 0, .int 0, .ref (qp 12), .int 0, .ref (qp 14)])), (ca 6, .inr (4, [.int 0, .int 0, .int 0, .int 0, .int 0, .ref (qm 5), .int 0, .ref (qm 7)])), (m0, .inr (11, fM ma 0 0 0 0 0)), (ma 1, .inl (cm 1, 1400, .inl (fun _ => 0))), (ma 3, .inl (cm 3, 85, .inr (.inl (fun _ => 0)))), (ma 8, .inl (cm 8, 10240, .inl (fun _ => 0))), (ma 9, .inl (cm 9, 10240, .inl (fun _ => 0)))]) (hS : va_S A s.heap H locs) (ls : Array Slot) (hl : lv_has ls 4 [(3, .int 0), (2, .ref m0), (1, .ref x0), (0, .ref b)]) : W p l e room_1 s m #[Value.ref b] below meth c H locs 46 68513 (lw_Z below #[Value.ref b] s) (F0 m 196 ls []) := by
  have C0 := C0
  have C1 := C0
  obtain ⟨hx, hb, hr, hml, hown, hts, hX, hbl, hlocks, hgv⟩ := C1
  have hown : s.vm.findClass RL = some m.cls := hown
  have hin : ∀ k : Nat, k < 7 → vp_in (nI k) 7 := fun k hk => vp_in_nI hk (by decide)
  refine lv_aload_n hx hb dL_law_196 rfl (lv_at hl 2 rfl) ?_
  refine lv_aload_n hx hb dL_law_197 rfl (lv_at hl 3 rfl) ?_
  refine lv_iload_n hx hb dL_law_198 rfl (lv_at hl 0 rfl) ?_
  refine lv_iconst (v := 1) hx hb dL_law_199 (by decide) ?_
  refine lv_iadd hx hb dL_law_200 ?_
  refine lv_topi (fun v1 ev1 => ?_)
  obtain rfl : v1 = 1 := ev1.trans (by decide)
  refine va_sld hx hb hX hbl hbA hS (hin 1 (by omega)) dL_law_201 ?_
  refine lv_topi (fun v2 ev2 => ?_)
  obtain rfl : v2 = xs 1 := ev2
  refine lv_aload_n hx hb dL_law_202 rfl (lv_at hl 3 rfl) ?_
  refine lv_iload_n hx hb dL_law_203 rfl (lv_at hl 0 rfl) ?_
  refine lv_iconst (v := 2) hx hb dL_law_204 (by decide) ?_
  refine lv_iadd hx hb dL_law_205 ?_
  refine lv_topi (fun v3 ev3 => ?_)
  obtain rfl : v3 = 2 := ev3.trans (by decide)
  refine va_sld hx hb hX hbl hbA hS (hin 2 (by omega)) dL_law_206 ?_
  refine lv_topi (fun v4 ev4 => ?_)
  obtain rfl : v4 = xs 2 := ev4
  refine lv_aload_n hx hb dL_law_207 rfl (lv_at hl 3 rfl) ?_
  refine lv_iload_n hx hb dL_law_208 rfl (lv_at hl 0 rfl) ?_
  refine lv_iconst (v := 3) hx hb dL_law_209 (by decide) ?_
  refine lv_iadd hx hb dL_law_210 ?_
  refine lv_topi (fun v5 ev5 => ?_)
  obtain rfl : v5 = 3 := ev5.trans (by decide)
  refine va_sld hx hb hX hbl hbA hS (hin 3 (by omega)) dL_law_211 ?_
  refine lv_topi (fun v6 ev6 => ?_)
  obtain rfl : v6 = xs 3 := ev6
  refine lv_aload_n hx hb dL_law_212 rfl (lv_at hl 3 rfl) ?_
  refine lv_iload_n hx hb dL_law_213 rfl (lv_at hl 0 rfl) ?_
  refine lv_iconst (v := 4) hx hb dL_law_214 (by decide) ?_
  refine lv_iadd hx hb dL_law_215 ?_
  refine lv_topi (fun v7 ev7 => ?_)
  obtain rfl : v7 = 4 := ev7.trans (by decide)
  refine va_sld hx hb hX hbl hbA hS (hin 4 (by omega)) dL_law_216 ?_
  refine lv_topi (fun v8 ev8 => ?_)
  obtain rfl : v8 = xs 4 := ev8
  refine lv_aload_n hx hb dL_law_217 rfl (lv_at hl 3 rfl) ?_
  refine lv_iload_n hx hb dL_law_218 rfl (lv_at hl 0 rfl) ?_
  refine lv_iconst (v := 5) hx hb dL_law_219 (by decide) ?_
  refine lv_iadd hx hb dL_law_220 ?_
  refine lv_topi (fun v9 ev9 => ?_)
  obtain rfl : v9 = 5 := ev9.trans (by decide)
  refine va_sld hx hb hX hbl hbA hS (hin 5 (by omega)) dL_law_221 ?_
  refine lv_topi (fun v10 ev10 => ?_)
  obtain rfl : v10 = xs 5 := ev10
  have hPc := hP.sub (ws' := [(x0, .inr (10, [.ref (ca 0), .ref (ca 1), .int 0, .ref (ca 3), .ref (ca 4), .ref (ca 5), .ref (ca 6)])), (ca 1, .inl (cc 1, 1400, .inl (fun _ => 0)))]) [0, 2] rfl
  have hKc := hK.sub (tys' := [(cc 1, .int)]) [1] rfl
  have hDc := hD.sub (ws' := [(x0, .inr (10, [.ref (ca 0), .ref (ca 1), .int 0, .ref (ca 3), .ref (ca 4), .ref (ca 5), .ref (ca 6)])), (ca 1, .inl (cc 1, 1400, .inl (fun _ => 0)))]) [0, 2] (by decide) rfl
  have hFc := va_free (wc := [(x0, .inr (10, [.ref (ca 0), .ref (ca 1), .int 0, .ref (ca 3), .ref (ca 4), .ref (ca 5), .ref (ca 6)])), (ca 1, .inl (cc 1, 1400, .inl (fun _ => 0)))]) hD hS hA [0, 2] rfl
  refine va_calli (va_runV (As := [.int (xs 1), .int (xs 2), .int (xs 3), .int (xs 4), .int (xs 5)]) (rest := []) ⟨hx, hb, hml, hown, hts⟩ (c_X10_feed l D _ x0 ca (cc 1) (xs 1) (xs 2) (xs 3) (xs 4) (xs 5)) (cwV 5 hts g_L_c_X10_feed_13 rfl rfl rfl (by decide +kernel) ⟨(Nat.le_of_ble_eq_true rfl), (Nat.le_of_ble_eq_true rfl)⟩) (PcW_V (q0 := 0) hPc hKc hDc rfl rfl) rfl rfl hl.1 rfl (lv_room (Nat.le_of_ble_eq_true rfl)) dL_law_222 ⟨(Nat.le_of_ble_eq_true rfl), (Nat.le_of_ble_eq_true rfl)⟩) hS (fun q _ h => hFc q h) hFc (fun r11 uu tt H locs htt hvm hw hB hz1 hk1 hS => ?_)
  obtain ⟨hP, hD⟩ := va_join (wr := [(ca 0, .inl (cc 0, 4, .inr (.inr (.inr (.inr (fun _ => none)))))), (ca 4, .inr (1, [.int 0, .ref qi])), (ca 5, .inr (6, [.int 0, .int 0, .int 0, .ref (qp 3), .ref (qp 4), .int 0, .int 0, .int 0, .int 0, .int 0, .int 0, .int 0, .ref (qp 12), .int 0, .ref (qp 14)])), (ca 6, .inr (4, [.int 0, .int 0, .int 0, .int 0, .int 0, .ref (qm 5), .int 0, .ref (qm 7)])), (m0, .inr (11, fM ma 0 0 0 0 0)), (ma 1, .inl (cm 1, 1400, .inl (fun _ => 0))), (ma 3, .inl (cm 3, 85, .inr (.inl (fun _ => 0)))), (ma 8, .inl (cm 8, 10240, .inl (fun _ => 0))), (ma 9, .inl (cm 9, 10240, .inl (fun _ => 0)))]) (w1 := []) hP hD [0, 2] [1, 3, 4, 5, 6, 7, 8, 9, 10] rfl rfl (by decide) (by decide) hk1 hFc va_P_nil va_D_nil
  have hP : va_P D vwCl [(ca 0, .inl (cc 0, 4, .inr (.inr (.inr (.inr (fun _ => none)))))), (ca 4, .inr (1, [.int 0, .ref qi])), (ca 5, .inr (6, [.int 0, .int 0, .int 0, .ref (qp 3), .ref (qp 4), .int 0, .int 0, .int 0, .int 0, .int 0, .int 0, .int 0, .ref (qp 12), .int 0, .ref (qp 14)])), (ca 6, .inr (4, [.int 0, .int 0, .int 0, .int 0, .int 0, .ref (qm 5), .int 0, .ref (qm 7)])), (m0, .inr (11, fM ma 0 0 0 0 0)), (ma 1, .inl (cm 1, 1400, .inl (fun _ => 0))), (ma 3, .inl (cm 3, 85, .inr (.inl (fun _ => 0)))), (ma 8, .inl (cm 8, 10240, .inl (fun _ => 0))), (ma 9, .inl (cm 9, 10240, .inl (fun _ => 0)))] H := hP
  have hD : va_D A [(ca 0, .inl (cc 0, 4, .inr (.inr (.inr (.inr (fun _ => none)))))), (ca 4, .inr (1, [.int 0, .ref qi])), (ca 5, .inr (6, [.int 0, .int 0, .int 0, .ref (qp 3), .ref (qp 4), .int 0, .int 0, .int 0, .int 0, .int 0, .int 0, .int 0, .ref (qp 12), .int 0, .ref (qp 14)])), (ca 6, .inr (4, [.int 0, .int 0, .int 0, .int 0, .int 0, .ref (qm 5), .int 0, .ref (qm 7)])), (m0, .inr (11, fM ma 0 0 0 0 0)), (ma 1, .inl (cm 1, 1400, .inl (fun _ => 0))), (ma 3, .inl (cm 3, 85, .inr (.inl (fun _ => 0)))), (ma 8, .inl (cm 8, 10240, .inl (fun _ => 0))), (ma 9, .inl (cm 9, 10240, .inl (fun _ => 0)))] := hD
  try dsimp only at hw
  clear hB hz1 hk1 hFc hPc hKc hDc
  obtain rfl : r11 = 20 := hw
  refine lv_aload_n hx hb dL_law_225 rfl (lv_at hl 1 rfl) ?_
  refine lv_aload_n hx hb dL_law_226 rfl (lv_at hl 3 rfl) ?_
  refine lv_iload_n hx hb dL_law_227 rfl (lv_at hl 0 rfl) ?_
  refine lv_iconst (v := 1) hx hb dL_law_228 (by decide) ?_
  refine lv_iadd hx hb dL_law_229 ?_
  refine lv_topi (fun v12 ev12 => ?_)
  obtain rfl : v12 = 1 := ev12.trans (by decide)
  refine va_sld hx hb hX hbl hbA hS (hin 1 (by omega)) dL_law_230 ?_
  refine lv_topi (fun v13 ev13 => ?_)
  obtain rfl : v13 = xs 1 := ev13
  refine lv_aload_n hx hb dL_law_231 rfl (lv_at hl 3 rfl) ?_
  refine lv_iload_n hx hb dL_law_232 rfl (lv_at hl 0 rfl) ?_
  refine lv_iconst (v := 2) hx hb dL_law_233 (by decide) ?_
  refine lv_iadd hx hb dL_law_234 ?_
  refine lv_topi (fun v14 ev14 => ?_)
  obtain rfl : v14 = 2 := ev14.trans (by decide)
  refine va_sld hx hb hX hbl hbA hS (hin 2 (by omega)) dL_law_235 ?_
  refine lv_topi (fun v15 ev15 => ?_)
  obtain rfl : v15 = xs 2 := ev15
  refine lv_aload_n hx hb dL_law_236 rfl (lv_at hl 3 rfl) ?_
  refine lv_iload_n hx hb dL_law_237 rfl (lv_at hl 0 rfl) ?_
  refine lv_iconst (v := 3) hx hb dL_law_238 (by decide) ?_
  refine lv_iadd hx hb dL_law_239 ?_
  refine lv_topi (fun v16 ev16 => ?_)
  obtain rfl : v16 = 3 := ev16.trans (by decide)
  refine va_sld hx hb hX hbl hbA hS (hin 3 (by omega)) dL_law_240 ?_
  refine lv_topi (fun v17 ev17 => ?_)
  obtain rfl : v17 = xs 3 := ev17
  refine lv_aload_n hx hb dL_law_241 rfl (lv_at hl 3 rfl) ?_
  refine lv_iload_n hx hb dL_law_242 rfl (lv_at hl 0 rfl) ?_
  refine lv_iconst (v := 4) hx hb dL_law_243 (by decide) ?_
  refine lv_iadd hx hb dL_law_244 ?_
  refine lv_topi (fun v18 ev18 => ?_)
  obtain rfl : v18 = 4 := ev18.trans (by decide)
  refine va_sld hx hb hX hbl hbA hS (hin 4 (by omega)) dL_law_245 ?_
  refine lv_topi (fun v19 ev19 => ?_)
  obtain rfl : v19 = xs 4 := ev19
  refine lv_aload_n hx hb dL_law_246 rfl (lv_at hl 3 rfl) ?_
  refine lv_iload_n hx hb dL_law_247 rfl (lv_at hl 0 rfl) ?_
  refine lv_iconst (v := 5) hx hb dL_law_248 (by decide) ?_
  refine lv_iadd hx hb dL_law_249 ?_
  refine lv_topi (fun v20 ev20 => ?_)
  obtain rfl : v20 = 5 := ev20.trans (by decide)
  refine va_sld hx hb hX hbl hbA hS (hin 5 (by omega)) dL_law_250 ?_
  refine lv_topi (fun v21 ev21 => ?_)
  obtain rfl : v21 = xs 5 := ev21
  have hPc := hP.sub (ws' := [(m0, .inr (11, fM ma 0 0 0 0 0)), (ma 1, .inl (cm 1, 1400, .inl (fun _ => 0)))]) [4, 5] rfl
  have hKc := hK.sub (tys' := [(cm 1, .byte)]) [2] rfl
  have hDc := hD.sub (ws' := [(m0, .inr (11, fM ma 0 0 0 0 0)), (ma 1, .inl (cm 1, 1400, .inl (fun _ => 0)))]) [4, 5] (by decide) rfl
  have hFc := va_free (wc := [(m0, .inr (11, fM ma 0 0 0 0 0)), (ma 1, .inl (cm 1, 1400, .inl (fun _ => 0)))]) hD hS hA [4, 5] rfl
  refine va_calli (va_runV (As := [.int (xs 1), .int (xs 2), .int (xs 3), .int (xs 4), .int (xs 5)]) (rest := [.int 20]) ⟨hx, hb, hml, hown, hts⟩ (c_X11_feed l D _ m0 ma 0 0 0 0 (cm 1) (xs 1) (xs 2) (xs 3) (xs 4) (xs 5)) (cwV 5 hts g_L_c_X11_feed_17 rfl rfl rfl (by decide +kernel) ⟨(Nat.le_of_ble_eq_true rfl), (Nat.le_of_ble_eq_true rfl)⟩) (PcW_V (q0 := 0) hPc hKc hDc rfl rfl) rfl rfl hl.1 rfl (lv_room (Nat.le_of_ble_eq_true rfl)) dL_law_251 ⟨(Nat.le_of_ble_eq_true rfl), (Nat.le_of_ble_eq_true rfl)⟩) hS (fun q _ h => hFc q h) hFc (fun r22 uu tt H locs htt hvm hw hB hz1 hk1 hS => ?_)
  obtain ⟨hP, hD⟩ := va_join (wr := [(ca 0, .inl (cc 0, 4, .inr (.inr (.inr (.inr (fun _ => none)))))), (ca 4, .inr (1, [.int 0, .ref qi])), (ca 5, .inr (6, [.int 0, .int 0, .int 0, .ref (qp 3), .ref (qp 4), .int 0, .int 0, .int 0, .int 0, .int 0, .int 0, .int 0, .ref (qp 12), .int 0, .ref (qp 14)])), (ca 6, .inr (4, [.int 0, .int 0, .int 0, .int 0, .int 0, .ref (qm 5), .int 0, .ref (qm 7)])), (ma 3, .inl (cm 3, 85, .inr (.inl (fun _ => 0)))), (ma 8, .inl (cm 8, 10240, .inl (fun _ => 0))), (ma 9, .inl (cm 9, 10240, .inl (fun _ => 0)))]) (w1 := []) hP hD [4, 5] [0, 1, 2, 3, 6, 7, 8] rfl rfl (by decide) (by decide) hk1 hFc va_P_nil va_D_nil
  have hP : va_P D vwCl [(ca 0, .inl (cc 0, 4, .inr (.inr (.inr (.inr (fun _ => none)))))), (ca 4, .inr (1, [.int 0, .ref qi])), (ca 5, .inr (6, [.int 0, .int 0, .int 0, .ref (qp 3), .ref (qp 4), .int 0, .int 0, .int 0, .int 0, .int 0, .int 0, .int 0, .ref (qp 12), .int 0, .ref (qp 14)])), (ca 6, .inr (4, [.int 0, .int 0, .int 0, .int 0, .int 0, .ref (qm 5), .int 0, .ref (qm 7)])), (ma 3, .inl (cm 3, 85, .inr (.inl (fun _ => 0)))), (ma 8, .inl (cm 8, 10240, .inl (fun _ => 0))), (ma 9, .inl (cm 9, 10240, .inl (fun _ => 0)))] H := hP
  have hD : va_D A [(ca 0, .inl (cc 0, 4, .inr (.inr (.inr (.inr (fun _ => none)))))), (ca 4, .inr (1, [.int 0, .ref qi])), (ca 5, .inr (6, [.int 0, .int 0, .int 0, .ref (qp 3), .ref (qp 4), .int 0, .int 0, .int 0, .int 0, .int 0, .int 0, .int 0, .ref (qp 12), .int 0, .ref (qp 14)])), (ca 6, .inr (4, [.int 0, .int 0, .int 0, .int 0, .int 0, .ref (qm 5), .int 0, .ref (qm 7)])), (ma 3, .inl (cm 3, 85, .inr (.inl (fun _ => 0)))), (ma 8, .inl (cm 8, 10240, .inl (fun _ => 0))), (ma 9, .inl (cm 9, 10240, .inl (fun _ => 0)))] := hD
  try dsimp only at hw
  clear hB hz1 hk1 hFc hPc hKc hDc
  obtain rfl : r22 = 20 := hw
  refine lv_icmp_eq (tgt := 1735) hx hb dL_law_254 (by decide) (fun hc => ?_) (fun hc => absurd (by decide) hc)
  exact law_tail (D := D) l C0 hN hA hbA hA2 (Nat.le_of_ble_eq_true rfl) (Nat.le_of_ble_eq_true rfl) hS hl

set_option maxHeartbeats 4000000 in
set_option maxRecDepth 100000 in
theorem law_case_1 {p : Program} {e : Env} {s : State} {m : MethodId} {below : List Frame} {meth : Method} {c : Code} (l : Launch) {b : Nat} {xs : Nat → Int32} {D : va_G} {A : Nat → Prop} (C0 : lw_At p s m meth c b 7 xs) (hN : NN s) (hA : ∀ q, s.heap.size ≤ q → A q) (hbA : ¬ A b) (hA2 : ∀ q, A q → s.heap.size ≤ q) (x0 m0 : Nat) (ca : Nat → Nat) (cc : Nat → ClassId) (qi : Nat) (qp qm : Nat → Nat) (ma : Nat → Nat) (cm : Nat → ClassId) (H : Heap) (locs : List Loc) (hK : va_K D vwCl [(cc 0, .object RX9), (cc 1, .int), (cm 1, .byte), (cm 3, .long), (cm 8, .int), (cm 9, .int)] s) (hP : va_P D vwCl [(x0, .inr (10, [.ref (ca 0), .ref (ca 1), .int 0, .ref (ca 3), .ref (ca 4), .ref (ca 5), .ref (ca 6)])), (ca 0, .inl (cc 0, 4, .inr (.inr (.inr (.inr (fun _ => none)))))), (ca 1, .inl (cc 1, 1400, .inl (fun _ => 0))), (ca 4, .inr (1, [.int 0, .ref qi])), (ca 5, .inr (6, [.int 0, .int 0, .int 0, .ref (qp 3), .ref (qp 4), .int 0, .int 0, .int 0, .int 0, .int 0, .int 0, .int 0, .ref (qp 12), .int 0, .ref (qp 14)])), (ca 6, .inr (4, [.int 0, .int 0, .int 0, .int 0, .int 0, .ref (qm 5), .int 0, .ref (qm 7)])), (m0, .inr (11, fM ma 0 0 0 0 0)), (ma 1, .inl (cm 1, 1400, .inl (fun _ => 0))), (ma 3, .inl (cm 3, 85, .inr (.inl (fun _ => 0)))), (ma 8, .inl (cm 8, 10240, .inl (fun _ => 0))), (ma 9, .inl (cm 9, 10240, .inl (fun _ => 0)))] H) (hD : va_D A [(x0, .inr (10, [.ref (ca 0), .ref (ca 1), .int 0, .ref (ca 3), .ref (ca 4), .ref (ca 5), .ref (ca 6)])), (ca 0, .inl (cc 0, 4, .inr (.inr (.inr (.inr (fun _ => none)))))), (ca 1, .inl (cc 1, 1400, .inl (fun _ => 0))), (ca 4, .inr (1, [.int 0, .ref qi])), (ca 5, .inr (6, [.int 0, .int 0, .int 0, .ref (qp 3), .ref (qp 4), .int 0, .int 0, .int 0, .int 0, .int 0, .int 0, .int 0, .ref (qp 12), .int 0, .ref (qp 14)])), (ca 6, .inr (4, [.int 0, .int 0, .int 0, .int 0, .int 0, .ref (qm 5), .int 0, .ref (qm 7)])), (m0, .inr (11, fM ma 0 0 0 0 0)), (ma 1, .inl (cm 1, 1400, .inl (fun _ => 0))), (ma 3, .inl (cm 3, 85, .inr (.inl (fun _ => 0)))), (ma 8, .inl (cm 8, 10240, .inl (fun _ => 0))), (ma 9, .inl (cm 9, 10240, .inl (fun _ => 0)))]) (hS : va_S A s.heap H locs) (ls : Array Slot) (hl : lv_has ls 4 [(3, .int 0), (2, .ref m0), (1, .ref x0), (0, .ref b)]) : W p l e room_1 s m #[Value.ref b] below meth c H locs 46 68513 (lw_Z below #[Value.ref b] s) (F0 m 259 ls []) := by
  have C0 := C0
  have C1 := C0
  obtain ⟨hx, hb, hr, hml, hown, hts, hX, hbl, hlocks, hgv⟩ := C1
  have hown : s.vm.findClass RL = some m.cls := hown
  have hin : ∀ k : Nat, k < 7 → vp_in (nI k) 7 := fun k hk => vp_in_nI hk (by decide)
  refine lv_aload_n hx hb dL_law_259 rfl (lv_at hl 2 rfl) ?_
  refine lv_aload_n hx hb dL_law_260 rfl (lv_at hl 3 rfl) ?_
  refine lv_iload_n hx hb dL_law_261 rfl (lv_at hl 0 rfl) ?_
  refine lv_iconst (v := 1) hx hb dL_law_262 (by decide) ?_
  refine lv_iadd hx hb dL_law_263 ?_
  refine lv_topi (fun v1 ev1 => ?_)
  obtain rfl : v1 = 1 := ev1.trans (by decide)
  refine va_sld hx hb hX hbl hbA hS (hin 1 (by omega)) dL_law_264 ?_
  refine lv_topi (fun v2 ev2 => ?_)
  obtain rfl : v2 = xs 1 := ev2
  have hPc := hP.sub (ws' := [(x0, .inr (10, [.ref (ca 0), .ref (ca 1), .int 0, .ref (ca 3), .ref (ca 4), .ref (ca 5), .ref (ca 6)]))]) [0] rfl
  have hKc := hK.sub (tys' := []) [] rfl
  have hDc := hD.sub (ws' := [(x0, .inr (10, [.ref (ca 0), .ref (ca 1), .int 0, .ref (ca 3), .ref (ca 4), .ref (ca 5), .ref (ca 6)]))]) [0] (by decide) rfl
  have hFc := va_free (wc := [(x0, .inr (10, [.ref (ca 0), .ref (ca 1), .int 0, .ref (ca 3), .ref (ca 4), .ref (ca 5), .ref (ca 6)]))]) hD hS hA [0] rfl
  refine va_calli (va_runV (As := [.int (xs 1)]) (rest := []) ⟨hx, hb, hml, hown, hts⟩ (c_X10_end l D _ x0 ca (xs 1)) (cwV 1 hts g_L_c_X10_end_18 rfl rfl rfl (by decide +kernel) ⟨(Nat.le_of_ble_eq_true rfl), (Nat.le_of_ble_eq_true rfl)⟩) (PcW_V (q0 := 0) hPc hKc hDc rfl rfl) rfl rfl hl.1 rfl (lv_room (Nat.le_of_ble_eq_true rfl)) dL_law_265 ⟨(Nat.le_of_ble_eq_true rfl), (Nat.le_of_ble_eq_true rfl)⟩) hS (fun q _ h => hFc q h) hFc (fun r3 uu tt H locs htt hvm hw hB hz1 hk1 hS => ?_)
  obtain ⟨hP, hD⟩ := va_join (wr := [(ca 0, .inl (cc 0, 4, .inr (.inr (.inr (.inr (fun _ => none)))))), (ca 1, .inl (cc 1, 1400, .inl (fun _ => 0))), (ca 4, .inr (1, [.int 0, .ref qi])), (ca 5, .inr (6, [.int 0, .int 0, .int 0, .ref (qp 3), .ref (qp 4), .int 0, .int 0, .int 0, .int 0, .int 0, .int 0, .int 0, .ref (qp 12), .int 0, .ref (qp 14)])), (ca 6, .inr (4, [.int 0, .int 0, .int 0, .int 0, .int 0, .ref (qm 5), .int 0, .ref (qm 7)])), (m0, .inr (11, fM ma 0 0 0 0 0)), (ma 1, .inl (cm 1, 1400, .inl (fun _ => 0))), (ma 3, .inl (cm 3, 85, .inr (.inl (fun _ => 0)))), (ma 8, .inl (cm 8, 10240, .inl (fun _ => 0))), (ma 9, .inl (cm 9, 10240, .inl (fun _ => 0)))]) (w1 := []) hP hD [0] [1, 2, 3, 4, 5, 6, 7, 8, 9, 10] rfl rfl (by decide) (by decide) hk1 hFc va_P_nil va_D_nil
  have hP : va_P D vwCl [(ca 0, .inl (cc 0, 4, .inr (.inr (.inr (.inr (fun _ => none)))))), (ca 1, .inl (cc 1, 1400, .inl (fun _ => 0))), (ca 4, .inr (1, [.int 0, .ref qi])), (ca 5, .inr (6, [.int 0, .int 0, .int 0, .ref (qp 3), .ref (qp 4), .int 0, .int 0, .int 0, .int 0, .int 0, .int 0, .int 0, .ref (qp 12), .int 0, .ref (qp 14)])), (ca 6, .inr (4, [.int 0, .int 0, .int 0, .int 0, .int 0, .ref (qm 5), .int 0, .ref (qm 7)])), (m0, .inr (11, fM ma 0 0 0 0 0)), (ma 1, .inl (cm 1, 1400, .inl (fun _ => 0))), (ma 3, .inl (cm 3, 85, .inr (.inl (fun _ => 0)))), (ma 8, .inl (cm 8, 10240, .inl (fun _ => 0))), (ma 9, .inl (cm 9, 10240, .inl (fun _ => 0)))] H := hP
  have hD : va_D A [(ca 0, .inl (cc 0, 4, .inr (.inr (.inr (.inr (fun _ => none)))))), (ca 1, .inl (cc 1, 1400, .inl (fun _ => 0))), (ca 4, .inr (1, [.int 0, .ref qi])), (ca 5, .inr (6, [.int 0, .int 0, .int 0, .ref (qp 3), .ref (qp 4), .int 0, .int 0, .int 0, .int 0, .int 0, .int 0, .int 0, .ref (qp 12), .int 0, .ref (qp 14)])), (ca 6, .inr (4, [.int 0, .int 0, .int 0, .int 0, .int 0, .ref (qm 5), .int 0, .ref (qm 7)])), (m0, .inr (11, fM ma 0 0 0 0 0)), (ma 1, .inl (cm 1, 1400, .inl (fun _ => 0))), (ma 3, .inl (cm 3, 85, .inr (.inl (fun _ => 0)))), (ma 8, .inl (cm 8, 10240, .inl (fun _ => 0))), (ma 9, .inl (cm 9, 10240, .inl (fun _ => 0)))] := hD
  try dsimp only at hw
  clear hB hz1 hk1 hFc hPc hKc hDc
  have hw_r3 := hw
  refine lv_aload_n hx hb dL_law_268 rfl (lv_at hl 1 rfl) ?_
  refine lv_aload_n hx hb dL_law_269 rfl (lv_at hl 3 rfl) ?_
  refine lv_iload_n hx hb dL_law_270 rfl (lv_at hl 0 rfl) ?_
  refine lv_iconst (v := 1) hx hb dL_law_271 (by decide) ?_
  refine lv_iadd hx hb dL_law_272 ?_
  refine lv_topi (fun v4 ev4 => ?_)
  obtain rfl : v4 = 1 := ev4.trans (by decide)
  refine va_sld hx hb hX hbl hbA hS (hin 1 (by omega)) dL_law_273 ?_
  refine lv_topi (fun v5 ev5 => ?_)
  obtain rfl : v5 = xs 1 := ev5
  have hPc := hP.sub (ws' := [(m0, .inr (11, fM ma 0 0 0 0 0)), (ma 3, .inl (cm 3, 85, .inr (.inl (fun _ => 0))))]) [5, 7] rfl
  have hKc := hK.sub (tys' := [(cm 3, .long)]) [3] rfl
  have hDc := hD.sub (ws' := [(m0, .inr (11, fM ma 0 0 0 0 0)), (ma 3, .inl (cm 3, 85, .inr (.inl (fun _ => 0))))]) [5, 7] (by decide) rfl
  have hFc := va_free (wc := [(m0, .inr (11, fM ma 0 0 0 0 0)), (ma 3, .inl (cm 3, 85, .inr (.inl (fun _ => 0))))]) hD hS hA [5, 7] rfl
  refine va_calli (va_runV (As := [.int (xs 1)]) (rest := [.int r3]) ⟨hx, hb, hml, hown, hts⟩ (c_X11_end l D _ m0 ma (cm 3) 0 0 0 0 (xs 1)) (cwV 1 hts g_L_c_X11_end_22 rfl rfl rfl (by decide +kernel) ⟨(Nat.le_of_ble_eq_true rfl), (Nat.le_of_ble_eq_true rfl)⟩) (PcW_V (q0 := 0) hPc hKc hDc rfl rfl) rfl rfl hl.1 rfl (lv_room (Nat.le_of_ble_eq_true rfl)) dL_law_274 ⟨(Nat.le_of_ble_eq_true rfl), (Nat.le_of_ble_eq_true rfl)⟩) hS (fun q _ h => hFc q h) hFc (fun r6 uu tt H locs htt hvm hw hB hz1 hk1 hS => ?_)
  obtain ⟨hP, hD⟩ := va_join (wr := [(ca 0, .inl (cc 0, 4, .inr (.inr (.inr (.inr (fun _ => none)))))), (ca 1, .inl (cc 1, 1400, .inl (fun _ => 0))), (ca 4, .inr (1, [.int 0, .ref qi])), (ca 5, .inr (6, [.int 0, .int 0, .int 0, .ref (qp 3), .ref (qp 4), .int 0, .int 0, .int 0, .int 0, .int 0, .int 0, .int 0, .ref (qp 12), .int 0, .ref (qp 14)])), (ca 6, .inr (4, [.int 0, .int 0, .int 0, .int 0, .int 0, .ref (qm 5), .int 0, .ref (qm 7)])), (ma 1, .inl (cm 1, 1400, .inl (fun _ => 0))), (ma 8, .inl (cm 8, 10240, .inl (fun _ => 0))), (ma 9, .inl (cm 9, 10240, .inl (fun _ => 0)))]) (w1 := []) hP hD [5, 7] [0, 1, 2, 3, 4, 6, 8, 9] rfl rfl (by decide) (by decide) hk1 hFc va_P_nil va_D_nil
  have hP : va_P D vwCl [(ca 0, .inl (cc 0, 4, .inr (.inr (.inr (.inr (fun _ => none)))))), (ca 1, .inl (cc 1, 1400, .inl (fun _ => 0))), (ca 4, .inr (1, [.int 0, .ref qi])), (ca 5, .inr (6, [.int 0, .int 0, .int 0, .ref (qp 3), .ref (qp 4), .int 0, .int 0, .int 0, .int 0, .int 0, .int 0, .int 0, .ref (qp 12), .int 0, .ref (qp 14)])), (ca 6, .inr (4, [.int 0, .int 0, .int 0, .int 0, .int 0, .ref (qm 5), .int 0, .ref (qm 7)])), (ma 1, .inl (cm 1, 1400, .inl (fun _ => 0))), (ma 8, .inl (cm 8, 10240, .inl (fun _ => 0))), (ma 9, .inl (cm 9, 10240, .inl (fun _ => 0)))] H := hP
  have hD : va_D A [(ca 0, .inl (cc 0, 4, .inr (.inr (.inr (.inr (fun _ => none)))))), (ca 1, .inl (cc 1, 1400, .inl (fun _ => 0))), (ca 4, .inr (1, [.int 0, .ref qi])), (ca 5, .inr (6, [.int 0, .int 0, .int 0, .ref (qp 3), .ref (qp 4), .int 0, .int 0, .int 0, .int 0, .int 0, .int 0, .int 0, .ref (qp 12), .int 0, .ref (qp 14)])), (ca 6, .inr (4, [.int 0, .int 0, .int 0, .int 0, .int 0, .ref (qm 5), .int 0, .ref (qm 7)])), (ma 1, .inl (cm 1, 1400, .inl (fun _ => 0))), (ma 8, .inl (cm 8, 10240, .inl (fun _ => 0))), (ma 9, .inl (cm 9, 10240, .inl (fun _ => 0)))] := hD
  try dsimp only at hw
  clear hB hz1 hk1 hFc hPc hKc hDc
  have hw_r6 := hw
  refine lv_icmp_eq (tgt := 1735) hx hb dL_law_277 (by decide) (fun hc => ?_) (fun hc => absurd (by rw [hw_r3, hw_r6]) hc)
  exact law_tail (D := D) l C0 hN hA hbA hA2 (Nat.le_of_ble_eq_true rfl) (Nat.le_of_ble_eq_true rfl) hS hl

set_option maxHeartbeats 4000000 in
set_option maxRecDepth 100000 in
theorem law_case_3 {p : Program} {e : Env} {s : State} {m : MethodId} {below : List Frame} {meth : Method} {c : Code} (l : Launch) {b : Nat} {xs : Nat → Int32} {D : va_G} {A : Nat → Prop} (C0 : lw_At p s m meth c b 7 xs) (hN : NN s) (hA : ∀ q, s.heap.size ≤ q → A q) (hbA : ¬ A b) (hA2 : ∀ q, A q → s.heap.size ≤ q) (x0 m0 : Nat) (ca : Nat → Nat) (cc : Nat → ClassId) (qi : Nat) (qp qm : Nat → Nat) (ma : Nat → Nat) (cm : Nat → ClassId) (H : Heap) (locs : List Loc) (hK : va_K D vwCl [(cc 0, .object RX9), (cc 1, .int), (cm 1, .byte), (cm 3, .long), (cm 8, .int), (cm 9, .int)] s) (hP : va_P D vwCl [(x0, .inr (10, [.ref (ca 0), .ref (ca 1), .int 0, .ref (ca 3), .ref (ca 4), .ref (ca 5), .ref (ca 6)])), (ca 0, .inl (cc 0, 4, .inr (.inr (.inr (.inr (fun _ => none)))))), (ca 1, .inl (cc 1, 1400, .inl (fun _ => 0))), (ca 4, .inr (1, [.int 0, .ref qi])), (ca 5, .inr (6, [.int 0, .int 0, .int 0, .ref (qp 3), .ref (qp 4), .int 0, .int 0, .int 0, .int 0, .int 0, .int 0, .int 0, .ref (qp 12), .int 0, .ref (qp 14)])), (ca 6, .inr (4, [.int 0, .int 0, .int 0, .int 0, .int 0, .ref (qm 5), .int 0, .ref (qm 7)])), (m0, .inr (11, fM ma 0 0 0 0 0)), (ma 1, .inl (cm 1, 1400, .inl (fun _ => 0))), (ma 3, .inl (cm 3, 85, .inr (.inl (fun _ => 0)))), (ma 8, .inl (cm 8, 10240, .inl (fun _ => 0))), (ma 9, .inl (cm 9, 10240, .inl (fun _ => 0)))] H) (hD : va_D A [(x0, .inr (10, [.ref (ca 0), .ref (ca 1), .int 0, .ref (ca 3), .ref (ca 4), .ref (ca 5), .ref (ca 6)])), (ca 0, .inl (cc 0, 4, .inr (.inr (.inr (.inr (fun _ => none)))))), (ca 1, .inl (cc 1, 1400, .inl (fun _ => 0))), (ca 4, .inr (1, [.int 0, .ref qi])), (ca 5, .inr (6, [.int 0, .int 0, .int 0, .ref (qp 3), .ref (qp 4), .int 0, .int 0, .int 0, .int 0, .int 0, .int 0, .int 0, .ref (qp 12), .int 0, .ref (qp 14)])), (ca 6, .inr (4, [.int 0, .int 0, .int 0, .int 0, .int 0, .ref (qm 5), .int 0, .ref (qm 7)])), (m0, .inr (11, fM ma 0 0 0 0 0)), (ma 1, .inl (cm 1, 1400, .inl (fun _ => 0))), (ma 3, .inl (cm 3, 85, .inr (.inl (fun _ => 0)))), (ma 8, .inl (cm 8, 10240, .inl (fun _ => 0))), (ma 9, .inl (cm 9, 10240, .inl (fun _ => 0)))]) (hS : va_S A s.heap H locs) (ls : Array Slot) (hl : lv_has ls 4 [(3, .int 0), (2, .ref m0), (1, .ref x0), (0, .ref b)]) : W p l e room_1 s m #[Value.ref b] below meth c H locs 46 68513 (lw_Z below #[Value.ref b] s) (F0 m 377 ls []) := by
  have C0 := C0
  have C1 := C0
  obtain ⟨hx, hb, hr, hml, hown, hts, hX, hbl, hlocks, hgv⟩ := C1
  have hown : s.vm.findClass RL = some m.cls := hown
  have hin : ∀ k : Nat, k < 7 → vp_in (nI k) 7 := fun k hk => vp_in_nI hk (by decide)
  refine lv_aload_n hx hb dL_law_377 rfl (lv_at hl 2 rfl) ?_
  refine lv_aload_n hx hb dL_law_378 rfl (lv_at hl 3 rfl) ?_
  refine lv_iload_n hx hb dL_law_379 rfl (lv_at hl 0 rfl) ?_
  refine lv_iconst (v := 1) hx hb dL_law_380 (by decide) ?_
  refine lv_iadd hx hb dL_law_381 ?_
  refine lv_topi (fun v1 ev1 => ?_)
  obtain rfl : v1 = 1 := ev1.trans (by decide)
  refine va_sld hx hb hX hbl hbA hS (hin 1 (by omega)) dL_law_382 ?_
  refine lv_topi (fun v2 ev2 => ?_)
  obtain rfl : v2 = xs 1 := ev2
  refine lv_aload_n hx hb dL_law_383 rfl (lv_at hl 3 rfl) ?_
  refine lv_iload_n hx hb dL_law_384 rfl (lv_at hl 0 rfl) ?_
  refine lv_iconst (v := 2) hx hb dL_law_385 (by decide) ?_
  refine lv_iadd hx hb dL_law_386 ?_
  refine lv_topi (fun v3 ev3 => ?_)
  obtain rfl : v3 = 2 := ev3.trans (by decide)
  refine va_sld hx hb hX hbl hbA hS (hin 2 (by omega)) dL_law_387 ?_
  refine lv_topi (fun v4 ev4 => ?_)
  obtain rfl : v4 = xs 2 := ev4
  refine lv_aload_n hx hb dL_law_388 rfl (lv_at hl 3 rfl) ?_
  refine lv_iload_n hx hb dL_law_389 rfl (lv_at hl 0 rfl) ?_
  refine lv_iconst (v := 3) hx hb dL_law_390 (by decide) ?_
  refine lv_iadd hx hb dL_law_391 ?_
  refine lv_topi (fun v5 ev5 => ?_)
  obtain rfl : v5 = 3 := ev5.trans (by decide)
  refine va_sld hx hb hX hbl hbA hS (hin 3 (by omega)) dL_law_392 ?_
  refine lv_topi (fun v6 ev6 => ?_)
  obtain rfl : v6 = xs 3 := ev6
  have hPc := hP.sub (ws' := [(x0, .inr (10, [.ref (ca 0), .ref (ca 1), .int 0, .ref (ca 3), .ref (ca 4), .ref (ca 5), .ref (ca 6)])), (ca 0, .inl (cc 0, 4, .inr (.inr (.inr (.inr (fun _ => none))))))]) [0, 1] rfl
  have hKc := hK.sub (tys' := [(cc 0, .object RX9)]) [0] rfl
  have hFc := va_free0 hS hA
  refine va_calli (va_runV (As := [.int (xs 1), .int (xs 2), .int (xs 3)]) (rest := []) ⟨hx, hb, hml, hown, hts⟩ (c_X10_put l D _ x0 ca (cc 0) 0 (xs 1) (xs 2) (xs 3)) (cwV 3 hts g_L_c_X10_put_30 rfl rfl rfl (by decide +kernel) ⟨(Nat.le_of_ble_eq_true rfl), (Nat.le_of_ble_eq_true rfl)⟩) (PcR_V (q0 := 0) hPc hKc rfl rfl) rfl rfl hl.1 rfl (lv_room (Nat.le_of_ble_eq_true rfl)) dL_law_393 ⟨(Nat.le_of_ble_eq_true rfl), (Nat.le_of_ble_eq_true rfl)⟩) hS (fun q _ h => hFc q h) hFc (fun r7 uu tt H locs htt hvm hw hB hz1 hk1 hS => ?_)
  have hP := va_keep hP hk1
  try dsimp only at hw
  clear hB hz1 hk1 hFc hPc hKc
  obtain rfl : r7 = (-2) := hw
  refine lv_aload_n hx hb dL_law_396 rfl (lv_at hl 1 rfl) ?_
  refine lv_aload_n hx hb dL_law_397 rfl (lv_at hl 3 rfl) ?_
  refine lv_iload_n hx hb dL_law_398 rfl (lv_at hl 0 rfl) ?_
  refine lv_iconst (v := 1) hx hb dL_law_399 (by decide) ?_
  refine lv_iadd hx hb dL_law_400 ?_
  refine lv_topi (fun v8 ev8 => ?_)
  obtain rfl : v8 = 1 := ev8.trans (by decide)
  refine va_sld hx hb hX hbl hbA hS (hin 1 (by omega)) dL_law_401 ?_
  refine lv_topi (fun v9 ev9 => ?_)
  obtain rfl : v9 = xs 1 := ev9
  refine lv_aload_n hx hb dL_law_402 rfl (lv_at hl 3 rfl) ?_
  refine lv_iload_n hx hb dL_law_403 rfl (lv_at hl 0 rfl) ?_
  refine lv_iconst (v := 2) hx hb dL_law_404 (by decide) ?_
  refine lv_iadd hx hb dL_law_405 ?_
  refine lv_topi (fun v10 ev10 => ?_)
  obtain rfl : v10 = 2 := ev10.trans (by decide)
  refine va_sld hx hb hX hbl hbA hS (hin 2 (by omega)) dL_law_406 ?_
  refine lv_topi (fun v11 ev11 => ?_)
  obtain rfl : v11 = xs 2 := ev11
  refine lv_aload_n hx hb dL_law_407 rfl (lv_at hl 3 rfl) ?_
  refine lv_iload_n hx hb dL_law_408 rfl (lv_at hl 0 rfl) ?_
  refine lv_iconst (v := 3) hx hb dL_law_409 (by decide) ?_
  refine lv_iadd hx hb dL_law_410 ?_
  refine lv_topi (fun v12 ev12 => ?_)
  obtain rfl : v12 = 3 := ev12.trans (by decide)
  refine va_sld hx hb hX hbl hbA hS (hin 3 (by omega)) dL_law_411 ?_
  refine lv_topi (fun v13 ev13 => ?_)
  obtain rfl : v13 = xs 3 := ev13
  have hPc := hP.sub (ws' := [(m0, .inr (11, fM ma 0 0 0 0 0)), (ma 3, .inl (cm 3, 85, .inr (.inl (fun _ => 0))))]) [6, 8] rfl
  have hKc := hK.sub (tys' := [(cm 3, .long)]) [3] rfl
  have hDc := hD.sub (ws' := [(m0, .inr (11, fM ma 0 0 0 0 0)), (ma 3, .inl (cm 3, 85, .inr (.inl (fun _ => 0))))]) [6, 8] (by decide) rfl
  have hFc := va_free (wc := [(m0, .inr (11, fM ma 0 0 0 0 0)), (ma 3, .inl (cm 3, 85, .inr (.inl (fun _ => 0))))]) hD hS hA [6, 8] rfl
  refine va_calli (va_runV (As := [.int (xs 1), .int (xs 2), .int (xs 3)]) (rest := [.int (-2)]) ⟨hx, hb, hml, hown, hts⟩ (c_X11_put l D _ m0 ma (cm 3) 0 0 0 0 0 (xs 1) (xs 2) (xs 3)) (cwV 3 hts g_L_c_X11_put_34 rfl rfl rfl (by decide +kernel) ⟨(Nat.le_of_ble_eq_true rfl), (Nat.le_of_ble_eq_true rfl)⟩) (PcW_V (q0 := 0) hPc hKc hDc rfl rfl) rfl rfl hl.1 rfl (lv_room (Nat.le_of_ble_eq_true rfl)) dL_law_412 ⟨(Nat.le_of_ble_eq_true rfl), (Nat.le_of_ble_eq_true rfl)⟩) hS (fun q _ h => hFc q h) hFc (fun r14 uu tt H locs htt hvm hw hB hz1 hk1 hS => ?_)
  obtain ⟨hP, hD⟩ := va_join (wr := [(x0, .inr (10, [.ref (ca 0), .ref (ca 1), .int 0, .ref (ca 3), .ref (ca 4), .ref (ca 5), .ref (ca 6)])), (ca 0, .inl (cc 0, 4, .inr (.inr (.inr (.inr (fun _ => none)))))), (ca 1, .inl (cc 1, 1400, .inl (fun _ => 0))), (ca 4, .inr (1, [.int 0, .ref qi])), (ca 5, .inr (6, [.int 0, .int 0, .int 0, .ref (qp 3), .ref (qp 4), .int 0, .int 0, .int 0, .int 0, .int 0, .int 0, .int 0, .ref (qp 12), .int 0, .ref (qp 14)])), (ca 6, .inr (4, [.int 0, .int 0, .int 0, .int 0, .int 0, .ref (qm 5), .int 0, .ref (qm 7)])), (ma 1, .inl (cm 1, 1400, .inl (fun _ => 0))), (ma 8, .inl (cm 8, 10240, .inl (fun _ => 0))), (ma 9, .inl (cm 9, 10240, .inl (fun _ => 0)))]) (w1 := []) hP hD [6, 8] [0, 1, 2, 3, 4, 5, 7, 9, 10] rfl rfl (by decide) (by decide) hk1 hFc va_P_nil va_D_nil
  have hP : va_P D vwCl [(x0, .inr (10, [.ref (ca 0), .ref (ca 1), .int 0, .ref (ca 3), .ref (ca 4), .ref (ca 5), .ref (ca 6)])), (ca 0, .inl (cc 0, 4, .inr (.inr (.inr (.inr (fun _ => none)))))), (ca 1, .inl (cc 1, 1400, .inl (fun _ => 0))), (ca 4, .inr (1, [.int 0, .ref qi])), (ca 5, .inr (6, [.int 0, .int 0, .int 0, .ref (qp 3), .ref (qp 4), .int 0, .int 0, .int 0, .int 0, .int 0, .int 0, .int 0, .ref (qp 12), .int 0, .ref (qp 14)])), (ca 6, .inr (4, [.int 0, .int 0, .int 0, .int 0, .int 0, .ref (qm 5), .int 0, .ref (qm 7)])), (ma 1, .inl (cm 1, 1400, .inl (fun _ => 0))), (ma 8, .inl (cm 8, 10240, .inl (fun _ => 0))), (ma 9, .inl (cm 9, 10240, .inl (fun _ => 0)))] H := hP
  have hD : va_D A [(x0, .inr (10, [.ref (ca 0), .ref (ca 1), .int 0, .ref (ca 3), .ref (ca 4), .ref (ca 5), .ref (ca 6)])), (ca 0, .inl (cc 0, 4, .inr (.inr (.inr (.inr (fun _ => none)))))), (ca 1, .inl (cc 1, 1400, .inl (fun _ => 0))), (ca 4, .inr (1, [.int 0, .ref qi])), (ca 5, .inr (6, [.int 0, .int 0, .int 0, .ref (qp 3), .ref (qp 4), .int 0, .int 0, .int 0, .int 0, .int 0, .int 0, .int 0, .ref (qp 12), .int 0, .ref (qp 14)])), (ca 6, .inr (4, [.int 0, .int 0, .int 0, .int 0, .int 0, .ref (qm 5), .int 0, .ref (qm 7)])), (ma 1, .inl (cm 1, 1400, .inl (fun _ => 0))), (ma 8, .inl (cm 8, 10240, .inl (fun _ => 0))), (ma 9, .inl (cm 9, 10240, .inl (fun _ => 0)))] := hD
  try dsimp only at hw
  clear hB hz1 hk1 hFc hPc hKc hDc
  obtain rfl : r14 = (-2) := hw
  refine lv_icmp_eq (tgt := 1735) hx hb dL_law_415 (by decide) (fun hc => ?_) (fun hc => absurd (by decide) hc)
  exact law_tail (D := D) l C0 hN hA hbA hA2 (Nat.le_of_ble_eq_true rfl) (Nat.le_of_ble_eq_true rfl) hS hl

set_option maxHeartbeats 4000000 in
set_option maxRecDepth 100000 in
theorem law_case_4 {p : Program} {e : Env} {s : State} {m : MethodId} {below : List Frame} {meth : Method} {c : Code} (l : Launch) {b : Nat} {xs : Nat → Int32} {D : va_G} {A : Nat → Prop} (C0 : lw_At p s m meth c b 7 xs) (hN : NN s) (hA : ∀ q, s.heap.size ≤ q → A q) (hbA : ¬ A b) (hA2 : ∀ q, A q → s.heap.size ≤ q) (x0 m0 : Nat) (ca : Nat → Nat) (cc : Nat → ClassId) (qi : Nat) (qp qm : Nat → Nat) (ma : Nat → Nat) (cm : Nat → ClassId) (H : Heap) (locs : List Loc) (hK : va_K D vwCl [(cc 0, .object RX9), (cc 1, .int), (cm 1, .byte), (cm 3, .long), (cm 8, .int), (cm 9, .int)] s) (hP : va_P D vwCl [(x0, .inr (10, [.ref (ca 0), .ref (ca 1), .int 0, .ref (ca 3), .ref (ca 4), .ref (ca 5), .ref (ca 6)])), (ca 0, .inl (cc 0, 4, .inr (.inr (.inr (.inr (fun _ => none)))))), (ca 1, .inl (cc 1, 1400, .inl (fun _ => 0))), (ca 4, .inr (1, [.int 0, .ref qi])), (ca 5, .inr (6, [.int 0, .int 0, .int 0, .ref (qp 3), .ref (qp 4), .int 0, .int 0, .int 0, .int 0, .int 0, .int 0, .int 0, .ref (qp 12), .int 0, .ref (qp 14)])), (ca 6, .inr (4, [.int 0, .int 0, .int 0, .int 0, .int 0, .ref (qm 5), .int 0, .ref (qm 7)])), (m0, .inr (11, fM ma 0 0 0 0 0)), (ma 1, .inl (cm 1, 1400, .inl (fun _ => 0))), (ma 3, .inl (cm 3, 85, .inr (.inl (fun _ => 0)))), (ma 8, .inl (cm 8, 10240, .inl (fun _ => 0))), (ma 9, .inl (cm 9, 10240, .inl (fun _ => 0)))] H) (hD : va_D A [(x0, .inr (10, [.ref (ca 0), .ref (ca 1), .int 0, .ref (ca 3), .ref (ca 4), .ref (ca 5), .ref (ca 6)])), (ca 0, .inl (cc 0, 4, .inr (.inr (.inr (.inr (fun _ => none)))))), (ca 1, .inl (cc 1, 1400, .inl (fun _ => 0))), (ca 4, .inr (1, [.int 0, .ref qi])), (ca 5, .inr (6, [.int 0, .int 0, .int 0, .ref (qp 3), .ref (qp 4), .int 0, .int 0, .int 0, .int 0, .int 0, .int 0, .int 0, .ref (qp 12), .int 0, .ref (qp 14)])), (ca 6, .inr (4, [.int 0, .int 0, .int 0, .int 0, .int 0, .ref (qm 5), .int 0, .ref (qm 7)])), (m0, .inr (11, fM ma 0 0 0 0 0)), (ma 1, .inl (cm 1, 1400, .inl (fun _ => 0))), (ma 3, .inl (cm 3, 85, .inr (.inl (fun _ => 0)))), (ma 8, .inl (cm 8, 10240, .inl (fun _ => 0))), (ma 9, .inl (cm 9, 10240, .inl (fun _ => 0)))]) (hS : va_S A s.heap H locs) (ls : Array Slot) (hl : lv_has ls 4 [(3, .int 0), (2, .ref m0), (1, .ref x0), (0, .ref b)]) : W p l e room_1 s m #[Value.ref b] below meth c H locs 46 68513 (lw_Z below #[Value.ref b] s) (F0 m 420 ls []) := by
  have C0 := C0
  have C1 := C0
  obtain ⟨hx, hb, hr, hml, hown, hts, hX, hbl, hlocks, hgv⟩ := C1
  have hown : s.vm.findClass RL = some m.cls := hown
  have hin : ∀ k : Nat, k < 7 → vp_in (nI k) 7 := fun k hk => vp_in_nI hk (by decide)
  refine lv_aload_n hx hb dL_law_420 rfl (lv_at hl 2 rfl) ?_
  refine lv_aload_n hx hb dL_law_421 rfl (lv_at hl 3 rfl) ?_
  refine lv_iload_n hx hb dL_law_422 rfl (lv_at hl 0 rfl) ?_
  refine lv_iconst (v := 1) hx hb dL_law_423 (by decide) ?_
  refine lv_iadd hx hb dL_law_424 ?_
  refine lv_topi (fun v1 ev1 => ?_)
  obtain rfl : v1 = 1 := ev1.trans (by decide)
  refine va_sld hx hb hX hbl hbA hS (hin 1 (by omega)) dL_law_425 ?_
  refine lv_topi (fun v2 ev2 => ?_)
  obtain rfl : v2 = xs 1 := ev2
  refine lv_aload_n hx hb dL_law_426 rfl (lv_at hl 3 rfl) ?_
  refine lv_iload_n hx hb dL_law_427 rfl (lv_at hl 0 rfl) ?_
  refine lv_iconst (v := 2) hx hb dL_law_428 (by decide) ?_
  refine lv_iadd hx hb dL_law_429 ?_
  refine lv_topi (fun v3 ev3 => ?_)
  obtain rfl : v3 = 2 := ev3.trans (by decide)
  refine va_sld hx hb hX hbl hbA hS (hin 2 (by omega)) dL_law_430 ?_
  refine lv_topi (fun v4 ev4 => ?_)
  obtain rfl : v4 = xs 2 := ev4
  have hPc := hP.sub (ws' := [(x0, .inr (10, [.ref (ca 0), .ref (ca 1), .int 0, .ref (ca 3), .ref (ca 4), .ref (ca 5), .ref (ca 6)])), (ca 0, .inl (cc 0, 4, .inr (.inr (.inr (.inr (fun _ => none))))))]) [0, 1] rfl
  have hKc := hK.sub (tys' := [(cc 0, .object RX9)]) [0] rfl
  have hFc := va_free0 hS hA
  refine va_calll (va_runV (As := [.int (xs 1), .int (xs 2)]) (rest := []) ⟨hx, hb, hml, hown, hts⟩ (c_X10_get l D _ x0 ca (cc 0) 0 (xs 1) (xs 2)) (cwV 2 hts g_L_c_X10_get_35 rfl rfl rfl (by decide +kernel) ⟨(Nat.le_of_ble_eq_true rfl), (Nat.le_of_ble_eq_true rfl)⟩) (PcR_V (q0 := 0) hPc hKc rfl rfl) rfl rfl hl.1 rfl (lv_room (Nat.le_of_ble_eq_true rfl)) dL_law_431 ⟨(Nat.le_of_ble_eq_true rfl), (Nat.le_of_ble_eq_true rfl)⟩) hS (fun q _ h => hFc q h) hFc (fun r5 uu tt H locs htt hvm hw hB hz1 hk1 hS => ?_)
  have hP := va_keep hP hk1
  try dsimp only at hw
  clear hB hz1 hk1 hFc hPc hKc
  obtain rfl : r5 = (-1000000000000000) := hw
  refine lv_aload_n hx hb dL_law_434 rfl (lv_at hl 1 rfl) ?_
  refine lv_aload_n hx hb dL_law_435 rfl (lv_at hl 3 rfl) ?_
  refine lv_iload_n hx hb dL_law_436 rfl (lv_at hl 0 rfl) ?_
  refine lv_iconst (v := 1) hx hb dL_law_437 (by decide) ?_
  refine lv_iadd hx hb dL_law_438 ?_
  refine lv_topi (fun v6 ev6 => ?_)
  obtain rfl : v6 = 1 := ev6.trans (by decide)
  refine va_sld hx hb hX hbl hbA hS (hin 1 (by omega)) dL_law_439 ?_
  refine lv_topi (fun v7 ev7 => ?_)
  obtain rfl : v7 = xs 1 := ev7
  refine lv_aload_n hx hb dL_law_440 rfl (lv_at hl 3 rfl) ?_
  refine lv_iload_n hx hb dL_law_441 rfl (lv_at hl 0 rfl) ?_
  refine lv_iconst (v := 2) hx hb dL_law_442 (by decide) ?_
  refine lv_iadd hx hb dL_law_443 ?_
  refine lv_topi (fun v8 ev8 => ?_)
  obtain rfl : v8 = 2 := ev8.trans (by decide)
  refine va_sld hx hb hX hbl hbA hS (hin 2 (by omega)) dL_law_444 ?_
  refine lv_topi (fun v9 ev9 => ?_)
  obtain rfl : v9 = xs 2 := ev9
  have hPc := hP.sub (ws' := [(m0, .inr (11, fM ma 0 0 0 0 0)), (ma 3, .inl (cm 3, 85, .inr (.inl (fun _ => 0))))]) [6, 8] rfl
  have hKc := hK.sub (tys' := [(cm 3, .long)]) [3] rfl
  have hDc := hD.sub (ws' := [(m0, .inr (11, fM ma 0 0 0 0 0)), (ma 3, .inl (cm 3, 85, .inr (.inl (fun _ => 0))))]) [6, 8] (by decide) rfl
  have hFc := va_free (wc := [(m0, .inr (11, fM ma 0 0 0 0 0)), (ma 3, .inl (cm 3, 85, .inr (.inl (fun _ => 0))))]) hD hS hA [6, 8] rfl
  refine va_calll (va_runV (As := [.int (xs 1), .int (xs 2)]) (rest := [.long (-1000000000000000)]) ⟨hx, hb, hml, hown, hts⟩ (c_X11_get l D _ m0 ma (cm 3) 0 0 0 0 0 (xs 1) (xs 2)) (cwV 2 hts g_L_c_X11_get_39 rfl rfl rfl (by decide +kernel) ⟨(Nat.le_of_ble_eq_true rfl), (Nat.le_of_ble_eq_true rfl)⟩) (PcW_V (q0 := 0) hPc hKc hDc rfl rfl) rfl rfl hl.1 rfl (lv_room (Nat.le_of_ble_eq_true rfl)) dL_law_445 ⟨(Nat.le_of_ble_eq_true rfl), (Nat.le_of_ble_eq_true rfl)⟩) hS (fun q _ h => hFc q h) hFc (fun r10 uu tt H locs htt hvm hw hB hz1 hk1 hS => ?_)
  obtain ⟨hP, hD⟩ := va_join (wr := [(x0, .inr (10, [.ref (ca 0), .ref (ca 1), .int 0, .ref (ca 3), .ref (ca 4), .ref (ca 5), .ref (ca 6)])), (ca 0, .inl (cc 0, 4, .inr (.inr (.inr (.inr (fun _ => none)))))), (ca 1, .inl (cc 1, 1400, .inl (fun _ => 0))), (ca 4, .inr (1, [.int 0, .ref qi])), (ca 5, .inr (6, [.int 0, .int 0, .int 0, .ref (qp 3), .ref (qp 4), .int 0, .int 0, .int 0, .int 0, .int 0, .int 0, .int 0, .ref (qp 12), .int 0, .ref (qp 14)])), (ca 6, .inr (4, [.int 0, .int 0, .int 0, .int 0, .int 0, .ref (qm 5), .int 0, .ref (qm 7)])), (ma 1, .inl (cm 1, 1400, .inl (fun _ => 0))), (ma 8, .inl (cm 8, 10240, .inl (fun _ => 0))), (ma 9, .inl (cm 9, 10240, .inl (fun _ => 0)))]) (w1 := []) hP hD [6, 8] [0, 1, 2, 3, 4, 5, 7, 9, 10] rfl rfl (by decide) (by decide) hk1 hFc va_P_nil va_D_nil
  have hP : va_P D vwCl [(x0, .inr (10, [.ref (ca 0), .ref (ca 1), .int 0, .ref (ca 3), .ref (ca 4), .ref (ca 5), .ref (ca 6)])), (ca 0, .inl (cc 0, 4, .inr (.inr (.inr (.inr (fun _ => none)))))), (ca 1, .inl (cc 1, 1400, .inl (fun _ => 0))), (ca 4, .inr (1, [.int 0, .ref qi])), (ca 5, .inr (6, [.int 0, .int 0, .int 0, .ref (qp 3), .ref (qp 4), .int 0, .int 0, .int 0, .int 0, .int 0, .int 0, .int 0, .ref (qp 12), .int 0, .ref (qp 14)])), (ca 6, .inr (4, [.int 0, .int 0, .int 0, .int 0, .int 0, .ref (qm 5), .int 0, .ref (qm 7)])), (ma 1, .inl (cm 1, 1400, .inl (fun _ => 0))), (ma 8, .inl (cm 8, 10240, .inl (fun _ => 0))), (ma 9, .inl (cm 9, 10240, .inl (fun _ => 0)))] H := hP
  have hD : va_D A [(x0, .inr (10, [.ref (ca 0), .ref (ca 1), .int 0, .ref (ca 3), .ref (ca 4), .ref (ca 5), .ref (ca 6)])), (ca 0, .inl (cc 0, 4, .inr (.inr (.inr (.inr (fun _ => none)))))), (ca 1, .inl (cc 1, 1400, .inl (fun _ => 0))), (ca 4, .inr (1, [.int 0, .ref qi])), (ca 5, .inr (6, [.int 0, .int 0, .int 0, .ref (qp 3), .ref (qp 4), .int 0, .int 0, .int 0, .int 0, .int 0, .int 0, .int 0, .ref (qp 12), .int 0, .ref (qp 14)])), (ca 6, .inr (4, [.int 0, .int 0, .int 0, .int 0, .int 0, .ref (qm 5), .int 0, .ref (qm 7)])), (ma 1, .inl (cm 1, 1400, .inl (fun _ => 0))), (ma 8, .inl (cm 8, 10240, .inl (fun _ => 0))), (ma 9, .inl (cm 9, 10240, .inl (fun _ => 0)))] := hD
  try dsimp only at hw
  clear hB hz1 hk1 hFc hPc hKc hDc
  obtain rfl : r10 = (-1000000000000000) := hw
  refine W.lcmp hx hb dL_law_448 ?_
  refine lv_topi (fun v11 ev11 => ?_)
  obtain rfl : v11 = 0 := ev11.trans (by decide)
  refine lv_if_eq (tgt := 1735) hx hb dL_law_449 (by decide) (fun hc => ?_) (fun hc => absurd (by decide) hc)
  exact law_tail (D := D) l C0 hN hA hbA hA2 (Nat.le_of_ble_eq_true rfl) (Nat.le_of_ble_eq_true rfl) hS hl

set_option maxHeartbeats 4000000 in
set_option maxRecDepth 100000 in
theorem law_case_5 {p : Program} {e : Env} {s : State} {m : MethodId} {below : List Frame} {meth : Method} {c : Code} (l : Launch) {b : Nat} {xs : Nat → Int32} {D : va_G} {A : Nat → Prop} (C0 : lw_At p s m meth c b 7 xs) (hN : NN s) (hA : ∀ q, s.heap.size ≤ q → A q) (hbA : ¬ A b) (hA2 : ∀ q, A q → s.heap.size ≤ q) (x0 m0 : Nat) (ca : Nat → Nat) (cc : Nat → ClassId) (qi : Nat) (qp qm : Nat → Nat) (ma : Nat → Nat) (cm : Nat → ClassId) (H : Heap) (locs : List Loc) (hK : va_K D vwCl [(cc 0, .object RX9), (cc 1, .int), (cm 1, .byte), (cm 3, .long), (cm 8, .int), (cm 9, .int)] s) (hP : va_P D vwCl [(x0, .inr (10, [.ref (ca 0), .ref (ca 1), .int 0, .ref (ca 3), .ref (ca 4), .ref (ca 5), .ref (ca 6)])), (ca 0, .inl (cc 0, 4, .inr (.inr (.inr (.inr (fun _ => none)))))), (ca 1, .inl (cc 1, 1400, .inl (fun _ => 0))), (ca 4, .inr (1, [.int 0, .ref qi])), (ca 5, .inr (6, [.int 0, .int 0, .int 0, .ref (qp 3), .ref (qp 4), .int 0, .int 0, .int 0, .int 0, .int 0, .int 0, .int 0, .ref (qp 12), .int 0, .ref (qp 14)])), (ca 6, .inr (4, [.int 0, .int 0, .int 0, .int 0, .int 0, .ref (qm 5), .int 0, .ref (qm 7)])), (m0, .inr (11, fM ma 0 0 0 0 0)), (ma 1, .inl (cm 1, 1400, .inl (fun _ => 0))), (ma 3, .inl (cm 3, 85, .inr (.inl (fun _ => 0)))), (ma 8, .inl (cm 8, 10240, .inl (fun _ => 0))), (ma 9, .inl (cm 9, 10240, .inl (fun _ => 0)))] H) (hD : va_D A [(x0, .inr (10, [.ref (ca 0), .ref (ca 1), .int 0, .ref (ca 3), .ref (ca 4), .ref (ca 5), .ref (ca 6)])), (ca 0, .inl (cc 0, 4, .inr (.inr (.inr (.inr (fun _ => none)))))), (ca 1, .inl (cc 1, 1400, .inl (fun _ => 0))), (ca 4, .inr (1, [.int 0, .ref qi])), (ca 5, .inr (6, [.int 0, .int 0, .int 0, .ref (qp 3), .ref (qp 4), .int 0, .int 0, .int 0, .int 0, .int 0, .int 0, .int 0, .ref (qp 12), .int 0, .ref (qp 14)])), (ca 6, .inr (4, [.int 0, .int 0, .int 0, .int 0, .int 0, .ref (qm 5), .int 0, .ref (qm 7)])), (m0, .inr (11, fM ma 0 0 0 0 0)), (ma 1, .inl (cm 1, 1400, .inl (fun _ => 0))), (ma 3, .inl (cm 3, 85, .inr (.inl (fun _ => 0)))), (ma 8, .inl (cm 8, 10240, .inl (fun _ => 0))), (ma 9, .inl (cm 9, 10240, .inl (fun _ => 0)))]) (hS : va_S A s.heap H locs) (ls : Array Slot) (hl : lv_has ls 4 [(3, .int 0), (2, .ref m0), (1, .ref x0), (0, .ref b)]) : W p l e room_1 s m #[Value.ref b] below meth c H locs 46 68513 (lw_Z below #[Value.ref b] s) (F0 m 454 ls []) := by
  have C0 := C0
  have C1 := C0
  obtain ⟨hx, hb, hr, hml, hown, hts, hX, hbl, hlocks, hgv⟩ := C1
  have hown : s.vm.findClass RL = some m.cls := hown
  have hin : ∀ k : Nat, k < 7 → vp_in (nI k) 7 := fun k hk => vp_in_nI hk (by decide)
  refine lv_aload_n hx hb dL_law_454 rfl (lv_at hl 2 rfl) ?_
  refine lv_aload_n hx hb dL_law_455 rfl (lv_at hl 3 rfl) ?_
  refine lv_iload_n hx hb dL_law_456 rfl (lv_at hl 0 rfl) ?_
  refine lv_iconst (v := 1) hx hb dL_law_457 (by decide) ?_
  refine lv_iadd hx hb dL_law_458 ?_
  refine lv_topi (fun v1 ev1 => ?_)
  obtain rfl : v1 = 1 := ev1.trans (by decide)
  refine va_sld hx hb hX hbl hbA hS (hin 1 (by omega)) dL_law_459 ?_
  refine lv_topi (fun v2 ev2 => ?_)
  obtain rfl : v2 = xs 1 := ev2
  refine lv_aload_n hx hb dL_law_460 rfl (lv_at hl 3 rfl) ?_
  refine lv_iload_n hx hb dL_law_461 rfl (lv_at hl 0 rfl) ?_
  refine lv_iconst (v := 2) hx hb dL_law_462 (by decide) ?_
  refine lv_iadd hx hb dL_law_463 ?_
  refine lv_topi (fun v3 ev3 => ?_)
  obtain rfl : v3 = 2 := ev3.trans (by decide)
  refine va_sld hx hb hX hbl hbA hS (hin 2 (by omega)) dL_law_464 ?_
  refine lv_topi (fun v4 ev4 => ?_)
  obtain rfl : v4 = xs 2 := ev4
  have hPc := hP.sub (ws' := [(x0, .inr (10, [.ref (ca 0), .ref (ca 1), .int 0, .ref (ca 3), .ref (ca 4), .ref (ca 5), .ref (ca 6)])), (ca 0, .inl (cc 0, 4, .inr (.inr (.inr (.inr (fun _ => none))))))]) [0, 1] rfl
  have hKc := hK.sub (tys' := [(cc 0, .object RX9)]) [0] rfl
  have hFc := va_free0 hS hA
  refine va_calli (va_runV (As := [.int (xs 1), .int (xs 2)]) (rest := []) ⟨hx, hb, hml, hown, hts⟩ (c_X10_drop l D _ x0 ca (cc 0) 0 (xs 1) (xs 2)) (cwV 2 hts g_L_c_X10_drop_40 rfl rfl rfl (by decide +kernel) ⟨(Nat.le_of_ble_eq_true rfl), (Nat.le_of_ble_eq_true rfl)⟩) (PcR_V (q0 := 0) hPc hKc rfl rfl) rfl rfl hl.1 rfl (lv_room (Nat.le_of_ble_eq_true rfl)) dL_law_465 ⟨(Nat.le_of_ble_eq_true rfl), (Nat.le_of_ble_eq_true rfl)⟩) hS (fun q _ h => hFc q h) hFc (fun r5 uu tt H locs htt hvm hw hB hz1 hk1 hS => ?_)
  have hP := va_keep hP hk1
  try dsimp only at hw
  clear hB hz1 hk1 hFc hPc hKc
  obtain rfl : r5 = (-2) := hw
  refine lv_aload_n hx hb dL_law_468 rfl (lv_at hl 1 rfl) ?_
  refine lv_aload_n hx hb dL_law_469 rfl (lv_at hl 3 rfl) ?_
  refine lv_iload_n hx hb dL_law_470 rfl (lv_at hl 0 rfl) ?_
  refine lv_iconst (v := 1) hx hb dL_law_471 (by decide) ?_
  refine lv_iadd hx hb dL_law_472 ?_
  refine lv_topi (fun v6 ev6 => ?_)
  obtain rfl : v6 = 1 := ev6.trans (by decide)
  refine va_sld hx hb hX hbl hbA hS (hin 1 (by omega)) dL_law_473 ?_
  refine lv_topi (fun v7 ev7 => ?_)
  obtain rfl : v7 = xs 1 := ev7
  refine lv_aload_n hx hb dL_law_474 rfl (lv_at hl 3 rfl) ?_
  refine lv_iload_n hx hb dL_law_475 rfl (lv_at hl 0 rfl) ?_
  refine lv_iconst (v := 2) hx hb dL_law_476 (by decide) ?_
  refine lv_iadd hx hb dL_law_477 ?_
  refine lv_topi (fun v8 ev8 => ?_)
  obtain rfl : v8 = 2 := ev8.trans (by decide)
  refine va_sld hx hb hX hbl hbA hS (hin 2 (by omega)) dL_law_478 ?_
  refine lv_topi (fun v9 ev9 => ?_)
  obtain rfl : v9 = xs 2 := ev9
  have hPc := hP.sub (ws' := [(m0, .inr (11, fM ma 0 0 0 0 0)), (ma 3, .inl (cm 3, 85, .inr (.inl (fun _ => 0))))]) [6, 8] rfl
  have hKc := hK.sub (tys' := [(cm 3, .long)]) [3] rfl
  have hDc := hD.sub (ws' := [(m0, .inr (11, fM ma 0 0 0 0 0)), (ma 3, .inl (cm 3, 85, .inr (.inl (fun _ => 0))))]) [6, 8] (by decide) rfl
  have hFc := va_free (wc := [(m0, .inr (11, fM ma 0 0 0 0 0)), (ma 3, .inl (cm 3, 85, .inr (.inl (fun _ => 0))))]) hD hS hA [6, 8] rfl
  refine va_calli (va_runV (As := [.int (xs 1), .int (xs 2)]) (rest := [.int (-2)]) ⟨hx, hb, hml, hown, hts⟩ (c_X11_drop l D _ m0 ma (cm 3) 0 0 0 0 0 (xs 1) (xs 2)) (cwV 2 hts g_L_c_X11_drop_44 rfl rfl rfl (by decide +kernel) ⟨(Nat.le_of_ble_eq_true rfl), (Nat.le_of_ble_eq_true rfl)⟩) (PcW_V (q0 := 0) hPc hKc hDc rfl rfl) rfl rfl hl.1 rfl (lv_room (Nat.le_of_ble_eq_true rfl)) dL_law_479 ⟨(Nat.le_of_ble_eq_true rfl), (Nat.le_of_ble_eq_true rfl)⟩) hS (fun q _ h => hFc q h) hFc (fun r10 uu tt H locs htt hvm hw hB hz1 hk1 hS => ?_)
  obtain ⟨hP, hD⟩ := va_join (wr := [(x0, .inr (10, [.ref (ca 0), .ref (ca 1), .int 0, .ref (ca 3), .ref (ca 4), .ref (ca 5), .ref (ca 6)])), (ca 0, .inl (cc 0, 4, .inr (.inr (.inr (.inr (fun _ => none)))))), (ca 1, .inl (cc 1, 1400, .inl (fun _ => 0))), (ca 4, .inr (1, [.int 0, .ref qi])), (ca 5, .inr (6, [.int 0, .int 0, .int 0, .ref (qp 3), .ref (qp 4), .int 0, .int 0, .int 0, .int 0, .int 0, .int 0, .int 0, .ref (qp 12), .int 0, .ref (qp 14)])), (ca 6, .inr (4, [.int 0, .int 0, .int 0, .int 0, .int 0, .ref (qm 5), .int 0, .ref (qm 7)])), (ma 1, .inl (cm 1, 1400, .inl (fun _ => 0))), (ma 8, .inl (cm 8, 10240, .inl (fun _ => 0))), (ma 9, .inl (cm 9, 10240, .inl (fun _ => 0)))]) (w1 := []) hP hD [6, 8] [0, 1, 2, 3, 4, 5, 7, 9, 10] rfl rfl (by decide) (by decide) hk1 hFc va_P_nil va_D_nil
  have hP : va_P D vwCl [(x0, .inr (10, [.ref (ca 0), .ref (ca 1), .int 0, .ref (ca 3), .ref (ca 4), .ref (ca 5), .ref (ca 6)])), (ca 0, .inl (cc 0, 4, .inr (.inr (.inr (.inr (fun _ => none)))))), (ca 1, .inl (cc 1, 1400, .inl (fun _ => 0))), (ca 4, .inr (1, [.int 0, .ref qi])), (ca 5, .inr (6, [.int 0, .int 0, .int 0, .ref (qp 3), .ref (qp 4), .int 0, .int 0, .int 0, .int 0, .int 0, .int 0, .int 0, .ref (qp 12), .int 0, .ref (qp 14)])), (ca 6, .inr (4, [.int 0, .int 0, .int 0, .int 0, .int 0, .ref (qm 5), .int 0, .ref (qm 7)])), (ma 1, .inl (cm 1, 1400, .inl (fun _ => 0))), (ma 8, .inl (cm 8, 10240, .inl (fun _ => 0))), (ma 9, .inl (cm 9, 10240, .inl (fun _ => 0)))] H := hP
  have hD : va_D A [(x0, .inr (10, [.ref (ca 0), .ref (ca 1), .int 0, .ref (ca 3), .ref (ca 4), .ref (ca 5), .ref (ca 6)])), (ca 0, .inl (cc 0, 4, .inr (.inr (.inr (.inr (fun _ => none)))))), (ca 1, .inl (cc 1, 1400, .inl (fun _ => 0))), (ca 4, .inr (1, [.int 0, .ref qi])), (ca 5, .inr (6, [.int 0, .int 0, .int 0, .ref (qp 3), .ref (qp 4), .int 0, .int 0, .int 0, .int 0, .int 0, .int 0, .int 0, .ref (qp 12), .int 0, .ref (qp 14)])), (ca 6, .inr (4, [.int 0, .int 0, .int 0, .int 0, .int 0, .ref (qm 5), .int 0, .ref (qm 7)])), (ma 1, .inl (cm 1, 1400, .inl (fun _ => 0))), (ma 8, .inl (cm 8, 10240, .inl (fun _ => 0))), (ma 9, .inl (cm 9, 10240, .inl (fun _ => 0)))] := hD
  try dsimp only at hw
  clear hB hz1 hk1 hFc hPc hKc hDc
  obtain rfl : r10 = (-2) := hw
  refine lv_icmp_eq (tgt := 1735) hx hb dL_law_482 (by decide) (fun hc => ?_) (fun hc => absurd (by decide) hc)
  exact law_tail (D := D) l C0 hN hA hbA hA2 (Nat.le_of_ble_eq_true rfl) (Nat.le_of_ble_eq_true rfl) hS hl

set_option maxHeartbeats 4000000 in
set_option maxRecDepth 100000 in
theorem law_case_6 {p : Program} {e : Env} {s : State} {m : MethodId} {below : List Frame} {meth : Method} {c : Code} (l : Launch) {b : Nat} {xs : Nat → Int32} {D : va_G} {A : Nat → Prop} (C0 : lw_At p s m meth c b 7 xs) (hN : NN s) (hA : ∀ q, s.heap.size ≤ q → A q) (hbA : ¬ A b) (hA2 : ∀ q, A q → s.heap.size ≤ q) (x0 m0 : Nat) (ca : Nat → Nat) (cc : Nat → ClassId) (qi : Nat) (qp qm : Nat → Nat) (ma : Nat → Nat) (cm : Nat → ClassId) (H : Heap) (locs : List Loc) (hK : va_K D vwCl [(cc 0, .object RX9), (cc 1, .int), (cm 1, .byte), (cm 3, .long), (cm 8, .int), (cm 9, .int)] s) (hP : va_P D vwCl [(x0, .inr (10, [.ref (ca 0), .ref (ca 1), .int 0, .ref (ca 3), .ref (ca 4), .ref (ca 5), .ref (ca 6)])), (ca 0, .inl (cc 0, 4, .inr (.inr (.inr (.inr (fun _ => none)))))), (ca 1, .inl (cc 1, 1400, .inl (fun _ => 0))), (ca 4, .inr (1, [.int 0, .ref qi])), (ca 5, .inr (6, [.int 0, .int 0, .int 0, .ref (qp 3), .ref (qp 4), .int 0, .int 0, .int 0, .int 0, .int 0, .int 0, .int 0, .ref (qp 12), .int 0, .ref (qp 14)])), (ca 6, .inr (4, [.int 0, .int 0, .int 0, .int 0, .int 0, .ref (qm 5), .int 0, .ref (qm 7)])), (m0, .inr (11, fM ma 0 0 0 0 0)), (ma 1, .inl (cm 1, 1400, .inl (fun _ => 0))), (ma 3, .inl (cm 3, 85, .inr (.inl (fun _ => 0)))), (ma 8, .inl (cm 8, 10240, .inl (fun _ => 0))), (ma 9, .inl (cm 9, 10240, .inl (fun _ => 0)))] H) (hD : va_D A [(x0, .inr (10, [.ref (ca 0), .ref (ca 1), .int 0, .ref (ca 3), .ref (ca 4), .ref (ca 5), .ref (ca 6)])), (ca 0, .inl (cc 0, 4, .inr (.inr (.inr (.inr (fun _ => none)))))), (ca 1, .inl (cc 1, 1400, .inl (fun _ => 0))), (ca 4, .inr (1, [.int 0, .ref qi])), (ca 5, .inr (6, [.int 0, .int 0, .int 0, .ref (qp 3), .ref (qp 4), .int 0, .int 0, .int 0, .int 0, .int 0, .int 0, .int 0, .ref (qp 12), .int 0, .ref (qp 14)])), (ca 6, .inr (4, [.int 0, .int 0, .int 0, .int 0, .int 0, .ref (qm 5), .int 0, .ref (qm 7)])), (m0, .inr (11, fM ma 0 0 0 0 0)), (ma 1, .inl (cm 1, 1400, .inl (fun _ => 0))), (ma 3, .inl (cm 3, 85, .inr (.inl (fun _ => 0)))), (ma 8, .inl (cm 8, 10240, .inl (fun _ => 0))), (ma 9, .inl (cm 9, 10240, .inl (fun _ => 0)))]) (hS : va_S A s.heap H locs) (ls : Array Slot) (hl : lv_has ls 4 [(3, .int 0), (2, .ref m0), (1, .ref x0), (0, .ref b)]) : W p l e room_1 s m #[Value.ref b] below meth c H locs 46 68513 (lw_Z below #[Value.ref b] s) (F0 m 487 ls []) := by
  have C0 := C0
  have C1 := C0
  obtain ⟨hx, hb, hr, hml, hown, hts, hX, hbl, hlocks, hgv⟩ := C1
  have hown : s.vm.findClass RL = some m.cls := hown
  have hin : ∀ k : Nat, k < 7 → vp_in (nI k) 7 := fun k hk => vp_in_nI hk (by decide)
  refine lv_aload_n hx hb dL_law_487 rfl (lv_at hl 2 rfl) ?_
  refine lv_aload_n hx hb dL_law_488 rfl (lv_at hl 3 rfl) ?_
  refine lv_iload_n hx hb dL_law_489 rfl (lv_at hl 0 rfl) ?_
  refine lv_iconst (v := 1) hx hb dL_law_490 (by decide) ?_
  refine lv_iadd hx hb dL_law_491 ?_
  refine lv_topi (fun v1 ev1 => ?_)
  obtain rfl : v1 = 1 := ev1.trans (by decide)
  refine va_sld hx hb hX hbl hbA hS (hin 1 (by omega)) dL_law_492 ?_
  refine lv_topi (fun v2 ev2 => ?_)
  obtain rfl : v2 = xs 1 := ev2
  have hPc := hP.sub (ws' := [(x0, .inr (10, [.ref (ca 0), .ref (ca 1), .int 0, .ref (ca 3), .ref (ca 4), .ref (ca 5), .ref (ca 6)])), (ca 0, .inl (cc 0, 4, .inr (.inr (.inr (.inr (fun _ => none))))))]) [0, 1] rfl
  have hKc := hK.sub (tys' := [(cc 0, .object RX9)]) [0] rfl
  have hFc := va_free0 hS hA
  refine va_calli (va_runV (As := [.int (xs 1)]) (rest := []) ⟨hx, hb, hml, hown, hts⟩ (c_X10_build l D _ x0 ca (cc 0) 0 (xs 1)) (cwV 1 hts g_L_c_X10_build_45 rfl rfl rfl (by decide +kernel) ⟨(Nat.le_of_ble_eq_true rfl), (Nat.le_of_ble_eq_true rfl)⟩) (PcR_V (q0 := 0) hPc hKc rfl rfl) rfl rfl hl.1 rfl (lv_room (Nat.le_of_ble_eq_true rfl)) dL_law_493 ⟨(Nat.le_of_ble_eq_true rfl), (Nat.le_of_ble_eq_true rfl)⟩) hS (fun q _ h => hFc q h) hFc (fun r3 uu tt H locs htt hvm hw hB hz1 hk1 hS => ?_)
  have hP := va_keep hP hk1
  try dsimp only at hw
  clear hB hz1 hk1 hFc hPc hKc
  obtain rfl : r3 = (-2) := hw
  refine lv_aload_n hx hb dL_law_496 rfl (lv_at hl 1 rfl) ?_
  refine lv_aload_n hx hb dL_law_497 rfl (lv_at hl 3 rfl) ?_
  refine lv_iload_n hx hb dL_law_498 rfl (lv_at hl 0 rfl) ?_
  refine lv_iconst (v := 1) hx hb dL_law_499 (by decide) ?_
  refine lv_iadd hx hb dL_law_500 ?_
  refine lv_topi (fun v4 ev4 => ?_)
  obtain rfl : v4 = 1 := ev4.trans (by decide)
  refine va_sld hx hb hX hbl hbA hS (hin 1 (by omega)) dL_law_501 ?_
  refine lv_topi (fun v5 ev5 => ?_)
  obtain rfl : v5 = xs 1 := ev5
  have hPc := hP.sub (ws' := [(m0, .inr (11, fM ma 0 0 0 0 0)), (ma 3, .inl (cm 3, 85, .inr (.inl (fun _ => 0))))]) [6, 8] rfl
  have hKc := hK.sub (tys' := [(cm 3, .long)]) [3] rfl
  have hDc := hD.sub (ws' := [(m0, .inr (11, fM ma 0 0 0 0 0)), (ma 3, .inl (cm 3, 85, .inr (.inl (fun _ => 0))))]) [6, 8] (by decide) rfl
  have hFc := va_free (wc := [(m0, .inr (11, fM ma 0 0 0 0 0)), (ma 3, .inl (cm 3, 85, .inr (.inl (fun _ => 0))))]) hD hS hA [6, 8] rfl
  refine va_calli (va_runV (As := [.int (xs 1)]) (rest := [.int (-2)]) ⟨hx, hb, hml, hown, hts⟩ (c_X11_build l D _ m0 ma (cm 3) 0 0 0 0 0 (xs 1)) (cwV 1 hts g_L_c_X11_build_49 rfl rfl rfl (by decide +kernel) ⟨(Nat.le_of_ble_eq_true rfl), (Nat.le_of_ble_eq_true rfl)⟩) (PcW_V (q0 := 0) hPc hKc hDc rfl rfl) rfl rfl hl.1 rfl (lv_room (Nat.le_of_ble_eq_true rfl)) dL_law_502 ⟨(Nat.le_of_ble_eq_true rfl), (Nat.le_of_ble_eq_true rfl)⟩) hS (fun q _ h => hFc q h) hFc (fun r6 uu tt H locs htt hvm hw hB hz1 hk1 hS => ?_)
  obtain ⟨hP, hD⟩ := va_join (wr := [(x0, .inr (10, [.ref (ca 0), .ref (ca 1), .int 0, .ref (ca 3), .ref (ca 4), .ref (ca 5), .ref (ca 6)])), (ca 0, .inl (cc 0, 4, .inr (.inr (.inr (.inr (fun _ => none)))))), (ca 1, .inl (cc 1, 1400, .inl (fun _ => 0))), (ca 4, .inr (1, [.int 0, .ref qi])), (ca 5, .inr (6, [.int 0, .int 0, .int 0, .ref (qp 3), .ref (qp 4), .int 0, .int 0, .int 0, .int 0, .int 0, .int 0, .int 0, .ref (qp 12), .int 0, .ref (qp 14)])), (ca 6, .inr (4, [.int 0, .int 0, .int 0, .int 0, .int 0, .ref (qm 5), .int 0, .ref (qm 7)])), (ma 1, .inl (cm 1, 1400, .inl (fun _ => 0))), (ma 8, .inl (cm 8, 10240, .inl (fun _ => 0))), (ma 9, .inl (cm 9, 10240, .inl (fun _ => 0)))]) (w1 := []) hP hD [6, 8] [0, 1, 2, 3, 4, 5, 7, 9, 10] rfl rfl (by decide) (by decide) hk1 hFc va_P_nil va_D_nil
  have hP : va_P D vwCl [(x0, .inr (10, [.ref (ca 0), .ref (ca 1), .int 0, .ref (ca 3), .ref (ca 4), .ref (ca 5), .ref (ca 6)])), (ca 0, .inl (cc 0, 4, .inr (.inr (.inr (.inr (fun _ => none)))))), (ca 1, .inl (cc 1, 1400, .inl (fun _ => 0))), (ca 4, .inr (1, [.int 0, .ref qi])), (ca 5, .inr (6, [.int 0, .int 0, .int 0, .ref (qp 3), .ref (qp 4), .int 0, .int 0, .int 0, .int 0, .int 0, .int 0, .int 0, .ref (qp 12), .int 0, .ref (qp 14)])), (ca 6, .inr (4, [.int 0, .int 0, .int 0, .int 0, .int 0, .ref (qm 5), .int 0, .ref (qm 7)])), (ma 1, .inl (cm 1, 1400, .inl (fun _ => 0))), (ma 8, .inl (cm 8, 10240, .inl (fun _ => 0))), (ma 9, .inl (cm 9, 10240, .inl (fun _ => 0)))] H := hP
  have hD : va_D A [(x0, .inr (10, [.ref (ca 0), .ref (ca 1), .int 0, .ref (ca 3), .ref (ca 4), .ref (ca 5), .ref (ca 6)])), (ca 0, .inl (cc 0, 4, .inr (.inr (.inr (.inr (fun _ => none)))))), (ca 1, .inl (cc 1, 1400, .inl (fun _ => 0))), (ca 4, .inr (1, [.int 0, .ref qi])), (ca 5, .inr (6, [.int 0, .int 0, .int 0, .ref (qp 3), .ref (qp 4), .int 0, .int 0, .int 0, .int 0, .int 0, .int 0, .int 0, .ref (qp 12), .int 0, .ref (qp 14)])), (ca 6, .inr (4, [.int 0, .int 0, .int 0, .int 0, .int 0, .ref (qm 5), .int 0, .ref (qm 7)])), (ma 1, .inl (cm 1, 1400, .inl (fun _ => 0))), (ma 8, .inl (cm 8, 10240, .inl (fun _ => 0))), (ma 9, .inl (cm 9, 10240, .inl (fun _ => 0)))] := hD
  try dsimp only at hw
  clear hB hz1 hk1 hFc hPc hKc hDc
  obtain rfl : r6 = (-2) := hw
  refine lv_icmp_eq (tgt := 1735) hx hb dL_law_505 (by decide) (fun hc => ?_) (fun hc => absurd (by decide) hc)
  exact law_tail (D := D) l C0 hN hA hbA hA2 (Nat.le_of_ble_eq_true rfl) (Nat.le_of_ble_eq_true rfl) hS hl

set_option maxHeartbeats 4000000 in
set_option maxRecDepth 100000 in
theorem law_case_7 {p : Program} {e : Env} {s : State} {m : MethodId} {below : List Frame} {meth : Method} {c : Code} (l : Launch) {b : Nat} {xs : Nat → Int32} {D : va_G} {A : Nat → Prop} (C0 : lw_At p s m meth c b 7 xs) (hN : NN s) (hA : ∀ q, s.heap.size ≤ q → A q) (hbA : ¬ A b) (hA2 : ∀ q, A q → s.heap.size ≤ q) (x0 m0 : Nat) (ca : Nat → Nat) (cc : Nat → ClassId) (qi : Nat) (qp qm : Nat → Nat) (ma : Nat → Nat) (cm : Nat → ClassId) (H : Heap) (locs : List Loc) (hK : va_K D vwCl [(cc 0, .object RX9), (cc 1, .int), (cm 1, .byte), (cm 3, .long), (cm 8, .int), (cm 9, .int)] s) (hP : va_P D vwCl [(x0, .inr (10, [.ref (ca 0), .ref (ca 1), .int 0, .ref (ca 3), .ref (ca 4), .ref (ca 5), .ref (ca 6)])), (ca 0, .inl (cc 0, 4, .inr (.inr (.inr (.inr (fun _ => none)))))), (ca 1, .inl (cc 1, 1400, .inl (fun _ => 0))), (ca 4, .inr (1, [.int 0, .ref qi])), (ca 5, .inr (6, [.int 0, .int 0, .int 0, .ref (qp 3), .ref (qp 4), .int 0, .int 0, .int 0, .int 0, .int 0, .int 0, .int 0, .ref (qp 12), .int 0, .ref (qp 14)])), (ca 6, .inr (4, [.int 0, .int 0, .int 0, .int 0, .int 0, .ref (qm 5), .int 0, .ref (qm 7)])), (m0, .inr (11, fM ma 0 0 0 0 0)), (ma 1, .inl (cm 1, 1400, .inl (fun _ => 0))), (ma 3, .inl (cm 3, 85, .inr (.inl (fun _ => 0)))), (ma 8, .inl (cm 8, 10240, .inl (fun _ => 0))), (ma 9, .inl (cm 9, 10240, .inl (fun _ => 0)))] H) (hD : va_D A [(x0, .inr (10, [.ref (ca 0), .ref (ca 1), .int 0, .ref (ca 3), .ref (ca 4), .ref (ca 5), .ref (ca 6)])), (ca 0, .inl (cc 0, 4, .inr (.inr (.inr (.inr (fun _ => none)))))), (ca 1, .inl (cc 1, 1400, .inl (fun _ => 0))), (ca 4, .inr (1, [.int 0, .ref qi])), (ca 5, .inr (6, [.int 0, .int 0, .int 0, .ref (qp 3), .ref (qp 4), .int 0, .int 0, .int 0, .int 0, .int 0, .int 0, .int 0, .ref (qp 12), .int 0, .ref (qp 14)])), (ca 6, .inr (4, [.int 0, .int 0, .int 0, .int 0, .int 0, .ref (qm 5), .int 0, .ref (qm 7)])), (m0, .inr (11, fM ma 0 0 0 0 0)), (ma 1, .inl (cm 1, 1400, .inl (fun _ => 0))), (ma 3, .inl (cm 3, 85, .inr (.inl (fun _ => 0)))), (ma 8, .inl (cm 8, 10240, .inl (fun _ => 0))), (ma 9, .inl (cm 9, 10240, .inl (fun _ => 0)))]) (hS : va_S A s.heap H locs) (ls : Array Slot) (hl : lv_has ls 4 [(3, .int 0), (2, .ref m0), (1, .ref x0), (0, .ref b)]) : W p l e room_1 s m #[Value.ref b] below meth c H locs 46 68513 (lw_Z below #[Value.ref b] s) (F0 m 510 ls []) := by
  have C0 := C0
  have C1 := C0
  obtain ⟨hx, hb, hr, hml, hown, hts, hX, hbl, hlocks, hgv⟩ := C1
  have hown : s.vm.findClass RL = some m.cls := hown
  have hin : ∀ k : Nat, k < 7 → vp_in (nI k) 7 := fun k hk => vp_in_nI hk (by decide)
  refine lv_aload_n hx hb dL_law_510 rfl (lv_at hl 2 rfl) ?_
  refine lv_aload_n hx hb dL_law_511 rfl (lv_at hl 3 rfl) ?_
  refine lv_iload_n hx hb dL_law_512 rfl (lv_at hl 0 rfl) ?_
  refine lv_iconst (v := 1) hx hb dL_law_513 (by decide) ?_
  refine lv_iadd hx hb dL_law_514 ?_
  refine lv_topi (fun v1 ev1 => ?_)
  obtain rfl : v1 = 1 := ev1.trans (by decide)
  refine va_sld hx hb hX hbl hbA hS (hin 1 (by omega)) dL_law_515 ?_
  refine lv_topi (fun v2 ev2 => ?_)
  obtain rfl : v2 = xs 1 := ev2
  refine lv_aload_n hx hb dL_law_516 rfl (lv_at hl 3 rfl) ?_
  refine lv_iload_n hx hb dL_law_517 rfl (lv_at hl 0 rfl) ?_
  refine lv_iconst (v := 2) hx hb dL_law_518 (by decide) ?_
  refine lv_iadd hx hb dL_law_519 ?_
  refine lv_topi (fun v3 ev3 => ?_)
  obtain rfl : v3 = 2 := ev3.trans (by decide)
  refine va_sld hx hb hX hbl hbA hS (hin 2 (by omega)) dL_law_520 ?_
  refine lv_topi (fun v4 ev4 => ?_)
  obtain rfl : v4 = xs 2 := ev4
  have hPc := hP.sub (ws' := [(x0, .inr (10, [.ref (ca 0), .ref (ca 1), .int 0, .ref (ca 3), .ref (ca 4), .ref (ca 5), .ref (ca 6)])), (ca 0, .inl (cc 0, 4, .inr (.inr (.inr (.inr (fun _ => none))))))]) [0, 1] rfl
  have hKc := hK.sub (tys' := [(cc 0, .object RX9)]) [0] rfl
  have hFc := va_free0 hS hA
  refine va_calll (va_runV (As := [.int (xs 1), .int (xs 2)]) (rest := []) ⟨hx, hb, hml, hown, hts⟩ (c_X10_has l D _ x0 ca (cc 0) 0 (xs 1) (xs 2)) (cwV 2 hts g_L_c_X10_has_50 rfl rfl rfl (by decide +kernel) ⟨(Nat.le_of_ble_eq_true rfl), (Nat.le_of_ble_eq_true rfl)⟩) (PcR_V (q0 := 0) hPc hKc rfl rfl) rfl rfl hl.1 rfl (lv_room (Nat.le_of_ble_eq_true rfl)) dL_law_521 ⟨(Nat.le_of_ble_eq_true rfl), (Nat.le_of_ble_eq_true rfl)⟩) hS (fun q _ h => hFc q h) hFc (fun r5 uu tt H locs htt hvm hw hB hz1 hk1 hS => ?_)
  have hP := va_keep hP hk1
  try dsimp only at hw
  clear hB hz1 hk1 hFc hPc hKc
  obtain rfl : r5 = (-1000000000000000) := hw
  refine lv_aload_n hx hb dL_law_524 rfl (lv_at hl 1 rfl) ?_
  refine lv_aload_n hx hb dL_law_525 rfl (lv_at hl 3 rfl) ?_
  refine lv_iload_n hx hb dL_law_526 rfl (lv_at hl 0 rfl) ?_
  refine lv_iconst (v := 1) hx hb dL_law_527 (by decide) ?_
  refine lv_iadd hx hb dL_law_528 ?_
  refine lv_topi (fun v6 ev6 => ?_)
  obtain rfl : v6 = 1 := ev6.trans (by decide)
  refine va_sld hx hb hX hbl hbA hS (hin 1 (by omega)) dL_law_529 ?_
  refine lv_topi (fun v7 ev7 => ?_)
  obtain rfl : v7 = xs 1 := ev7
  refine lv_aload_n hx hb dL_law_530 rfl (lv_at hl 3 rfl) ?_
  refine lv_iload_n hx hb dL_law_531 rfl (lv_at hl 0 rfl) ?_
  refine lv_iconst (v := 2) hx hb dL_law_532 (by decide) ?_
  refine lv_iadd hx hb dL_law_533 ?_
  refine lv_topi (fun v8 ev8 => ?_)
  obtain rfl : v8 = 2 := ev8.trans (by decide)
  refine va_sld hx hb hX hbl hbA hS (hin 2 (by omega)) dL_law_534 ?_
  refine lv_topi (fun v9 ev9 => ?_)
  obtain rfl : v9 = xs 2 := ev9
  have hPc := hP.sub (ws' := [(m0, .inr (11, fM ma 0 0 0 0 0)), (ma 3, .inl (cm 3, 85, .inr (.inl (fun _ => 0))))]) [6, 8] rfl
  have hKc := hK.sub (tys' := [(cm 3, .long)]) [3] rfl
  have hDc := hD.sub (ws' := [(m0, .inr (11, fM ma 0 0 0 0 0)), (ma 3, .inl (cm 3, 85, .inr (.inl (fun _ => 0))))]) [6, 8] (by decide) rfl
  have hFc := va_free (wc := [(m0, .inr (11, fM ma 0 0 0 0 0)), (ma 3, .inl (cm 3, 85, .inr (.inl (fun _ => 0))))]) hD hS hA [6, 8] rfl
  refine va_calll (va_runV (As := [.int (xs 1), .int (xs 2)]) (rest := [.long (-1000000000000000)]) ⟨hx, hb, hml, hown, hts⟩ (c_X11_has l D _ m0 ma (cm 3) 0 0 0 0 0 (xs 1) (xs 2)) (cwV 2 hts g_L_c_X11_has_53 rfl rfl rfl (by decide +kernel) ⟨(Nat.le_of_ble_eq_true rfl), (Nat.le_of_ble_eq_true rfl)⟩) (PcW_V (q0 := 0) hPc hKc hDc rfl rfl) rfl rfl hl.1 rfl (lv_room (Nat.le_of_ble_eq_true rfl)) dL_law_535 ⟨(Nat.le_of_ble_eq_true rfl), (Nat.le_of_ble_eq_true rfl)⟩) hS (fun q _ h => hFc q h) hFc (fun r10 uu tt H locs htt hvm hw hB hz1 hk1 hS => ?_)
  obtain ⟨hP, hD⟩ := va_join (wr := [(x0, .inr (10, [.ref (ca 0), .ref (ca 1), .int 0, .ref (ca 3), .ref (ca 4), .ref (ca 5), .ref (ca 6)])), (ca 0, .inl (cc 0, 4, .inr (.inr (.inr (.inr (fun _ => none)))))), (ca 1, .inl (cc 1, 1400, .inl (fun _ => 0))), (ca 4, .inr (1, [.int 0, .ref qi])), (ca 5, .inr (6, [.int 0, .int 0, .int 0, .ref (qp 3), .ref (qp 4), .int 0, .int 0, .int 0, .int 0, .int 0, .int 0, .int 0, .ref (qp 12), .int 0, .ref (qp 14)])), (ca 6, .inr (4, [.int 0, .int 0, .int 0, .int 0, .int 0, .ref (qm 5), .int 0, .ref (qm 7)])), (ma 1, .inl (cm 1, 1400, .inl (fun _ => 0))), (ma 8, .inl (cm 8, 10240, .inl (fun _ => 0))), (ma 9, .inl (cm 9, 10240, .inl (fun _ => 0)))]) (w1 := []) hP hD [6, 8] [0, 1, 2, 3, 4, 5, 7, 9, 10] rfl rfl (by decide) (by decide) hk1 hFc va_P_nil va_D_nil
  have hP : va_P D vwCl [(x0, .inr (10, [.ref (ca 0), .ref (ca 1), .int 0, .ref (ca 3), .ref (ca 4), .ref (ca 5), .ref (ca 6)])), (ca 0, .inl (cc 0, 4, .inr (.inr (.inr (.inr (fun _ => none)))))), (ca 1, .inl (cc 1, 1400, .inl (fun _ => 0))), (ca 4, .inr (1, [.int 0, .ref qi])), (ca 5, .inr (6, [.int 0, .int 0, .int 0, .ref (qp 3), .ref (qp 4), .int 0, .int 0, .int 0, .int 0, .int 0, .int 0, .int 0, .ref (qp 12), .int 0, .ref (qp 14)])), (ca 6, .inr (4, [.int 0, .int 0, .int 0, .int 0, .int 0, .ref (qm 5), .int 0, .ref (qm 7)])), (ma 1, .inl (cm 1, 1400, .inl (fun _ => 0))), (ma 8, .inl (cm 8, 10240, .inl (fun _ => 0))), (ma 9, .inl (cm 9, 10240, .inl (fun _ => 0)))] H := hP
  have hD : va_D A [(x0, .inr (10, [.ref (ca 0), .ref (ca 1), .int 0, .ref (ca 3), .ref (ca 4), .ref (ca 5), .ref (ca 6)])), (ca 0, .inl (cc 0, 4, .inr (.inr (.inr (.inr (fun _ => none)))))), (ca 1, .inl (cc 1, 1400, .inl (fun _ => 0))), (ca 4, .inr (1, [.int 0, .ref qi])), (ca 5, .inr (6, [.int 0, .int 0, .int 0, .ref (qp 3), .ref (qp 4), .int 0, .int 0, .int 0, .int 0, .int 0, .int 0, .int 0, .ref (qp 12), .int 0, .ref (qp 14)])), (ca 6, .inr (4, [.int 0, .int 0, .int 0, .int 0, .int 0, .ref (qm 5), .int 0, .ref (qm 7)])), (ma 1, .inl (cm 1, 1400, .inl (fun _ => 0))), (ma 8, .inl (cm 8, 10240, .inl (fun _ => 0))), (ma 9, .inl (cm 9, 10240, .inl (fun _ => 0)))] := hD
  try dsimp only at hw
  clear hB hz1 hk1 hFc hPc hKc hDc
  obtain rfl : r10 = (-1000000000000000) := hw
  refine W.lcmp hx hb dL_law_538 ?_
  refine lv_topi (fun v11 ev11 => ?_)
  obtain rfl : v11 = 0 := ev11.trans (by decide)
  refine lv_if_eq (tgt := 1735) hx hb dL_law_539 (by decide) (fun hc => ?_) (fun hc => absurd (by decide) hc)
  exact law_tail (D := D) l C0 hN hA hbA hA2 (Nat.le_of_ble_eq_true rfl) (Nat.le_of_ble_eq_true rfl) hS hl

set_option maxHeartbeats 4000000 in
set_option maxRecDepth 100000 in
theorem law_case_8 {p : Program} {e : Env} {s : State} {m : MethodId} {below : List Frame} {meth : Method} {c : Code} (l : Launch) {b : Nat} {xs : Nat → Int32} {D : va_G} {A : Nat → Prop} (C0 : lw_At p s m meth c b 7 xs) (hN : NN s) (hA : ∀ q, s.heap.size ≤ q → A q) (hbA : ¬ A b) (hA2 : ∀ q, A q → s.heap.size ≤ q) (x0 m0 : Nat) (ca : Nat → Nat) (cc : Nat → ClassId) (qi : Nat) (qp qm : Nat → Nat) (ma : Nat → Nat) (cm : Nat → ClassId) (H : Heap) (locs : List Loc) (hK : va_K D vwCl [(cc 0, .object RX9), (cc 1, .int), (cm 1, .byte), (cm 3, .long), (cm 8, .int), (cm 9, .int)] s) (hP : va_P D vwCl [(x0, .inr (10, [.ref (ca 0), .ref (ca 1), .int 0, .ref (ca 3), .ref (ca 4), .ref (ca 5), .ref (ca 6)])), (ca 0, .inl (cc 0, 4, .inr (.inr (.inr (.inr (fun _ => none)))))), (ca 1, .inl (cc 1, 1400, .inl (fun _ => 0))), (ca 4, .inr (1, [.int 0, .ref qi])), (ca 5, .inr (6, [.int 0, .int 0, .int 0, .ref (qp 3), .ref (qp 4), .int 0, .int 0, .int 0, .int 0, .int 0, .int 0, .int 0, .ref (qp 12), .int 0, .ref (qp 14)])), (ca 6, .inr (4, [.int 0, .int 0, .int 0, .int 0, .int 0, .ref (qm 5), .int 0, .ref (qm 7)])), (m0, .inr (11, fM ma 0 0 0 0 0)), (ma 1, .inl (cm 1, 1400, .inl (fun _ => 0))), (ma 3, .inl (cm 3, 85, .inr (.inl (fun _ => 0)))), (ma 8, .inl (cm 8, 10240, .inl (fun _ => 0))), (ma 9, .inl (cm 9, 10240, .inl (fun _ => 0)))] H) (hD : va_D A [(x0, .inr (10, [.ref (ca 0), .ref (ca 1), .int 0, .ref (ca 3), .ref (ca 4), .ref (ca 5), .ref (ca 6)])), (ca 0, .inl (cc 0, 4, .inr (.inr (.inr (.inr (fun _ => none)))))), (ca 1, .inl (cc 1, 1400, .inl (fun _ => 0))), (ca 4, .inr (1, [.int 0, .ref qi])), (ca 5, .inr (6, [.int 0, .int 0, .int 0, .ref (qp 3), .ref (qp 4), .int 0, .int 0, .int 0, .int 0, .int 0, .int 0, .int 0, .ref (qp 12), .int 0, .ref (qp 14)])), (ca 6, .inr (4, [.int 0, .int 0, .int 0, .int 0, .int 0, .ref (qm 5), .int 0, .ref (qm 7)])), (m0, .inr (11, fM ma 0 0 0 0 0)), (ma 1, .inl (cm 1, 1400, .inl (fun _ => 0))), (ma 3, .inl (cm 3, 85, .inr (.inl (fun _ => 0)))), (ma 8, .inl (cm 8, 10240, .inl (fun _ => 0))), (ma 9, .inl (cm 9, 10240, .inl (fun _ => 0)))]) (hS : va_S A s.heap H locs) (ls : Array Slot) (hl : lv_has ls 4 [(3, .int 0), (2, .ref m0), (1, .ref x0), (0, .ref b)]) : W p l e room_1 s m #[Value.ref b] below meth c H locs 46 68513 (lw_Z below #[Value.ref b] s) (F0 m 544 ls []) := by
  have C0 := C0
  have C1 := C0
  obtain ⟨hx, hb, hr, hml, hown, hts, hX, hbl, hlocks, hgv⟩ := C1
  have hown : s.vm.findClass RL = some m.cls := hown
  have hin : ∀ k : Nat, k < 7 → vp_in (nI k) 7 := fun k hk => vp_in_nI hk (by decide)
  refine lv_aload_n hx hb dL_law_544 rfl (lv_at hl 2 rfl) ?_
  refine lv_aload_n hx hb dL_law_545 rfl (lv_at hl 3 rfl) ?_
  refine lv_iload_n hx hb dL_law_546 rfl (lv_at hl 0 rfl) ?_
  refine lv_iconst (v := 1) hx hb dL_law_547 (by decide) ?_
  refine lv_iadd hx hb dL_law_548 ?_
  refine lv_topi (fun v1 ev1 => ?_)
  obtain rfl : v1 = 1 := ev1.trans (by decide)
  refine va_sld hx hb hX hbl hbA hS (hin 1 (by omega)) dL_law_549 ?_
  refine lv_topi (fun v2 ev2 => ?_)
  obtain rfl : v2 = xs 1 := ev2
  refine lv_aload_n hx hb dL_law_550 rfl (lv_at hl 3 rfl) ?_
  refine lv_iload_n hx hb dL_law_551 rfl (lv_at hl 0 rfl) ?_
  refine lv_iconst (v := 2) hx hb dL_law_552 (by decide) ?_
  refine lv_iadd hx hb dL_law_553 ?_
  refine lv_topi (fun v3 ev3 => ?_)
  obtain rfl : v3 = 2 := ev3.trans (by decide)
  refine va_sld hx hb hX hbl hbA hS (hin 2 (by omega)) dL_law_554 ?_
  refine lv_topi (fun v4 ev4 => ?_)
  obtain rfl : v4 = xs 2 := ev4
  refine lv_aload_n hx hb dL_law_555 rfl (lv_at hl 3 rfl) ?_
  refine lv_iload_n hx hb dL_law_556 rfl (lv_at hl 0 rfl) ?_
  refine lv_iconst (v := 3) hx hb dL_law_557 (by decide) ?_
  refine lv_iadd hx hb dL_law_558 ?_
  refine lv_topi (fun v5 ev5 => ?_)
  obtain rfl : v5 = 3 := ev5.trans (by decide)
  refine va_sld hx hb hX hbl hbA hS (hin 3 (by omega)) dL_law_559 ?_
  refine lv_topi (fun v6 ev6 => ?_)
  obtain rfl : v6 = xs 3 := ev6
  have hPc := hP.sub (ws' := [(x0, .inr (10, [.ref (ca 0), .ref (ca 1), .int 0, .ref (ca 3), .ref (ca 4), .ref (ca 5), .ref (ca 6)])), (ca 0, .inl (cc 0, 4, .inr (.inr (.inr (.inr (fun _ => none))))))]) [0, 1] rfl
  have hKc := hK.sub (tys' := [(cc 0, .object RX9)]) [0] rfl
  have hFc := va_free0 hS hA
  refine va_calll (va_runV (As := [.int (xs 1), .int (xs 2), .int (xs 3)]) (rest := []) ⟨hx, hb, hml, hown, hts⟩ (c_X10_bucket l D _ x0 ca (cc 0) 0 (xs 1) (xs 2) (xs 3)) (cwV 3 hts g_L_c_X10_bucket_54 rfl rfl rfl (by decide +kernel) ⟨(Nat.le_of_ble_eq_true rfl), (Nat.le_of_ble_eq_true rfl)⟩) (PcR_V (q0 := 0) hPc hKc rfl rfl) rfl rfl hl.1 rfl (lv_room (Nat.le_of_ble_eq_true rfl)) dL_law_560 ⟨(Nat.le_of_ble_eq_true rfl), (Nat.le_of_ble_eq_true rfl)⟩) hS (fun q _ h => hFc q h) hFc (fun r7 uu tt H locs htt hvm hw hB hz1 hk1 hS => ?_)
  have hP := va_keep hP hk1
  try dsimp only at hw
  clear hB hz1 hk1 hFc hPc hKc
  obtain rfl : r7 = (-1000000000000000) := hw
  refine lv_aload_n hx hb dL_law_563 rfl (lv_at hl 1 rfl) ?_
  refine lv_aload_n hx hb dL_law_564 rfl (lv_at hl 3 rfl) ?_
  refine lv_iload_n hx hb dL_law_565 rfl (lv_at hl 0 rfl) ?_
  refine lv_iconst (v := 1) hx hb dL_law_566 (by decide) ?_
  refine lv_iadd hx hb dL_law_567 ?_
  refine lv_topi (fun v8 ev8 => ?_)
  obtain rfl : v8 = 1 := ev8.trans (by decide)
  refine va_sld hx hb hX hbl hbA hS (hin 1 (by omega)) dL_law_568 ?_
  refine lv_topi (fun v9 ev9 => ?_)
  obtain rfl : v9 = xs 1 := ev9
  refine lv_aload_n hx hb dL_law_569 rfl (lv_at hl 3 rfl) ?_
  refine lv_iload_n hx hb dL_law_570 rfl (lv_at hl 0 rfl) ?_
  refine lv_iconst (v := 2) hx hb dL_law_571 (by decide) ?_
  refine lv_iadd hx hb dL_law_572 ?_
  refine lv_topi (fun v10 ev10 => ?_)
  obtain rfl : v10 = 2 := ev10.trans (by decide)
  refine va_sld hx hb hX hbl hbA hS (hin 2 (by omega)) dL_law_573 ?_
  refine lv_topi (fun v11 ev11 => ?_)
  obtain rfl : v11 = xs 2 := ev11
  refine lv_aload_n hx hb dL_law_574 rfl (lv_at hl 3 rfl) ?_
  refine lv_iload_n hx hb dL_law_575 rfl (lv_at hl 0 rfl) ?_
  refine lv_iconst (v := 3) hx hb dL_law_576 (by decide) ?_
  refine lv_iadd hx hb dL_law_577 ?_
  refine lv_topi (fun v12 ev12 => ?_)
  obtain rfl : v12 = 3 := ev12.trans (by decide)
  refine va_sld hx hb hX hbl hbA hS (hin 3 (by omega)) dL_law_578 ?_
  refine lv_topi (fun v13 ev13 => ?_)
  obtain rfl : v13 = xs 3 := ev13
  have hPc := hP.sub (ws' := [(m0, .inr (11, fM ma 0 0 0 0 0)), (ma 3, .inl (cm 3, 85, .inr (.inl (fun _ => 0))))]) [6, 8] rfl
  have hKc := hK.sub (tys' := [(cm 3, .long)]) [3] rfl
  have hDc := hD.sub (ws' := [(m0, .inr (11, fM ma 0 0 0 0 0)), (ma 3, .inl (cm 3, 85, .inr (.inl (fun _ => 0))))]) [6, 8] (by decide) rfl
  have hFc := va_free (wc := [(m0, .inr (11, fM ma 0 0 0 0 0)), (ma 3, .inl (cm 3, 85, .inr (.inl (fun _ => 0))))]) hD hS hA [6, 8] rfl
  refine va_calll (va_runV (As := [.int (xs 1), .int (xs 2), .int (xs 3)]) (rest := [.long (-1000000000000000)]) ⟨hx, hb, hml, hown, hts⟩ (c_X11_bucket l D _ m0 ma (cm 3) 0 0 0 0 0 (xs 1) (xs 2) (xs 3)) (cwV 3 hts g_L_c_X11_bucket_58 rfl rfl rfl (by decide +kernel) ⟨(Nat.le_of_ble_eq_true rfl), (Nat.le_of_ble_eq_true rfl)⟩) (PcW_V (q0 := 0) hPc hKc hDc rfl rfl) rfl rfl hl.1 rfl (lv_room (Nat.le_of_ble_eq_true rfl)) dL_law_579 ⟨(Nat.le_of_ble_eq_true rfl), (Nat.le_of_ble_eq_true rfl)⟩) hS (fun q _ h => hFc q h) hFc (fun r14 uu tt H locs htt hvm hw hB hz1 hk1 hS => ?_)
  obtain ⟨hP, hD⟩ := va_join (wr := [(x0, .inr (10, [.ref (ca 0), .ref (ca 1), .int 0, .ref (ca 3), .ref (ca 4), .ref (ca 5), .ref (ca 6)])), (ca 0, .inl (cc 0, 4, .inr (.inr (.inr (.inr (fun _ => none)))))), (ca 1, .inl (cc 1, 1400, .inl (fun _ => 0))), (ca 4, .inr (1, [.int 0, .ref qi])), (ca 5, .inr (6, [.int 0, .int 0, .int 0, .ref (qp 3), .ref (qp 4), .int 0, .int 0, .int 0, .int 0, .int 0, .int 0, .int 0, .ref (qp 12), .int 0, .ref (qp 14)])), (ca 6, .inr (4, [.int 0, .int 0, .int 0, .int 0, .int 0, .ref (qm 5), .int 0, .ref (qm 7)])), (ma 1, .inl (cm 1, 1400, .inl (fun _ => 0))), (ma 8, .inl (cm 8, 10240, .inl (fun _ => 0))), (ma 9, .inl (cm 9, 10240, .inl (fun _ => 0)))]) (w1 := []) hP hD [6, 8] [0, 1, 2, 3, 4, 5, 7, 9, 10] rfl rfl (by decide) (by decide) hk1 hFc va_P_nil va_D_nil
  have hP : va_P D vwCl [(x0, .inr (10, [.ref (ca 0), .ref (ca 1), .int 0, .ref (ca 3), .ref (ca 4), .ref (ca 5), .ref (ca 6)])), (ca 0, .inl (cc 0, 4, .inr (.inr (.inr (.inr (fun _ => none)))))), (ca 1, .inl (cc 1, 1400, .inl (fun _ => 0))), (ca 4, .inr (1, [.int 0, .ref qi])), (ca 5, .inr (6, [.int 0, .int 0, .int 0, .ref (qp 3), .ref (qp 4), .int 0, .int 0, .int 0, .int 0, .int 0, .int 0, .int 0, .ref (qp 12), .int 0, .ref (qp 14)])), (ca 6, .inr (4, [.int 0, .int 0, .int 0, .int 0, .int 0, .ref (qm 5), .int 0, .ref (qm 7)])), (ma 1, .inl (cm 1, 1400, .inl (fun _ => 0))), (ma 8, .inl (cm 8, 10240, .inl (fun _ => 0))), (ma 9, .inl (cm 9, 10240, .inl (fun _ => 0)))] H := hP
  have hD : va_D A [(x0, .inr (10, [.ref (ca 0), .ref (ca 1), .int 0, .ref (ca 3), .ref (ca 4), .ref (ca 5), .ref (ca 6)])), (ca 0, .inl (cc 0, 4, .inr (.inr (.inr (.inr (fun _ => none)))))), (ca 1, .inl (cc 1, 1400, .inl (fun _ => 0))), (ca 4, .inr (1, [.int 0, .ref qi])), (ca 5, .inr (6, [.int 0, .int 0, .int 0, .ref (qp 3), .ref (qp 4), .int 0, .int 0, .int 0, .int 0, .int 0, .int 0, .int 0, .ref (qp 12), .int 0, .ref (qp 14)])), (ca 6, .inr (4, [.int 0, .int 0, .int 0, .int 0, .int 0, .ref (qm 5), .int 0, .ref (qm 7)])), (ma 1, .inl (cm 1, 1400, .inl (fun _ => 0))), (ma 8, .inl (cm 8, 10240, .inl (fun _ => 0))), (ma 9, .inl (cm 9, 10240, .inl (fun _ => 0)))] := hD
  try dsimp only at hw
  clear hB hz1 hk1 hFc hPc hKc hDc
  obtain rfl : r14 = (-1000000000000000) := hw
  refine W.lcmp hx hb dL_law_582 ?_
  refine lv_topi (fun v15 ev15 => ?_)
  obtain rfl : v15 = 0 := ev15.trans (by decide)
  refine lv_if_eq (tgt := 1735) hx hb dL_law_583 (by decide) (fun hc => ?_) (fun hc => absurd (by decide) hc)
  exact law_tail (D := D) l C0 hN hA hbA hA2 (Nat.le_of_ble_eq_true rfl) (Nat.le_of_ble_eq_true rfl) hS hl

set_option maxHeartbeats 4000000 in
set_option maxRecDepth 100000 in
theorem law_case_9 {p : Program} {e : Env} {s : State} {m : MethodId} {below : List Frame} {meth : Method} {c : Code} (l : Launch) {b : Nat} {xs : Nat → Int32} {D : va_G} {A : Nat → Prop} (C0 : lw_At p s m meth c b 7 xs) (hN : NN s) (hA : ∀ q, s.heap.size ≤ q → A q) (hbA : ¬ A b) (hA2 : ∀ q, A q → s.heap.size ≤ q) (x0 m0 : Nat) (ca : Nat → Nat) (cc : Nat → ClassId) (qi : Nat) (qp qm : Nat → Nat) (ma : Nat → Nat) (cm : Nat → ClassId) (H : Heap) (locs : List Loc) (hK : va_K D vwCl [(cc 0, .object RX9), (cc 1, .int), (cm 1, .byte), (cm 3, .long), (cm 8, .int), (cm 9, .int)] s) (hP : va_P D vwCl [(x0, .inr (10, [.ref (ca 0), .ref (ca 1), .int 0, .ref (ca 3), .ref (ca 4), .ref (ca 5), .ref (ca 6)])), (ca 0, .inl (cc 0, 4, .inr (.inr (.inr (.inr (fun _ => none)))))), (ca 1, .inl (cc 1, 1400, .inl (fun _ => 0))), (ca 4, .inr (1, [.int 0, .ref qi])), (ca 5, .inr (6, [.int 0, .int 0, .int 0, .ref (qp 3), .ref (qp 4), .int 0, .int 0, .int 0, .int 0, .int 0, .int 0, .int 0, .ref (qp 12), .int 0, .ref (qp 14)])), (ca 6, .inr (4, [.int 0, .int 0, .int 0, .int 0, .int 0, .ref (qm 5), .int 0, .ref (qm 7)])), (m0, .inr (11, fM ma 0 0 0 0 0)), (ma 1, .inl (cm 1, 1400, .inl (fun _ => 0))), (ma 3, .inl (cm 3, 85, .inr (.inl (fun _ => 0)))), (ma 8, .inl (cm 8, 10240, .inl (fun _ => 0))), (ma 9, .inl (cm 9, 10240, .inl (fun _ => 0)))] H) (hD : va_D A [(x0, .inr (10, [.ref (ca 0), .ref (ca 1), .int 0, .ref (ca 3), .ref (ca 4), .ref (ca 5), .ref (ca 6)])), (ca 0, .inl (cc 0, 4, .inr (.inr (.inr (.inr (fun _ => none)))))), (ca 1, .inl (cc 1, 1400, .inl (fun _ => 0))), (ca 4, .inr (1, [.int 0, .ref qi])), (ca 5, .inr (6, [.int 0, .int 0, .int 0, .ref (qp 3), .ref (qp 4), .int 0, .int 0, .int 0, .int 0, .int 0, .int 0, .int 0, .ref (qp 12), .int 0, .ref (qp 14)])), (ca 6, .inr (4, [.int 0, .int 0, .int 0, .int 0, .int 0, .ref (qm 5), .int 0, .ref (qm 7)])), (m0, .inr (11, fM ma 0 0 0 0 0)), (ma 1, .inl (cm 1, 1400, .inl (fun _ => 0))), (ma 3, .inl (cm 3, 85, .inr (.inl (fun _ => 0)))), (ma 8, .inl (cm 8, 10240, .inl (fun _ => 0))), (ma 9, .inl (cm 9, 10240, .inl (fun _ => 0)))]) (hS : va_S A s.heap H locs) (ls : Array Slot) (hl : lv_has ls 4 [(3, .int 0), (2, .ref m0), (1, .ref x0), (0, .ref b)]) : W p l e room_1 s m #[Value.ref b] below meth c H locs 46 68513 (lw_Z below #[Value.ref b] s) (F0 m 588 ls []) := by
  have C0 := C0
  have C1 := C0
  obtain ⟨hx, hb, hr, hml, hown, hts, hX, hbl, hlocks, hgv⟩ := C1
  have hown : s.vm.findClass RL = some m.cls := hown
  have hin : ∀ k : Nat, k < 7 → vp_in (nI k) 7 := fun k hk => vp_in_nI hk (by decide)
  refine lv_aload_n hx hb dL_law_588 rfl (lv_at hl 2 rfl) ?_
  refine lv_aload_n hx hb dL_law_589 rfl (lv_at hl 3 rfl) ?_
  refine lv_iload_n hx hb dL_law_590 rfl (lv_at hl 0 rfl) ?_
  refine lv_iconst (v := 1) hx hb dL_law_591 (by decide) ?_
  refine lv_iadd hx hb dL_law_592 ?_
  refine lv_topi (fun v1 ev1 => ?_)
  obtain rfl : v1 = 1 := ev1.trans (by decide)
  refine va_sld hx hb hX hbl hbA hS (hin 1 (by omega)) dL_law_593 ?_
  refine lv_topi (fun v2 ev2 => ?_)
  obtain rfl : v2 = xs 1 := ev2
  refine lv_aload_n hx hb dL_law_594 rfl (lv_at hl 3 rfl) ?_
  refine lv_iload_n hx hb dL_law_595 rfl (lv_at hl 0 rfl) ?_
  refine lv_iconst (v := 2) hx hb dL_law_596 (by decide) ?_
  refine lv_iadd hx hb dL_law_597 ?_
  refine lv_topi (fun v3 ev3 => ?_)
  obtain rfl : v3 = 2 := ev3.trans (by decide)
  refine va_sld hx hb hX hbl hbA hS (hin 2 (by omega)) dL_law_598 ?_
  refine lv_topi (fun v4 ev4 => ?_)
  obtain rfl : v4 = xs 2 := ev4
  refine lv_aload_n hx hb dL_law_599 rfl (lv_at hl 3 rfl) ?_
  refine lv_iload_n hx hb dL_law_600 rfl (lv_at hl 0 rfl) ?_
  refine lv_iconst (v := 3) hx hb dL_law_601 (by decide) ?_
  refine lv_iadd hx hb dL_law_602 ?_
  refine lv_topi (fun v5 ev5 => ?_)
  obtain rfl : v5 = 3 := ev5.trans (by decide)
  refine va_sld hx hb hX hbl hbA hS (hin 3 (by omega)) dL_law_603 ?_
  refine lv_topi (fun v6 ev6 => ?_)
  obtain rfl : v6 = xs 3 := ev6
  have hPc := hP.sub (ws' := [(x0, .inr (10, [.ref (ca 0), .ref (ca 1), .int 0, .ref (ca 3), .ref (ca 4), .ref (ca 5), .ref (ca 6)])), (ca 0, .inl (cc 0, 4, .inr (.inr (.inr (.inr (fun _ => none))))))]) [0, 1] rfl
  have hKc := hK.sub (tys' := [(cc 0, .object RX9)]) [0] rfl
  have hFc := va_free0 hS hA
  refine va_calli (va_runV (As := [.int (xs 1), .int (xs 2), .int (xs 3)]) (rest := []) ⟨hx, hb, hml, hown, hts⟩ (c_X10_room l D _ x0 ca (cc 0) 0 (xs 1) (xs 2) (xs 3)) (cwV 3 hts g_L_c_X10_room_59 rfl rfl rfl (by decide +kernel) ⟨(Nat.le_of_ble_eq_true rfl), (Nat.le_of_ble_eq_true rfl)⟩) (PcR_V (q0 := 0) hPc hKc rfl rfl) rfl rfl hl.1 rfl (lv_room (Nat.le_of_ble_eq_true rfl)) dL_law_604 ⟨(Nat.le_of_ble_eq_true rfl), (Nat.le_of_ble_eq_true rfl)⟩) hS (fun q _ h => hFc q h) hFc (fun r7 uu tt H locs htt hvm hw hB hz1 hk1 hS => ?_)
  have hP := va_keep hP hk1
  try dsimp only at hw
  clear hB hz1 hk1 hFc hPc hKc
  obtain rfl : r7 = (-2) := hw
  refine lv_aload_n hx hb dL_law_607 rfl (lv_at hl 1 rfl) ?_
  refine lv_aload_n hx hb dL_law_608 rfl (lv_at hl 3 rfl) ?_
  refine lv_iload_n hx hb dL_law_609 rfl (lv_at hl 0 rfl) ?_
  refine lv_iconst (v := 1) hx hb dL_law_610 (by decide) ?_
  refine lv_iadd hx hb dL_law_611 ?_
  refine lv_topi (fun v8 ev8 => ?_)
  obtain rfl : v8 = 1 := ev8.trans (by decide)
  refine va_sld hx hb hX hbl hbA hS (hin 1 (by omega)) dL_law_612 ?_
  refine lv_topi (fun v9 ev9 => ?_)
  obtain rfl : v9 = xs 1 := ev9
  refine lv_aload_n hx hb dL_law_613 rfl (lv_at hl 3 rfl) ?_
  refine lv_iload_n hx hb dL_law_614 rfl (lv_at hl 0 rfl) ?_
  refine lv_iconst (v := 2) hx hb dL_law_615 (by decide) ?_
  refine lv_iadd hx hb dL_law_616 ?_
  refine lv_topi (fun v10 ev10 => ?_)
  obtain rfl : v10 = 2 := ev10.trans (by decide)
  refine va_sld hx hb hX hbl hbA hS (hin 2 (by omega)) dL_law_617 ?_
  refine lv_topi (fun v11 ev11 => ?_)
  obtain rfl : v11 = xs 2 := ev11
  refine lv_aload_n hx hb dL_law_618 rfl (lv_at hl 3 rfl) ?_
  refine lv_iload_n hx hb dL_law_619 rfl (lv_at hl 0 rfl) ?_
  refine lv_iconst (v := 3) hx hb dL_law_620 (by decide) ?_
  refine lv_iadd hx hb dL_law_621 ?_
  refine lv_topi (fun v12 ev12 => ?_)
  obtain rfl : v12 = 3 := ev12.trans (by decide)
  refine va_sld hx hb hX hbl hbA hS (hin 3 (by omega)) dL_law_622 ?_
  refine lv_topi (fun v13 ev13 => ?_)
  obtain rfl : v13 = xs 3 := ev13
  have hPc := hP.sub (ws' := [(m0, .inr (11, fM ma 0 0 0 0 0)), (ma 3, .inl (cm 3, 85, .inr (.inl (fun _ => 0))))]) [6, 8] rfl
  have hKc := hK.sub (tys' := [(cm 3, .long)]) [3] rfl
  have hDc := hD.sub (ws' := [(m0, .inr (11, fM ma 0 0 0 0 0)), (ma 3, .inl (cm 3, 85, .inr (.inl (fun _ => 0))))]) [6, 8] (by decide) rfl
  have hFc := va_free (wc := [(m0, .inr (11, fM ma 0 0 0 0 0)), (ma 3, .inl (cm 3, 85, .inr (.inl (fun _ => 0))))]) hD hS hA [6, 8] rfl
  refine va_calli (va_runV (As := [.int (xs 1), .int (xs 2), .int (xs 3)]) (rest := [.int (-2)]) ⟨hx, hb, hml, hown, hts⟩ (c_X11_room l D _ m0 ma (cm 3) 0 0 0 0 0 (xs 1) (xs 2) (xs 3)) (cwV 3 hts g_L_c_X11_room_62 rfl rfl rfl (by decide +kernel) ⟨(Nat.le_of_ble_eq_true rfl), (Nat.le_of_ble_eq_true rfl)⟩) (PcW_V (q0 := 0) hPc hKc hDc rfl rfl) rfl rfl hl.1 rfl (lv_room (Nat.le_of_ble_eq_true rfl)) dL_law_623 ⟨(Nat.le_of_ble_eq_true rfl), (Nat.le_of_ble_eq_true rfl)⟩) hS (fun q _ h => hFc q h) hFc (fun r14 uu tt H locs htt hvm hw hB hz1 hk1 hS => ?_)
  obtain ⟨hP, hD⟩ := va_join (wr := [(x0, .inr (10, [.ref (ca 0), .ref (ca 1), .int 0, .ref (ca 3), .ref (ca 4), .ref (ca 5), .ref (ca 6)])), (ca 0, .inl (cc 0, 4, .inr (.inr (.inr (.inr (fun _ => none)))))), (ca 1, .inl (cc 1, 1400, .inl (fun _ => 0))), (ca 4, .inr (1, [.int 0, .ref qi])), (ca 5, .inr (6, [.int 0, .int 0, .int 0, .ref (qp 3), .ref (qp 4), .int 0, .int 0, .int 0, .int 0, .int 0, .int 0, .int 0, .ref (qp 12), .int 0, .ref (qp 14)])), (ca 6, .inr (4, [.int 0, .int 0, .int 0, .int 0, .int 0, .ref (qm 5), .int 0, .ref (qm 7)])), (ma 1, .inl (cm 1, 1400, .inl (fun _ => 0))), (ma 8, .inl (cm 8, 10240, .inl (fun _ => 0))), (ma 9, .inl (cm 9, 10240, .inl (fun _ => 0)))]) (w1 := []) hP hD [6, 8] [0, 1, 2, 3, 4, 5, 7, 9, 10] rfl rfl (by decide) (by decide) hk1 hFc va_P_nil va_D_nil
  have hP : va_P D vwCl [(x0, .inr (10, [.ref (ca 0), .ref (ca 1), .int 0, .ref (ca 3), .ref (ca 4), .ref (ca 5), .ref (ca 6)])), (ca 0, .inl (cc 0, 4, .inr (.inr (.inr (.inr (fun _ => none)))))), (ca 1, .inl (cc 1, 1400, .inl (fun _ => 0))), (ca 4, .inr (1, [.int 0, .ref qi])), (ca 5, .inr (6, [.int 0, .int 0, .int 0, .ref (qp 3), .ref (qp 4), .int 0, .int 0, .int 0, .int 0, .int 0, .int 0, .int 0, .ref (qp 12), .int 0, .ref (qp 14)])), (ca 6, .inr (4, [.int 0, .int 0, .int 0, .int 0, .int 0, .ref (qm 5), .int 0, .ref (qm 7)])), (ma 1, .inl (cm 1, 1400, .inl (fun _ => 0))), (ma 8, .inl (cm 8, 10240, .inl (fun _ => 0))), (ma 9, .inl (cm 9, 10240, .inl (fun _ => 0)))] H := hP
  have hD : va_D A [(x0, .inr (10, [.ref (ca 0), .ref (ca 1), .int 0, .ref (ca 3), .ref (ca 4), .ref (ca 5), .ref (ca 6)])), (ca 0, .inl (cc 0, 4, .inr (.inr (.inr (.inr (fun _ => none)))))), (ca 1, .inl (cc 1, 1400, .inl (fun _ => 0))), (ca 4, .inr (1, [.int 0, .ref qi])), (ca 5, .inr (6, [.int 0, .int 0, .int 0, .ref (qp 3), .ref (qp 4), .int 0, .int 0, .int 0, .int 0, .int 0, .int 0, .int 0, .ref (qp 12), .int 0, .ref (qp 14)])), (ca 6, .inr (4, [.int 0, .int 0, .int 0, .int 0, .int 0, .ref (qm 5), .int 0, .ref (qm 7)])), (ma 1, .inl (cm 1, 1400, .inl (fun _ => 0))), (ma 8, .inl (cm 8, 10240, .inl (fun _ => 0))), (ma 9, .inl (cm 9, 10240, .inl (fun _ => 0)))] := hD
  try dsimp only at hw
  clear hB hz1 hk1 hFc hPc hKc hDc
  obtain rfl : r14 = (-2) := hw
  refine lv_icmp_eq (tgt := 1735) hx hb dL_law_626 (by decide) (fun hc => ?_) (fun hc => absurd (by decide) hc)
  exact law_tail (D := D) l C0 hN hA hbA hA2 (Nat.le_of_ble_eq_true rfl) (Nat.le_of_ble_eq_true rfl) hS hl

set_option maxHeartbeats 4000000 in
set_option maxRecDepth 100000 in
theorem law_case_10 {p : Program} {e : Env} {s : State} {m : MethodId} {below : List Frame} {meth : Method} {c : Code} (l : Launch) {b : Nat} {xs : Nat → Int32} {D : va_G} {A : Nat → Prop} (C0 : lw_At p s m meth c b 7 xs) (hN : NN s) (hA : ∀ q, s.heap.size ≤ q → A q) (hbA : ¬ A b) (hA2 : ∀ q, A q → s.heap.size ≤ q) (x0 m0 : Nat) (ca : Nat → Nat) (cc : Nat → ClassId) (qi : Nat) (qp qm : Nat → Nat) (ma : Nat → Nat) (cm : Nat → ClassId) (H : Heap) (locs : List Loc) (hK : va_K D vwCl [(cc 0, .object RX9), (cc 1, .int), (cm 1, .byte), (cm 3, .long), (cm 8, .int), (cm 9, .int)] s) (hP : va_P D vwCl [(x0, .inr (10, [.ref (ca 0), .ref (ca 1), .int 0, .ref (ca 3), .ref (ca 4), .ref (ca 5), .ref (ca 6)])), (ca 0, .inl (cc 0, 4, .inr (.inr (.inr (.inr (fun _ => none)))))), (ca 1, .inl (cc 1, 1400, .inl (fun _ => 0))), (ca 4, .inr (1, [.int 0, .ref qi])), (ca 5, .inr (6, [.int 0, .int 0, .int 0, .ref (qp 3), .ref (qp 4), .int 0, .int 0, .int 0, .int 0, .int 0, .int 0, .int 0, .ref (qp 12), .int 0, .ref (qp 14)])), (ca 6, .inr (4, [.int 0, .int 0, .int 0, .int 0, .int 0, .ref (qm 5), .int 0, .ref (qm 7)])), (m0, .inr (11, fM ma 0 0 0 0 0)), (ma 1, .inl (cm 1, 1400, .inl (fun _ => 0))), (ma 3, .inl (cm 3, 85, .inr (.inl (fun _ => 0)))), (ma 8, .inl (cm 8, 10240, .inl (fun _ => 0))), (ma 9, .inl (cm 9, 10240, .inl (fun _ => 0)))] H) (hD : va_D A [(x0, .inr (10, [.ref (ca 0), .ref (ca 1), .int 0, .ref (ca 3), .ref (ca 4), .ref (ca 5), .ref (ca 6)])), (ca 0, .inl (cc 0, 4, .inr (.inr (.inr (.inr (fun _ => none)))))), (ca 1, .inl (cc 1, 1400, .inl (fun _ => 0))), (ca 4, .inr (1, [.int 0, .ref qi])), (ca 5, .inr (6, [.int 0, .int 0, .int 0, .ref (qp 3), .ref (qp 4), .int 0, .int 0, .int 0, .int 0, .int 0, .int 0, .int 0, .ref (qp 12), .int 0, .ref (qp 14)])), (ca 6, .inr (4, [.int 0, .int 0, .int 0, .int 0, .int 0, .ref (qm 5), .int 0, .ref (qm 7)])), (m0, .inr (11, fM ma 0 0 0 0 0)), (ma 1, .inl (cm 1, 1400, .inl (fun _ => 0))), (ma 3, .inl (cm 3, 85, .inr (.inl (fun _ => 0)))), (ma 8, .inl (cm 8, 10240, .inl (fun _ => 0))), (ma 9, .inl (cm 9, 10240, .inl (fun _ => 0)))]) (hS : va_S A s.heap H locs) (ls : Array Slot) (hl : lv_has ls 4 [(3, .int 0), (2, .ref m0), (1, .ref x0), (0, .ref b)]) : W p l e room_1 s m #[Value.ref b] below meth c H locs 46 68513 (lw_Z below #[Value.ref b] s) (F0 m 631 ls []) := by
  have C0 := C0
  have C1 := C0
  obtain ⟨hx, hb, hr, hml, hown, hts, hX, hbl, hlocks, hgv⟩ := C1
  have hown : s.vm.findClass RL = some m.cls := hown
  have hin : ∀ k : Nat, k < 7 → vp_in (nI k) 7 := fun k hk => vp_in_nI hk (by decide)
  refine lv_aload_n hx hb dL_law_631 rfl (lv_at hl 2 rfl) ?_
  refine lv_aload_n hx hb dL_law_632 rfl (lv_at hl 3 rfl) ?_
  refine lv_iload_n hx hb dL_law_633 rfl (lv_at hl 0 rfl) ?_
  refine lv_iconst (v := 1) hx hb dL_law_634 (by decide) ?_
  refine lv_iadd hx hb dL_law_635 ?_
  refine lv_topi (fun v1 ev1 => ?_)
  obtain rfl : v1 = 1 := ev1.trans (by decide)
  refine va_sld hx hb hX hbl hbA hS (hin 1 (by omega)) dL_law_636 ?_
  refine lv_topi (fun v2 ev2 => ?_)
  obtain rfl : v2 = xs 1 := ev2
  refine lv_aload_n hx hb dL_law_637 rfl (lv_at hl 3 rfl) ?_
  refine lv_iload_n hx hb dL_law_638 rfl (lv_at hl 0 rfl) ?_
  refine lv_iconst (v := 2) hx hb dL_law_639 (by decide) ?_
  refine lv_iadd hx hb dL_law_640 ?_
  refine lv_topi (fun v3 ev3 => ?_)
  obtain rfl : v3 = 2 := ev3.trans (by decide)
  refine va_sld hx hb hX hbl hbA hS (hin 2 (by omega)) dL_law_641 ?_
  refine lv_topi (fun v4 ev4 => ?_)
  obtain rfl : v4 = xs 2 := ev4
  refine lv_aload_n hx hb dL_law_642 rfl (lv_at hl 3 rfl) ?_
  refine lv_iload_n hx hb dL_law_643 rfl (lv_at hl 0 rfl) ?_
  refine lv_iconst (v := 3) hx hb dL_law_644 (by decide) ?_
  refine lv_iadd hx hb dL_law_645 ?_
  refine lv_topi (fun v5 ev5 => ?_)
  obtain rfl : v5 = 3 := ev5.trans (by decide)
  refine va_sld hx hb hX hbl hbA hS (hin 3 (by omega)) dL_law_646 ?_
  refine lv_topi (fun v6 ev6 => ?_)
  obtain rfl : v6 = xs 3 := ev6
  have hPc := hP.sub (ws' := [(x0, .inr (10, [.ref (ca 0), .ref (ca 1), .int 0, .ref (ca 3), .ref (ca 4), .ref (ca 5), .ref (ca 6)])), (ca 0, .inl (cc 0, 4, .inr (.inr (.inr (.inr (fun _ => none))))))]) [0, 1] rfl
  have hKc := hK.sub (tys' := [(cc 0, .object RX9)]) [0] rfl
  have hFc := va_free0 hS hA
  refine va_calli (va_runV (As := [.int (xs 1), .int (xs 2), .int (xs 3)]) (rest := []) ⟨hx, hb, hml, hown, hts⟩ (c_X10_place l D _ x0 ca (cc 0) 0 (xs 1) (xs 2) (xs 3)) (cwV 3 hts g_L_c_X10_place_63 rfl rfl rfl (by decide +kernel) ⟨(Nat.le_of_ble_eq_true rfl), (Nat.le_of_ble_eq_true rfl)⟩) (PcR_V (q0 := 0) hPc hKc rfl rfl) rfl rfl hl.1 rfl (lv_room (Nat.le_of_ble_eq_true rfl)) dL_law_647 ⟨(Nat.le_of_ble_eq_true rfl), (Nat.le_of_ble_eq_true rfl)⟩) hS (fun q _ h => hFc q h) hFc (fun r7 uu tt H locs htt hvm hw hB hz1 hk1 hS => ?_)
  have hP := va_keep hP hk1
  try dsimp only at hw
  clear hB hz1 hk1 hFc hPc hKc
  obtain rfl : r7 = (-2) := hw
  refine lv_aload_n hx hb dL_law_650 rfl (lv_at hl 1 rfl) ?_
  refine lv_aload_n hx hb dL_law_651 rfl (lv_at hl 3 rfl) ?_
  refine lv_iload_n hx hb dL_law_652 rfl (lv_at hl 0 rfl) ?_
  refine lv_iconst (v := 1) hx hb dL_law_653 (by decide) ?_
  refine lv_iadd hx hb dL_law_654 ?_
  refine lv_topi (fun v8 ev8 => ?_)
  obtain rfl : v8 = 1 := ev8.trans (by decide)
  refine va_sld hx hb hX hbl hbA hS (hin 1 (by omega)) dL_law_655 ?_
  refine lv_topi (fun v9 ev9 => ?_)
  obtain rfl : v9 = xs 1 := ev9
  refine lv_aload_n hx hb dL_law_656 rfl (lv_at hl 3 rfl) ?_
  refine lv_iload_n hx hb dL_law_657 rfl (lv_at hl 0 rfl) ?_
  refine lv_iconst (v := 2) hx hb dL_law_658 (by decide) ?_
  refine lv_iadd hx hb dL_law_659 ?_
  refine lv_topi (fun v10 ev10 => ?_)
  obtain rfl : v10 = 2 := ev10.trans (by decide)
  refine va_sld hx hb hX hbl hbA hS (hin 2 (by omega)) dL_law_660 ?_
  refine lv_topi (fun v11 ev11 => ?_)
  obtain rfl : v11 = xs 2 := ev11
  refine lv_aload_n hx hb dL_law_661 rfl (lv_at hl 3 rfl) ?_
  refine lv_iload_n hx hb dL_law_662 rfl (lv_at hl 0 rfl) ?_
  refine lv_iconst (v := 3) hx hb dL_law_663 (by decide) ?_
  refine lv_iadd hx hb dL_law_664 ?_
  refine lv_topi (fun v12 ev12 => ?_)
  obtain rfl : v12 = 3 := ev12.trans (by decide)
  refine va_sld hx hb hX hbl hbA hS (hin 3 (by omega)) dL_law_665 ?_
  refine lv_topi (fun v13 ev13 => ?_)
  obtain rfl : v13 = xs 3 := ev13
  have hPc := hP.sub (ws' := [(m0, .inr (11, fM ma 0 0 0 0 0)), (ma 3, .inl (cm 3, 85, .inr (.inl (fun _ => 0))))]) [6, 8] rfl
  have hKc := hK.sub (tys' := [(cm 3, .long)]) [3] rfl
  have hDc := hD.sub (ws' := [(m0, .inr (11, fM ma 0 0 0 0 0)), (ma 3, .inl (cm 3, 85, .inr (.inl (fun _ => 0))))]) [6, 8] (by decide) rfl
  have hFc := va_free (wc := [(m0, .inr (11, fM ma 0 0 0 0 0)), (ma 3, .inl (cm 3, 85, .inr (.inl (fun _ => 0))))]) hD hS hA [6, 8] rfl
  refine va_calli (va_runV (As := [.int (xs 1), .int (xs 2), .int (xs 3)]) (rest := [.int (-2)]) ⟨hx, hb, hml, hown, hts⟩ (c_X11_place l D _ m0 ma (cm 3) 0 0 0 0 0 (xs 1) (xs 2) (xs 3)) (cwV 3 hts g_L_c_X11_place_66 rfl rfl rfl (by decide +kernel) ⟨(Nat.le_of_ble_eq_true rfl), (Nat.le_of_ble_eq_true rfl)⟩) (PcW_V (q0 := 0) hPc hKc hDc rfl rfl) rfl rfl hl.1 rfl (lv_room (Nat.le_of_ble_eq_true rfl)) dL_law_666 ⟨(Nat.le_of_ble_eq_true rfl), (Nat.le_of_ble_eq_true rfl)⟩) hS (fun q _ h => hFc q h) hFc (fun r14 uu tt H locs htt hvm hw hB hz1 hk1 hS => ?_)
  obtain ⟨hP, hD⟩ := va_join (wr := [(x0, .inr (10, [.ref (ca 0), .ref (ca 1), .int 0, .ref (ca 3), .ref (ca 4), .ref (ca 5), .ref (ca 6)])), (ca 0, .inl (cc 0, 4, .inr (.inr (.inr (.inr (fun _ => none)))))), (ca 1, .inl (cc 1, 1400, .inl (fun _ => 0))), (ca 4, .inr (1, [.int 0, .ref qi])), (ca 5, .inr (6, [.int 0, .int 0, .int 0, .ref (qp 3), .ref (qp 4), .int 0, .int 0, .int 0, .int 0, .int 0, .int 0, .int 0, .ref (qp 12), .int 0, .ref (qp 14)])), (ca 6, .inr (4, [.int 0, .int 0, .int 0, .int 0, .int 0, .ref (qm 5), .int 0, .ref (qm 7)])), (ma 1, .inl (cm 1, 1400, .inl (fun _ => 0))), (ma 8, .inl (cm 8, 10240, .inl (fun _ => 0))), (ma 9, .inl (cm 9, 10240, .inl (fun _ => 0)))]) (w1 := []) hP hD [6, 8] [0, 1, 2, 3, 4, 5, 7, 9, 10] rfl rfl (by decide) (by decide) hk1 hFc va_P_nil va_D_nil
  have hP : va_P D vwCl [(x0, .inr (10, [.ref (ca 0), .ref (ca 1), .int 0, .ref (ca 3), .ref (ca 4), .ref (ca 5), .ref (ca 6)])), (ca 0, .inl (cc 0, 4, .inr (.inr (.inr (.inr (fun _ => none)))))), (ca 1, .inl (cc 1, 1400, .inl (fun _ => 0))), (ca 4, .inr (1, [.int 0, .ref qi])), (ca 5, .inr (6, [.int 0, .int 0, .int 0, .ref (qp 3), .ref (qp 4), .int 0, .int 0, .int 0, .int 0, .int 0, .int 0, .int 0, .ref (qp 12), .int 0, .ref (qp 14)])), (ca 6, .inr (4, [.int 0, .int 0, .int 0, .int 0, .int 0, .ref (qm 5), .int 0, .ref (qm 7)])), (ma 1, .inl (cm 1, 1400, .inl (fun _ => 0))), (ma 8, .inl (cm 8, 10240, .inl (fun _ => 0))), (ma 9, .inl (cm 9, 10240, .inl (fun _ => 0)))] H := hP
  have hD : va_D A [(x0, .inr (10, [.ref (ca 0), .ref (ca 1), .int 0, .ref (ca 3), .ref (ca 4), .ref (ca 5), .ref (ca 6)])), (ca 0, .inl (cc 0, 4, .inr (.inr (.inr (.inr (fun _ => none)))))), (ca 1, .inl (cc 1, 1400, .inl (fun _ => 0))), (ca 4, .inr (1, [.int 0, .ref qi])), (ca 5, .inr (6, [.int 0, .int 0, .int 0, .ref (qp 3), .ref (qp 4), .int 0, .int 0, .int 0, .int 0, .int 0, .int 0, .int 0, .ref (qp 12), .int 0, .ref (qp 14)])), (ca 6, .inr (4, [.int 0, .int 0, .int 0, .int 0, .int 0, .ref (qm 5), .int 0, .ref (qm 7)])), (ma 1, .inl (cm 1, 1400, .inl (fun _ => 0))), (ma 8, .inl (cm 8, 10240, .inl (fun _ => 0))), (ma 9, .inl (cm 9, 10240, .inl (fun _ => 0)))] := hD
  try dsimp only at hw
  clear hB hz1 hk1 hFc hPc hKc hDc
  obtain rfl : r14 = (-2) := hw
  refine lv_icmp_eq (tgt := 1735) hx hb dL_law_669 (by decide) (fun hc => ?_) (fun hc => absurd (by decide) hc)
  exact law_tail (D := D) l C0 hN hA hbA hA2 (Nat.le_of_ble_eq_true rfl) (Nat.le_of_ble_eq_true rfl) hS hl
