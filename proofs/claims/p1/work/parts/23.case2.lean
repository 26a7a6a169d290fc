set_option maxHeartbeats 4000000 in
set_option maxRecDepth 100000 in
theorem law_case_2 {p : Program} {e : Env} {s : State} {m : MethodId} {below : List Frame} {meth : Method} {c : Code} (l : Launch) {b : Nat} {xs : Nat → Int32} {D : va_G} {A : Nat → Prop} (C0 : lw_At p s m meth c b 7 xs) (hN : NN s) (hA : ∀ q, s.heap.size ≤ q → A q) (hbA : ¬ A b) (hA2 : ∀ q, A q → s.heap.size ≤ q) (x0 m0 : Nat) (ca : Nat → Nat) (cc : Nat → ClassId) (qi : Nat) (qp qm : Nat → Nat) (ma : Nat → Nat) (cm : Nat → ClassId) (H : Heap) (locs : List Loc) (hK : va_K D vwCl [(cc 0, .object RX9), (cc 1, .int), (cm 1, .byte), (cm 3, .long), (cm 8, .int), (cm 9, .int)] s) (hP : va_P D vwCl [(x0, .inr (10, [.ref (ca 0), .ref (ca 1), .int 0, .ref (ca 3), .ref (ca 4), .ref (ca 5), .ref (ca 6)])), (ca 0, .inl (cc 0, 4, .inr (.inr (.inr (.inr (fun _ => none)))))), (ca 1, .inl (cc 1, 1400, .inl (fun _ => 0))), (ca 4, .inr (1, [.int 0, .ref qi])), (ca 5, .inr (6, [.int 0, .int 0, .int 0, .ref (qp 3), .ref (qp 4), .int 0, .int 0, .int 0, .int 0, .int 0, .int 0, .int 0, .ref (qp 12), .int 0, .ref (qp 14)])), (ca 6, .inr (4, [.int 0, .int 0, .int 0, .int 0, .int 0, .ref (qm 5), .int 0, .ref (qm 7)])), (m0, .inr (11, fM ma 0 0 0 0 0)), (ma 1, .inl (cm 1, 1400, .inl (fun _ => 0))), (ma 3, .inl (cm 3, 85, .inr (.inl (fun _ => 0)))), (ma 8, .inl (cm 8, 10240, .inl (fun _ => 0))), (ma 9, .inl (cm 9, 10240, .inl (fun _ => 0)))] H) (hD : va_D A [(x0, .inr (10, [.ref (ca 0), .ref (ca 1), .int 0, .ref (ca 3), .ref (ca 4), .ref (ca 5), .ref (ca 6)])), (ca 0, .inl (cc 0, 4, .inr (.inr (.inr (.inr (fun _ => none)))))), (ca 1, .inl (cc 1, 1400, .inl (fun _ => 0))), (ca 4, .inr (1, [.int 0, .ref qi])), (ca 5, .inr (6, [.int 0, .int 0, .int 0, .ref (qp 3), .ref (qp 4), .int 0, .int 0, .int 0, .int 0, .int 0, .int 0, .int 0, .ref (qp 12), .int 0, .ref (qp 14)])), (ca 6, .inr (4, [.int 0, .int 0, .int 0, .int 0, .int 0, .ref (qm 5), .int 0, .ref (qm 7)])), (m0, .inr (11, fM ma 0 0 0 0 0)), (ma 1, .inl (cm 1, 1400, .inl (fun _ => 0))), (ma 3, .inl (cm 3, 85, .inr (.inl (fun _ => 0)))), (ma 8, .inl (cm 8, 10240, .inl (fun _ => 0))), (ma 9, .inl (cm 9, 10240, .inl (fun _ => 0)))]) (hS : va_S A s.heap H locs) (ls : Array Slot) (hl : lv_has ls 4 [(3, .int 0), (2, .ref m0), (1, .ref x0), (0, .ref b)]) : W p l e room_1 s m #[Value.ref b] below meth c H locs 46 68513 (lw_Z below #[Value.ref b] s) (F0 m 282 ls []) := by
  have C0 := C0
  have C1 := C0
  obtain ⟨hx, hb, hr, hml, hown, hts, hX, hbl, hlocks, hgv⟩ := C1
  have hown : s.vm.findClass RL = some m.cls := hown
  have hin : ∀ k : Nat, k < 7 → vp_in (nI k) 7 := fun k hk => vp_in_nI hk (by decide)
  refine lv_aload_n hx hb dL_law_282 rfl (lv_at hl 2 rfl) ?_
  refine lv_aload_n hx hb dL_law_283 rfl (lv_at hl 3 rfl) ?_
  refine lv_iload_n hx hb dL_law_284 rfl (lv_at hl 0 rfl) ?_
  refine lv_iconst (v := 1) hx hb dL_law_285 (by decide) ?_
  refine lv_iadd hx hb dL_law_286 ?_
  refine lv_topi (fun v1 ev1 => ?_)
  obtain rfl : v1 = 1 := ev1.trans (by decide)
  refine va_sld hx hb hX hbl hbA hS (hin 1 (by omega)) dL_law_287 ?_
  refine lv_topi (fun v2 ev2 => ?_)
  obtain rfl : v2 = xs 1 := ev2
  refine lv_aload_n hx hb dL_law_288 rfl (lv_at hl 3 rfl) ?_
  refine lv_iload_n hx hb dL_law_289 rfl (lv_at hl 0 rfl) ?_
  refine lv_iconst (v := 2) hx hb dL_law_290 (by decide) ?_
  refine lv_iadd hx hb dL_law_291 ?_
  refine lv_topi (fun v3 ev3 => ?_)
  obtain rfl : v3 = 2 := ev3.trans (by decide)
  refine va_sld hx hb hX hbl hbA hS (hin 2 (by omega)) dL_law_292 ?_
  refine lv_topi (fun v4 ev4 => ?_)
  obtain rfl : v4 = xs 2 := ev4
  refine lv_aload_n hx hb dL_law_293 rfl (lv_at hl 3 rfl) ?_
  refine lv_iload_n hx hb dL_law_294 rfl (lv_at hl 0 rfl) ?_
  refine lv_iconst (v := 3) hx hb dL_law_295 (by decide) ?_
  refine lv_iadd hx hb dL_law_296 ?_
  refine lv_topi (fun v5 ev5 => ?_)
  obtain rfl : v5 = 3 := ev5.trans (by decide)
  refine va_sld hx hb hX hbl hbA hS (hin 3 (by omega)) dL_law_297 ?_
  refine lv_topi (fun v6 ev6 => ?_)
  obtain rfl : v6 = xs 3 := ev6
  refine lv_aload_n hx hb dL_law_298 rfl (lv_at hl 3 rfl) ?_
  refine lv_iload_n hx hb dL_law_299 rfl (lv_at hl 0 rfl) ?_
  refine lv_iconst (v := 4) hx hb dL_law_300 (by decide) ?_
  refine lv_iadd hx hb dL_law_301 ?_
  refine lv_topi (fun v7 ev7 => ?_)
  obtain rfl : v7 = 4 := ev7.trans (by decide)
  refine va_sld hx hb hX hbl hbA hS (hin 4 (by omega)) dL_law_302 ?_
  refine lv_topi (fun v8 ev8 => ?_)
  obtain rfl : v8 = xs 4 := ev8
  refine lv_aload_n hx hb dL_law_303 rfl (lv_at hl 3 rfl) ?_
  refine lv_iload_n hx hb dL_law_304 rfl (lv_at hl 0 rfl) ?_
  refine lv_iconst (v := 5) hx hb dL_law_305 (by decide) ?_
  refine lv_iadd hx hb dL_law_306 ?_
  refine lv_topi (fun v9 ev9 => ?_)
  obtain rfl : v9 = 5 := ev9.trans (by decide)
  refine va_sld hx hb hX hbl hbA hS (hin 5 (by omega)) dL_law_307 ?_
  refine lv_topi (fun v10 ev10 => ?_)
  obtain rfl : v10 = xs 5 := ev10
  refine lv_i2l hx hb dL_law_308 rfl ?_
  refine lv_bipush (v := 32) hx hb dL_law_309 (by decide) ?_
  refine lv_lshl hx hb dL_law_311 rfl ?_
  refine lv_topl (fun v11 ev11 => ?_)
  refine lv_aload_n hx hb dL_law_312 rfl (lv_at hl 3 rfl) ?_
  refine lv_iload_n hx hb dL_law_313 rfl (lv_at hl 0 rfl) ?_
  refine lv_bipush (v := 6) hx hb dL_law_314 (by decide) ?_
  refine lv_iadd hx hb dL_law_316 ?_
  refine lv_topi (fun v12 ev12 => ?_)
  obtain rfl : v12 = 6 := ev12.trans (by decide)
  refine va_sld hx hb hX hbl hbA hS (hin 6 (by omega)) dL_law_317 ?_
  refine lv_topi (fun v13 ev13 => ?_)
  obtain rfl : v13 = xs 6 := ev13
  refine lv_i2l hx hb dL_law_318 rfl ?_
  refine lv_ldc2 (v := 4294967295) hx hb hown (hts (.constantLong RL 23 (4294967295)) lww_14) dL_law_319 ?_
  refine lv_land hx hb dL_law_322 ?_
  refine lv_topl (fun v14 ev14 => ?_)
  refine lv_lor hx hb dL_law_323 ?_
  refine lv_topl (fun v15 ev15 => ?_)
  have hPc := hP.sub (ws' := [(x0, .inr (10, [.ref (ca 0), .ref (ca 1), .int 0, .ref (ca 3), .ref (ca 4), .ref (ca 5), .ref (ca 6)])), (ca 0, .inl (cc 0, 4, .inr (.inr (.inr (.inr (fun _ => none))))))]) [0, 1] rfl
  have hKc := hK.sub (tys' := [(cc 0, .object RX9)]) [0] rfl
  have hDc := hD.sub (ws' := [(x0, .inr (10, [.ref (ca 0), .ref (ca 1), .int 0, .ref (ca 3), .ref (ca 4), .ref (ca 5), .ref (ca 6)])), (ca 0, .inl (cc 0, 4, .inr (.inr (.inr (.inr (fun _ => none))))))]) [0, 1] (by decide) rfl
  have hFc := va_free (wc := [(x0, .inr (10, [.ref (ca 0), .ref (ca 1), .int 0, .ref (ca 3), .ref (ca 4), .ref (ca 5), .ref (ca 6)])), (ca 0, .inl (cc 0, 4, .inr (.inr (.inr (.inr (fun _ => none))))))]) hD hS hA [0, 1] rfl
  refine va_calli (va_runV (As := [.int (xs 1), .int (xs 2), .int (xs 3), .int (xs 4), .long v15]) (rest := []) ⟨hx, hb, hml, hown, hts⟩ (c_X10_make l D _ x0 ca (cc 0) 0 (xs 1) (xs 2) (xs 3) (xs 4) v15) (cwV 5 hts g_L_c_X10_make_25 rfl rfl rfl (by decide +kernel) ⟨(Nat.le_of_ble_eq_true rfl), (Nat.le_of_ble_eq_true rfl)⟩) (PcWN_V (q0 := 0) hPc hKc hDc hN rfl rfl) rfl rfl hl.1 rfl (lv_room (Nat.le_of_ble_eq_true rfl)) dL_law_324 ⟨(Nat.le_of_ble_eq_true rfl), (Nat.le_of_ble_eq_true rfl)⟩) hS (fun q _ h => hFc q h) hFc (fun r16 uu tt H locs htt hvm hw hB hz1 hk1 hS => ?_)
  obtain ⟨hP, hD⟩ := va_join (wr := [(ca 1, .inl (cc 1, 1400, .inl (fun _ => 0))), (ca 4, .inr (1, [.int 0, .ref qi])), (ca 5, .inr (6, [.int 0, .int 0, .int 0, .ref (qp 3), .ref (qp 4), .int 0, .int 0, .int 0, .int 0, .int 0, .int 0, .int 0, .ref (qp 12), .int 0, .ref (qp 14)])), (ca 6, .inr (4, [.int 0, .int 0, .int 0, .int 0, .int 0, .ref (qm 5), .int 0, .ref (qm 7)])), (m0, .inr (11, fM ma 0 0 0 0 0)), (ma 1, .inl (cm 1, 1400, .inl (fun _ => 0))), (ma 3, .inl (cm 3, 85, .inr (.inl (fun _ => 0)))), (ma 8, .inl (cm 8, 10240, .inl (fun _ => 0))), (ma 9, .inl (cm 9, 10240, .inl (fun _ => 0)))]) (w1 := []) hP hD [0, 1] [2, 3, 4, 5, 6, 7, 8, 9, 10] rfl rfl (by decide) (by decide) hk1 hFc va_P_nil va_D_nil
  have hP : va_P D vwCl [(ca 1, .inl (cc 1, 1400, .inl (fun _ => 0))), (ca 4, .inr (1, [.int 0, .ref qi])), (ca 5, .inr (6, [.int 0, .int 0, .int 0, .ref (qp 3), .ref (qp 4), .int 0, .int 0, .int 0, .int 0, .int 0, .int 0, .int 0, .ref (qp 12), .int 0, .ref (qp 14)])), (ca 6, .inr (4, [.int 0, .int 0, .int 0, .int 0, .int 0, .ref (qm 5), .int 0, .ref (qm 7)])), (m0, .inr (11, fM ma 0 0 0 0 0)), (ma 1, .inl (cm 1, 1400, .inl (fun _ => 0))), (ma 3, .inl (cm 3, 85, .inr (.inl (fun _ => 0)))), (ma 8, .inl (cm 8, 10240, .inl (fun _ => 0))), (ma 9, .inl (cm 9, 10240, .inl (fun _ => 0)))] H := hP
  have hD : va_D A [(ca 1, .inl (cc 1, 1400, .inl (fun _ => 0))), (ca 4, .inr (1, [.int 0, .ref qi])), (ca 5, .inr (6, [.int 0, .int 0, .int 0, .ref (qp 3), .ref (qp 4), .int 0, .int 0, .int 0, .int 0, .int 0, .int 0, .int 0, .ref (qp 12), .int 0, .ref (qp 14)])), (ca 6, .inr (4, [.int 0, .int 0, .int 0, .int 0, .int 0, .ref (qm 5), .int 0, .ref (qm 7)])), (m0, .inr (11, fM ma 0 0 0 0 0)), (ma 1, .inl (cm 1, 1400, .inl (fun _ => 0))), (ma 3, .inl (cm 3, 85, .inr (.inl (fun _ => 0)))), (ma 8, .inl (cm 8, 10240, .inl (fun _ => 0))), (ma 9, .inl (cm 9, 10240, .inl (fun _ => 0)))] := hD
  refine W.widen (k := 60) (n := 79585) (Nat.le_of_ble_eq_true rfl) (Nat.le_of_ble_eq_true rfl) ?_
  try dsimp only at hw
  clear hB hz1 hk1 hFc hPc hKc hDc
  have hw_r16 := hw
  refine lv_aload_n hx hb dL_law_327 rfl (lv_at hl 1 rfl) ?_
  refine lv_aload_n hx hb dL_law_328 rfl (lv_at hl 3 rfl) ?_
  refine lv_iload_n hx hb dL_law_329 rfl (lv_at hl 0 rfl) ?_
  refine lv_iconst (v := 1) hx hb dL_law_330 (by decide) ?_
  refine lv_iadd hx hb dL_law_331 ?_
  refine lv_topi (fun v17 ev17 => ?_)
  obtain rfl : v17 = 1 := ev17.trans (by decide)
  refine va_sld hx hb hX hbl hbA hS (hin 1 (by omega)) dL_law_332 ?_
  refine lv_topi (fun v18 ev18 => ?_)
  obtain rfl : v18 = xs 1 := ev18
  refine lv_aload_n hx hb dL_law_333 rfl (lv_at hl 3 rfl) ?_
  refine lv_iload_n hx hb dL_law_334 rfl (lv_at hl 0 rfl) ?_
  refine lv_iconst (v := 2) hx hb dL_law_335 (by decide) ?_
  refine lv_iadd hx hb dL_law_336 ?_
  refine lv_topi (fun v19 ev19 => ?_)
  obtain rfl : v19 = 2 := ev19.trans (by decide)
  refine va_sld hx hb hX hbl hbA hS (hin 2 (by omega)) dL_law_337 ?_
  refine lv_topi (fun v20 ev20 => ?_)
  obtain rfl : v20 = xs 2 := ev20
  refine lv_aload_n hx hb dL_law_338 rfl (lv_at hl 3 rfl) ?_
  refine lv_iload_n hx hb dL_law_339 rfl (lv_at hl 0 rfl) ?_
  refine lv_iconst (v := 3) hx hb dL_law_340 (by decide) ?_
  refine lv_iadd hx hb dL_law_341 ?_
  refine lv_topi (fun v21 ev21 => ?_)
  obtain rfl : v21 = 3 := ev21.trans (by decide)
  refine va_sld hx hb hX hbl hbA hS (hin 3 (by omega)) dL_law_342 ?_
  refine lv_topi (fun v22 ev22 => ?_)
  obtain rfl : v22 = xs 3 := ev22
  refine lv_aload_n hx hb dL_law_343 rfl (lv_at hl 3 rfl) ?_
  refine lv_iload_n hx hb dL_law_344 rfl (lv_at hl 0 rfl) ?_
  refine lv_iconst (v := 4) hx hb dL_law_345 (by decide) ?_
  refine lv_iadd hx hb dL_law_346 ?_
  refine lv_topi (fun v23 ev23 => ?_)
  obtain rfl : v23 = 4 := ev23.trans (by decide)
  refine va_sld hx hb hX hbl hbA hS (hin 4 (by omega)) dL_law_347 ?_
  refine lv_topi (fun v24 ev24 => ?_)
  obtain rfl : v24 = xs 4 := ev24
  refine lv_aload_n hx hb dL_law_348 rfl (lv_at hl 3 rfl) ?_
  refine lv_iload_n hx hb dL_law_349 rfl (lv_at hl 0 rfl) ?_
  refine lv_iconst (v := 5) hx hb dL_law_350 (by decide) ?_
  refine lv_iadd hx hb dL_law_351 ?_
  refine lv_topi (fun v25 ev25 => ?_)
  obtain rfl : v25 = 5 := ev25.trans (by decide)
  refine va_sld hx hb hX hbl hbA hS (hin 5 (by omega)) dL_law_352 ?_
  refine lv_topi (fun v26 ev26 => ?_)
  obtain rfl : v26 = xs 5 := ev26
  refine lv_i2l hx hb dL_law_353 rfl ?_
  refine lv_bipush (v := 32) hx hb dL_law_354 (by decide) ?_
  refine lv_lshl hx hb dL_law_356 rfl ?_
  refine lv_topl (fun v27 ev27 => ?_)
  refine lv_aload_n hx hb dL_law_357 rfl (lv_at hl 3 rfl) ?_
  refine lv_iload_n hx hb dL_law_358 rfl (lv_at hl 0 rfl) ?_
  refine lv_bipush (v := 6) hx hb dL_law_359 (by decide) ?_
  refine lv_iadd hx hb dL_law_361 ?_
  refine lv_topi (fun v28 ev28 => ?_)
  obtain rfl : v28 = 6 := ev28.trans (by decide)
  refine va_sld hx hb hX hbl hbA hS (hin 6 (by omega)) dL_law_362 ?_
  refine lv_topi (fun v29 ev29 => ?_)
  obtain rfl : v29 = xs 6 := ev29
  refine lv_i2l hx hb dL_law_363 rfl ?_
  refine lv_ldc2 (v := 4294967295) hx hb hown (hts (.constantLong RL 23 (4294967295)) lww_14) dL_law_364 ?_
  refine lv_land hx hb dL_law_367 ?_
  refine lv_topl (fun v30 ev30 => ?_)
  refine lv_lor hx hb dL_law_368 ?_
  refine lv_topl (fun v31 ev31 => ?_)
  have hPc := hP.sub (ws' := [(m0, .inr (11, fM ma 0 0 0 0 0)), (ma 3, .inl (cm 3, 85, .inr (.inl (fun _ => 0)))), (ma 8, .inl (cm 8, 10240, .inl (fun _ => 0))), (ma 9, .inl (cm 9, 10240, .inl (fun _ => 0)))]) [4, 6, 7, 8] rfl
  have hKc := hK.sub (tys' := [(cm 3, .long), (cm 8, .int), (cm 9, .int)]) [3, 4, 5] rfl
  have hDc := hD.sub (ws' := [(m0, .inr (11, fM ma 0 0 0 0 0)), (ma 3, .inl (cm 3, 85, .inr (.inl (fun _ => 0)))), (ma 8, .inl (cm 8, 10240, .inl (fun _ => 0))), (ma 9, .inl (cm 9, 10240, .inl (fun _ => 0)))]) [4, 6, 7, 8] (by decide) rfl
  have hFc := va_free (wc := [(m0, .inr (11, fM ma 0 0 0 0 0)), (ma 3, .inl (cm 3, 85, .inr (.inl (fun _ => 0)))), (ma 8, .inl (cm 8, 10240, .inl (fun _ => 0))), (ma 9, .inl (cm 9, 10240, .inl (fun _ => 0)))]) hD hS hA [4, 6, 7, 8] rfl
  refine va_calli (va_runV (As := [.int (xs 1), .int (xs 2), .int (xs 3), .int (xs 4), .long v31]) (rest := [.int r16]) ⟨hx, hb, hml, hown, hts⟩ (c_X11_make l D _ m0 ma (cm 3) 0 0 0 0 0 (cm 8) (cm 9) (xs 1) (xs 2) (xs 3) (xs 4) v31) (cwV 5 hts g_L_c_X11_make_29 rfl rfl rfl (by decide +kernel) ⟨(Nat.le_of_ble_eq_true rfl), (Nat.le_of_ble_eq_true rfl)⟩) (PcW_V (q0 := 0) hPc hKc hDc rfl rfl) rfl rfl hl.1 rfl (lv_room (Nat.le_of_ble_eq_true rfl)) dL_law_369 ⟨(Nat.le_of_ble_eq_true rfl), (Nat.le_of_ble_eq_true rfl)⟩) hS (fun q _ h => hFc q h) hFc (fun r32 uu tt H locs htt hvm hw hB hz1 hk1 hS => ?_)
  obtain ⟨hP, hD⟩ := va_join (wr := [(ca 1, .inl (cc 1, 1400, .inl (fun _ => 0))), (ca 4, .inr (1, [.int 0, .ref qi])), (ca 5, .inr (6, [.int 0, .int 0, .int 0, .ref (qp 3), .ref (qp 4), .int 0, .int 0, .int 0, .int 0, .int 0, .int 0, .int 0, .ref (qp 12), .int 0, .ref (qp 14)])), (ca 6, .inr (4, [.int 0, .int 0, .int 0, .int 0, .int 0, .ref (qm 5), .int 0, .ref (qm 7)])), (ma 1, .inl (cm 1, 1400, .inl (fun _ => 0)))]) (w1 := []) hP hD [4, 6, 7, 8] [0, 1, 2, 3, 5] rfl rfl (by decide) (by decide) hk1 hFc va_P_nil va_D_nil
  have hP : va_P D vwCl [(ca 1, .inl (cc 1, 1400, .inl (fun _ => 0))), (ca 4, .inr (1, [.int 0, .ref qi])), (ca 5, .inr (6, [.int 0, .int 0, .int 0, .ref (qp 3), .ref (qp 4), .int 0, .int 0, .int 0, .int 0, .int 0, .int 0, .int 0, .ref (qp 12), .int 0, .ref (qp 14)])), (ca 6, .inr (4, [.int 0, .int 0, .int 0, .int 0, .int 0, .ref (qm 5), .int 0, .ref (qm 7)])), (ma 1, .inl (cm 1, 1400, .inl (fun _ => 0)))] H := hP
  have hD : va_D A [(ca 1, .inl (cc 1, 1400, .inl (fun _ => 0))), (ca 4, .inr (1, [.int 0, .ref qi])), (ca 5, .inr (6, [.int 0, .int 0, .int 0, .ref (qp 3), .ref (qp 4), .int 0, .int 0, .int 0, .int 0, .int 0, .int 0, .int 0, .ref (qp 12), .int 0, .ref (qp 14)])), (ca 6, .inr (4, [.int 0, .int 0, .int 0, .int 0, .int 0, .ref (qm 5), .int 0, .ref (qm 7)])), (ma 1, .inl (cm 1, 1400, .inl (fun _ => 0)))] := hD
  try dsimp only at hw
  clear hB hz1 hk1 hFc hPc hKc hDc
  have hw_r32 := hw
  refine lv_icmp_eq (tgt := 1735) hx hb dL_law_372 (by decide) (fun hc => ?_) (fun hc => absurd (by rw [hw_r16, hw_r32]) hc)
  exact law_tail (D := D) l C0 hN hA hbA hA2 (Nat.le_of_ble_eq_true rfl) (Nat.le_of_ble_eq_true rfl) hS hl
