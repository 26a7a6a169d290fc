set_option maxRecDepth 20000 in
theorem lww_14 : Cond.constantLong RL 23 (4294967295) ∈ lw_tbl := List.mem_of_getElem? (i := 1827) (by decide +kernel)
set_option maxRecDepth 20000 in
theorem lww_15 : Cond.methodLink RL 25 yX10_make ∈ lw_tbl := List.mem_of_getElem? (i := 445) (by decide +kernel)
set_option maxRecDepth 20000 in
theorem lww_16 : Cond.instanceMethod yX10_make ∈ lw_tbl := List.mem_of_getElem? (i := 446) (by decide +kernel)
set_option maxRecDepth 20000 in
theorem lww_17 : Cond.selects RX10 yX10_make yX10_make ∈ lw_tbl := List.mem_of_getElem? (i := 447) (by decide +kernel)
set_option maxRecDepth 20000 in
theorem lww_18 : Cond.methodLink RL 29 yX11_make ∈ lw_tbl := List.mem_of_getElem? (i := 1374) (by decide +kernel)
set_option maxRecDepth 20000 in
theorem lww_19 : Cond.instanceMethod yX11_make ∈ lw_tbl := List.mem_of_getElem? (i := 1375) (by decide +kernel)
set_option maxRecDepth 20000 in
theorem lww_20 : Cond.selects RX11 yX11_make yX11_make ∈ lw_tbl := List.mem_of_getElem? (i := 1376) (by decide +kernel)

set_option maxRecDepth 20000 in
theorem g_L_m_make_25 : GoodIn lw_tbl (wsV RL 25 RX10 yX10_make wp_m_make) := goodIn_sub (List.forall_mem_append.mpr ⟨List.forall_mem_cons.mpr ⟨lww_15, List.forall_mem_cons.mpr ⟨lww_16, List.forall_mem_cons.mpr ⟨lww_17, List.forall_mem_cons.mpr ⟨lww_3, fun _ h => absurd h List.not_mem_nil⟩⟩⟩⟩, in_m_make⟩) (by decide +kernel)
set_option maxRecDepth 20000 in
theorem g_L_c_makeM_29 : GoodIn lw_tbl (wsV RL 29 RX11 yX11_make wp_c_makeM) := goodIn_sub (List.forall_mem_append.mpr ⟨List.forall_mem_cons.mpr ⟨lww_18, List.forall_mem_cons.mpr ⟨lww_19, List.forall_mem_cons.mpr ⟨lww_20, List.forall_mem_cons.mpr ⟨lww_7, fun _ h => absurd h List.not_mem_nil⟩⟩⟩⟩, in_c_makeM⟩) (by decide +kernel)
set_option maxHeartbeats 4000000 in
set_option maxRecDepth 100000 in
theorem law_case_2 {p : Program} {e : Env} {s : State} {m : MethodId} {below : List Frame} {meth : Method} {c : Code} (l : Launch) {b L : Nat} {xs : Nat → Int32} {D : va_G} {A : Nat → Prop} {adK adV : Nat → Nat} (C0 : lw_At p s m meth c b L xs) (hL : L ≤ 3584) (hN : NC s) (hST : ST adK adV A s s.heap) (hA : ∀ q, s.heap.size ≤ q → A q) (hbA : ¬ A b) {cm : Nat → ClassId} {cI cT : ClassId} (hKm : va_K D vwCl (tyM cm) s) (hKc : va_K D vwCl [(cI, .int), (cT, .object RX9)] s) {x0 m0 i cells slots : Nat} (hi : i + 7 ≤ L) (h1 : cells + 14 ≤ room_1.cells) (h2 : slots + 11072 ≤ room_1.slots) (kx : ∀ (V U : va_W) (H : Heap) (locs : List Loc) (ls : Array Slot), RWd cm m0 V → CWd cI cT x0 U → va_P D vwCl (V ++ U) H → va_D A (V ++ U) → va_S A s.heap H locs → lv_has ls 4 [(3, .int (nI i)), (2, .ref m0), (1, .ref x0), (0, .ref b)] → W p l e room_1 s m #[Value.ref b] below meth c H locs (cells + 14) (slots + 11072) (lw_Z below #[Value.ref b] s) (F0 m 1727 ls [])) : ∀ (V U : va_W) (H : Heap) (locs : List Loc) (ls : Array Slot), RWd cm m0 V → CWd cI cT x0 U → va_P D vwCl (V ++ U) H → va_D A (V ++ U) → va_S A s.heap H locs → lv_has ls 4 [(3, .int (nI i)), (2, .ref m0), (1, .ref x0), (0, .ref b)] → W p l e room_1 s m #[Value.ref b] below meth c H locs (cells) (slots) (lw_Z below #[Value.ref b] s) (F0 m 282 ls []) := by
  intro V U H locs ls hR hC hP hD hS hl
  obtain ⟨hx, hb, hr, hml, hown, hts, hX, hbl, hlocks, hgv⟩ := id C0
  have hown : s.vm.findClass RL = some m.cls := hown
  refine lv_aload_n hx hb dL_law_282 rfl (lv_at hl 2 rfl) ?_
  refine lv_aload_n hx hb dL_law_283 rfl (lv_at hl 3 rfl) ?_
  refine lv_iload_n hx hb dL_law_284 rfl (lv_at hl 0 rfl) ?_
  refine lv_iconst (v := 1) hx hb dL_law_285 (by decide) ?_
  refine lv_iadd hx hb dL_law_286 ?_
  refine lv_topi (fun v1 ev1 => ?_)
  obtain rfl : v1 = nI (i + 1) := ev1.trans (nI_add _ 1)
  refine va_sld hx hb hX hbl hbA hS (vp_in_nI (by omega) (by omega)) dL_law_287 ?_
  refine lv_topi (fun v2 ev2 => ?_)
  refine lv_aload_n hx hb dL_law_288 rfl (lv_at hl 3 rfl) ?_
  refine lv_iload_n hx hb dL_law_289 rfl (lv_at hl 0 rfl) ?_
  refine lv_iconst (v := 2) hx hb dL_law_290 (by decide) ?_
  refine lv_iadd hx hb dL_law_291 ?_
  refine lv_topi (fun v3 ev3 => ?_)
  obtain rfl : v3 = nI (i + 2) := ev3.trans (nI_add _ 2)
  refine va_sld hx hb hX hbl hbA hS (vp_in_nI (by omega) (by omega)) dL_law_292 ?_
  refine lv_topi (fun v4 ev4 => ?_)
  refine lv_aload_n hx hb dL_law_293 rfl (lv_at hl 3 rfl) ?_
  refine lv_iload_n hx hb dL_law_294 rfl (lv_at hl 0 rfl) ?_
  refine lv_iconst (v := 3) hx hb dL_law_295 (by decide) ?_
  refine lv_iadd hx hb dL_law_296 ?_
  refine lv_topi (fun v5 ev5 => ?_)
  obtain rfl : v5 = nI (i + 3) := ev5.trans (nI_add _ 3)
  refine va_sld hx hb hX hbl hbA hS (vp_in_nI (by omega) (by omega)) dL_law_297 ?_
  refine lv_topi (fun v6 ev6 => ?_)
  refine lv_aload_n hx hb dL_law_298 rfl (lv_at hl 3 rfl) ?_
  refine lv_iload_n hx hb dL_law_299 rfl (lv_at hl 0 rfl) ?_
  refine lv_iconst (v := 4) hx hb dL_law_300 (by decide) ?_
  refine lv_iadd hx hb dL_law_301 ?_
  refine lv_topi (fun v7 ev7 => ?_)
  obtain rfl : v7 = nI (i + 4) := ev7.trans (nI_add _ 4)
  refine va_sld hx hb hX hbl hbA hS (vp_in_nI (by omega) (by omega)) dL_law_302 ?_
  refine lv_topi (fun v8 ev8 => ?_)
  refine lv_aload_n hx hb dL_law_303 rfl (lv_at hl 3 rfl) ?_
  refine lv_iload_n hx hb dL_law_304 rfl (lv_at hl 0 rfl) ?_
  refine lv_iconst (v := 5) hx hb dL_law_305 (by decide) ?_
  refine lv_iadd hx hb dL_law_306 ?_
  refine lv_topi (fun v9 ev9 => ?_)
  obtain rfl : v9 = nI (i + 5) := ev9.trans (nI_add _ 5)
  refine va_sld hx hb hX hbl hbA hS (vp_in_nI (by omega) (by omega)) dL_law_307 ?_
  refine lv_topi (fun v10 ev10 => ?_)
  refine lv_i2l hx hb dL_law_308 rfl ?_
  refine lv_bipush (v := 32) hx hb dL_law_309 (by decide) ?_
  refine lv_lshl hx hb dL_law_311 rfl ?_
  refine lv_topl (fun v11 ev11 => ?_)
  refine lv_aload_n hx hb dL_law_312 rfl (lv_at hl 3 rfl) ?_
  refine lv_iload_n hx hb dL_law_313 rfl (lv_at hl 0 rfl) ?_
  refine lv_bipush (v := 6) hx hb dL_law_314 (by decide) ?_
  refine lv_iadd hx hb dL_law_316 ?_
  refine lv_topi (fun v12 ev12 => ?_)
  obtain rfl : v12 = nI (i + 6) := ev12.trans (nI_add _ 6)
  refine va_sld hx hb hX hbl hbA hS (vp_in_nI (by omega) (by omega)) dL_law_317 ?_
  refine lv_topi (fun v13 ev13 => ?_)
  refine lv_i2l hx hb dL_law_318 rfl ?_
  refine lv_ldc2 (v := 4294967295) hx hb hown (hts (.constantLong RL 23 (4294967295)) lww_14) dL_law_319 ?_
  refine lv_land hx hb dL_law_322 ?_
  refine lv_topl (fun v14 ev14 => ?_)
  refine lv_lor hx hb dL_law_323 ?_
  refine lv_topl (fun v15 ev15 => ?_)
  obtain ⟨q9, fs9, he9⟩ := hC.recv
  have hFc := va_fr hD.rt hS hA
  refine va_calli (va_runV (As := [.int v2, .int v4, .int v6, .int v8, .long v15]) (rest := []) ⟨hx, hb, hml, hown, hts⟩ (m_make l D _ adK adV cI cT x0 U v2 v4 v6 v8 v15 hC) (cwV 5 hts g_L_m_make_25 rfl rfl rfl (by decide +kernel) ⟨(Nat.le_of_ble_eq_true rfl), (Nat.le_of_ble_eq_true rfl)⟩) (PcWS_V (q0 := q9) hP.rt hKc hD.rt hN hST hS hFc he9 rfl) rfl rfl hl.1 rfl (lv_room (Nat.le_of_ble_eq_true rfl)) dL_law_324 ⟨h1, h2⟩) hS (fun q _ h => hFc q h) hFc (fun r16 uu tt H locs htt hvm hw hB hz1 hk1 hS => ?_)
  obtain ⟨U17, rfl⟩ : ∃ z, z = uu := ⟨_, rfl⟩
  obtain ⟨hP1, hK1, hD1⟩ := hB
  rw [htt] at hP1
  obtain ⟨hP, hD⟩ := jnC hP hD hk1 hFc hP1 hD1
  have hC := hw.1
  have emC := hw.2
  refine lv_aload_n hx hb dL_law_327 rfl (lv_at hl 1 rfl) ?_
  refine lv_aload_n hx hb dL_law_328 rfl (lv_at hl 3 rfl) ?_
  refine lv_iload_n hx hb dL_law_329 rfl (lv_at hl 0 rfl) ?_
  refine lv_iconst (v := 1) hx hb dL_law_330 (by decide) ?_
  refine lv_iadd hx hb dL_law_331 ?_
  refine lv_topi (fun v18 ev18 => ?_)
  obtain rfl : v18 = nI (i + 1) := ev18.trans (nI_add _ 1)
  refine va_sld hx hb hX hbl hbA hS (vp_in_nI (by omega) (by omega)) dL_law_332 ?_
  refine lv_topi (fun v19 ev19 => ?_)
  refine lv_aload_n hx hb dL_law_333 rfl (lv_at hl 3 rfl) ?_
  refine lv_iload_n hx hb dL_law_334 rfl (lv_at hl 0 rfl) ?_
  refine lv_iconst (v := 2) hx hb dL_law_335 (by decide) ?_
  refine lv_iadd hx hb dL_law_336 ?_
  refine lv_topi (fun v20 ev20 => ?_)
  obtain rfl : v20 = nI (i + 2) := ev20.trans (nI_add _ 2)
  refine va_sld hx hb hX hbl hbA hS (vp_in_nI (by omega) (by omega)) dL_law_337 ?_
  refine lv_topi (fun v21 ev21 => ?_)
  refine lv_aload_n hx hb dL_law_338 rfl (lv_at hl 3 rfl) ?_
  refine lv_iload_n hx hb dL_law_339 rfl (lv_at hl 0 rfl) ?_
  refine lv_iconst (v := 3) hx hb dL_law_340 (by decide) ?_
  refine lv_iadd hx hb dL_law_341 ?_
  refine lv_topi (fun v22 ev22 => ?_)
  obtain rfl : v22 = nI (i + 3) := ev22.trans (nI_add _ 3)
  refine va_sld hx hb hX hbl hbA hS (vp_in_nI (by omega) (by omega)) dL_law_342 ?_
  refine lv_topi (fun v23 ev23 => ?_)
  refine lv_aload_n hx hb dL_law_343 rfl (lv_at hl 3 rfl) ?_
  refine lv_iload_n hx hb dL_law_344 rfl (lv_at hl 0 rfl) ?_
  refine lv_iconst (v := 4) hx hb dL_law_345 (by decide) ?_
  refine lv_iadd hx hb dL_law_346 ?_
  refine lv_topi (fun v24 ev24 => ?_)
  obtain rfl : v24 = nI (i + 4) := ev24.trans (nI_add _ 4)
  refine va_sld hx hb hX hbl hbA hS (vp_in_nI (by omega) (by omega)) dL_law_347 ?_
  refine lv_topi (fun v25 ev25 => ?_)
  refine lv_aload_n hx hb dL_law_348 rfl (lv_at hl 3 rfl) ?_
  refine lv_iload_n hx hb dL_law_349 rfl (lv_at hl 0 rfl) ?_
  refine lv_iconst (v := 5) hx hb dL_law_350 (by decide) ?_
  refine lv_iadd hx hb dL_law_351 ?_
  refine lv_topi (fun v26 ev26 => ?_)
  obtain rfl : v26 = nI (i + 5) := ev26.trans (nI_add _ 5)
  refine va_sld hx hb hX hbl hbA hS (vp_in_nI (by omega) (by omega)) dL_law_352 ?_
  refine lv_topi (fun v27 ev27 => ?_)
  refine lv_i2l hx hb dL_law_353 rfl ?_
  refine lv_bipush (v := 32) hx hb dL_law_354 (by decide) ?_
  refine lv_lshl hx hb dL_law_356 rfl ?_
  refine lv_topl (fun v28 ev28 => ?_)
  refine lv_aload_n hx hb dL_law_357 rfl (lv_at hl 3 rfl) ?_
  refine lv_iload_n hx hb dL_law_358 rfl (lv_at hl 0 rfl) ?_
  refine lv_bipush (v := 6) hx hb dL_law_359 (by decide) ?_
  refine lv_iadd hx hb dL_law_361 ?_
  refine lv_topi (fun v29 ev29 => ?_)
  obtain rfl : v29 = nI (i + 6) := ev29.trans (nI_add _ 6)
  refine va_sld hx hb hX hbl hbA hS (vp_in_nI (by omega) (by omega)) dL_law_362 ?_
  refine lv_topi (fun v30 ev30 => ?_)
  refine lv_i2l hx hb dL_law_363 rfl ?_
  refine lv_ldc2 (v := 4294967295) hx hb hown (hts (.constantLong RL 23 (4294967295)) lww_14) dL_law_364 ?_
  refine lv_land hx hb dL_law_367 ?_
  refine lv_topl (fun v31 ev31 => ?_)
  refine lv_lor hx hb dL_law_368 ?_
  refine lv_topl (fun v32 ev32 => ?_)
  obtain ⟨q9, fs9, he9⟩ := hR.recv
  have hFc := va_fr hD.lf hS hA
  refine va_calli (va_runV (As := [.int v19, .int v21, .int v23, .int v25, .long v32]) (rest := [.int r16]) ⟨hx, hb, hml, hown, hts⟩ (M_make l D _ cm m0 V v19 v21 v23 v25 v32 hR) (cwV 5 hts g_L_c_makeM_29 rfl rfl rfl (by decide +kernel) ⟨(Nat.le_of_ble_eq_true rfl), (Nat.le_of_ble_eq_true rfl)⟩) (PcW_V (q0 := q9) hP.lf hKm hD.lf he9 rfl) rfl rfl hl.1 rfl (lv_room (Nat.le_of_ble_eq_true rfl)) dL_law_369 ⟨h1, h2⟩) hS (fun q _ h => hFc q h) hFc (fun r33 uu tt H locs htt hvm hw hB hz1 hk1 hS => ?_)
  obtain ⟨V34, rfl⟩ : ∃ z, z = uu := ⟨_, rfl⟩
  obtain ⟨hP1, hK1, hD1⟩ := hB
  rw [htt] at hP1
  obtain ⟨hP, hD⟩ := jnR hP hD hk1 hFc hP1 hD1
  have hR := hw.1
  have emR := hw.2
  refine lv_icmp_eq (tgt := 1727) hx hb dL_law_372 (by decide) (fun hc => ?_) (fun hc => absurd (by rw [emC, emR, ev2, ev4, ev6, ev8, ev19, ev21, ev23, ev25]) hc)
  exact kx V34 U17 H locs ls hR hC hP hD hS hl

