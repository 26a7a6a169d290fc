theorem dL_law_282 : decode cL_law 282 = .ok (.aload_n 1, 1) := by decide +kernel
theorem dL_law_283 : decode cL_law 283 = .ok (.aload_n 0, 1) := by decide +kernel
theorem dL_law_284 : decode cL_law 284 = .ok (.iload_n 3, 1) := by decide +kernel
theorem dL_law_285 : decode cL_law 285 = .ok (.iconst 1, 1) := by decide +kernel
theorem dL_law_286 : decode cL_law 286 = .ok (.iadd, 1) := by decide +kernel
theorem dL_law_287 : decode cL_law 287 = .ok (.iaload, 1) := by decide +kernel
theorem dL_law_288 : decode cL_law 288 = .ok (.aload_n 0, 1) := by decide +kernel
theorem dL_law_289 : decode cL_law 289 = .ok (.iload_n 3, 1) := by decide +kernel
theorem dL_law_290 : decode cL_law 290 = .ok (.iconst 2, 1) := by decide +kernel
theorem dL_law_291 : decode cL_law 291 = .ok (.iadd, 1) := by decide +kernel
theorem dL_law_292 : decode cL_law 292 = .ok (.iaload, 1) := by decide +kernel
theorem dL_law_293 : decode cL_law 293 = .ok (.aload_n 0, 1) := by decide +kernel
theorem dL_law_294 : decode cL_law 294 = .ok (.iload_n 3, 1) := by decide +kernel
theorem dL_law_295 : decode cL_law 295 = .ok (.iconst 3, 1) := by decide +kernel
theorem dL_law_296 : decode cL_law 296 = .ok (.iadd, 1) := by decide +kernel
theorem dL_law_297 : decode cL_law 297 = .ok (.iaload, 1) := by decide +kernel
theorem dL_law_298 : decode cL_law 298 = .ok (.aload_n 0, 1) := by decide +kernel
theorem dL_law_299 : decode cL_law 299 = .ok (.iload_n 3, 1) := by decide +kernel
theorem dL_law_300 : decode cL_law 300 = .ok (.iconst 4, 1) := by decide +kernel
theorem dL_law_301 : decode cL_law 301 = .ok (.iadd, 1) := by decide +kernel
theorem dL_law_302 : decode cL_law 302 = .ok (.iaload, 1) := by decide +kernel
theorem dL_law_303 : decode cL_law 303 = .ok (.aload_n 0, 1) := by decide +kernel
theorem dL_law_304 : decode cL_law 304 = .ok (.iload_n 3, 1) := by decide +kernel
theorem dL_law_305 : decode cL_law 305 = .ok (.iconst 5, 1) := by decide +kernel
theorem dL_law_306 : decode cL_law 306 = .ok (.iadd, 1) := by decide +kernel
theorem dL_law_307 : decode cL_law 307 = .ok (.iaload, 1) := by decide +kernel
theorem dL_law_308 : decode cL_law 308 = .ok (.i2l, 1) := by decide +kernel
theorem dL_law_309 : decode cL_law 309 = .ok (.bipush 32, 2) := by decide +kernel
theorem dL_law_311 : decode cL_law 311 = .ok (.lshl, 1) := by decide +kernel
theorem dL_law_312 : decode cL_law 312 = .ok (.aload_n 0, 1) := by decide +kernel
theorem dL_law_313 : decode cL_law 313 = .ok (.iload_n 3, 1) := by decide +kernel
theorem dL_law_314 : decode cL_law 314 = .ok (.bipush 6, 2) := by decide +kernel
theorem dL_law_316 : decode cL_law 316 = .ok (.iadd, 1) := by decide +kernel
theorem dL_law_317 : decode cL_law 317 = .ok (.iaload, 1) := by decide +kernel
theorem dL_law_318 : decode cL_law 318 = .ok (.i2l, 1) := by decide +kernel
theorem dL_law_319 : decode cL_law 319 = .ok (.ldc2_w 23, 3) := by decide +kernel
theorem dL_law_322 : decode cL_law 322 = .ok (.land, 1) := by decide +kernel
theorem dL_law_323 : decode cL_law 323 = .ok (.lor, 1) := by decide +kernel
theorem dL_law_324 : decode cL_law 324 = .ok (.invokevirtual 25, 3) := by decide +kernel
theorem dL_law_327 : decode cL_law 327 = .ok (.pop, 1) := by decide +kernel
theorem dL_law_328 : decode cL_law 328 = .ok (.aload_n 2, 1) := by decide +kernel
theorem dL_law_329 : decode cL_law 329 = .ok (.aload_n 0, 1) := by decide +kernel
theorem dL_law_330 : decode cL_law 330 = .ok (.iload_n 3, 1) := by decide +kernel
theorem dL_law_331 : decode cL_law 331 = .ok (.iconst 1, 1) := by decide +kernel
theorem dL_law_332 : decode cL_law 332 = .ok (.iadd, 1) := by decide +kernel
theorem dL_law_333 : decode cL_law 333 = .ok (.iaload, 1) := by decide +kernel
theorem dL_law_334 : decode cL_law 334 = .ok (.aload_n 0, 1) := by decide +kernel
theorem dL_law_335 : decode cL_law 335 = .ok (.iload_n 3, 1) := by decide +kernel
theorem dL_law_336 : decode cL_law 336 = .ok (.iconst 2, 1) := by decide +kernel
theorem dL_law_337 : decode cL_law 337 = .ok (.iadd, 1) := by decide +kernel
theorem dL_law_338 : decode cL_law 338 = .ok (.iaload, 1) := by decide +kernel
theorem dL_law_339 : decode cL_law 339 = .ok (.aload_n 0, 1) := by decide +kernel
theorem dL_law_340 : decode cL_law 340 = .ok (.iload_n 3, 1) := by decide +kernel
theorem dL_law_341 : decode cL_law 341 = .ok (.iconst 3, 1) := by decide +kernel
theorem dL_law_342 : decode cL_law 342 = .ok (.iadd, 1) := by decide +kernel
theorem dL_law_343 : decode cL_law 343 = .ok (.iaload, 1) := by decide +kernel
theorem dL_law_344 : decode cL_law 344 = .ok (.aload_n 0, 1) := by decide +kernel
theorem dL_law_345 : decode cL_law 345 = .ok (.iload_n 3, 1) := by decide +kernel
theorem dL_law_346 : decode cL_law 346 = .ok (.iconst 4, 1) := by decide +kernel
theorem dL_law_347 : decode cL_law 347 = .ok (.iadd, 1) := by decide +kernel
theorem dL_law_348 : decode cL_law 348 = .ok (.iaload, 1) := by decide +kernel
theorem dL_law_349 : decode cL_law 349 = .ok (.aload_n 0, 1) := by decide +kernel
theorem dL_law_350 : decode cL_law 350 = .ok (.iload_n 3, 1) := by decide +kernel
theorem dL_law_351 : decode cL_law 351 = .ok (.iconst 5, 1) := by decide +kernel
theorem dL_law_352 : decode cL_law 352 = .ok (.iadd, 1) := by decide +kernel
theorem dL_law_353 : decode cL_law 353 = .ok (.iaload, 1) := by decide +kernel
theorem dL_law_354 : decode cL_law 354 = .ok (.i2l, 1) := by decide +kernel
theorem dL_law_355 : decode cL_law 355 = .ok (.bipush 32, 2) := by decide +kernel
theorem dL_law_357 : decode cL_law 357 = .ok (.lshl, 1) := by decide +kernel
theorem dL_law_358 : decode cL_law 358 = .ok (.aload_n 0, 1) := by decide +kernel
theorem dL_law_359 : decode cL_law 359 = .ok (.iload_n 3, 1) := by decide +kernel
theorem dL_law_360 : decode cL_law 360 = .ok (.bipush 6, 2) := by decide +kernel
theorem dL_law_362 : decode cL_law 362 = .ok (.iadd, 1) := by decide +kernel
theorem dL_law_363 : decode cL_law 363 = .ok (.iaload, 1) := by decide +kernel
theorem dL_law_364 : decode cL_law 364 = .ok (.i2l, 1) := by decide +kernel
theorem dL_law_365 : decode cL_law 365 = .ok (.ldc2_w 23, 3) := by decide +kernel
theorem dL_law_368 : decode cL_law 368 = .ok (.land, 1) := by decide +kernel
theorem dL_law_369 : decode cL_law 369 = .ok (.lor, 1) := by decide +kernel
theorem dL_law_370 : decode cL_law 370 = .ok (.invokevirtual 29, 3) := by decide +kernel
theorem dL_law_373 : decode cL_law 373 = .ok (.pop, 1) := by decide +kernel
theorem dL_law_374 : decode cL_law 374 = .ok (.goto 1353, 3) := by decide +kernel
set_option maxRecDepth 20000 in
theorem lww_14 : Cond.constantLong RL 23 (4294967295) ∈ lw_tbl := List.mem_of_getElem? (i := 1827) (by decide +kernel)
set_option maxRecDepth 20000 in
theorem lww_15 : Cond.methodLink RL 25 yX10_make ∈ lw_tbl := List.mem_of_getElem? (i := 445) (by decide +kernel)
set_option maxRecDepth 20000 in
theorem lww_16 : Cond.instanceMethod yX10_make ∈ lw_tbl := List.mem_of_getElem? (i := 446) (by decide +kernel)
set_option maxRecDepth 20000 in
theorem lww_17 : Cond.selects RX10 yX10_make yX10_make ∈ lw_tbl := List.mem_of_getElem? (i := 447) (by decide +kernel)
set_option maxRecDepth 20000 in
theorem lww_18 : Cond.methodLink RL 29 yX11_make ∈ lw_tbl := List.mem_of_getElem? (i := 1374) (by decide +kernel)
set_option maxRecDepth 20000 in
theorem lww_19 : Cond.instanceMethod yX11_make ∈ lw_tbl := List.mem_of_getElem? (i := 1375) (by decide +kernel)
set_option maxRecDepth 20000 in
theorem lww_20 : Cond.selects RX11 yX11_make yX11_make ∈ lw_tbl := List.mem_of_getElem? (i := 1376) (by decide +kernel)

set_option maxRecDepth 20000 in
theorem g_L_m_makeW_25 : GoodIn lw_tbl (wsV RL 25 RX10 yX10_make wp_m_makeW) := goodIn_sub (List.forall_mem_append.mpr ⟨List.forall_mem_cons.mpr ⟨lww_15, List.forall_mem_cons.mpr ⟨lww_16, List.forall_mem_cons.mpr ⟨lww_17, List.forall_mem_cons.mpr ⟨lww_3, fun _ h => absurd h List.not_mem_nil⟩⟩⟩⟩, in_m_makeW⟩) (by decide +kernel)
set_option maxRecDepth 20000 in
theorem g_L_c_makeM_29 : GoodIn lw_tbl (wsV RL 29 RX11 yX11_make wp_c_makeM) := goodIn_sub (List.forall_mem_append.mpr ⟨List.forall_mem_cons.mpr ⟨lww_18, List.forall_mem_cons.mpr ⟨lww_19, List.forall_mem_cons.mpr ⟨lww_20, List.forall_mem_cons.mpr ⟨lww_7, fun _ h => absurd h List.not_mem_nil⟩⟩⟩⟩, in_c_makeM⟩) (by decide +kernel)
set_option maxRecDepth 20000 in
theorem g_L_m_make_25 : GoodIn lw_tbl (wsV RL 25 RX10 yX10_make wp_m_make) := goodIn_sub (List.forall_mem_append.mpr ⟨List.forall_mem_cons.mpr ⟨lww_15, List.forall_mem_cons.mpr ⟨lww_16, List.forall_mem_cons.mpr ⟨lww_17, List.forall_mem_cons.mpr ⟨lww_3, fun _ h => absurd h List.not_mem_nil⟩⟩⟩⟩, in_m_make⟩) (by decide +kernel)
set_option maxHeartbeats 4000000 in
set_option maxRecDepth 100000 in
theorem law_case_2 {p : Program} {e : Env} {s : State} {m : MethodId} {below : List Frame} {meth : Method} {c : Code} (l : Launch) {b L : Nat} {xs : Nat → Int32} {D : va_G} {A : Nat → Prop} {adK adV : Nat → Nat} (C0 : lw_At p s m meth c b L xs) (hL : L ≤ 3584) (hN : NC s) (hST : ST adK adV A s s.heap) (hA : ∀ q, s.heap.size ≤ q → A q) (hbA : ¬ A b) {cm : Nat → ClassId} {cI cT : ClassId} (hKm : va_K D vwCl (tyM cm) s) (hKc : va_K D vwCl [(cI, .int), (cT, .object RX9)] s) {x0 m0 i : Nat} (hi : i + 7 ≤ L) (kx : ∀ (cells slots tp : Nat) (bt : Nat → Nat) (ex : Nat → Bool) (Ls : Nat → List (Nat × Int32)) (V U : va_W) (H : Heap) (locs : List Loc) (ls : Array Slot), cells + 14 * cntE ex ≤ 200 → slots + 11072 * cntE ex ≤ 200000 → RWd cm m0 tp bt ex Ls V → CWd cI cT x0 tp bt ex Ls U → va_P D vwCl (V ++ U) H → va_D A (V ++ U) → va_S A s.heap H locs → lv_has ls 4 [(3, .int (nI i)), (2, .ref m0), (1, .ref x0), (0, .ref b)] → W p l e room_1 s m #[Value.ref b] below meth c H locs (cells) (slots) (lw_Z below #[Value.ref b] s) (F0 m 1727 ls [])) : ∀ (cells slots tp : Nat) (bt : Nat → Nat) (ex : Nat → Bool) (Ls : Nat → List (Nat × Int32)) (V U : va_W) (H : Heap) (locs : List Loc) (ls : Array Slot), cells + 14 * cntE ex ≤ 200 → slots + 11072 * cntE ex ≤ 200000 → RWd cm m0 tp bt ex Ls V → CWd cI cT x0 tp bt ex Ls U → va_P D vwCl (V ++ U) H → va_D A (V ++ U) → va_S A s.heap H locs → lv_has ls 4 [(3, .int (nI i)), (2, .ref m0), (1, .ref x0), (0, .ref b)] → W p l e room_1 s m #[Value.ref b] below meth c H locs (cells) (slots) (lw_Z below #[Value.ref b] s) (F0 m 282 ls []) := by
  intro cells slots tp bt ex Ls V U H locs ls hc9 hs9 hR hC hP hD hS hl
  have hf1 : cells ≤ room_1.cells := Nat.le_trans (show cells ≤ 200 by omega) (by decide +kernel)
  have hf2 : slots ≤ room_1.slots := Nat.le_trans (show slots ≤ 200000 by omega) (by decide +kernel)
  obtain ⟨hx, hb, hr, hml, hown, hts, hX, hbl, hlocks, hgv⟩ := id C0
  have hown : s.vm.findClass RL = some m.cls := hown
  refine lv_aload_n hx hb dL_law_282 rfl (lv_at hl 2 rfl) ?_
  refine lv_aload_n hx hb dL_law_283 rfl (lv_at hl 3 rfl) ?_
  refine lv_iload_n hx hb dL_law_284 rfl (lv_at hl 0 rfl) ?_
  refine lv_iconst (v := 1) hx hb dL_law_285 (by decide) ?_
  refine lv_iadd hx hb dL_law_286 ?_
  refine lv_topi (fun v1 ev1 => ?_)
  obtain rfl : v1 = nI (i + 1) := ev1.trans (nI_add _ 1)
  refine va_sld hx hb hX hbl hbA hS (vp_in_nI (by omega) (by omega)) dL_law_287 ?_
  refine lv_topi (fun v2 ev2 => ?_)
  refine lv_aload_n hx hb dL_law_288 rfl (lv_at hl 3 rfl) ?_
  refine lv_iload_n hx hb dL_law_289 rfl (lv_at hl 0 rfl) ?_
  refine lv_iconst (v := 2) hx hb dL_law_290 (by decide) ?_
  refine lv_iadd hx hb dL_law_291 ?_
  refine lv_topi (fun v3 ev3 => ?_)
  obtain rfl : v3 = nI (i + 2) := ev3.trans (nI_add _ 2)
  refine va_sld hx hb hX hbl hbA hS (vp_in_nI (by omega) (by omega)) dL_law_292 ?_
  refine lv_topi (fun v4 ev4 => ?_)
  refine lv_aload_n hx hb dL_law_293 rfl (lv_at hl 3 rfl) ?_
  refine lv_iload_n hx hb dL_law_294 rfl (lv_at hl 0 rfl) ?_
  refine lv_iconst (v := 3) hx hb dL_law_295 (by decide) ?_
  refine lv_iadd hx hb dL_law_296 ?_
  refine lv_topi (fun v5 ev5 => ?_)
  obtain rfl : v5 = nI (i + 3) := ev5.trans (nI_add _ 3)
  refine va_sld hx hb hX hbl hbA hS (vp_in_nI (by omega) (by omega)) dL_law_297 ?_
  refine lv_topi (fun v6 ev6 => ?_)
  refine lv_aload_n hx hb dL_law_298 rfl (lv_at hl 3 rfl) ?_
  refine lv_iload_n hx hb dL_law_299 rfl (lv_at hl 0 rfl) ?_
  refine lv_iconst (v := 4) hx hb dL_law_300 (by decide) ?_
  refine lv_iadd hx hb dL_law_301 ?_
  refine lv_topi (fun v7 ev7 => ?_)
  obtain rfl : v7 = nI (i + 4) := ev7.trans (nI_add _ 4)
  refine va_sld hx hb hX hbl hbA hS (vp_in_nI (by omega) (by omega)) dL_law_302 ?_
  refine lv_topi (fun v8 ev8 => ?_)
  refine lv_aload_n hx hb dL_law_303 rfl (lv_at hl 3 rfl) ?_
  refine lv_iload_n hx hb dL_law_304 rfl (lv_at hl 0 rfl) ?_
  refine lv_iconst (v := 5) hx hb dL_law_305 (by decide) ?_
  refine lv_iadd hx hb dL_law_306 ?_
  refine lv_topi (fun v9 ev9 => ?_)
  obtain rfl : v9 = nI (i + 5) := ev9.trans (nI_add _ 5)
  refine va_sld hx hb hX hbl hbA hS (vp_in_nI (by omega) (by omega)) dL_law_307 ?_
  refine lv_topi (fun v10 ev10 => ?_)
  refine lv_i2l hx hb dL_law_308 rfl ?_
  refine lv_bipush (v := 32) hx hb dL_law_309 (by decide) ?_
  refine lv_lshl hx hb dL_law_311 rfl ?_
  refine lv_topl (fun v11 ev11 => ?_)
  refine lv_aload_n hx hb dL_law_312 rfl (lv_at hl 3 rfl) ?_
  refine lv_iload_n hx hb dL_law_313 rfl (lv_at hl 0 rfl) ?_
  refine lv_bipush (v := 6) hx hb dL_law_314 (by decide) ?_
  refine lv_iadd hx hb dL_law_316 ?_
  refine lv_topi (fun v12 ev12 => ?_)
  obtain rfl : v12 = nI (i + 6) := ev12.trans (nI_add _ 6)
  refine va_sld hx hb hX hbl hbA hS (vp_in_nI (by omega) (by omega)) dL_law_317 ?_
  refine lv_topi (fun v13 ev13 => ?_)
  refine lv_i2l hx hb dL_law_318 rfl ?_
  refine lv_ldc2 (v := 4294967295) hx hb hown (hts (.constantLong RL 23 (4294967295)) lww_14) dL_law_319 ?_
  refine lv_land hx hb dL_law_322 ?_
  refine lv_topl (fun v14 ev14 => ?_)
  refine lv_lor hx hb dL_law_323 ?_
  refine lv_topl (fun v15 ev15 => ?_)
  by_cases hn9 : mkNew ex v2 v4 v6 v8
  ·
    have hcn := mk_c1 hn9
    have hg1 : cells + 14 ≤ room_1.cells := Nat.le_trans (show cells + 14 ≤ 200 by omega) (by decide +kernel)
    have hg2 : slots + 11072 ≤ room_1.slots := Nat.le_trans (show slots + 11072 ≤ 200000 by omega) (by decide +kernel)
    obtain ⟨q9, fs9, he9⟩ := hC.recv
    have hFc := va_fr hD.rt hS hA
    refine va_calli (va_runV (As := [.int v2, .int v4, .int v6, .int v8, .long v15]) (rest := []) ⟨hx, hb, hml, hown, hts⟩ (m_makeW l D _ adK adV cI cT x0 _ _ _ _ U v2 v4 v6 v8 v15 hC hn9) (cwV 5 hts g_L_m_makeW_25 rfl rfl rfl (by decide +kernel) ⟨(Nat.le_of_ble_eq_true rfl), (Nat.le_of_ble_eq_true rfl)⟩) (PcWS_V (q0 := q9) hP.rt hKc hD.rt hN hST hS hFc he9 rfl) rfl rfl hl.1 rfl (lv_room (Nat.le_of_ble_eq_true rfl)) dL_law_324 ⟨hg1, hg2⟩) hS (fun q _ h => hFc q h) hFc (fun r16 uu tt H locs htt hvm hw hB hz1 hk1 hS => ?_)
    obtain ⟨U17, rfl⟩ : ∃ z, z = uu := ⟨_, rfl⟩
    obtain ⟨hP1, hK1, hD1⟩ := hB
    rw [htt] at hP1
    obtain ⟨hP, hD⟩ := jnC hP hD hk1 hFc hP1 hD1
    have hC := hw.1
    have emC := hw.2
    refine lv_pop hx hb dL_law_327 rfl ?_
    refine lv_aload_n hx hb dL_law_328 rfl (lv_at hl 1 rfl) ?_
    refine lv_aload_n hx hb dL_law_329 rfl (lv_at hl 3 rfl) ?_
    refine lv_iload_n hx hb dL_law_330 rfl (lv_at hl 0 rfl) ?_
    refine lv_iconst (v := 1) hx hb dL_law_331 (by decide) ?_
    refine lv_iadd hx hb dL_law_332 ?_
    refine lv_topi (fun v18 ev18 => ?_)
    obtain rfl : v18 = nI (i + 1) := ev18.trans (nI_add _ 1)
    refine va_sld hx hb hX hbl hbA hS (vp_in_nI (by omega) (by omega)) dL_law_333 ?_
    refine lv_topi (fun v19 ev19 => ?_)
    refine lv_aload_n hx hb dL_law_334 rfl (lv_at hl 3 rfl) ?_
    refine lv_iload_n hx hb dL_law_335 rfl (lv_at hl 0 rfl) ?_
    refine lv_iconst (v := 2) hx hb dL_law_336 (by decide) ?_
    refine lv_iadd hx hb dL_law_337 ?_
    refine lv_topi (fun v20 ev20 => ?_)
    obtain rfl : v20 = nI (i + 2) := ev20.trans (nI_add _ 2)
    refine va_sld hx hb hX hbl hbA hS (vp_in_nI (by omega) (by omega)) dL_law_338 ?_
    refine lv_topi (fun v21 ev21 => ?_)
    refine lv_aload_n hx hb dL_law_339 rfl (lv_at hl 3 rfl) ?_
    refine lv_iload_n hx hb dL_law_340 rfl (lv_at hl 0 rfl) ?_
    refine lv_iconst (v := 3) hx hb dL_law_341 (by decide) ?_
    refine lv_iadd hx hb dL_law_342 ?_
    refine lv_topi (fun v22 ev22 => ?_)
    obtain rfl : v22 = nI (i + 3) := ev22.trans (nI_add _ 3)
    refine va_sld hx hb hX hbl hbA hS (vp_in_nI (by omega) (by omega)) dL_law_343 ?_
    refine lv_topi (fun v23 ev23 => ?_)
    refine lv_aload_n hx hb dL_law_344 rfl (lv_at hl 3 rfl) ?_
    refine lv_iload_n hx hb dL_law_345 rfl (lv_at hl 0 rfl) ?_
    refine lv_iconst (v := 4) hx hb dL_law_346 (by decide) ?_
    refine lv_iadd hx hb dL_law_347 ?_
    refine lv_topi (fun v24 ev24 => ?_)
    obtain rfl : v24 = nI (i + 4) := ev24.trans (nI_add _ 4)
    refine va_sld hx hb hX hbl hbA hS (vp_in_nI (by omega) (by omega)) dL_law_348 ?_
    refine lv_topi (fun v25 ev25 => ?_)
    refine lv_aload_n hx hb dL_law_349 rfl (lv_at hl 3 rfl) ?_
    refine lv_iload_n hx hb dL_law_350 rfl (lv_at hl 0 rfl) ?_
    refine lv_iconst (v := 5) hx hb dL_law_351 (by decide) ?_
    refine lv_iadd hx hb dL_law_352 ?_
    refine lv_topi (fun v26 ev26 => ?_)
    obtain rfl : v26 = nI (i + 5) := ev26.trans (nI_add _ 5)
    refine va_sld hx hb hX hbl hbA hS (vp_in_nI (by omega) (by omega)) dL_law_353 ?_
    refine lv_topi (fun v27 ev27 => ?_)
    refine lv_i2l hx hb dL_law_354 rfl ?_
    refine lv_bipush (v := 32) hx hb dL_law_355 (by decide) ?_
    refine lv_lshl hx hb dL_law_357 rfl ?_
    refine lv_topl (fun v28 ev28 => ?_)
    refine lv_aload_n hx hb dL_law_358 rfl (lv_at hl 3 rfl) ?_
    refine lv_iload_n hx hb dL_law_359 rfl (lv_at hl 0 rfl) ?_
    refine lv_bipush (v := 6) hx hb dL_law_360 (by decide) ?_
    refine lv_iadd hx hb dL_law_362 ?_
    refine lv_topi (fun v29 ev29 => ?_)
    obtain rfl : v29 = nI (i + 6) := ev29.trans (nI_add _ 6)
    refine va_sld hx hb hX hbl hbA hS (vp_in_nI (by omega) (by omega)) dL_law_363 ?_
    refine lv_topi (fun v30 ev30 => ?_)
    refine lv_i2l hx hb dL_law_364 rfl ?_
    refine lv_ldc2 (v := 4294967295) hx hb hown (hts (.constantLong RL 23 (4294967295)) lww_14) dL_law_365 ?_
    refine lv_land hx hb dL_law_368 ?_
    refine lv_topl (fun v31 ev31 => ?_)
    refine lv_lor hx hb dL_law_369 ?_
    refine lv_topl (fun v32 ev32 => ?_)
    obtain ⟨q9, fs9, he9⟩ := hR.recv
    have hFc := va_fr hD.lf hS hA
    refine va_calli (va_runV (As := [.int v19, .int v21, .int v23, .int v25, .long v32]) (rest := []) ⟨hx, hb, hml, hown, hts⟩ (M_make l D _ cm m0 _ _ _ _ V v19 v21 v23 v25 v32 hR) (cwV 5 hts g_L_c_makeM_29 rfl rfl rfl (by decide +kernel) ⟨(Nat.le_of_ble_eq_true rfl), (Nat.le_of_ble_eq_true rfl)⟩) (PcW_V (q0 := q9) hP.lf hKm hD.lf he9 rfl) rfl rfl hl.1 rfl (lv_room (Nat.le_of_ble_eq_true rfl)) dL_law_370 ⟨hg1, hg2⟩) hS (fun q _ h => hFc q h) hFc (fun r33 uu tt H locs htt hvm hw hB hz1 hk1 hS => ?_)
    obtain ⟨V34, rfl⟩ : ∃ z, z = uu := ⟨_, rfl⟩
    obtain ⟨hP1, hK1, hD1⟩ := hB
    rw [htt] at hP1
    obtain ⟨hP, hD⟩ := jnR hP hD hk1 hFc hP1 hD1
    have hR := hw.1
    have emR := hw.2
    have e9x : v19 = v2 := ev19.trans ev2.symm
    try rw [e9x] at hR
    try rw [e9x] at emR
    clear e9x
    have e9x : v21 = v4 := ev21.trans ev4.symm
    try rw [e9x] at hR
    try rw [e9x] at emR
    clear e9x
    have e9x : v23 = v6 := ev23.trans ev6.symm
    try rw [e9x] at hR
    try rw [e9x] at emR
    clear e9x
    have e9x : v25 = v8 := ev25.trans ev8.symm
    try rw [e9x] at hR
    try rw [e9x] at emR
    clear e9x
    refine lv_pop hx hb dL_law_373 rfl ?_
    refine lv_goto (tgt := 1727) hx hb dL_law_374 (by decide) ?_
    exact kx (cells + 14) (slots + 11072) _ _ _ _ V34 U17 H locs ls (by omega) (by omega) hR hC hP hD hS hl
  ·
    have hcn := mk_c0 hn9
    obtain ⟨q9, fs9, he9⟩ := hC.recv
    have hFc := va_fr hD.rt hS hA
    refine va_calli (va_runV (As := [.int v2, .int v4, .int v6, .int v8, .long v15]) (rest := []) ⟨hx, hb, hml, hown, hts⟩ (m_make l D _ adK adV cI cT x0 _ _ _ _ U v2 v4 v6 v8 v15 hC hn9) (cwV 5 hts g_L_m_make_25 rfl rfl rfl (by decide +kernel) ⟨(Nat.le_of_ble_eq_true rfl), (Nat.le_of_ble_eq_true rfl)⟩) (PcWS_V (q0 := q9) hP.rt hKc hD.rt hN hST hS hFc he9 rfl) rfl rfl hl.1 rfl (lv_room (Nat.le_of_ble_eq_true rfl)) dL_law_324 ⟨hf1, hf2⟩) hS (fun q _ h => hFc q h) hFc (fun r35 uu tt H locs htt hvm hw hB hz1 hk1 hS => ?_)
    obtain ⟨U36, rfl⟩ : ∃ z, z = uu := ⟨_, rfl⟩
    obtain ⟨hP1, hK1, hD1⟩ := hB
    rw [htt] at hP1
    obtain ⟨hP, hD⟩ := jnC hP hD hk1 hFc hP1 hD1
    have hC := hw.1
    have emC := hw.2
    refine lv_pop hx hb dL_law_327 rfl ?_
    refine lv_aload_n hx hb dL_law_328 rfl (lv_at hl 1 rfl) ?_
    refine lv_aload_n hx hb dL_law_329 rfl (lv_at hl 3 rfl) ?_
    refine lv_iload_n hx hb dL_law_330 rfl (lv_at hl 0 rfl) ?_
    refine lv_iconst (v := 1) hx hb dL_law_331 (by decide) ?_
    refine lv_iadd hx hb dL_law_332 ?_
    refine lv_topi (fun v37 ev37 => ?_)
    obtain rfl : v37 = nI (i + 1) := ev37.trans (nI_add _ 1)
    refine va_sld hx hb hX hbl hbA hS (vp_in_nI (by omega) (by omega)) dL_law_333 ?_
    refine lv_topi (fun v38 ev38 => ?_)
    refine lv_aload_n hx hb dL_law_334 rfl (lv_at hl 3 rfl) ?_
    refine lv_iload_n hx hb dL_law_335 rfl (lv_at hl 0 rfl) ?_
    refine lv_iconst (v := 2) hx hb dL_law_336 (by decide) ?_
    refine lv_iadd hx hb dL_law_337 ?_
    refine lv_topi (fun v39 ev39 => ?_)
    obtain rfl : v39 = nI (i + 2) := ev39.trans (nI_add _ 2)
    refine va_sld hx hb hX hbl hbA hS (vp_in_nI (by omega) (by omega)) dL_law_338 ?_
    refine lv_topi (fun v40 ev40 => ?_)
    refine lv_aload_n hx hb dL_law_339 rfl (lv_at hl 3 rfl) ?_
    refine lv_iload_n hx hb dL_law_340 rfl (lv_at hl 0 rfl) ?_
    refine lv_iconst (v := 3) hx hb dL_law_341 (by decide) ?_
    refine lv_iadd hx hb dL_law_342 ?_
    refine lv_topi (fun v41 ev41 => ?_)
    obtain rfl : v41 = nI (i + 3) := ev41.trans (nI_add _ 3)
    refine va_sld hx hb hX hbl hbA hS (vp_in_nI (by omega) (by omega)) dL_law_343 ?_
    refine lv_topi (fun v42 ev42 => ?_)
    refine lv_aload_n hx hb dL_law_344 rfl (lv_at hl 3 rfl) ?_
    refine lv_iload_n hx hb dL_law_345 rfl (lv_at hl 0 rfl) ?_
    refine lv_iconst (v := 4) hx hb dL_law_346 (by decide) ?_
    refine lv_iadd hx hb dL_law_347 ?_
    refine lv_topi (fun v43 ev43 => ?_)
    obtain rfl : v43 = nI (i + 4) := ev43.trans (nI_add _ 4)
    refine va_sld hx hb hX hbl hbA hS (vp_in_nI (by omega) (by omega)) dL_law_348 ?_
    refine lv_topi (fun v44 ev44 => ?_)
    refine lv_aload_n hx hb dL_law_349 rfl (lv_at hl 3 rfl) ?_
    refine lv_iload_n hx hb dL_law_350 rfl (lv_at hl 0 rfl) ?_
    refine lv_iconst (v := 5) hx hb dL_law_351 (by decide) ?_
    refine lv_iadd hx hb dL_law_352 ?_
    refine lv_topi (fun v45 ev45 => ?_)
    obtain rfl : v45 = nI (i + 5) := ev45.trans (nI_add _ 5)
    refine va_sld hx hb hX hbl hbA hS (vp_in_nI (by omega) (by omega)) dL_law_353 ?_
    refine lv_topi (fun v46 ev46 => ?_)
    refine lv_i2l hx hb dL_law_354 rfl ?_
    refine lv_bipush (v := 32) hx hb dL_law_355 (by decide) ?_
    refine lv_lshl hx hb dL_law_357 rfl ?_
    refine lv_topl (fun v47 ev47 => ?_)
    refine lv_aload_n hx hb dL_law_358 rfl (lv_at hl 3 rfl) ?_
    refine lv_iload_n hx hb dL_law_359 rfl (lv_at hl 0 rfl) ?_
    refine lv_bipush (v := 6) hx hb dL_law_360 (by decide) ?_
    refine lv_iadd hx hb dL_law_362 ?_
    refine lv_topi (fun v48 ev48 => ?_)
    obtain rfl : v48 = nI (i + 6) := ev48.trans (nI_add _ 6)
    refine va_sld hx hb hX hbl hbA hS (vp_in_nI (by omega) (by omega)) dL_law_363 ?_
    refine lv_topi (fun v49 ev49 => ?_)
    refine lv_i2l hx hb dL_law_364 rfl ?_
    refine lv_ldc2 (v := 4294967295) hx hb hown (hts (.constantLong RL 23 (4294967295)) lww_14) dL_law_365 ?_
    refine lv_land hx hb dL_law_368 ?_
    refine lv_topl (fun v50 ev50 => ?_)
    refine lv_lor hx hb dL_law_369 ?_
    refine lv_topl (fun v51 ev51 => ?_)
    obtain ⟨q9, fs9, he9⟩ := hR.recv
    have hFc := va_fr hD.lf hS hA
    refine va_calli (va_runV (As := [.int v38, .int v40, .int v42, .int v44, .long v51]) (rest := []) ⟨hx, hb, hml, hown, hts⟩ (M_make l D _ cm m0 _ _ _ _ V v38 v40 v42 v44 v51 hR) (cwV 5 hts g_L_c_makeM_29 rfl rfl rfl (by decide +kernel) ⟨(Nat.le_of_ble_eq_true rfl), (Nat.le_of_ble_eq_true rfl)⟩) (PcW_V (q0 := q9) hP.lf hKm hD.lf he9 rfl) rfl rfl hl.1 rfl (lv_room (Nat.le_of_ble_eq_true rfl)) dL_law_370 ⟨hf1, hf2⟩) hS (fun q _ h => hFc q h) hFc (fun r52 uu tt H locs htt hvm hw hB hz1 hk1 hS => ?_)
    obtain ⟨V53, rfl⟩ : ∃ z, z = uu := ⟨_, rfl⟩
    obtain ⟨hP1, hK1, hD1⟩ := hB
    rw [htt] at hP1
    obtain ⟨hP, hD⟩ := jnR hP hD hk1 hFc hP1 hD1
    have hR := hw.1
    have emR := hw.2
    have e9x : v38 = v2 := ev38.trans ev2.symm
    try rw [e9x] at hR
    try rw [e9x] at emR
    clear e9x
    have e9x : v40 = v4 := ev40.trans ev4.symm
    try rw [e9x] at hR
    try rw [e9x] at emR
    clear e9x
    have e9x : v42 = v6 := ev42.trans ev6.symm
    try rw [e9x] at hR
    try rw [e9x] at emR
    clear e9x
    have e9x : v44 = v8 := ev44.trans ev8.symm
    try rw [e9x] at hR
    try rw [e9x] at emR
    clear e9x
    refine lv_pop hx hb dL_law_373 rfl ?_
    refine lv_goto (tgt := 1727) hx hb dL_law_374 (by decide) ?_
    exact kx cells slots _ _ _ _ V53 U36 H locs ls (by omega) (by omega) hR hC hP hD hS hl

