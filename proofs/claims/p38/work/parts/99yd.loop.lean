theorem dL_law_18 : decode cL_law 18 = .ok (.iload_n 3, 1) := by decide +kernel
theorem dL_law_19 : decode cL_law 19 = .ok (.aload_n 0, 1) := by decide +kernel
theorem dL_law_20 : decode cL_law 20 = .ok (.arraylength, 1) := by decide +kernel
theorem dL_law_21 : decode cL_law 21 = .ok (.bipush 7, 2) := by decide +kernel
theorem dL_law_23 : decode cL_law 23 = .ok (.isub, 1) := by decide +kernel
theorem dL_law_24 : decode cL_law 24 = .ok (.if_icmp .gt 1709, 3) := by decide +kernel
theorem dL_law_27 : decode cL_law 27 = .ok (.aload_n 0, 1) := by decide +kernel
theorem dL_law_28 : decode cL_law 28 = .ok (.iload_n 3, 1) := by decide +kernel
theorem dL_law_29 : decode cL_law 29 = .ok (.iaload, 1) := by decide +kernel
theorem dL_law_30 : decode cL_law 30 = .ok (.bipush 63, 2) := by decide +kernel
theorem dL_law_32 : decode cL_law 32 = .ok (.iand, 1) := by decide +kernel
theorem dL_law_33 : decode cL_law 33 = .ok (.tableswitch 1694 0 36 #[163, 226, 249, 344, 387, 420, 453, 476, 509, 552, 595, 638, 671, 704, 737, 770, 803, 836, 859, 882, 945, 1028, 1081, 1176, 1209, 1282, 1355, 1398, 1431, 1490, 1523, 1546, 1569, 1592, 1615, 1638, 1671], 163) := by decide +kernel
theorem dL_law_1727 : decode cL_law 1727 = .ok (.iinc 3 7, 3) := by decide +kernel
theorem dL_law_1730 : decode cL_law 1730 = .ok (.goto (-1712), 3) := by decide +kernel
theorem dL_law_1733 : decode cL_law 1733 = .ok (.iconst 1, 1) := by decide +kernel
theorem dL_law_1734 : decode cL_law 1734 = .ok (.ireturn, 1) := by decide +kernel
theorem lw_more {i L : Nat} (hL : L ≤ 3584) (hi : i ≤ 3584) (hc : ¬ nI L - 7 < nI i) : i + 7 ≤ L := by
  have h : nI i ≤ nI L - nI 7 := Int32.not_lt.mp hc
  rw [Int32.le_iff_toInt_le, pk_sub_toInt (by omega) (by omega), nI_toInt (by omega)] at h
  omega
theorem sw37 {x : Int32} (h0 : ¬ x = 0) (h1 : ¬ x = 1) (h2 : ¬ x = 2) (h3 : ¬ x = 3) (h4 : ¬ x = 4) (h5 : ¬ x = 5) (h6 : ¬ x = 6) (h7 : ¬ x = 7) (h8 : ¬ x = 8) (h9 : ¬ x = 9) (h10 : ¬ x = 10) (h11 : ¬ x = 11) (h12 : ¬ x = 12) (h13 : ¬ x = 13) (h14 : ¬ x = 14) (h15 : ¬ x = 15) (h16 : ¬ x = 16) (h17 : ¬ x = 17) (h18 : ¬ x = 18) (h19 : ¬ x = 19) (h20 : ¬ x = 20) (h21 : ¬ x = 21) (h22 : ¬ x = 22) (h23 : ¬ x = 23) (h24 : ¬ x = 24) (h25 : ¬ x = 25) (h26 : ¬ x = 26) (h27 : ¬ x = 27) (h28 : ¬ x = 28) (h29 : ¬ x = 29) (h30 : ¬ x = 30) (h31 : ¬ x = 31) (h32 : ¬ x = 32) (h33 : ¬ x = 33) (h34 : ¬ x = 34) (h35 : ¬ x = 35) (h36 : ¬ x = 36) : x.toInt < 0 ∨ 36 < x.toInt := by
  have a0 := sw_ne (n := 0) h0 (by decide) (by decide)
  have a1 := sw_ne (n := 1) h1 (by decide) (by decide)
  have a2 := sw_ne (n := 2) h2 (by decide) (by decide)
  have a3 := sw_ne (n := 3) h3 (by decide) (by decide)
  have a4 := sw_ne (n := 4) h4 (by decide) (by decide)
  have a5 := sw_ne (n := 5) h5 (by decide) (by decide)
  have a6 := sw_ne (n := 6) h6 (by decide) (by decide)
  have a7 := sw_ne (n := 7) h7 (by decide) (by decide)
  have a8 := sw_ne (n := 8) h8 (by decide) (by decide)
  have a9 := sw_ne (n := 9) h9 (by decide) (by decide)
  have a10 := sw_ne (n := 10) h10 (by decide) (by decide)
  have a11 := sw_ne (n := 11) h11 (by decide) (by decide)
  have a12 := sw_ne (n := 12) h12 (by decide) (by decide)
  have a13 := sw_ne (n := 13) h13 (by decide) (by decide)
  have a14 := sw_ne (n := 14) h14 (by decide) (by decide)
  have a15 := sw_ne (n := 15) h15 (by decide) (by decide)
  have a16 := sw_ne (n := 16) h16 (by decide) (by decide)
  have a17 := sw_ne (n := 17) h17 (by decide) (by decide)
  have a18 := sw_ne (n := 18) h18 (by decide) (by decide)
  have a19 := sw_ne (n := 19) h19 (by decide) (by decide)
  have a20 := sw_ne (n := 20) h20 (by decide) (by decide)
  have a21 := sw_ne (n := 21) h21 (by decide) (by decide)
  have a22 := sw_ne (n := 22) h22 (by decide) (by decide)
  have a23 := sw_ne (n := 23) h23 (by decide) (by decide)
  have a24 := sw_ne (n := 24) h24 (by decide) (by decide)
  have a25 := sw_ne (n := 25) h25 (by decide) (by decide)
  have a26 := sw_ne (n := 26) h26 (by decide) (by decide)
  have a27 := sw_ne (n := 27) h27 (by decide) (by decide)
  have a28 := sw_ne (n := 28) h28 (by decide) (by decide)
  have a29 := sw_ne (n := 29) h29 (by decide) (by decide)
  have a30 := sw_ne (n := 30) h30 (by decide) (by decide)
  have a31 := sw_ne (n := 31) h31 (by decide) (by decide)
  have a32 := sw_ne (n := 32) h32 (by decide) (by decide)
  have a33 := sw_ne (n := 33) h33 (by decide) (by decide)
  have a34 := sw_ne (n := 34) h34 (by decide) (by decide)
  have a35 := sw_ne (n := 35) h35 (by decide) (by decide)
  have a36 := sw_ne (n := 36) h36 (by decide) (by decide)
  omega
set_option maxHeartbeats 4000000 in
set_option maxRecDepth 100000 in
theorem law_head {p : Program} {e : Env} {s : State} {m : MethodId} {below : List Frame} {meth : Method} {c : Code} (l : Launch) {b L : Nat} {xs : Nat → Int32} {D : va_G} {A : Nat → Prop} {adK adV : Nat → Nat} (C0 : lw_At p s m meth c b L xs) (hL : L ≤ 3584) (hN : NC s) (hST : ST adK adV A s s.heap) (hA : ∀ q, s.heap.size ≤ q → A q) (hbA : ¬ A b) {cm : Nat → ClassId} {cI cT : ClassId} (hKm : va_K D vwCl (tyM cm) s) (hKc : va_K D vwCl [(cI, .int), (cT, .object RX9)] s) (hA2 : ∀ q, A q → s.heap.size ≤ q) {x0 m0 i cells slots : Nat} (hi : i ≤ 3584) (h1 : cells ≤ 1200000) (h2 : slots ≤ 5502250) {H : Heap} {locs : List Loc} {ls : Array Slot} (hS : va_S A s.heap H locs) (hl : lv_has ls 4 [(3, .int (nI i)), (2, .ref m0), (1, .ref x0), (0, .ref b)]) (kx : i + 7 ≤ L → W p l e room_1 s m #[Value.ref b] below meth c H locs (cells) (slots) (lw_Z below #[Value.ref b] s) (F0 m 27 ls [])) : W p l e room_1 s m #[Value.ref b] below meth c H locs (cells) (slots) (lw_Z below #[Value.ref b] s) (F0 m 18 ls []) := by
  obtain ⟨hx, hb, hr, hml, hown, hts, hX, hbl, hlocks, hgv⟩ := id C0
  refine lv_iload_n hx hb dL_law_18 rfl (lv_at hl 0 rfl) ?_
  refine lv_aload_n hx hb dL_law_19 rfl (lv_at hl 3 rfl) ?_
  refine va_slen hx hb hX hbl hbA hS dL_law_20 ?_
  refine lv_bipush (v := 7) hx hb dL_law_21 (by decide) ?_
  refine lv_isub hx hb dL_law_23 ?_
  refine lv_icmp_gt (tgt := 1733) hx hb dL_law_24 (by decide) (fun hc => ?_) (fun hc => kx (lw_more hL hi hc))
  refine lv_iconst (v := 1) hx hb dL_law_1733 (by decide) ?_
  refine va_forget (fun q hq => hA2 _ (hS.2.2 q hq)) ?_
  refine W.widen (k := 1200000) (n := 5502250) h1 h2 ?_
  exact lw_ret hx hb hr hlocks dL_law_1734

set_option maxHeartbeats 4000000 in
set_option maxRecDepth 100000 in
theorem law_turn {p : Program} {e : Env} {s : State} {m : MethodId} {below : List Frame} {meth : Method} {c : Code} (l : Launch) {b L : Nat} {xs : Nat → Int32} {D : va_G} {A : Nat → Prop} {adK adV : Nat → Nat} (C0 : lw_At p s m meth c b L xs) (hL : L ≤ 3584) (hN : NC s) (hST : ST adK adV A s s.heap) (hA : ∀ q, s.heap.size ≤ q → A q) (hbA : ¬ A b) {cm : Nat → ClassId} {cI cT : ClassId} (hKm : va_K D vwCl (tyM cm) s) (hKc : va_K D vwCl [(cI, .int), (cT, .object RX9)] s) {x0 m0 i : Nat} (hi : i + 7 ≤ L) (kx : ∀ (cells slots tp : Nat) (bt : Nat → Nat) (ex : Nat → Bool) (Ls : Nat → List (Nat × Int32)) (V U : va_W) (H : Heap) (locs : List Loc) (ls : Array Slot), cells + 14 * cntE ex ≤ 200 → slots + 11072 * cntE ex ≤ 200000 → RWd cm m0 tp bt ex Ls V → CWd cI cT x0 tp bt ex Ls U → va_P D vwCl (V ++ U) H → va_D A (V ++ U) → va_S A s.heap H locs → lv_has ls 4 [(3, .int (nI i)), (2, .ref m0), (1, .ref x0), (0, .ref b)] → W p l e room_1 s m #[Value.ref b] below meth c H locs (cells) (slots) (lw_Z below #[Value.ref b] s) (F0 m 1727 ls [])) : ∀ (cells slots tp : Nat) (bt : Nat → Nat) (ex : Nat → Bool) (Ls : Nat → List (Nat × Int32)) (V U : va_W) (H : Heap) (locs : List Loc) (ls : Array Slot), cells + 14 * cntE ex ≤ 200 → slots + 11072 * cntE ex ≤ 200000 → RWd cm m0 tp bt ex Ls V → CWd cI cT x0 tp bt ex Ls U → va_P D vwCl (V ++ U) H → va_D A (V ++ U) → va_S A s.heap H locs → lv_has ls 4 [(3, .int (nI i)), (2, .ref m0), (1, .ref x0), (0, .ref b)] → W p l e room_1 s m #[Value.ref b] below meth c H locs (cells) (slots) (lw_Z below #[Value.ref b] s) (F0 m 27 ls []) := by
  intro cells slots tp bt ex Ls V U H locs ls hcl9 hsl9 hR hC hP hD hS hl
  obtain ⟨hx, hb, hr, hml, hown, hts, hX, hbl, hlocks, hgv⟩ := id C0
  refine lv_aload_n hx hb dL_law_27 rfl (lv_at hl 3 rfl) ?_
  refine lv_iload_n hx hb dL_law_28 rfl (lv_at hl 0 rfl) ?_
  refine va_sld hx hb hX hbl hbA hS (vp_in_nI (by omega) (by omega)) dL_law_29 ?_
  refine lv_bipush (v := 63) hx hb dL_law_30 (by decide) ?_
  refine lv_iand hx hb dL_law_32 ?_
  refine lv_topi (fun v2 ev2 => ?_)
  clear ev2
  by_cases hs : v2 = 0
  · subst hs
    refine lv_tableIn (off := 163) (tgt := 196) hx hb dL_law_33 (by decide) (by decide) (by decide +kernel) (by decide) ?_
    exact law_case_0 l C0 hL hN hST hA hbA hKm hKc hi kx cells slots tp bt ex Ls V U H locs ls hcl9 hsl9 hR hC hP hD hS hl
  have hs0 := hs
  clear hs
  by_cases hs : v2 = 1
  · subst hs
    refine lv_tableIn (off := 226) (tgt := 259) hx hb dL_law_33 (by decide) (by decide) (by decide +kernel) (by decide) ?_
    exact law_case_1 l C0 hL hN hST hA hbA hKm hKc hi kx cells slots tp bt ex Ls V U H locs ls hcl9 hsl9 hR hC hP hD hS hl
  have hs1 := hs
  clear hs
  by_cases hs : v2 = 2
  · subst hs
    refine lv_tableIn (off := 249) (tgt := 282) hx hb dL_law_33 (by decide) (by decide) (by decide +kernel) (by decide) ?_
    exact law_case_2 l C0 hL hN hST hA hbA hKm hKc hi kx cells slots tp bt ex Ls V U H locs ls hcl9 hsl9 hR hC hP hD hS hl
  have hs2 := hs
  clear hs
  by_cases hs : v2 = 3
  · subst hs
    refine lv_tableIn (off := 344) (tgt := 377) hx hb dL_law_33 (by decide) (by decide) (by decide +kernel) (by decide) ?_
    exact law_case_3 l C0 hL hN hST hA hbA hKm hKc hi kx cells slots tp bt ex Ls V U H locs ls hcl9 hsl9 hR hC hP hD hS hl
  have hs3 := hs
  clear hs
  by_cases hs : v2 = 4
  · subst hs
    refine lv_tableIn (off := 387) (tgt := 420) hx hb dL_law_33 (by decide) (by decide) (by decide +kernel) (by decide) ?_
    exact law_case_4 l C0 hL hN hST hA hbA hKm hKc hi kx cells slots tp bt ex Ls V U H locs ls hcl9 hsl9 hR hC hP hD hS hl
  have hs4 := hs
  clear hs
  by_cases hs : v2 = 5
  · subst hs
    refine lv_tableIn (off := 420) (tgt := 453) hx hb dL_law_33 (by decide) (by decide) (by decide +kernel) (by decide) ?_
    exact law_case_5 l C0 hL hN hST hA hbA hKm hKc hi kx cells slots tp bt ex Ls V U H locs ls hcl9 hsl9 hR hC hP hD hS hl
  have hs5 := hs
  clear hs
  by_cases hs : v2 = 6
  · subst hs
    refine lv_tableIn (off := 453) (tgt := 486) hx hb dL_law_33 (by decide) (by decide) (by decide +kernel) (by decide) ?_
    exact law_case_6 l C0 hL hN hST hA hbA hKm hKc hi kx cells slots tp bt ex Ls V U H locs ls hcl9 hsl9 hR hC hP hD hS hl
  have hs6 := hs
  clear hs
  by_cases hs : v2 = 7
  · subst hs
    refine lv_tableIn (off := 476) (tgt := 509) hx hb dL_law_33 (by decide) (by decide) (by decide +kernel) (by decide) ?_
    exact law_case_7 l C0 hL hN hST hA hbA hKm hKc hi kx cells slots tp bt ex Ls V U H locs ls hcl9 hsl9 hR hC hP hD hS hl
  have hs7 := hs
  clear hs
  by_cases hs : v2 = 8
  · subst hs
    refine lv_tableIn (off := 509) (tgt := 542) hx hb dL_law_33 (by decide) (by decide) (by decide +kernel) (by decide) ?_
    exact law_case_8 l C0 hL hN hST hA hbA hKm hKc hi kx cells slots tp bt ex Ls V U H locs ls hcl9 hsl9 hR hC hP hD hS hl
  have hs8 := hs
  clear hs
  by_cases hs : v2 = 9
  · subst hs
    refine lv_tableIn (off := 552) (tgt := 585) hx hb dL_law_33 (by decide) (by decide) (by decide +kernel) (by decide) ?_
    exact law_case_9 l C0 hL hN hST hA hbA hKm hKc hi kx cells slots tp bt ex Ls V U H locs ls hcl9 hsl9 hR hC hP hD hS hl
  have hs9 := hs
  clear hs
  by_cases hs : v2 = 10
  · subst hs
    refine lv_tableIn (off := 595) (tgt := 628) hx hb dL_law_33 (by decide) (by decide) (by decide +kernel) (by decide) ?_
    exact law_case_10 l C0 hL hN hST hA hbA hKm hKc hi kx cells slots tp bt ex Ls V U H locs ls hcl9 hsl9 hR hC hP hD hS hl
  have hs10 := hs
  clear hs
  by_cases hs : v2 = 11
  · subst hs
    refine lv_tableIn (off := 638) (tgt := 671) hx hb dL_law_33 (by decide) (by decide) (by decide +kernel) (by decide) ?_
    exact law_case_11 l C0 hL hN hST hA hbA hKm hKc hi kx cells slots tp bt ex Ls V U H locs ls hcl9 hsl9 hR hC hP hD hS hl
  have hs11 := hs
  clear hs
  by_cases hs : v2 = 12
  · subst hs
    refine lv_tableIn (off := 671) (tgt := 704) hx hb dL_law_33 (by decide) (by decide) (by decide +kernel) (by decide) ?_
    exact law_case_12 l C0 hL hN hST hA hbA hKm hKc hi kx cells slots tp bt ex Ls V U H locs ls hcl9 hsl9 hR hC hP hD hS hl
  have hs12 := hs
  clear hs
  by_cases hs : v2 = 13
  · subst hs
    refine lv_tableIn (off := 704) (tgt := 737) hx hb dL_law_33 (by decide) (by decide) (by decide +kernel) (by decide) ?_
    exact law_case_13 l C0 hL hN hST hA hbA hKm hKc hi kx cells slots tp bt ex Ls V U H locs ls hcl9 hsl9 hR hC hP hD hS hl
  have hs13 := hs
  clear hs
  by_cases hs : v2 = 14
  · subst hs
    refine lv_tableIn (off := 737) (tgt := 770) hx hb dL_law_33 (by decide) (by decide) (by decide +kernel) (by decide) ?_
    exact law_case_14 l C0 hL hN hST hA hbA hKm hKc hi kx cells slots tp bt ex Ls V U H locs ls hcl9 hsl9 hR hC hP hD hS hl
  have hs14 := hs
  clear hs
  by_cases hs : v2 = 15
  · subst hs
    refine lv_tableIn (off := 770) (tgt := 803) hx hb dL_law_33 (by decide) (by decide) (by decide +kernel) (by decide) ?_
    exact law_case_15 l C0 hL hN hST hA hbA hKm hKc hi kx cells slots tp bt ex Ls V U H locs ls hcl9 hsl9 hR hC hP hD hS hl
  have hs15 := hs
  clear hs
  by_cases hs : v2 = 16
  · subst hs
    refine lv_tableIn (off := 803) (tgt := 836) hx hb dL_law_33 (by decide) (by decide) (by decide +kernel) (by decide) ?_
    exact law_case_16 l C0 hL hN hST hA hbA hKm hKc hi kx cells slots tp bt ex Ls V U H locs ls hcl9 hsl9 hR hC hP hD hS hl
  have hs16 := hs
  clear hs
  by_cases hs : v2 = 17
  · subst hs
    refine lv_tableIn (off := 836) (tgt := 869) hx hb dL_law_33 (by decide) (by decide) (by decide +kernel) (by decide) ?_
    exact law_case_17 l C0 hL hN hST hA hbA hKm hKc hi kx cells slots tp bt ex Ls V U H locs ls hcl9 hsl9 hR hC hP hD hS hl
  have hs17 := hs
  clear hs
  by_cases hs : v2 = 18
  · subst hs
    refine lv_tableIn (off := 859) (tgt := 892) hx hb dL_law_33 (by decide) (by decide) (by decide +kernel) (by decide) ?_
    exact law_case_18 l C0 hL hN hST hA hbA hKm hKc hi kx cells slots tp bt ex Ls V U H locs ls hcl9 hsl9 hR hC hP hD hS hl
  have hs18 := hs
  clear hs
  by_cases hs : v2 = 19
  · subst hs
    refine lv_tableIn (off := 882) (tgt := 915) hx hb dL_law_33 (by decide) (by decide) (by decide +kernel) (by decide) ?_
    exact law_case_19 l C0 hL hN hST hA hbA hKm hKc hi kx cells slots tp bt ex Ls V U H locs ls hcl9 hsl9 hR hC hP hD hS hl
  have hs19 := hs
  clear hs
  by_cases hs : v2 = 20
  · subst hs
    refine lv_tableIn (off := 945) (tgt := 978) hx hb dL_law_33 (by decide) (by decide) (by decide +kernel) (by decide) ?_
    exact law_case_20 l C0 hL hN hST hA hbA hKm hKc hi kx cells slots tp bt ex Ls V U H locs ls hcl9 hsl9 hR hC hP hD hS hl
  have hs20 := hs
  clear hs
  by_cases hs : v2 = 21
  · subst hs
    refine lv_tableIn (off := 1028) (tgt := 1061) hx hb dL_law_33 (by decide) (by decide) (by decide +kernel) (by decide) ?_
    exact law_case_21 l C0 hL hN hST hA hbA hKm hKc hi kx cells slots tp bt ex Ls V U H locs ls hcl9 hsl9 hR hC hP hD hS hl
  have hs21 := hs
  clear hs
  by_cases hs : v2 = 22
  · subst hs
    refine lv_tableIn (off := 1081) (tgt := 1114) hx hb dL_law_33 (by decide) (by decide) (by decide +kernel) (by decide) ?_
    exact law_case_22 l C0 hL hN hST hA hbA hKm hKc hi kx cells slots tp bt ex Ls V U H locs ls hcl9 hsl9 hR hC hP hD hS hl
  have hs22 := hs
  clear hs
  by_cases hs : v2 = 23
  · subst hs
    refine lv_tableIn (off := 1176) (tgt := 1209) hx hb dL_law_33 (by decide) (by decide) (by decide +kernel) (by decide) ?_
    exact law_case_23 l C0 hL hN hST hA hbA hKm hKc hi kx cells slots tp bt ex Ls V U H locs ls hcl9 hsl9 hR hC hP hD hS hl
  have hs23 := hs
  clear hs
  by_cases hs : v2 = 24
  · subst hs
    refine lv_tableIn (off := 1209) (tgt := 1242) hx hb dL_law_33 (by decide) (by decide) (by decide +kernel) (by decide) ?_
    exact law_case_24 l C0 hL hN hST hA hbA hKm hKc hi kx cells slots tp bt ex Ls V U H locs ls hcl9 hsl9 hR hC hP hD hS hl
  have hs24 := hs
  clear hs
  by_cases hs : v2 = 25
  · subst hs
    refine lv_tableIn (off := 1282) (tgt := 1315) hx hb dL_law_33 (by decide) (by decide) (by decide +kernel) (by decide) ?_
    exact law_case_25 l C0 hL hN hST hA hbA hKm hKc hi kx cells slots tp bt ex Ls V U H locs ls hcl9 hsl9 hR hC hP hD hS hl
  have hs25 := hs
  clear hs
  by_cases hs : v2 = 26
  · subst hs
    refine lv_tableIn (off := 1355) (tgt := 1388) hx hb dL_law_33 (by decide) (by decide) (by decide +kernel) (by decide) ?_
    exact law_case_26 l C0 hL hN hST hA hbA hKm hKc hi kx cells slots tp bt ex Ls V U H locs ls hcl9 hsl9 hR hC hP hD hS hl
  have hs26 := hs
  clear hs
  by_cases hs : v2 = 27
  · subst hs
    refine lv_tableIn (off := 1398) (tgt := 1431) hx hb dL_law_33 (by decide) (by decide) (by decide +kernel) (by decide) ?_
    exact law_case_27 l C0 hL hN hST hA hbA hKm hKc hi kx cells slots tp bt ex Ls V U H locs ls hcl9 hsl9 hR hC hP hD hS hl
  have hs27 := hs
  clear hs
  by_cases hs : v2 = 28
  · subst hs
    refine lv_tableIn (off := 1431) (tgt := 1464) hx hb dL_law_33 (by decide) (by decide) (by decide +kernel) (by decide) ?_
    exact law_case_28 l C0 hL hN hST hA hbA hKm hKc hi kx cells slots tp bt ex Ls V U H locs ls hcl9 hsl9 hR hC hP hD hS hl
  have hs28 := hs
  clear hs
  by_cases hs : v2 = 29
  · subst hs
    refine lv_tableIn (off := 1490) (tgt := 1523) hx hb dL_law_33 (by decide) (by decide) (by decide +kernel) (by decide) ?_
    exact law_case_29 l C0 hL hN hST hA hbA hKm hKc hi kx cells slots tp bt ex Ls V U H locs ls hcl9 hsl9 hR hC hP hD hS hl
  have hs29 := hs
  clear hs
  by_cases hs : v2 = 30
  · subst hs
    refine lv_tableIn (off := 1523) (tgt := 1556) hx hb dL_law_33 (by decide) (by decide) (by decide +kernel) (by decide) ?_
    exact law_case_30 l C0 hL hN hST hA hbA hKm hKc hi kx cells slots tp bt ex Ls V U H locs ls hcl9 hsl9 hR hC hP hD hS hl
  have hs30 := hs
  clear hs
  by_cases hs : v2 = 31
  · subst hs
    refine lv_tableIn (off := 1546) (tgt := 1579) hx hb dL_law_33 (by decide) (by decide) (by decide +kernel) (by decide) ?_
    exact law_case_31 l C0 hL hN hST hA hbA hKm hKc hi kx cells slots tp bt ex Ls V U H locs ls hcl9 hsl9 hR hC hP hD hS hl
  have hs31 := hs
  clear hs
  by_cases hs : v2 = 32
  · subst hs
    refine lv_tableIn (off := 1569) (tgt := 1602) hx hb dL_law_33 (by decide) (by decide) (by decide +kernel) (by decide) ?_
    exact law_case_32 l C0 hL hN hST hA hbA hKm hKc hi kx cells slots tp bt ex Ls V U H locs ls hcl9 hsl9 hR hC hP hD hS hl
  have hs32 := hs
  clear hs
  by_cases hs : v2 = 33
  · subst hs
    refine lv_tableIn (off := 1592) (tgt := 1625) hx hb dL_law_33 (by decide) (by decide) (by decide +kernel) (by decide) ?_
    exact law_case_33 l C0 hL hN hST hA hbA hKm hKc hi kx cells slots tp bt ex Ls V U H locs ls hcl9 hsl9 hR hC hP hD hS hl
  have hs33 := hs
  clear hs
  by_cases hs : v2 = 34
  · subst hs
    refine lv_tableIn (off := 1615) (tgt := 1648) hx hb dL_law_33 (by decide) (by decide) (by decide +kernel) (by decide) ?_
    exact law_case_34 l C0 hL hN hST hA hbA hKm hKc hi kx cells slots tp bt ex Ls V U H locs ls hcl9 hsl9 hR hC hP hD hS hl
  have hs34 := hs
  clear hs
  by_cases hs : v2 = 35
  · subst hs
    refine lv_tableIn (off := 1638) (tgt := 1671) hx hb dL_law_33 (by decide) (by decide) (by decide +kernel) (by decide) ?_
    exact law_case_35 l C0 hL hN hST hA hbA hKm hKc hi kx cells slots tp bt ex Ls V U H locs ls hcl9 hsl9 hR hC hP hD hS hl
  have hs35 := hs
  clear hs
  by_cases hs : v2 = 36
  · subst hs
    refine lv_tableIn (off := 1671) (tgt := 1704) hx hb dL_law_33 (by decide) (by decide) (by decide +kernel) (by decide) ?_
    exact law_case_36 l C0 hL hN hST hA hbA hKm hKc hi kx cells slots tp bt ex Ls V U H locs ls hcl9 hsl9 hR hC hP hD hS hl
  have hs36 := hs
  clear hs
  refine lv_tableOut (tgt := 1727) hx hb dL_law_33 (sw37 hs0 hs1 hs2 hs3 hs4 hs5 hs6 hs7 hs8 hs9 hs10 hs11 hs12 hs13 hs14 hs15 hs16 hs17 hs18 hs19 hs20 hs21 hs22 hs23 hs24 hs25 hs26 hs27 hs28 hs29 hs30 hs31 hs32 hs33 hs34 hs35 hs36) (by decide) ?_
  exact kx cells slots tp bt ex Ls V U H locs ls hcl9 hsl9 hR hC hP hD hS hl

set_option maxHeartbeats 4000000 in
set_option maxRecDepth 100000 in
theorem law_loop {p : Program} {e : Env} {s : State} {m : MethodId} {below : List Frame} {meth : Method} {c : Code} (l : Launch) {b L : Nat} {xs : Nat → Int32} {D : va_G} {A : Nat → Prop} {adK adV : Nat → Nat} (C0 : lw_At p s m meth c b L xs) (hL : L ≤ 3584) (hN : NC s) (hST : ST adK adV A s s.heap) (hA : ∀ q, s.heap.size ≤ q → A q) (hbA : ¬ A b) {cm : Nat → ClassId} {cI cT : ClassId} (hKm : va_K D vwCl (tyM cm) s) (hKc : va_K D vwCl [(cI, .int), (cT, .object RX9)] s) (hA2 : ∀ q, A q → s.heap.size ≤ q) {x0 m0 : Nat} : ∀ (n i : Nat), i + 7 * n = 3584 → ∀ (cells slots tp : Nat) (bt : Nat → Nat) (ex : Nat → Bool) (Ls : Nat → List (Nat × Int32)) (V U : va_W) (H : Heap) (locs : List Loc) (ls : Array Slot), cells + 14 * cntE ex ≤ 200 → slots + 11072 * cntE ex ≤ 200000 → RWd cm m0 tp bt ex Ls V → CWd cI cT x0 tp bt ex Ls U → va_P D vwCl (V ++ U) H → va_D A (V ++ U) → va_S A s.heap H locs → lv_has ls 4 [(3, .int (nI i)), (2, .ref m0), (1, .ref x0), (0, .ref b)] → W p l e room_1 s m #[Value.ref b] below meth c H locs (cells) (slots) (lw_Z below #[Value.ref b] s) (F0 m 18 ls []) := by
  intro n
  induction n with
  | zero =>
    intro i hi cells slots tp bt ex Ls V U H locs ls hcl9 hsl9 hR hC hP hD hS hl
    exact law_head l C0 hL hN hST hA hbA hKm hKc hA2 (by omega) (by omega) (by omega) hS hl (fun h => absurd h (by omega))
  | succ n ih =>
    intro i hi cells slots tp bt ex Ls V U H locs ls hcl9 hsl9 hR hC hP hD hS hl
    refine law_head l C0 hL hN hST hA hbA hKm hKc hA2 (by omega) (by omega) (by omega) hS hl (fun h7 => ?_)
    refine law_turn l C0 hL hN hST hA hbA hKm hKc h7 ?_ cells slots tp bt ex Ls V U H locs ls hcl9 hsl9 hR hC hP hD hS hl
    intro cells slots tp bt ex Ls V U H locs ls hcl9 hsl9 hR hC hP hD hS hl
    obtain ⟨hx, hb, hr, hml, hown, hts, hX, hbl, hlocks, hgv⟩ := id C0
    refine lv_iinc (v := nI (i + 7)) (lv' := [(3, .int (nI (i + 7))), (2, .ref m0), (1, .ref x0), (0, .ref b)]) hx hb dL_law_1727 hl (k := 0) rfl (nI_add _ 7) (by decide) rfl (fun ls hl => ?_)
    refine lv_goto (tgt := 18) hx hb dL_law_1730 (by decide) ?_
    exact ih (i + 7) (by omega) cells slots tp bt ex Ls V U H locs ls hcl9 hsl9 hR hC hP hD hS hl

