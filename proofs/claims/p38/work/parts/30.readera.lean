theorem dX11_isBucket_0 : decode cX11_isBucket 0 = .ok (.aload_n 0, 1) := by decide +kernel
theorem dX11_isBucket_1 : decode cX11_isBucket 1 = .ok (.iload_n 1, 1) := by decide +kernel
theorem dX11_isBucket_2 : decode cX11_isBucket 2 = .ok (.invokevirtual 222, 3) := by decide +kernel
theorem dX11_isBucket_5 : decode cX11_isBucket 5 = .ok (.ifCond .eq 24, 3) := by decide +kernel
theorem dX11_isBucket_8 : decode cX11_isBucket 8 = .ok (.iload_n 2, 1) := by decide +kernel
theorem dX11_isBucket_9 : decode cX11_isBucket 9 = .ok (.i2l, 1) := by decide +kernel
theorem dX11_isBucket_10 : decode cX11_isBucket 10 = .ok (.lconst 0, 1) := by decide +kernel
theorem dX11_isBucket_11 : decode cX11_isBucket 11 = .ok (.aload_n 0, 1) := by decide +kernel
theorem dX11_isBucket_12 : decode cX11_isBucket 12 = .ok (.iload_n 1, 1) := by decide +kernel
theorem dX11_isBucket_13 : decode cX11_isBucket 13 = .ok (.invokevirtual 152, 3) := by decide +kernel
theorem dX11_isBucket_16 : decode cX11_isBucket 16 = .ok (.iconst 1, 1) := by decide +kernel
theorem dX11_isBucket_17 : decode cX11_isBucket 17 = .ok (.isub, 1) := by decide +kernel
theorem dX11_isBucket_18 : decode cX11_isBucket 18 = .ok (.i2l, 1) := by decide +kernel
theorem dX11_isBucket_19 : decode cX11_isBucket 19 = .ok (.invokestatic 83, 3) := by decide +kernel
theorem dX11_isBucket_22 : decode cX11_isBucket 22 = .ok (.ifCond .eq 7, 3) := by decide +kernel
theorem dX11_isBucket_25 : decode cX11_isBucket 25 = .ok (.iconst 1, 1) := by decide +kernel
theorem dX11_isBucket_26 : decode cX11_isBucket 26 = .ok (.goto 4, 3) := by decide +kernel
theorem dX11_isBucket_29 : decode cX11_isBucket 29 = .ok (.iconst 0, 1) := by decide +kernel
theorem dX11_isBucket_30 : decode cX11_isBucket 30 = .ok (.ireturn, 1) := by decide +kernel
theorem dX11_isPair_0 : decode cX11_isPair 0 = .ok (.iload_n 0, 1) := by decide +kernel
theorem dX11_isPair_1 : decode cX11_isPair 1 = .ok (.i2l, 1) := by decide +kernel
theorem dX11_isPair_2 : decode cX11_isPair 2 = .ok (.lconst 1, 1) := by decide +kernel
theorem dX11_isPair_3 : decode cX11_isPair 3 = .ok (.ldc2_w 93, 3) := by decide +kernel
theorem dX11_isPair_6 : decode cX11_isPair 6 = .ok (.invokestatic 83, 3) := by decide +kernel
theorem dX11_isPair_9 : decode cX11_isPair 9 = .ok (.ifCond .eq 19, 3) := by decide +kernel
theorem dX11_isPair_12 : decode cX11_isPair 12 = .ok (.iload_n 1, 1) := by decide +kernel
theorem dX11_isPair_13 : decode cX11_isPair 13 = .ok (.i2l, 1) := by decide +kernel
theorem dX11_isPair_14 : decode cX11_isPair 14 = .ok (.lconst 0, 1) := by decide +kernel
theorem dX11_isPair_15 : decode cX11_isPair 15 = .ok (.ldc2_w 93, 3) := by decide +kernel
theorem dX11_isPair_18 : decode cX11_isPair 18 = .ok (.invokestatic 83, 3) := by decide +kernel
theorem dX11_isPair_21 : decode cX11_isPair 21 = .ok (.ifCond .eq 7, 3) := by decide +kernel
theorem dX11_isPair_24 : decode cX11_isPair 24 = .ok (.iconst 1, 1) := by decide +kernel
theorem dX11_isPair_25 : decode cX11_isPair 25 = .ok (.goto 4, 3) := by decide +kernel
theorem dX11_isPair_28 : decode cX11_isPair 28 = .ok (.iconst 0, 1) := by decide +kernel
theorem dX11_isPair_29 : decode cX11_isPair 29 = .ok (.ireturn, 1) := by decide +kernel
theorem dX11_valueOf_0 : decode cX11_valueOf 0 = .ok (.aload_n 0, 1) := by decide +kernel
theorem dX11_valueOf_1 : decode cX11_valueOf 1 = .ok (.getfield 21, 3) := by decide +kernel
theorem dX11_valueOf_4 : decode cX11_valueOf 4 = .ok (.sipush 160, 3) := by decide +kernel
theorem dX11_valueOf_7 : decode cX11_valueOf 7 = .ok (.iload_n 1, 1) := by decide +kernel
theorem dX11_valueOf_8 : decode cX11_valueOf 8 = .ok (.imul, 1) := by decide +kernel
theorem dX11_valueOf_9 : decode cX11_valueOf 9 = .ok (.aload_n 0, 1) := by decide +kernel
theorem dX11_valueOf_10 : decode cX11_valueOf 10 = .ok (.iload_n 1, 1) := by decide +kernel
theorem dX11_valueOf_11 : decode cX11_valueOf 11 = .ok (.iload_n 2, 1) := by decide +kernel
theorem dX11_valueOf_12 : decode cX11_valueOf 12 = .ok (.i2l, 1) := by decide +kernel
theorem dX11_valueOf_13 : decode cX11_valueOf 13 = .ok (.invokevirtual 99, 3) := by decide +kernel
theorem dX11_valueOf_16 : decode cX11_valueOf 16 = .ok (.iadd, 1) := by decide +kernel
theorem dX11_valueOf_17 : decode cX11_valueOf 17 = .ok (.iaload, 1) := by decide +kernel
theorem dX11_valueOf_18 : decode cX11_valueOf 18 = .ok (.ireturn, 1) := by decide +kernel
theorem in_cn {z : Int32} {cn : Nat} (hcn : cn ≤ 1048576) (h : (0 : Int64) ≤ z.toInt64 ∧ z.toInt64 ≤ (nI cn - 1).toInt64) : ∃ j, j < cn ∧ z = nI j := by
  obtain ⟨h1, h2⟩ := h
  rw [show (0 : Int64) = (0 : Int32).toInt64 from by decide, w64_le] at h1
  rw [w64_le] at h2
  rcases Nat.eq_zero_or_pos cn with y | y
  · subst y
    have := Int32.le_trans h1 h2
    exact absurd this (by decide)
  · rw [show nI cn - 1 = nI (cn - 1) from pk_sub (b := 1) y] at h2
    obtain ⟨j, hj, e⟩ := nI_of2 (x := z) (M := nI (cn - 1)) (n := cn - 1) (nI_toInt (by omega)) (Int32.not_lt.mpr h1) h2
    exact ⟨j, by omega, e⟩
theorem sw4 {x : Int32} (h0 : ¬ x = 0) (h1 : ¬ x = 1) (h2 : ¬ x = 2) (h3 : ¬ x = 3) : x.toInt < 0 ∨ 3 < x.toInt := by
  have a0 := sw_ne (n := 0) h0 (by decide) (by decide)
  have a1 := sw_ne (n := 1) h1 (by decide) (by decide)
  have a2 := sw_ne (n := 2) h2 (by decide) (by decide)
  have a3 := sw_ne (n := 3) h3 (by decide) (by decide)
  omega
theorem in616 {z : Int32} (h : (6 : Int64) ≤ z.toInt64 ∧ z.toInt64 ≤ 16) : ∃ j, j < 17 ∧ z = nI j := by
  obtain ⟨h1, h2⟩ := h
  rw [show (6 : Int64) = (6 : Int32).toInt64 from by decide, w64_le] at h1
  rw [show (16 : Int64) = (16 : Int32).toInt64 from by decide, w64_le] at h2
  obtain ⟨j, hj, e, -⟩ := inI (n := 16) (by decide) (by decide) h1 h2
  exact ⟨j, by omega, e⟩
theorem wh_ix {K : Nat → Nat} {cn q x j : Nat} (hkx : x < 2147483647) (h1 : ∀ j, j < cn → K j < 2147483647) (hm : ∀ i j, i < j → j < cn → K i < K j) (hb : ∀ j, j < q → lN (K j) < lN x) (hc : ∀ j, q ≤ j → j < cn → ¬ lN (K j) < lN x) (hj : j < cn) (e : K j = x) : q = j := by
  obtain ⟨a, b⟩ := wh_at hkx h1 hm hb hc hj e
  rcases Nat.lt_trichotomy q j with z | z | z
  · have := hm q j z hj
    omega
  · exact z
  · have := hm j q z a
    omega
theorem in1P {z : Int32} (h : (1 : Int64) ≤ z.toInt64 ∧ z.toInt64 ≤ 2147483646) : ∃ x, x < 2147483647 ∧ z = nI x := by
  obtain ⟨h1, h2⟩ := h
  rw [show (1 : Int64) = (1 : Int32).toInt64 from by decide, w64_le] at h1
  rw [show (2147483646 : Int64) = (2147483646 : Int32).toInt64 from by decide, w64_le] at h2
  obtain ⟨j, hj, e, -⟩ := inI (n := 2147483646) (by decide) (by decide) h1 h2
  exact ⟨j, by omega, e⟩
def own_c_isBucket : List Cond := [.methodLink RX11 222 yX11_isThere, .instanceMethod yX11_isThere, .selects RX11 yX11_isThere yX11_isThere, .initialized RX11, .methodLink RX11 152 yX11_buckets, .instanceMethod yX11_buckets, .selects RX11 yX11_buckets yX11_buckets, .methodLink RX11 83 yX11_isIn, .static yX11_isIn]
def wp_c_isBucket : List Cond := .code yX11_isBucket cX11_isBucket 3 (some .boolean) :: (own_c_isBucket ++ (wp_c_isThere ++ (wp_c_buckets ++ (wp_c_isIn ++ ([] : List Cond)))))
set_option maxRecDepth 20000 in
theorem inown_c_isBucket : ∀ w ∈ own_c_isBucket, w ∈ lw_tbl := mem_places [1466, 1468, 54, 115, 1426, 1428, 46, 1371, 1372] (by decide +kernel)
set_option maxRecDepth 20000 in
theorem in_c_isBucket : ∀ w ∈ wp_c_isBucket, w ∈ lw_tbl := List.forall_mem_cons.mpr ⟨List.mem_of_getElem? (i := 1544) (by decide +kernel), List.forall_mem_append.mpr ⟨inown_c_isBucket, List.forall_mem_append.mpr ⟨in_c_isThere, List.forall_mem_append.mpr ⟨in_c_buckets, List.forall_mem_append.mpr ⟨in_c_isIn, fun _ h => absurd h List.not_mem_nil⟩⟩⟩⟩⟩
set_option maxRecDepth 20000 in
theorem good_c_isBucket : wp_c_isBucket.all goodWord = true := by decide +kernel
set_option maxRecDepth 20000 in
theorem g_c_isBucket_c_isThere_222 : GoodIn wp_c_isBucket (wsV RX11 222 RX11 yX11_isThere wp_c_isThere) := goodIn_sub (List.forall_mem_append.mpr ⟨List.forall_mem_cons.mpr ⟨(List.mem_of_getElem? (i := 1) rfl), List.forall_mem_cons.mpr ⟨(List.mem_of_getElem? (i := 2) rfl), List.forall_mem_cons.mpr ⟨(List.mem_of_getElem? (i := 3) rfl), List.forall_mem_cons.mpr ⟨(List.mem_of_getElem? (i := 4) rfl), fun _ h => absurd h List.not_mem_nil⟩⟩⟩⟩, (fun _ h => (List.mem_cons_of_mem _ (List.mem_append_right _ (List.mem_append_left _ h))))⟩) (by decide +kernel)
set_option maxRecDepth 20000 in
theorem g_c_isBucket_c_buckets_152 : GoodIn wp_c_isBucket (wsV RX11 152 RX11 yX11_buckets wp_c_buckets) := goodIn_sub (List.forall_mem_append.mpr ⟨List.forall_mem_cons.mpr ⟨(List.mem_of_getElem? (i := 5) rfl), List.forall_mem_cons.mpr ⟨(List.mem_of_getElem? (i := 6) rfl), List.forall_mem_cons.mpr ⟨(List.mem_of_getElem? (i := 7) rfl), List.forall_mem_cons.mpr ⟨(List.mem_of_getElem? (i := 4) rfl), fun _ h => absurd h List.not_mem_nil⟩⟩⟩⟩, (fun _ h => (List.mem_cons_of_mem _ (List.mem_append_right _ (List.mem_append_right _ (List.mem_append_left _ h)))))⟩) (by decide +kernel)
set_option maxRecDepth 20000 in
theorem g_c_isBucket_c_isIn_83 : GoodIn wp_c_isBucket (va_wsS RX11 83 yX11_isIn wp_c_isIn) := goodIn_sub (List.forall_mem_append.mpr ⟨List.forall_mem_cons.mpr ⟨(List.mem_of_getElem? (i := 8) rfl), List.forall_mem_cons.mpr ⟨(List.mem_of_getElem? (i := 9) rfl), List.forall_mem_cons.mpr ⟨(List.mem_of_getElem? (i := 4) rfl), fun _ h => absurd h List.not_mem_nil⟩⟩⟩, (fun _ h => (List.mem_cons_of_mem _ (List.mem_append_right _ (List.mem_append_right _ (List.mem_append_right _ (List.mem_append_left _ h))))))⟩) (by decide +kernel)
set_option maxHeartbeats 4000000 in
set_option maxRecDepth 100000 in
theorem c_isBucket (l : Launch) (D : va_G) (sz : Nat) (h0 : Nat) (a : Nat → Nat) (cm : Nat → ClassId) (i : Nat → Int32) (g : Nat → Int64) (fn : Nat → Int64) (fk : Nat → Int32) (fb : Nat → Int32) (ff : Nat → Int32) (fh : Nat → Int32) (fa : Nat → Int64) (fs : Nat → Int64) (z1 : Int32) (z2 : Int32) (hM : MInv fn fk fb ff fh fa fs) : Met l yX11_isBucket wp_c_isBucket ({ frames := 2, cells := 0, slots := 0, locals := 46 }) (PcR D [.ref h0, .int z1, .int z2] sz [(h0, .inr (11, gM a i g)), (a 3, .inl (cm 3, 85, .inr (.inl fn))), (a 4, .inl (cm 4, 800, .inl fk)), (a 6, .inl (cm 6, 800, .inl fb)), (a 8, .inl (cm 8, 10240, .inl ff)), (a 9, .inl (cm 9, 10240, .inl fh)), (a 10, .inl (cm 10, 10240, .inr (.inl fa))), (a 11, .inl (cm 11, 10240, .inr (.inl fs)))] [(cm 3, .long), (cm 4, .int), (cm 6, .int), (cm 8, .int), (cm 9, .int), (cm 10, .long), (cm 11, .long)]) (va_Qi (fun (r : Int32) (u : Unit) => (r = 1 ∧ (∃ k j cn nb K J, k < 4 ∧ z1 = nI k ∧ z2 = nI j ∧ j < nb ∧ TabS k cn nb K J fn fk fb ff fh)) ∨ (r = 0 ∧ True)) (fun (_ : Unit) _ => True) (va_A [] sz)) 0 0 (va_A [] sz) := by
  refine Met.ofW (cc := cX11_isBucket) (maxL := 3) (ret := (some .boolean)) (by decide) rfl ?_
  intro p e s m args below meth c s₁ B hml hv
  obtain ⟨rfl, hsz, hP, hK⟩ := hv
  have hx := B.exec
  have hb := B.bytes
  have hr := B.returns
  have hts := atoms_spec (ws := wp_c_isBucket) B.pre
  have hown : s.vm.findClass RX11 = some m.cls := findClass_of_methodNamed B.named
  have hlocks := B.notSynchronized
  subst hsz
  generalize hAe : va_A [] s.heap.size = A at ⊢
  have hA : ∀ q : Nat, s.heap.size ≤ q → A q := fun q h => by rw [← hAe]; exact Or.inr h
  have hS : va_S A s.heap s.heap [] := va_S.rf
  have hP : va_P D vwCl [(h0, .inr (11, gM a i g)), (a 3, .inl (cm 3, 85, .inr (.inl fn))), (a 4, .inl (cm 4, 800, .inl fk)), (a 6, .inl (cm 6, 800, .inl fb)), (a 8, .inl (cm 8, 10240, .inl ff)), (a 9, .inl (cm 9, 10240, .inl fh)), (a 10, .inl (cm 10, 10240, .inr (.inl fa))), (a 11, .inl (cm 11, 10240, .inr (.inl fs)))] s.heap := hP
  have hl := lv_entry ([.ref h0, .int z1, .int z2]) (n := 3) (Nat.le_of_ble_eq_true rfl)
  rw [lg_entry_eq]
  generalize (lg_sl ([.ref h0, .int z1, .int z2]) ++ List.replicate (3 - (lg_sl ([.ref h0, .int z1, .int z2])).length) Slot.unset).toArray = ls at hl ⊢
  have hl : lv_has ls 3 [(0, .ref h0), (1, .int z1), (2, .int z2)] := hl
  refine lv_aload_n hx hb dX11_isBucket_0 rfl (lv_at hl 0 rfl) ?_
  refine lv_iload_n hx hb dX11_isBucket_1 rfl (lv_at hl 1 rfl) ?_
  have hPc := hP.sub (ws' := [(h0, .inr (11, gM a i g)), (a 3, .inl (cm 3, 85, .inr (.inl fn)))]) [0, 1] rfl
  have hKc := hK.sub (tys' := [(cm 3, .long)]) [0] rfl
  have hFc := va_free0 hS hA
  refine va_calli (va_runV (As := [.int z1]) (rest := []) ⟨hx, hb, hml, hown, hts⟩ (c_isThere l D _ h0 a cm i g fn z1) (cwV 1 hts g_c_isBucket_c_isThere_222 rfl rfl rfl (by decide +kernel) ⟨(Nat.le_of_ble_eq_true rfl), (Nat.le_of_ble_eq_true rfl)⟩) (PcR_V (q0 := 0) hPc hKc rfl rfl) rfl rfl hl.1 rfl (lv_room (Nat.le_of_ble_eq_true rfl)) dX11_isBucket_2 ⟨(Nat.le_of_ble_eq_true rfl), (Nat.le_of_ble_eq_true rfl)⟩) hS (fun q _ h => hFc q h) hFc (fun r1 uu tt H locs htt hvm hw hB hz1 hk1 hS => ?_)
  have hP := va_keep hP hk1
  try dsimp only at hw
  clear hB hz1 hk1 hFc hPc hKc
  rcases hw with ⟨rfl, hA_r1⟩ | ⟨rfl, hA_r1⟩
  ·
    obtain ⟨k, hk, rfl, ht⟩ := hA_r1
    obtain ⟨cn, nb, K, J, hT⟩ := hM.2.2 k hk ht
    have hth := (show there fn (nI k) from ⟨k, hk, rfl, ht⟩)
    obtain ⟨h1, hcn, h4, hn1, hn2, ⟨ka, kb, hka, hkb, h6, h7⟩, hKy, hBk, hHs, ⟨bn, ns, gr, h14, hbn, h15, hs1, hs2, h16, hgr⟩⟩ := id hT
    refine lv_if_eq (tgt := 29) hx hb dX11_isBucket_5 (by decide) (fun hc => absurd hc (by decide)) (fun hc => ?_)
    refine lv_iload_n hx hb dX11_isBucket_8 rfl (lv_at hl 2 rfl) ?_
    refine lv_i2l hx hb dX11_isBucket_9 rfl ?_
    refine lv_lconst (v := 0) hx hb dX11_isBucket_10 (by decide) ?_
    refine lv_aload_n hx hb dX11_isBucket_11 rfl (lv_at hl 0 rfl) ?_
    refine lv_iload_n hx hb dX11_isBucket_12 rfl (lv_at hl 1 rfl) ?_
    have hPc := hP.sub (ws' := [(h0, .inr (11, gM a i g)), (a 3, .inl (cm 3, 85, .inr (.inl fn)))]) [0, 1] rfl
    have hKc := hK.sub (tys' := [(cm 3, .long)]) [0] rfl
    have hFc := va_free0 hS hA
    refine va_calli (va_runV (As := [.int (nI k)]) (rest := [.long 0, .long (Int32.toInt64 z2)]) ⟨hx, hb, hml, hown, hts⟩ (c_buckets l D _ h0 a cm i g fn k nb (by first | assumption | omega) h4) (cwV 1 hts g_c_isBucket_c_buckets_152 rfl rfl rfl (by decide +kernel) ⟨(Nat.le_of_ble_eq_true rfl), (Nat.le_of_ble_eq_true rfl)⟩) (PcR_V (q0 := 0) hPc hKc rfl rfl) rfl rfl hl.1 rfl (lv_room (Nat.le_of_ble_eq_true rfl)) dX11_isBucket_13 ⟨(Nat.le_of_ble_eq_true rfl), (Nat.le_of_ble_eq_true rfl)⟩) hS (fun q _ h => hFc q h) hFc (fun r2 uu tt H locs htt hvm hw hB hz1 hk1 hS => ?_)
    have hP := va_keep hP hk1
    try dsimp only at hw
    clear hB hz1 hk1 hFc hPc hKc
    obtain rfl : r2 = nI nb := hw
    refine lv_iconst (v := 1) hx hb dX11_isBucket_16 (by decide) ?_
    refine lv_isub hx hb dX11_isBucket_17 ?_
    refine lv_i2l hx hb dX11_isBucket_18 rfl ?_
    have hPc := hP.sub (ws' := []) [] rfl
    have hKc := hK.sub (tys' := []) [] rfl
    have hFc := va_free0 hS hA
    refine va_calli (va_runS (As := [.long (Int32.toInt64 z2), .long 0, .long (Int32.toInt64 ((nI nb) - 1))]) (rest := []) ⟨hx, hb, hml, hown, hts⟩ (c_isIn l D _ (Int32.toInt64 z2) 0 (Int32.toInt64 ((nI nb) - 1))) (va_cwS 3 hts g_c_isBucket_c_isIn_83 rfl rfl rfl (by decide +kernel) ⟨(Nat.le_of_ble_eq_true rfl), (Nat.le_of_ble_eq_true rfl)⟩) (PcR_S hPc hKc) rfl rfl hl.1 rfl (lv_room (Nat.le_of_ble_eq_true rfl)) dX11_isBucket_19 ⟨(Nat.le_of_ble_eq_true rfl), (Nat.le_of_ble_eq_true rfl)⟩) hS (fun q _ h => hFc q h) hFc (fun r3 uu tt H locs htt hvm hw hB hz1 hk1 hS => ?_)
    have hP := va_keep hP hk1
    try dsimp only at hw
    clear hB hz1 hk1 hFc hPc hKc
    rcases hw with ⟨rfl, hA_r3⟩ | ⟨rfl, hA_r3⟩
    ·
      obtain ⟨j, hj, rfl⟩ := in_cn (by omega) hA_r3
      refine lv_if_eq (tgt := 29) hx hb dX11_isBucket_22 (by decide) (fun hc => absurd hc (by decide)) (fun hc => ?_)
      refine lv_iconst (v := 1) hx hb dX11_isBucket_25 (by decide) ?_
      refine lv_goto (tgt := 30) hx hb dX11_isBucket_26 (by decide) ?_
      exact W.zret (v := 1) hx hb hr rfl (fun t ht hW => ⟨⟨1, (), rfl, Or.inl ⟨rfl, k, j, cn, nb, K, J, hk, rfl, rfl, hj, hT⟩, trivial⟩, hS.F ht⟩) hS.2.2 dX11_isBucket_30
    ·
      refine lv_if_eq (tgt := 29) hx hb dX11_isBucket_22 (by decide) (fun hc => ?_) (fun hc => absurd (by decide) hc)
      refine lv_iconst (v := 0) hx hb dX11_isBucket_29 (by decide) ?_
      exact W.zret (v := 0) hx hb hr rfl (fun t ht hW => ⟨⟨0, (), rfl, Or.inr ⟨rfl, trivial⟩, trivial⟩, hS.F ht⟩) hS.2.2 dX11_isBucket_30
  ·
    refine lv_if_eq (tgt := 29) hx hb dX11_isBucket_5 (by decide) (fun hc => ?_) (fun hc => absurd (by decide) hc)
    refine lv_iconst (v := 0) hx hb dX11_isBucket_29 (by decide) ?_
    exact W.zret (v := 0) hx hb hr rfl (fun t ht hW => ⟨⟨0, (), rfl, Or.inr ⟨rfl, trivial⟩, trivial⟩, hS.F ht⟩) hS.2.2 dX11_isBucket_30

def own_c_isPair : List Cond := [.constantLong RX11 93 (2147483646), .methodLink RX11 83 yX11_isIn, .static yX11_isIn, .initialized RX11]
def wp_c_isPair : List Cond := .code yX11_isPair cX11_isPair 2 (some .boolean) :: (own_c_isPair ++ (wp_c_isIn ++ ([] : List Cond)))
set_option maxRecDepth 20000 in
theorem inown_c_isPair : ∀ w ∈ own_c_isPair, w ∈ lw_tbl := mem_places [1414, 1371, 1372, 115] (by decide +kernel)
set_option maxRecDepth 20000 in
theorem in_c_isPair : ∀ w ∈ wp_c_isPair, w ∈ lw_tbl := List.forall_mem_cons.mpr ⟨List.mem_of_getElem? (i := 1591) (by decide +kernel), List.forall_mem_append.mpr ⟨inown_c_isPair, List.forall_mem_append.mpr ⟨in_c_isIn, fun _ h => absurd h List.not_mem_nil⟩⟩⟩
set_option maxRecDepth 20000 in
theorem good_c_isPair : wp_c_isPair.all goodWord = true := by decide +kernel
set_option maxRecDepth 20000 in
theorem g_c_isPair_c_isIn_83 : GoodIn wp_c_isPair (va_wsS RX11 83 yX11_isIn wp_c_isIn) := goodIn_sub (List.forall_mem_append.mpr ⟨List.forall_mem_cons.mpr ⟨(List.mem_of_getElem? (i := 2) rfl), List.forall_mem_cons.mpr ⟨(List.mem_of_getElem? (i := 3) rfl), List.forall_mem_cons.mpr ⟨(List.mem_of_getElem? (i := 4) rfl), fun _ h => absurd h List.not_mem_nil⟩⟩⟩, (fun _ h => (List.mem_cons_of_mem _ (List.mem_append_right _ (List.mem_append_left _ h))))⟩) (by decide +kernel)
set_option maxHeartbeats 4000000 in
set_option maxRecDepth 100000 in
theorem c_isPair (l : Launch) (D : va_G) (sz : Nat) (z1 : Int32) (z2 : Int32)  : Met l yX11_isPair wp_c_isPair ({ frames := 1, cells := 0, slots := 0, locals := 25 }) (PcR D [.int z1, .int z2] sz [] []) (va_Qi (fun (r : Int32) (_ : Unit) => (r = 1 ∧ ∃ x y, x < 2147483647 ∧ y < 2147483647 ∧ z1 = nI x ∧ z2 = nI y) ∨ (r = 0 ∧ True)) (fun (_ : Unit) _ => True) (va_A [] sz)) 0 0 (va_A [] sz) := by
  refine Met.ofW (cc := cX11_isPair) (maxL := 2) (ret := (some .boolean)) (by decide) rfl ?_
  intro p e s m args below meth c s₁ B hml hv
  obtain ⟨rfl, hsz, hP, hK⟩ := hv
  have hx := B.exec
  have hb := B.bytes
  have hr := B.returns
  have hts := atoms_spec (ws := wp_c_isPair) B.pre
  have hown : s.vm.findClass RX11 = some m.cls := findClass_of_methodNamed B.named
  have hlocks := B.notSynchronized
  subst hsz
  generalize hAe : va_A [] s.heap.size = A at ⊢
  have hA : ∀ q : Nat, s.heap.size ≤ q → A q := fun q h => by rw [← hAe]; exact Or.inr h
  have hS : va_S A s.heap s.heap [] := va_S.rf
  have hP : va_P D vwCl [] s.heap := hP
  have hl := lv_entry ([.int z1, .int z2]) (n := 2) (Nat.le_of_ble_eq_true rfl)
  rw [lg_entry_eq]
  generalize (lg_sl ([.int z1, .int z2]) ++ List.replicate (2 - (lg_sl ([.int z1, .int z2])).length) Slot.unset).toArray = ls at hl ⊢
  have hl : lv_has ls 2 [(0, .int z1), (1, .int z2)] := hl
  refine lv_iload_n hx hb dX11_isPair_0 rfl (lv_at hl 0 rfl) ?_
  refine lv_i2l hx hb dX11_isPair_1 rfl ?_
  refine lv_lconst (v := 1) hx hb dX11_isPair_2 (by decide) ?_
  refine lv_ldc2 (v := 2147483646) hx hb hown (hts (.constantLong RX11 93 (2147483646)) (List.mem_of_getElem? (i := 1) rfl)) dX11_isPair_3 ?_
  have hPc := hP.sub (ws' := []) [] rfl
  have hKc := hK.sub (tys' := []) [] rfl
  have hFc := va_free0 hS hA
  refine va_calli (va_runS (As := [.long (Int32.toInt64 z1), .long 1, .long 2147483646]) (rest := []) ⟨hx, hb, hml, hown, hts⟩ (c_isIn l D _ (Int32.toInt64 z1) 1 2147483646) (va_cwS 3 hts g_c_isPair_c_isIn_83 rfl rfl rfl (by decide +kernel) ⟨(Nat.le_of_ble_eq_true rfl), (Nat.le_of_ble_eq_true rfl)⟩) (PcR_S hPc hKc) rfl rfl hl.1 rfl (lv_room (Nat.le_of_ble_eq_true rfl)) dX11_isPair_6 ⟨(Nat.le_of_ble_eq_true rfl), (Nat.le_of_ble_eq_true rfl)⟩) hS (fun q _ h => hFc q h) hFc (fun r1 uu tt H locs htt hvm hw hB hz1 hk1 hS => ?_)
  have hP := va_keep hP hk1
  try dsimp only at hw
  clear hB hz1 hk1 hFc hPc hKc
  rcases hw with ⟨rfl, hA_r1⟩ | ⟨rfl, hA_r1⟩
  ·
    refine lv_if_eq (tgt := 28) hx hb dX11_isPair_9 (by decide) (fun hc => absurd hc (by decide)) (fun hc => ?_)
    refine lv_iload_n hx hb dX11_isPair_12 rfl (lv_at hl 1 rfl) ?_
    refine lv_i2l hx hb dX11_isPair_13 rfl ?_
    refine lv_lconst (v := 0) hx hb dX11_isPair_14 (by decide) ?_
    refine lv_ldc2 (v := 2147483646) hx hb hown (hts (.constantLong RX11 93 (2147483646)) (List.mem_of_getElem? (i := 1) rfl)) dX11_isPair_15 ?_
    have hPc := hP.sub (ws' := []) [] rfl
    have hKc := hK.sub (tys' := []) [] rfl
    have hFc := va_free0 hS hA
    refine va_calli (va_runS (As := [.long (Int32.toInt64 z2), .long 0, .long 2147483646]) (rest := []) ⟨hx, hb, hml, hown, hts⟩ (c_isIn l D _ (Int32.toInt64 z2) 0 2147483646) (va_cwS 3 hts g_c_isPair_c_isIn_83 rfl rfl rfl (by decide +kernel) ⟨(Nat.le_of_ble_eq_true rfl), (Nat.le_of_ble_eq_true rfl)⟩) (PcR_S hPc hKc) rfl rfl hl.1 rfl (lv_room (Nat.le_of_ble_eq_true rfl)) dX11_isPair_18 ⟨(Nat.le_of_ble_eq_true rfl), (Nat.le_of_ble_eq_true rfl)⟩) hS (fun q _ h => hFc q h) hFc (fun r2 uu tt H locs htt hvm hw hB hz1 hk1 hS => ?_)
    have hP := va_keep hP hk1
    try dsimp only at hw
    clear hB hz1 hk1 hFc hPc hKc
    rcases hw with ⟨rfl, hA_r2⟩ | ⟨rfl, hA_r2⟩
    ·
      refine lv_if_eq (tgt := 28) hx hb dX11_isPair_21 (by decide) (fun hc => absurd hc (by decide)) (fun hc => ?_)
      refine lv_iconst (v := 1) hx hb dX11_isPair_24 (by decide) ?_
      refine lv_goto (tgt := 29) hx hb dX11_isPair_25 (by decide) ?_
      exact W.zret (v := 1) hx hb hr rfl (fun t ht hW => ⟨⟨1, (), rfl, Or.inl ⟨rfl, by obtain ⟨x, hx, e1⟩ := in1P hA_r1; obtain ⟨y, hy, e2⟩ := isK_of.mp hA_r2; exact ⟨x, y, hx, hy, e1, e2⟩⟩, trivial⟩, hS.F ht⟩) hS.2.2 dX11_isPair_29
    ·
      refine lv_if_eq (tgt := 28) hx hb dX11_isPair_21 (by decide) (fun hc => ?_) (fun hc => absurd (by decide) hc)
      refine lv_iconst (v := 0) hx hb dX11_isPair_28 (by decide) ?_
      exact W.zret (v := 0) hx hb hr rfl (fun t ht hW => ⟨⟨0, (), rfl, Or.inr ⟨rfl, trivial⟩, trivial⟩, hS.F ht⟩) hS.2.2 dX11_isPair_29
  ·
    refine lv_if_eq (tgt := 28) hx hb dX11_isPair_9 (by decide) (fun hc => ?_) (fun hc => absurd (by decide) hc)
    refine lv_iconst (v := 0) hx hb dX11_isPair_28 (by decide) ?_
    exact W.zret (v := 0) hx hb hr rfl (fun t ht hW => ⟨⟨0, (), rfl, Or.inr ⟨rfl, trivial⟩, trivial⟩, hS.F ht⟩) hS.2.2 dX11_isPair_29

def own_c_valueOf : List Cond := [.fieldLink RX11 21 "ClashFreeModel" "values" "[I", .methodLink RX11 99 yX11_whereOf, .instanceMethod yX11_whereOf, .selects RX11 yX11_whereOf yX11_whereOf, .initialized RX11]
def wp_c_valueOf : List Cond := .code yX11_valueOf cX11_valueOf 3 (some .int) :: (own_c_valueOf ++ (wp_c_whereOf ++ (wsX110 ++ ([] : List Cond))))
set_option maxRecDepth 20000 in
theorem inown_c_valueOf : ∀ w ∈ own_c_valueOf, w ∈ lw_tbl := mem_places [1221, 1481, 1483, 57, 115] (by decide +kernel)
set_option maxRecDepth 20000 in
theorem in_c_valueOf : ∀ w ∈ wp_c_valueOf, w ∈ lw_tbl := List.forall_mem_cons.mpr ⟨List.mem_of_getElem? (i := 1644) (by decide +kernel), List.forall_mem_append.mpr ⟨inown_c_valueOf, List.forall_mem_append.mpr ⟨in_c_whereOf, List.forall_mem_append.mpr ⟨lwb_X11, fun _ h => absurd h List.not_mem_nil⟩⟩⟩⟩
set_option maxRecDepth 20000 in
theorem good_c_valueOf : wp_c_valueOf.all goodWord = true := by decide +kernel
set_option maxRecDepth 20000 in
theorem g_c_valueOf_c_whereOf_99 : GoodIn wp_c_valueOf (wsV RX11 99 RX11 yX11_whereOf wp_c_whereOf) := goodIn_sub (List.forall_mem_append.mpr ⟨List.forall_mem_cons.mpr ⟨(List.mem_of_getElem? (i := 2) rfl), List.forall_mem_cons.mpr ⟨(List.mem_of_getElem? (i := 3) rfl), List.forall_mem_cons.mpr ⟨(List.mem_of_getElem? (i := 4) rfl), List.forall_mem_cons.mpr ⟨(List.mem_of_getElem? (i := 5) rfl), fun _ h => absurd h List.not_mem_nil⟩⟩⟩⟩, (fun _ h => (List.mem_cons_of_mem _ (List.mem_append_right _ (List.mem_append_left _ h))))⟩) (by decide +kernel)
set_option maxHeartbeats 4000000 in
set_option maxRecDepth 100000 in
theorem c_valueOf (l : Launch) (D : va_G) (sz : Nat) (h0 : Nat) (a : Nat → Nat) (cm : Nat → ClassId) (i : Nat → Int32) (g : Nat → Int64) (fn : Nat → Int64) (fk : Nat → Int32) (fv : Nat → Int32) (k : Nat) (cn : Nat) (K : Nat → Nat) (kx : Nat) (hk : k < 4) (h1 : fn (17 * k + 1) = lN cn) (hcn : cn ≤ 160) (hKy : KyS k fk cn K) (hkx : kx < 2147483647) : Met l yX11_valueOf wp_c_valueOf ({ frames := 4, cells := 0, slots := 0, locals := 106 }) (PcR D [.ref h0, .int (nI k), .int (nI kx)] sz [(h0, .inr (11, gM a i g)), (a 3, .inl (cm 3, 85, .inr (.inl fn))), (a 4, .inl (cm 4, 800, .inl fk)), (a 5, .inl (cm 5, 800, .inl fv))] [(cm 3, .long), (cm 4, .int), (cm 5, .int)]) (va_Qi (fun (r : Int32) (u : Unit) => ∀ q, q < cn → K q = kx → r = fv (160 * k + q)) (fun (_ : Unit) _ => True) (va_A [] sz)) 0 0 (va_A [] sz) := by
  refine Met.ofW (cc := cX11_valueOf) (maxL := 3) (ret := (some .int)) (by decide) rfl ?_
  intro p e s m args below meth c s₁ B hml hv
  obtain ⟨rfl, hsz, hP, hK⟩ := hv
  have hx := B.exec
  have hb := B.bytes
  have hr := B.returns
  have hts := atoms_spec (ws := wp_c_valueOf) B.pre
  have hin_X11 : ∀ w ∈ wsX110, w ∈ wp_c_valueOf := fun _ h => (List.mem_cons_of_mem _ (List.mem_append_right _ (List.mem_append_right _ (List.mem_append_left _ h))))
  have hown : s.vm.findClass RX11 = some m.cls := findClass_of_methodNamed B.named
  have hlocks := B.notSynchronized
  subst hsz
  generalize hAe : va_A [] s.heap.size = A at ⊢
  have hA : ∀ q : Nat, s.heap.size ≤ q → A q := fun q h => by rw [← hAe]; exact Or.inr h
  have hS : va_S A s.heap s.heap [] := va_S.rf
  have hP : va_P D vwCl [(h0, .inr (11, gM a i g)), (a 3, .inl (cm 3, 85, .inr (.inl fn))), (a 4, .inl (cm 4, 800, .inl fk)), (a 5, .inl (cm 5, 800, .inl fv))] s.heap := hP
  have hl := lv_entry ([.ref h0, .int (nI k), .int (nI kx)]) (n := 3) (Nat.le_of_ble_eq_true rfl)
  rw [lg_entry_eq]
  generalize (lg_sl ([.ref h0, .int (nI k), .int (nI kx)]) ++ List.replicate (3 - (lg_sl ([.ref h0, .int (nI k), .int (nI kx)])).length) Slot.unset).toArray = ls at hl ⊢
  have hl : lv_has ls 3 [(0, .ref h0), (1, .int (nI k)), (2, .int (nI kx))] := hl
  refine lv_aload_n hx hb dX11_valueOf_0 rfl (lv_at hl 0 rfl) ?_
  refine va_get (D := D) (ci := 11) (v := .ref (a 5)) (C := RX11) (T := TX11) (N := 47) hx hb hts hin_X11 hown hK hP 0 rfl rfl 5 (by decide) (hts (.fieldLink RX11 21 "ClashFreeModel" "values" "[I") (List.mem_of_getElem? (i := 1) rfl)) (fun _ h9 => h9) rfl dX11_valueOf_1 ?_
  refine lv_sipush (v := 160) hx hb dX11_valueOf_4 (by decide) ?_
  refine lv_iload_n hx hb dX11_valueOf_7 rfl (lv_at hl 1 rfl) ?_
  refine lv_imul hx hb dX11_valueOf_8 ?_
  refine lv_aload_n hx hb dX11_valueOf_9 rfl (lv_at hl 0 rfl) ?_
  refine lv_iload_n hx hb dX11_valueOf_10 rfl (lv_at hl 1 rfl) ?_
  refine lv_iload_n hx hb dX11_valueOf_11 rfl (lv_at hl 2 rfl) ?_
  refine lv_i2l hx hb dX11_valueOf_12 rfl ?_
  refine lv_topl (fun v1 ev1 => ?_)
  obtain rfl : v1 = lN kx := ev1.trans (nI_l (by omega))
  have hPc := hP.sub (ws' := [(h0, .inr (11, gM a i g)), (a 3, .inl (cm 3, 85, .inr (.inl fn))), (a 4, .inl (cm 4, 800, .inl fk))]) [0, 1, 2] rfl
  have hKc := hK.sub (tys' := [(cm 3, .long), (cm 4, .int)]) [0, 1] rfl
  have hFc := va_free0 hS hA
  refine va_calli (va_runV (As := [.int (nI k), .long (lN kx)]) (rest := [.int (160 * (nI k)), .ref (a 5)]) ⟨hx, hb, hml, hown, hts⟩ (c_whereOf l D _ h0 a cm i g fn fk k cn K (lN kx) (by first | assumption | omega) h1 (by first | assumption | omega) hKy) (cwV 2 hts g_c_valueOf_c_whereOf_99 rfl rfl rfl (by decide +kernel) ⟨(Nat.le_of_ble_eq_true rfl), (Nat.le_of_ble_eq_true rfl)⟩) (PcR_V (q0 := 0) hPc hKc rfl rfl) rfl rfl hl.1 rfl (lv_room (Nat.le_of_ble_eq_true rfl)) dX11_valueOf_13 ⟨(Nat.le_of_ble_eq_true rfl), (Nat.le_of_ble_eq_true rfl)⟩) hS (fun q _ h => hFc q h) hFc (fun r2 uu tt H locs htt hvm hw hB hz1 hk1 hS => ?_)
  have hP := va_keep hP hk1
  try dsimp only at hw
  clear hB hz1 hk1 hFc hPc hKc
  obtain ⟨q3, hq3a, rfl, hq3b, hq3c⟩ := hw
  refine lv_iadd hx hb dX11_valueOf_16 ?_
  refine lv_topi (fun v4 ev4 => ?_)
  obtain rfl : v4 = nI (160 * k + q3) := ev4.trans (ix160 k _)
  refine va_iald hx hb hK hP 3 2 rfl rfl (vp_in_nI (by omega) (by decide)) dX11_valueOf_17 ?_
  refine lv_topi (fun v5 ev5 => ?_)
  obtain rfl : v5 = fv (160 * k + q3) := ev5.trans (by rw [nI_clamp (by omega)])
  exact W.iret (v := fv (160 * k + q3)) hx hb hr (fun t ht hW => ⟨⟨fv (160 * k + q3), (), rfl, fun q h1 h2 => by rw [wh_ix hkx (fun j a => (hKy.1 j a).2) hKy.2 hq3b hq3c h1 h2], trivial⟩, hS.F ht⟩) hS.2.2 dX11_valueOf_18

