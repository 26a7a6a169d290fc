theorem dX11_hasKey_0 : decode cX11_hasKey 0 = .ok (.aload_n 0, 1) := by decide +kernel
theorem dX11_hasKey_1 : decode cX11_hasKey 1 = .ok (.iload_n 1, 1) := by decide +kernel
theorem dX11_hasKey_2 : decode cX11_hasKey 2 = .ok (.iload_n 2, 1) := by decide +kernel
theorem dX11_hasKey_3 : decode cX11_hasKey 3 = .ok (.i2l, 1) := by decide +kernel
theorem dX11_hasKey_4 : decode cX11_hasKey 4 = .ok (.invokevirtual 99, 3) := by decide +kernel
theorem dX11_hasKey_7 : decode cX11_hasKey 7 = .ok (.istore_n 3, 1) := by decide +kernel
theorem dX11_hasKey_8 : decode cX11_hasKey 8 = .ok (.iload_n 3, 1) := by decide +kernel
theorem dX11_hasKey_9 : decode cX11_hasKey 9 = .ok (.aload_n 0, 1) := by decide +kernel
theorem dX11_hasKey_10 : decode cX11_hasKey 10 = .ok (.iload_n 1, 1) := by decide +kernel
theorem dX11_hasKey_11 : decode cX11_hasKey 11 = .ok (.invokevirtual 95, 3) := by decide +kernel
theorem dX11_hasKey_14 : decode cX11_hasKey 14 = .ok (.if_icmp .ge 23, 3) := by decide +kernel
theorem dX11_hasKey_17 : decode cX11_hasKey 17 = .ok (.aload_n 0, 1) := by decide +kernel
theorem dX11_hasKey_18 : decode cX11_hasKey 18 = .ok (.getfield 17, 3) := by decide +kernel
theorem dX11_hasKey_21 : decode cX11_hasKey 21 = .ok (.sipush 160, 3) := by decide +kernel
theorem dX11_hasKey_24 : decode cX11_hasKey 24 = .ok (.iload_n 1, 1) := by decide +kernel
theorem dX11_hasKey_25 : decode cX11_hasKey 25 = .ok (.imul, 1) := by decide +kernel
theorem dX11_hasKey_26 : decode cX11_hasKey 26 = .ok (.iload_n 3, 1) := by decide +kernel
theorem dX11_hasKey_27 : decode cX11_hasKey 27 = .ok (.iadd, 1) := by decide +kernel
theorem dX11_hasKey_28 : decode cX11_hasKey 28 = .ok (.iaload, 1) := by decide +kernel
theorem dX11_hasKey_29 : decode cX11_hasKey 29 = .ok (.iload_n 2, 1) := by decide +kernel
theorem dX11_hasKey_30 : decode cX11_hasKey 30 = .ok (.if_icmp .ne 7, 3) := by decide +kernel
theorem dX11_hasKey_33 : decode cX11_hasKey 33 = .ok (.iconst 1, 1) := by decide +kernel
theorem dX11_hasKey_34 : decode cX11_hasKey 34 = .ok (.goto 4, 3) := by decide +kernel
theorem dX11_hasKey_37 : decode cX11_hasKey 37 = .ok (.iconst 0, 1) := by decide +kernel
theorem dX11_hasKey_38 : decode cX11_hasKey 38 = .ok (.ireturn, 1) := by decide +kernel
theorem hk_no {K : Nat → Nat} {cn q kx : Nat} (hkx : kx < 2147483647) (h1 : ∀ j, j < cn → K j < 2147483647) (hb : ∀ j, j < q → lN (K j) < lN kx) (hc : ∀ j, q ≤ j → j < cn → ¬ lN (K j) < lN kx) (h : cn ≤ q ∨ K q ≠ kx) (hm : ∀ i j, i < j → j < cn → K i < K j) : ∀ j, j < cn → K j ≠ kx := by
  intro j hj e
  rcases Nat.lt_or_ge j q with z | z
  · have := hb j z
    rw [e] at this
    exact Int64.lt_irrefl this
  · rcases h with y | y
    · omega
    · rcases Nat.lt_or_ge q j with x | x
      · have a1 := hc q (Nat.le_refl _) (by omega)
        have a2 := hm q j x hj
        exact a1 ((lN_lt (by have := h1 q (by omega); omega) (by omega)).mpr (by omega))
      · have : q = j := by omega
        subst this
        exact y e
def own_c_hasKey : List Cond := [.methodLink RX11 99 yX11_whereOf, .instanceMethod yX11_whereOf, .selects RX11 yX11_whereOf yX11_whereOf, .initialized RX11, .methodLink RX11 95 yX11_manyOf, .instanceMethod yX11_manyOf, .selects RX11 yX11_manyOf yX11_manyOf, .fieldLink RX11 17 "ClashFreeModel" "keys" "[I"]
def wp_c_hasKey : List Cond := .code yX11_hasKey cX11_hasKey 4 (some .boolean) :: (own_c_hasKey ++ (wp_c_whereOf ++ (wp_c_manyOf ++ (wsX110 ++ ([] : List Cond)))))
set_option maxRecDepth 20000 in
theorem inown_c_hasKey : ∀ w ∈ own_c_hasKey, w ∈ lw_tbl := mem_places [1481, 1483, 57, 115, 1396, 1398, 40, 1220] (by decide +kernel)
set_option maxRecDepth 20000 in
theorem in_c_hasKey : ∀ w ∈ wp_c_hasKey, w ∈ lw_tbl := List.forall_mem_cons.mpr ⟨List.mem_of_getElem? (i := 1480) (by decide +kernel), List.forall_mem_append.mpr ⟨inown_c_hasKey, List.forall_mem_append.mpr ⟨in_c_whereOf, List.forall_mem_append.mpr ⟨in_c_manyOf, List.forall_mem_append.mpr ⟨lwb_X11, fun _ h => absurd h List.not_mem_nil⟩⟩⟩⟩⟩
set_option maxRecDepth 20000 in
theorem good_c_hasKey : wp_c_hasKey.all goodWord = true := by decide +kernel
set_option maxRecDepth 20000 in
theorem g_c_hasKey_c_whereOf_99 : GoodIn wp_c_hasKey (wsV RX11 99 RX11 yX11_whereOf wp_c_whereOf) := goodIn_sub (List.forall_mem_append.mpr ⟨List.forall_mem_cons.mpr ⟨(List.mem_of_getElem? (i := 1) rfl), List.forall_mem_cons.mpr ⟨(List.mem_of_getElem? (i := 2) rfl), List.forall_mem_cons.mpr ⟨(List.mem_of_getElem? (i := 3) rfl), List.forall_mem_cons.mpr ⟨(List.mem_of_getElem? (i := 4) rfl), fun _ h => absurd h List.not_mem_nil⟩⟩⟩⟩, (fun _ h => (List.mem_cons_of_mem _ (List.mem_append_right _ (List.mem_append_left _ h))))⟩) (by decide +kernel)
set_option maxRecDepth 20000 in
theorem g_c_hasKey_c_manyOf_95 : GoodIn wp_c_hasKey (wsV RX11 95 RX11 yX11_manyOf wp_c_manyOf) := goodIn_sub (List.forall_mem_append.mpr ⟨List.forall_mem_cons.mpr ⟨(List.mem_of_getElem? (i := 5) rfl), List.forall_mem_cons.mpr ⟨(List.mem_of_getElem? (i := 6) rfl), List.forall_mem_cons.mpr ⟨(List.mem_of_getElem? (i := 7) rfl), List.forall_mem_cons.mpr ⟨(List.mem_of_getElem? (i := 4) rfl), fun _ h => absurd h List.not_mem_nil⟩⟩⟩⟩, (fun _ h => (List.mem_cons_of_mem _ (List.mem_append_right _ (List.mem_append_right _ (List.mem_append_left _ h)))))⟩) (by decide +kernel)
set_option maxHeartbeats 4000000 in
set_option maxRecDepth 100000 in
theorem c_hasKey (l : Launch) (D : va_G) (sz : Nat) (h0 : Nat) (a : Nat → Nat) (cm : Nat → ClassId) (i : Nat → Int32) (g : Nat → Int64) (fn : Nat → Int64) (fk : Nat → Int32) (k : Nat) (cn : Nat) (K : Nat → Nat) (kx : Nat) (hk : k < 5) (h1 : fn (17 * k + 1) = lN cn) (hcn : cn ≤ 160) (hKy : KyS k fk cn K) (hkx : kx < 2147483647) : Met l yX11_hasKey wp_c_hasKey ({ frames := 4, cells := 0, slots := 0, locals := 106 }) (PcR D [.ref h0, .int (nI k), .int (nI kx)] sz [(h0, .inr (11, gM a i g)), (a 3, .inl (cm 3, 85, .inr (.inl fn))), (a 4, .inl (cm 4, 800, .inl fk))] [(cm 3, .long), (cm 4, .int)]) (va_Qi (fun (r : Int32) (u : Unit) => (r = 1 ∧ ∃ q, q < cn ∧ K q = kx) ∨ (r = 0 ∧ ∀ q, q < cn → K q ≠ kx)) (fun (_ : Unit) _ => True) (va_A [] sz)) 0 0 (va_A [] sz) := by
  refine Met.ofW (cc := cX11_hasKey) (maxL := 4) (ret := (some .boolean)) (by decide) rfl ?_
  intro p e s m args below meth c s₁ B hml hv
  obtain ⟨rfl, hsz, hP, hK⟩ := hv
  have hx := B.exec
  have hb := B.bytes
  have hr := B.returns
  have hts := atoms_spec (ws := wp_c_hasKey) B.pre
  have hin_X11 : ∀ w ∈ wsX110, w ∈ wp_c_hasKey := fun _ h => (List.mem_cons_of_mem _ (List.mem_append_right _ (List.mem_append_right _ (List.mem_append_right _ (List.mem_append_left _ h)))))
  have hown : s.vm.findClass RX11 = some m.cls := findClass_of_methodNamed B.named
  have hlocks := B.notSynchronized
  subst hsz
  generalize hAe : va_A [] s.heap.size = A at ⊢
  have hA : ∀ q : Nat, s.heap.size ≤ q → A q := fun q h => by rw [← hAe]; exact Or.inr h
  have hS : va_S A s.heap s.heap [] := va_S.rf
  have hP : va_P D vwCl [(h0, .inr (11, gM a i g)), (a 3, .inl (cm 3, 85, .inr (.inl fn))), (a 4, .inl (cm 4, 800, .inl fk))] s.heap := hP
  have hl := lv_entry ([.ref h0, .int (nI k), .int (nI kx)]) (n := 4) (Nat.le_of_ble_eq_true rfl)
  rw [lg_entry_eq]
  generalize (lg_sl ([.ref h0, .int (nI k), .int (nI kx)]) ++ List.replicate (4 - (lg_sl ([.ref h0, .int (nI k), .int (nI kx)])).length) Slot.unset).toArray = ls at hl ⊢
  have hl : lv_has ls 4 [(0, .ref h0), (1, .int (nI k)), (2, .int (nI kx))] := hl
  refine lv_aload_n hx hb dX11_hasKey_0 rfl (lv_at hl 0 rfl) ?_
  refine lv_iload_n hx hb dX11_hasKey_1 rfl (lv_at hl 1 rfl) ?_
  refine lv_iload_n hx hb dX11_hasKey_2 rfl (lv_at hl 2 rfl) ?_
  refine lv_i2l hx hb dX11_hasKey_3 rfl ?_
  refine lv_topl (fun v1 ev1 => ?_)
  obtain rfl : v1 = lN kx := ev1.trans (nI_l (by omega))
  have hPc := hP.sub (ws' := [(h0, .inr (11, gM a i g)), (a 3, .inl (cm 3, 85, .inr (.inl fn))), (a 4, .inl (cm 4, 800, .inl fk))]) [0, 1, 2] rfl
  have hKc := hK.sub (tys' := [(cm 3, .long), (cm 4, .int)]) [0, 1] rfl
  have hFc := va_free0 hS hA
  refine va_calli (va_runV (As := [.int (nI k), .long (lN kx)]) (rest := []) ⟨hx, hb, hml, hown, hts⟩ (c_whereOf l D _ h0 a cm i g fn fk k cn K (lN kx) (by first | assumption | omega) h1 (by first | assumption | omega) hKy) (cwV 2 hts g_c_hasKey_c_whereOf_99 rfl rfl rfl (by decide +kernel) ⟨(Nat.le_of_ble_eq_true rfl), (Nat.le_of_ble_eq_true rfl)⟩) (PcR_V (q0 := 0) hPc hKc rfl rfl) rfl rfl hl.1 rfl (lv_room (Nat.le_of_ble_eq_true rfl)) dX11_hasKey_4 ⟨(Nat.le_of_ble_eq_true rfl), (Nat.le_of_ble_eq_true rfl)⟩) hS (fun q _ h => hFc q h) hFc (fun r2 uu tt H locs htt hvm hw hB hz1 hk1 hS => ?_)
  have hP := va_keep hP hk1
  try dsimp only at hw
  clear hB hz1 hk1 hFc hPc hKc
  obtain ⟨q3, hq3a, rfl, hq3b, hq3c⟩ := hw
  refine lv_istore_n (lv' := [(3, .int (nI q3)), (0, .ref h0), (1, .int (nI k)), (2, .int (nI kx))]) hx hb dX11_hasKey_7 rfl hl (by decide) rfl (fun ls hl => ?_)
  refine lv_iload_n hx hb dX11_hasKey_8 rfl (lv_at hl 0 rfl) ?_
  refine lv_aload_n hx hb dX11_hasKey_9 rfl (lv_at hl 1 rfl) ?_
  refine lv_iload_n hx hb dX11_hasKey_10 rfl (lv_at hl 2 rfl) ?_
  have hPc := hP.sub (ws' := [(h0, .inr (11, gM a i g)), (a 3, .inl (cm 3, 85, .inr (.inl fn)))]) [0, 1] rfl
  have hKc := hK.sub (tys' := [(cm 3, .long)]) [0] rfl
  have hFc := va_free0 hS hA
  refine va_calli (va_runV (As := [.int (nI k)]) (rest := [.int (nI q3)]) ⟨hx, hb, hml, hown, hts⟩ (c_manyOf l D _ h0 a cm i g fn k cn (by first | assumption | omega) h1) (cwV 1 hts g_c_hasKey_c_manyOf_95 rfl rfl rfl (by decide +kernel) ⟨(Nat.le_of_ble_eq_true rfl), (Nat.le_of_ble_eq_true rfl)⟩) (PcR_V (q0 := 0) hPc hKc rfl rfl) rfl rfl hl.1 rfl (lv_room (Nat.le_of_ble_eq_true rfl)) dX11_hasKey_11 ⟨(Nat.le_of_ble_eq_true rfl), (Nat.le_of_ble_eq_true rfl)⟩) hS (fun q _ h => hFc q h) hFc (fun r4 uu tt H locs htt hvm hw hB hz1 hk1 hS => ?_)
  have hP := va_keep hP hk1
  try dsimp only at hw
  clear hB hz1 hk1 hFc hPc hKc
  obtain rfl : r4 = nI cn := hw
  refine lv_icmp_ge (tgt := 37) hx hb dX11_hasKey_14 (by decide) (fun hc5 => ?_) (fun hc5 => ?_)
  ·
    have hge : cn ≤ q3 := (nI_leI (by omega) (by omega)).mp hc5
    refine lv_iconst (v := 0) hx hb dX11_hasKey_37 (by decide) ?_
    exact W.zret (v := 0) hx hb hr rfl (fun t ht hW => ⟨⟨0, (), rfl, Or.inr ⟨rfl, hk_no hkx (fun j a => (hKy.1 j a).2) hq3b hq3c (Or.inl hge) hKy.2⟩, trivial⟩, hS.F ht⟩) hS.2.2 dX11_hasKey_38
  ·
    have hlt : q3 < cn := by
      rcases Nat.lt_or_ge q3 cn with z | z
      · exact z
      · exact absurd (nI_le z (by omega)) hc5
    refine lv_aload_n hx hb dX11_hasKey_17 rfl (lv_at hl 1 rfl) ?_
    refine va_get (D := D) (ci := 11) (v := .ref (a 4)) (C := RX11) (T := TX11) (N := 47) hx hb hts hin_X11 hown hK hP 0 rfl rfl 4 (by decide) (hts (.fieldLink RX11 17 "ClashFreeModel" "keys" "[I") (List.mem_of_getElem? (i := 8) rfl)) (fun _ h9 => h9) rfl dX11_hasKey_18 ?_
    refine lv_sipush (v := 160) hx hb dX11_hasKey_21 (by decide) ?_
    refine lv_iload_n hx hb dX11_hasKey_24 rfl (lv_at hl 2 rfl) ?_
    refine lv_imul hx hb dX11_hasKey_25 ?_
    refine lv_iload_n hx hb dX11_hasKey_26 rfl (lv_at hl 0 rfl) ?_
    refine lv_iadd hx hb dX11_hasKey_27 ?_
    refine lv_topi (fun v6 ev6 => ?_)
    obtain rfl : v6 = nI (160 * k + q3) := ev6.trans (ix160 k _)
    refine va_iald hx hb hK hP 2 1 rfl rfl (vp_in_nI (by omega) (by decide)) dX11_hasKey_28 ?_
    refine lv_topi (fun v7 ev7 => ?_)
    obtain rfl : v7 = nI (K q3) := ev7.trans (by rw [nI_clamp (by omega)]; exact (hKy.1 _ hlt).1)
    refine lv_iload_n hx hb dX11_hasKey_29 rfl (lv_at hl 3 rfl) ?_
    refine lv_icmp_ne (tgt := 37) hx hb dX11_hasKey_30 (by decide) (fun hc8 => ?_) (fun hc8 => ?_)
    ·
      refine lv_iconst (v := 0) hx hb dX11_hasKey_37 (by decide) ?_
      exact W.zret (v := 0) hx hb hr rfl (fun t ht hW => ⟨⟨0, (), rfl, Or.inr ⟨rfl, hk_no hkx (fun j a => (hKy.1 j a).2) hq3b hq3c (Or.inr (fun e => hc8 (by rw [e]))) hKy.2⟩, trivial⟩, hS.F ht⟩) hS.2.2 dX11_hasKey_38
    ·
      refine lv_iconst (v := 1) hx hb dX11_hasKey_33 (by decide) ?_
      refine lv_goto (tgt := 38) hx hb dX11_hasKey_34 (by decide) ?_
      exact W.zret (v := 1) hx hb hr rfl (fun t ht hW => ⟨⟨1, (), rfl, Or.inl ⟨rfl, q3, hlt, (nI_eq (by have := (hKy.1 _ hlt).2; omega) (by omega)).mp hc8⟩, trivial⟩, hS.F ht⟩) hS.2.2 dX11_hasKey_38

