theorem dX11_readsFor_0 : decode cX11_readsFor 0 = .ok (.aload_n 0, 1) := by decide +kernel
theorem dX11_readsFor_1 : decode cX11_readsFor 1 = .ok (.iload_n 1, 1) := by decide +kernel
theorem dX11_readsFor_2 : decode cX11_readsFor 2 = .ok (.bipush 8, 2) := by decide +kernel
theorem dX11_readsFor_4 : decode cX11_readsFor 4 = .ok (.lconst 1, 1) := by decide +kernel
theorem dX11_readsFor_5 : decode cX11_readsFor 5 = .ok (.aload_n 0, 1) := by decide +kernel
theorem dX11_readsFor_6 : decode cX11_readsFor 6 = .ok (.iload_n 1, 1) := by decide +kernel
theorem dX11_readsFor_7 : decode cX11_readsFor 7 = .ok (.aload_n 0, 1) := by decide +kernel
theorem dX11_readsFor_8 : decode cX11_readsFor 8 = .ok (.iload_n 1, 1) := by decide +kernel
theorem dX11_readsFor_9 : decode cX11_readsFor 9 = .ok (.iload_n 2, 1) := by decide +kernel
theorem dX11_readsFor_10 : decode cX11_readsFor 10 = .ok (.invokevirtual 155, 3) := by decide +kernel
theorem dX11_readsFor_13 : decode cX11_readsFor 13 = .ok (.invokevirtual 137, 3) := by decide +kernel
theorem dX11_readsFor_16 : decode cX11_readsFor 16 = .ok (.ifCond .le 7, 3) := by decide +kernel
theorem dX11_readsFor_19 : decode cX11_readsFor 19 = .ok (.iconst 1, 1) := by decide +kernel
theorem dX11_readsFor_20 : decode cX11_readsFor 20 = .ok (.goto 4, 3) := by decide +kernel
theorem dX11_readsFor_23 : decode cX11_readsFor 23 = .ok (.iconst 0, 1) := by decide +kernel
theorem dX11_readsFor_24 : decode cX11_readsFor 24 = .ok (.invokestatic 198, 3) := by decide +kernel
theorem dX11_readsFor_27 : decode cX11_readsFor 27 = .ok (.i2l, 1) := by decide +kernel
theorem dX11_readsFor_28 : decode cX11_readsFor 28 = .ok (.ladd, 1) := by decide +kernel
theorem dX11_readsFor_29 : decode cX11_readsFor 29 = .ok (.invokevirtual 130, 3) := by decide +kernel
theorem dX11_readsFor_32 : decode cX11_readsFor 32 = .ok (.return_, 1) := by decide +kernel
theorem dX11_isFull_0 : decode cX11_isFull 0 = .ok (.aload_n 0, 1) := by decide +kernel
theorem dX11_isFull_1 : decode cX11_isFull 1 = .ok (.iload_n 1, 1) := by decide +kernel
theorem dX11_isFull_2 : decode cX11_isFull 2 = .ok (.invokevirtual 95, 3) := by decide +kernel
theorem dX11_isFull_5 : decode cX11_isFull 5 = .ok (.sipush 160, 3) := by decide +kernel
theorem dX11_isFull_8 : decode cX11_isFull 8 = .ok (.if_icmp .ne 16, 3) := by decide +kernel
theorem dX11_isFull_11 : decode cX11_isFull 11 = .ok (.aload_n 0, 1) := by decide +kernel
theorem dX11_isFull_12 : decode cX11_isFull 12 = .ok (.iload_n 1, 1) := by decide +kernel
theorem dX11_isFull_13 : decode cX11_isFull 13 = .ok (.iload_n 2, 1) := by decide +kernel
theorem dX11_isFull_14 : decode cX11_isFull 14 = .ok (.invokevirtual 202, 3) := by decide +kernel
theorem dX11_isFull_17 : decode cX11_isFull 17 = .ok (.ifCond .ne 7, 3) := by decide +kernel
theorem dX11_isFull_20 : decode cX11_isFull 20 = .ok (.iconst 1, 1) := by decide +kernel
theorem dX11_isFull_21 : decode cX11_isFull 21 = .ok (.goto 4, 3) := by decide +kernel
theorem dX11_isFull_24 : decode cX11_isFull 24 = .ok (.iconst 0, 1) := by decide +kernel
theorem dX11_isFull_25 : decode cX11_isFull 25 = .ok (.ireturn, 1) := by decide +kernel
theorem full_eq {cn : Nat} (h : cn ≤ 160) (e : nI cn = 160) : cn = 160 := (nI_eq (b := 160) (by omega) (by decide)).mp e
theorem full_lt {cn : Nat} (h : cn ≤ 160) (e : ¬ nI cn = 160) : cn < 160 := by
  rcases Nat.lt_or_ge cn 160 with z | z
  · exact z
  · exact absurd (by rw [show cn = 160 by omega]; rfl) e
def own_c_isFull : List Cond := [.methodLink RX11 95 yX11_manyOf, .instanceMethod yX11_manyOf, .selects RX11 yX11_manyOf yX11_manyOf, .initialized RX11, .methodLink RX11 202 yX11_hasKey, .instanceMethod yX11_hasKey, .selects RX11 yX11_hasKey yX11_hasKey]
def wp_c_isFull : List Cond := .code yX11_isFull cX11_isFull 3 (some .boolean) :: (own_c_isFull ++ (wp_c_manyOf ++ (wp_c_hasKey ++ ([] : List Cond))))
set_option maxRecDepth 20000 in
theorem inown_c_isFull : ∀ w ∈ own_c_isFull, w ∈ lw_tbl := mem_places [1396, 1398, 40, 115, 1477, 1479, 56] (by decide +kernel)
set_option maxRecDepth 20000 in
theorem in_c_isFull : ∀ w ∈ wp_c_isFull, w ∈ lw_tbl := List.forall_mem_cons.mpr ⟨List.mem_of_getElem? (i := 1476) (by decide +kernel), List.forall_mem_append.mpr ⟨inown_c_isFull, List.forall_mem_append.mpr ⟨in_c_manyOf, List.forall_mem_append.mpr ⟨in_c_hasKey, fun _ h => absurd h List.not_mem_nil⟩⟩⟩⟩
set_option maxRecDepth 20000 in
theorem good_c_isFull : wp_c_isFull.all goodWord = true := by decide +kernel
set_option maxRecDepth 20000 in
theorem g_c_isFull_c_manyOf_95 : GoodIn wp_c_isFull (wsV RX11 95 RX11 yX11_manyOf wp_c_manyOf) := goodIn_sub (List.forall_mem_append.mpr ⟨List.forall_mem_cons.mpr ⟨(List.mem_of_getElem? (i := 1) rfl), List.forall_mem_cons.mpr ⟨(List.mem_of_getElem? (i := 2) rfl), List.forall_mem_cons.mpr ⟨(List.mem_of_getElem? (i := 3) rfl), List.forall_mem_cons.mpr ⟨(List.mem_of_getElem? (i := 4) rfl), fun _ h => absurd h List.not_mem_nil⟩⟩⟩⟩, (fun _ h => (List.mem_cons_of_mem _ (List.mem_append_right _ (List.mem_append_left _ h))))⟩) (by decide +kernel)
set_option maxRecDepth 20000 in
theorem g_c_isFull_c_hasKey_202 : GoodIn wp_c_isFull (wsV RX11 202 RX11 yX11_hasKey wp_c_hasKey) := goodIn_sub (List.forall_mem_append.mpr ⟨List.forall_mem_cons.mpr ⟨(List.mem_of_getElem? (i := 5) rfl), List.forall_mem_cons.mpr ⟨(List.mem_of_getElem? (i := 6) rfl), List.forall_mem_cons.mpr ⟨(List.mem_of_getElem? (i := 7) rfl), List.forall_mem_cons.mpr ⟨(List.mem_of_getElem? (i := 4) rfl), fun _ h => absurd h List.not_mem_nil⟩⟩⟩⟩, (fun _ h => (List.mem_cons_of_mem _ (List.mem_append_right _ (List.mem_append_right _ (List.mem_append_left _ h)))))⟩) (by decide +kernel)
set_option maxHeartbeats 4000000 in
set_option maxRecDepth 100000 in
theorem c_isFull (l : Launch) (D : va_G) (sz : Nat) (h0 : Nat) (a : Nat → Nat) (cm : Nat → ClassId) (i : Nat → Int32) (g : Nat → Int64) (fn : Nat → Int64) (fk : Nat → Int32) (fb : Nat → Int32) (ff : Nat → Int32) (fh : Nat → Int32) (k : Nat) (cn : Nat) (nb : Nat) (K : Nat → Nat) (J : Nat → Nat) (kx : Nat) (hk : k < 4) (hT : TabS k cn nb K J fn fk fb ff fh) (hkx : kx < 2147483647) : Met l yX11_isFull wp_c_isFull ({ frames := 5, cells := 0, slots := 0, locals := 129 }) (PcR D [.ref h0, .int (nI k), .int (nI kx)] sz [(h0, .inr (11, gM a i g)), (a 3, .inl (cm 3, 85, .inr (.inl fn))), (a 4, .inl (cm 4, 800, .inl fk)), (a 6, .inl (cm 6, 800, .inl fb)), (a 8, .inl (cm 8, 10240, .inl ff)), (a 9, .inl (cm 9, 10240, .inl fh))] [(cm 3, .long), (cm 4, .int), (cm 6, .int), (cm 8, .int), (cm 9, .int)]) (va_Qi (fun (r : Int32) (u : Unit) => (r = 1 ∧ (cn = 160 ∧ ∀ q, q < cn → K q ≠ kx)) ∨ (r = 0 ∧ (cn < 160 ∨ ∃ q, q < cn ∧ K q = kx))) (fun (_ : Unit) _ => True) (va_A [] sz)) 0 0 (va_A [] sz) := by
  refine Met.ofW (cc := cX11_isFull) (maxL := 3) (ret := (some .boolean)) (by decide) rfl ?_
  intro p e s m args below meth c s₁ B hml hv
  obtain ⟨rfl, hsz, hP, hK⟩ := hv
  have hx := B.exec
  have hb := B.bytes
  have hr := B.returns
  have hts := atoms_spec (ws := wp_c_isFull) B.pre
  have hown : s.vm.findClass RX11 = some m.cls := findClass_of_methodNamed B.named
  have hlocks := B.notSynchronized
  subst hsz
  generalize hAe : va_A [] s.heap.size = A at ⊢
  have hA : ∀ q : Nat, s.heap.size ≤ q → A q := fun q h => by rw [← hAe]; exact Or.inr h
  have hS : va_S A s.heap s.heap [] := va_S.rf
  have hP : va_P D vwCl [(h0, .inr (11, gM a i g)), (a 3, .inl (cm 3, 85, .inr (.inl fn))), (a 4, .inl (cm 4, 800, .inl fk)), (a 6, .inl (cm 6, 800, .inl fb)), (a 8, .inl (cm 8, 10240, .inl ff)), (a 9, .inl (cm 9, 10240, .inl fh))] s.heap := hP
  have hl := lv_entry ([.ref h0, .int (nI k), .int (nI kx)]) (n := 3) (Nat.le_of_ble_eq_true rfl)
  rw [lg_entry_eq]
  generalize (lg_sl ([.ref h0, .int (nI k), .int (nI kx)]) ++ List.replicate (3 - (lg_sl ([.ref h0, .int (nI k), .int (nI kx)])).length) Slot.unset).toArray = ls at hl ⊢
  have hl : lv_has ls 3 [(0, .ref h0), (1, .int (nI k)), (2, .int (nI kx))] := hl
  obtain ⟨h1, hcn, h4, hn1, hn2, ⟨ka, kb, hka, hkb, h6, h7⟩, hKy, hBk, hHs, hSt⟩ := id hT
  refine lv_aload_n hx hb dX11_isFull_0 rfl (lv_at hl 0 rfl) ?_
  refine lv_iload_n hx hb dX11_isFull_1 rfl (lv_at hl 1 rfl) ?_
  have hPc := hP.sub (ws' := [(h0, .inr (11, gM a i g)), (a 3, .inl (cm 3, 85, .inr (.inl fn)))]) [0, 1] rfl
  have hKc := hK.sub (tys' := [(cm 3, .long)]) [0] rfl
  have hFc := va_free0 hS hA
  refine va_calli (va_runV (As := [.int (nI k)]) (rest := []) ⟨hx, hb, hml, hown, hts⟩ (c_manyOf l D _ h0 a cm i g fn k cn (by first | assumption | omega) h1) (cwV 1 hts g_c_isFull_c_manyOf_95 rfl rfl rfl (by decide +kernel) ⟨(Nat.le_of_ble_eq_true rfl), (Nat.le_of_ble_eq_true rfl)⟩) (PcR_V (q0 := 0) hPc hKc rfl rfl) rfl rfl hl.1 rfl (lv_room (Nat.le_of_ble_eq_true rfl)) dX11_isFull_2 ⟨(Nat.le_of_ble_eq_true rfl), (Nat.le_of_ble_eq_true rfl)⟩) hS (fun q _ h => hFc q h) hFc (fun r1 uu tt H locs htt hvm hw hB hz1 hk1 hS => ?_)
  have hP := va_keep hP hk1
  try dsimp only at hw
  clear hB hz1 hk1 hFc hPc hKc
  obtain rfl : r1 = nI cn := hw
  refine lv_sipush (v := 160) hx hb dX11_isFull_5 (by decide) ?_
  refine lv_icmp_ne (tgt := 24) hx hb dX11_isFull_8 (by decide) (fun hc2 => ?_) (fun hc2 => ?_)
  ·
    refine lv_iconst (v := 0) hx hb dX11_isFull_24 (by decide) ?_
    exact W.zret (v := 0) hx hb hr rfl (fun t ht hW => ⟨⟨0, (), rfl, Or.inr ⟨rfl, Or.inl (full_lt hcn hc2)⟩, trivial⟩, hS.F ht⟩) hS.2.2 dX11_isFull_25
  ·
    refine lv_aload_n hx hb dX11_isFull_11 rfl (lv_at hl 0 rfl) ?_
    refine lv_iload_n hx hb dX11_isFull_12 rfl (lv_at hl 1 rfl) ?_
    refine lv_iload_n hx hb dX11_isFull_13 rfl (lv_at hl 2 rfl) ?_
    have hPc := hP.sub (ws' := [(h0, .inr (11, gM a i g)), (a 3, .inl (cm 3, 85, .inr (.inl fn))), (a 4, .inl (cm 4, 800, .inl fk))]) [0, 1, 2] rfl
    have hKc := hK.sub (tys' := [(cm 3, .long), (cm 4, .int)]) [0, 1] rfl
    have hFc := va_free0 hS hA
    refine va_calli (va_runV (As := [.int (nI k), .int (nI kx)]) (rest := []) ⟨hx, hb, hml, hown, hts⟩ (c_hasKey l D _ h0 a cm i g fn fk k cn K kx (by first | assumption | omega) h1 (by first | assumption | omega) hKy (by first | assumption | omega)) (cwV 2 hts g_c_isFull_c_hasKey_202 rfl rfl rfl (by decide +kernel) ⟨(Nat.le_of_ble_eq_true rfl), (Nat.le_of_ble_eq_true rfl)⟩) (PcR_V (q0 := 0) hPc hKc rfl rfl) rfl rfl hl.1 rfl (lv_room (Nat.le_of_ble_eq_true rfl)) dX11_isFull_14 ⟨(Nat.le_of_ble_eq_true rfl), (Nat.le_of_ble_eq_true rfl)⟩) hS (fun q _ h => hFc q h) hFc (fun r3 uu tt H locs htt hvm hw hB hz1 hk1 hS => ?_)
    have hP := va_keep hP hk1
    try dsimp only at hw
    clear hB hz1 hk1 hFc hPc hKc
    rcases hw with ⟨rfl, hA_r3⟩ | ⟨rfl, hA_r3⟩
    ·
      refine lv_if_ne (tgt := 24) hx hb dX11_isFull_17 (by decide) (fun hc => ?_) (fun hc => absurd hc (by decide))
      refine lv_iconst (v := 0) hx hb dX11_isFull_24 (by decide) ?_
      exact W.zret (v := 0) hx hb hr rfl (fun t ht hW => ⟨⟨0, (), rfl, Or.inr ⟨rfl, Or.inr hA_r3⟩, trivial⟩, hS.F ht⟩) hS.2.2 dX11_isFull_25
    ·
      refine lv_if_ne (tgt := 24) hx hb dX11_isFull_17 (by decide) (fun hc => absurd (by decide) hc) (fun hc => ?_)
      refine lv_iconst (v := 1) hx hb dX11_isFull_20 (by decide) ?_
      refine lv_goto (tgt := 25) hx hb dX11_isFull_21 (by decide) ?_
      exact W.zret (v := 1) hx hb hr rfl (fun t ht hW => ⟨⟨1, (), rfl, Or.inl ⟨rfl, full_eq hcn hc2, hA_r3⟩, trivial⟩, hS.F ht⟩) hS.2.2 dX11_isFull_25

def own_c_readsFor : List Cond := [.methodLink RX11 155 yX11_bucketOf, .instanceMethod yX11_bucketOf, .selects RX11 yX11_bucketOf yX11_bucketOf, .initialized RX11, .methodLink RX11 137 yX11_roomsOf, .instanceMethod yX11_roomsOf, .selects RX11 yX11_roomsOf yX11_roomsOf, .methodLink RX11 198 yX11_flag, .static yX11_flag, .methodLink RX11 130 yX11_adds, .instanceMethod yX11_adds, .selects RX11 yX11_adds yX11_adds]
def wp_c_readsFor : List Cond := .code yX11_readsFor cX11_readsFor 3 none :: (own_c_readsFor ++ (wp_c_bucketOf ++ (wp_c_roomsOf ++ (wp_c_flag ++ (wp_c_adds ++ ([] : List Cond))))))
set_option maxRecDepth 20000 in
theorem inown_c_readsFor : ∀ w ∈ own_c_readsFor, w ∈ lw_tbl := mem_places [1430, 1432, 47, 115, 1437, 1439, 48, 1502, 1503, 1458, 1460, 53] (by decide +kernel)
set_option maxRecDepth 20000 in
theorem in_c_readsFor : ∀ w ∈ wp_c_readsFor, w ∈ lw_tbl := List.forall_mem_cons.mpr ⟨List.mem_of_getElem? (i := 1501) (by decide +kernel), List.forall_mem_append.mpr ⟨inown_c_readsFor, List.forall_mem_append.mpr ⟨in_c_bucketOf, List.forall_mem_append.mpr ⟨in_c_roomsOf, List.forall_mem_append.mpr ⟨in_c_flag, List.forall_mem_append.mpr ⟨in_c_adds, fun _ h => absurd h List.not_mem_nil⟩⟩⟩⟩⟩⟩
set_option maxRecDepth 20000 in
theorem good_c_readsFor : wp_c_readsFor.all goodWord = true := by decide +kernel
set_option maxRecDepth 20000 in
theorem g_c_readsFor_c_bucketOf_155 : GoodIn wp_c_readsFor (wsV RX11 155 RX11 yX11_bucketOf wp_c_bucketOf) := goodIn_sub (List.forall_mem_append.mpr ⟨List.forall_mem_cons.mpr ⟨(List.mem_of_getElem? (i := 1) rfl), List.forall_mem_cons.mpr ⟨(List.mem_of_getElem? (i := 2) rfl), List.forall_mem_cons.mpr ⟨(List.mem_of_getElem? (i := 3) rfl), List.forall_mem_cons.mpr ⟨(List.mem_of_getElem? (i := 4) rfl), fun _ h => absurd h List.not_mem_nil⟩⟩⟩⟩, (fun _ h => (List.mem_cons_of_mem _ (List.mem_append_right _ (List.mem_append_left _ h))))⟩) (by decide +kernel)
set_option maxRecDepth 20000 in
theorem g_c_readsFor_c_roomsOf_137 : GoodIn wp_c_readsFor (wsV RX11 137 RX11 yX11_roomsOf wp_c_roomsOf) := goodIn_sub (List.forall_mem_append.mpr ⟨List.forall_mem_cons.mpr ⟨(List.mem_of_getElem? (i := 5) rfl), List.forall_mem_cons.mpr ⟨(List.mem_of_getElem? (i := 6) rfl), List.forall_mem_cons.mpr ⟨(List.mem_of_getElem? (i := 7) rfl), List.forall_mem_cons.mpr ⟨(List.mem_of_getElem? (i := 4) rfl), fun _ h => absurd h List.not_mem_nil⟩⟩⟩⟩, (fun _ h => (List.mem_cons_of_mem _ (List.mem_append_right _ (List.mem_append_right _ (List.mem_append_left _ h)))))⟩) (by decide +kernel)
set_option maxRecDepth 20000 in
theorem g_c_readsFor_c_flag_198 : GoodIn wp_c_readsFor (va_wsS RX11 198 yX11_flag wp_c_flag) := goodIn_sub (List.forall_mem_append.mpr ⟨List.forall_mem_cons.mpr ⟨(List.mem_of_getElem? (i := 8) rfl), List.forall_mem_cons.mpr ⟨(List.mem_of_getElem? (i := 9) rfl), List.forall_mem_cons.mpr ⟨(List.mem_of_getElem? (i := 4) rfl), fun _ h => absurd h List.not_mem_nil⟩⟩⟩, (fun _ h => (List.mem_cons_of_mem _ (List.mem_append_right _ (List.mem_append_right _ (List.mem_append_right _ (List.mem_append_left _ h))))))⟩) (by decide +kernel)
set_option maxRecDepth 20000 in
theorem g_c_readsFor_c_adds_130 : GoodIn wp_c_readsFor (wsV RX11 130 RX11 yX11_adds wp_c_adds) := goodIn_sub (List.forall_mem_append.mpr ⟨List.forall_mem_cons.mpr ⟨(List.mem_of_getElem? (i := 10) rfl), List.forall_mem_cons.mpr ⟨(List.mem_of_getElem? (i := 11) rfl), List.forall_mem_cons.mpr ⟨(List.mem_of_getElem? (i := 12) rfl), List.forall_mem_cons.mpr ⟨(List.mem_of_getElem? (i := 4) rfl), fun _ h => absurd h List.not_mem_nil⟩⟩⟩⟩, (fun _ h => (List.mem_cons_of_mem _ (List.mem_append_right _ (List.mem_append_right _ (List.mem_append_right _ (List.mem_append_right _ (List.mem_append_left _ h)))))))⟩) (by decide +kernel)
set_option maxHeartbeats 4000000 in
set_option maxRecDepth 100000 in
theorem c_readsFor (l : Launch) (D : va_G) (sz : Nat) (h0 : Nat) (a : Nat → Nat) (cm : Nat → ClassId) (i : Nat → Int32) (g : Nat → Int64) (fn : Nat → Int64) (fk : Nat → Int32) (fb : Nat → Int32) (ff : Nat → Int32) (fh : Nat → Int32) (k : Nat) (cn : Nat) (nb : Nat) (K : Nat → Nat) (J : Nat → Nat) (kx : Nat) (hk : k < 4) (hT : TabS k cn nb K J fn fk fb ff fh) (hkx : kx < 2147483647) : Met l yX11_readsFor wp_c_readsFor ({ frames := 2, cells := 0, slots := 0, locals := 49 }) (PcW D [.ref h0, .int (nI k), .int (nI kx)] sz [(h0, .inr (11, gM a i g)), (a 3, .inl (cm 3, 85, .inr (.inl fn))), (a 4, .inl (cm 4, 800, .inl fk)), (a 6, .inl (cm 6, 800, .inl fb)), (a 8, .inl (cm 8, 10240, .inl ff)), (a 9, .inl (cm 9, 10240, .inl fh))] [(cm 3, .long), (cm 4, .int), (cm 6, .int), (cm 8, .int), (cm 9, .int)]) (va_Qv (fun (u : (Nat → Int64)) => ∀ x, x ≠ 17 * k + 8 → u x = fn x) (fun (u : (Nat → Int64)) t => va_P D vwCl [(h0, .inr (11, gM a i g)), (a 3, .inl (cm 3, 85, .inr (.inl u))), (a 4, .inl (cm 4, 800, .inl fk)), (a 6, .inl (cm 6, 800, .inl fb)), (a 8, .inl (cm 8, 10240, .inl ff)), (a 9, .inl (cm 9, 10240, .inl fh))] t.heap ∧ va_K D vwCl [(cm 3, .long), (cm 4, .int), (cm 6, .int), (cm 8, .int), (cm 9, .int)] t ∧ va_D (va_A [(h0, .inr (11, gM a i g)), (a 3, .inl (cm 3, 85, .inr (.inl fn))), (a 4, .inl (cm 4, 800, .inl fk)), (a 6, .inl (cm 6, 800, .inl fb)), (a 8, .inl (cm 8, 10240, .inl ff)), (a 9, .inl (cm 9, 10240, .inl fh))] sz) [(h0, .inr (11, gM a i g)), (a 3, .inl (cm 3, 85, .inr (.inl u))), (a 4, .inl (cm 4, 800, .inl fk)), (a 6, .inl (cm 6, 800, .inl fb)), (a 8, .inl (cm 8, 10240, .inl ff)), (a 9, .inl (cm 9, 10240, .inl fh))]) (va_A [(h0, .inr (11, gM a i g)), (a 3, .inl (cm 3, 85, .inr (.inl fn))), (a 4, .inl (cm 4, 800, .inl fk)), (a 6, .inl (cm 6, 800, .inl fb)), (a 8, .inl (cm 8, 10240, .inl ff)), (a 9, .inl (cm 9, 10240, .inl fh))] sz)) 0 0 (va_A [(h0, .inr (11, gM a i g)), (a 3, .inl (cm 3, 85, .inr (.inl fn))), (a 4, .inl (cm 4, 800, .inl fk)), (a 6, .inl (cm 6, 800, .inl fb)), (a 8, .inl (cm 8, 10240, .inl ff)), (a 9, .inl (cm 9, 10240, .inl fh))] sz) := by
  refine Met.ofW (cc := cX11_readsFor) (maxL := 3) (ret := none) (by decide) rfl ?_
  intro p e s m args below meth c s₁ B hml hv
  obtain ⟨rfl, hsz, hP, hK, hD0⟩ := hv
  have hx := B.exec
  have hb := B.bytes
  have hr := B.returns
  have hts := atoms_spec (ws := wp_c_readsFor) B.pre
  have hown : s.vm.findClass RX11 = some m.cls := findClass_of_methodNamed B.named
  have hlocks := B.notSynchronized
  subst hsz
  have hD := hD0.self (sz := s.heap.size)
  generalize hAe : va_A [(h0, .inr (11, gM a i g)), (a 3, .inl (cm 3, 85, .inr (.inl fn))), (a 4, .inl (cm 4, 800, .inl fk)), (a 6, .inl (cm 6, 800, .inl fb)), (a 8, .inl (cm 8, 10240, .inl ff)), (a 9, .inl (cm 9, 10240, .inl fh))] s.heap.size = A at hD ⊢
  have hA : ∀ q : Nat, s.heap.size ≤ q → A q := fun q h => by rw [← hAe]; exact Or.inr h
  have hS : va_S A s.heap s.heap [] := va_S.rf
  have hP : va_P D vwCl [(h0, .inr (11, gM a i g)), (a 3, .inl (cm 3, 85, .inr (.inl fn))), (a 4, .inl (cm 4, 800, .inl fk)), (a 6, .inl (cm 6, 800, .inl fb)), (a 8, .inl (cm 8, 10240, .inl ff)), (a 9, .inl (cm 9, 10240, .inl fh))] s.heap := hP
  have hl := lv_entry ([.ref h0, .int (nI k), .int (nI kx)]) (n := 3) (Nat.le_of_ble_eq_true rfl)
  rw [lg_entry_eq]
  generalize (lg_sl ([.ref h0, .int (nI k), .int (nI kx)]) ++ List.replicate (3 - (lg_sl ([.ref h0, .int (nI k), .int (nI kx)])).length) Slot.unset).toArray = ls at hl ⊢
  have hl : lv_has ls 3 [(0, .ref h0), (1, .int (nI k)), (2, .int (nI kx))] := hl
  obtain ⟨h1, hcn, h4, hn1, hn2, ⟨ka, kb, hka, hkb, h6, h7⟩, hKy, hBk, hHs, hSt⟩ := id hT
  have hbl : (ka * kx + kb) % 2147483647 % nb < nb := Nat.mod_lt _ (by omega)
  obtain ⟨hq1, rf, hrf, hq2, hq3⟩ := hHs _ hbl
  refine lv_aload_n hx hb dX11_readsFor_0 rfl (lv_at hl 0 rfl) ?_
  refine lv_iload_n hx hb dX11_readsFor_1 rfl (lv_at hl 1 rfl) ?_
  refine lv_bipush (v := 8) hx hb dX11_readsFor_2 (by decide) ?_
  refine lv_lconst (v := 1) hx hb dX11_readsFor_4 (by decide) ?_
  refine lv_aload_n hx hb dX11_readsFor_5 rfl (lv_at hl 0 rfl) ?_
  refine lv_iload_n hx hb dX11_readsFor_6 rfl (lv_at hl 1 rfl) ?_
  refine lv_aload_n hx hb dX11_readsFor_7 rfl (lv_at hl 0 rfl) ?_
  refine lv_iload_n hx hb dX11_readsFor_8 rfl (lv_at hl 1 rfl) ?_
  refine lv_iload_n hx hb dX11_readsFor_9 rfl (lv_at hl 2 rfl) ?_
  have hPc := hP.sub (ws' := [(h0, .inr (11, gM a i g)), (a 3, .inl (cm 3, 85, .inr (.inl fn)))]) [0, 1] rfl
  have hKc := hK.sub (tys' := [(cm 3, .long)]) [0] rfl
  have hFc := va_free0 hS hA
  refine va_calli (va_runV (As := [.int (nI k), .int (nI kx)]) (rest := [.int (nI k), .ref h0, .long 1, .int 8, .int (nI k), .ref h0]) ⟨hx, hb, hml, hown, hts⟩ (c_bucketOf l D _ h0 a cm i g fn k kx ka kb nb (by first | assumption | omega) (by first | assumption | omega | exact hKl _ (by omega)) h6 h7 h4 (by first | assumption | omega) (by first | assumption | omega) (by first | assumption | omega) (by first | assumption | omega)) (cwV 2 hts g_c_readsFor_c_bucketOf_155 rfl rfl rfl (by decide +kernel) ⟨(Nat.le_of_ble_eq_true rfl), (Nat.le_of_ble_eq_true rfl)⟩) (PcR_V (q0 := 0) hPc hKc rfl rfl) rfl rfl hl.1 rfl (lv_room (Nat.le_of_ble_eq_true rfl)) dX11_readsFor_10 ⟨(Nat.le_of_ble_eq_true rfl), (Nat.le_of_ble_eq_true rfl)⟩) hS (fun q _ h => hFc q h) hFc (fun r1 uu tt H locs htt hvm hw hB hz1 hk1 hS => ?_)
  have hP := va_keep hP hk1
  try dsimp only at hw
  clear hB hz1 hk1 hFc hPc hKc
  obtain rfl : r1 = nI ((ka * kx + kb) % 2147483647 % nb) := hw
  have hPc := hP.sub (ws' := [(h0, .inr (11, gM a i g)), (a 8, .inl (cm 8, 10240, .inl ff))]) [0, 4] rfl
  have hKc := hK.sub (tys' := [(cm 8, .int)]) [3] rfl
  have hFc := va_free0 hS hA
  refine va_calli (va_runV (As := [.int (nI k), .int (nI ((ka * kx + kb) % 2147483647 % nb))]) (rest := [.long 1, .int 8, .int (nI k), .ref h0]) ⟨hx, hb, hml, hown, hts⟩ (c_roomsOf l D _ h0 a cm i g ff k ((ka * kx + kb) % 2147483647 % nb) rf (by first | assumption | omega) (by first | assumption | omega) hrf) (cwV 2 hts g_c_readsFor_c_roomsOf_137 rfl rfl rfl (by decide +kernel) ⟨(Nat.le_of_ble_eq_true rfl), (Nat.le_of_ble_eq_true rfl)⟩) (PcR_V (q0 := 0) hPc hKc rfl rfl) rfl rfl hl.1 rfl (lv_room (Nat.le_of_ble_eq_true rfl)) dX11_readsFor_13 ⟨(Nat.le_of_ble_eq_true rfl), (Nat.le_of_ble_eq_true rfl)⟩) hS (fun q _ h => hFc q h) hFc (fun r2 uu tt H locs htt hvm hw hB hz1 hk1 hS => ?_)
  have hP := va_keep hP hk1
  try dsimp only at hw
  clear hB hz1 hk1 hFc hPc hKc
  obtain rfl : r2 = nI (rf * rf) := hw
  refine lv_if_le (tgt := 23) hx hb dX11_readsFor_16 (by decide) (fun hc3 => ?_) (fun hc3 => ?_)
  ·
    refine lv_iconst (v := 0) hx hb dX11_readsFor_23 (by decide) ?_
    have hPc := hP.sub (ws' := []) [] rfl
    have hKc := hK.sub (tys' := []) [] rfl
    have hFc := va_free0 hS hA
    refine va_calli (va_runS (As := [.int 0]) (rest := [.long 1, .int 8, .int (nI k), .ref h0]) ⟨hx, hb, hml, hown, hts⟩ (c_flag l D _ 0) (va_cwS 1 hts g_c_readsFor_c_flag_198 rfl rfl rfl (by decide +kernel) ⟨(Nat.le_of_ble_eq_true rfl), (Nat.le_of_ble_eq_true rfl)⟩) (PcR_S hPc hKc) rfl rfl hl.1 rfl (lv_room (Nat.le_of_ble_eq_true rfl)) dX11_readsFor_24 ⟨(Nat.le_of_ble_eq_true rfl), (Nat.le_of_ble_eq_true rfl)⟩) hS (fun q _ h => hFc q h) hFc (fun r4 uu tt H locs htt hvm hw hB hz1 hk1 hS => ?_)
    have hP := va_keep hP hk1
    try dsimp only at hw
    clear hB hz1 hk1 hFc hPc hKc
    obtain rfl : r4 = 0 := hw.trans (by decide)
    refine lv_i2l (v := 0) hx hb dX11_readsFor_27 (by decide) ?_
    refine lv_ladd hx hb dX11_readsFor_28 ?_
    refine lv_topl (fun v5 ev5 => ?_)
    obtain rfl : v5 = 1 := ev5.trans (by decide)
    have hPc := hP.sub (ws' := [(h0, .inr (11, gM a i g)), (a 3, .inl (cm 3, 85, .inr (.inl fn)))]) [0, 1] rfl
    have hKc := hK.sub (tys' := [(cm 3, .long)]) [0] rfl
    have hDc := hD.sub (ws' := [(h0, .inr (11, gM a i g)), (a 3, .inl (cm 3, 85, .inr (.inl fn)))]) [0, 1] (by decide) rfl
    have hFc := va_free (wc := [(h0, .inr (11, gM a i g)), (a 3, .inl (cm 3, 85, .inr (.inl fn)))]) hD hS hA [0, 1] rfl
    refine va_callv (va_runV (As := [.int (nI k), .int (nI 8), .long 1]) (rest := []) ⟨hx, hb, hml, hown, hts⟩ (c_adds l D _ h0 a cm i g fn k 8 1 (by first | assumption | omega) (by first | assumption | omega)) (cwV 3 hts g_c_readsFor_c_adds_130 rfl rfl rfl (by decide +kernel) ⟨(Nat.le_of_ble_eq_true rfl), (Nat.le_of_ble_eq_true rfl)⟩) (PcW_V (q0 := 0) hPc hKc hDc rfl rfl) rfl rfl hl.1 rfl (lv_room (Nat.le_of_ble_eq_true rfl)) dX11_readsFor_29 ⟨(Nat.le_of_ble_eq_true rfl), (Nat.le_of_ble_eq_true rfl)⟩) hS (fun q _ h => hFc q h) hFc (fun uu tt H locs htt hvm hw hB hz1 hk1 hS => ?_)
    obtain ⟨w7, rfl⟩ : ∃ z, z = uu := ⟨_, rfl⟩
    obtain ⟨hP1, hK1, hD1⟩ := hB
    rw [htt] at hP1
    have hK1 := va_K.moved hvm.symm hK1
    have hP1 : va_P D vwCl [(h0, .inr (11, gM a i g)), (a 3, .inl (cm 3, 85, .inr (.inl w7)))] H := hP1
    obtain ⟨hP, hD⟩ := va_join (wr := [(a 4, .inl (cm 4, 800, .inl fk)), (a 6, .inl (cm 6, 800, .inl fb)), (a 8, .inl (cm 8, 10240, .inl ff)), (a 9, .inl (cm 9, 10240, .inl fh))]) (w1 := [(h0, .inr (11, gM a i g)), (a 3, .inl (cm 3, 85, .inr (.inl w7)))]) hP hD [0, 1] [2, 3, 4, 5] rfl rfl (by decide) (by decide) hk1 hFc hP1 hD1
    have hP : va_P D vwCl [(a 4, .inl (cm 4, 800, .inl fk)), (a 6, .inl (cm 6, 800, .inl fb)), (a 8, .inl (cm 8, 10240, .inl ff)), (a 9, .inl (cm 9, 10240, .inl fh)), (h0, .inr (11, gM a i g)), (a 3, .inl (cm 3, 85, .inr (.inl w7)))] H := hP
    have hD : va_D A [(a 4, .inl (cm 4, 800, .inl fk)), (a 6, .inl (cm 6, 800, .inl fb)), (a 8, .inl (cm 8, 10240, .inl ff)), (a 9, .inl (cm 9, 10240, .inl fh)), (h0, .inr (11, gM a i g)), (a 3, .inl (cm 3, 85, .inr (.inl w7)))] := hD
    try dsimp only at hw
    clear hz1 hk1 hFc hPc hKc hDc
    have hL8 := hw
    exact W.vret hx hb hr (fun t ht hW => ⟨⟨w7, rfl, hL8.2, by rw [ht]; exact hP.sub [4, 5, 0, 1, 2, 3] rfl, va_K.moved hW.alike (hK.sub [0, 1, 2, 3, 4] rfl), hD.sub [4, 5, 0, 1, 2, 3] (by decide) rfl⟩, hS.F ht⟩) hS.2.2 dX11_readsFor_32
  ·
    refine lv_iconst (v := 1) hx hb dX11_readsFor_19 (by decide) ?_
    refine lv_goto (tgt := 24) hx hb dX11_readsFor_20 (by decide) ?_
    have hPc := hP.sub (ws' := []) [] rfl
    have hKc := hK.sub (tys' := []) [] rfl
    have hFc := va_free0 hS hA
    refine va_calli (va_runS (As := [.int 1]) (rest := [.long 1, .int 8, .int (nI k), .ref h0]) ⟨hx, hb, hml, hown, hts⟩ (c_flag l D _ 1) (va_cwS 1 hts g_c_readsFor_c_flag_198 rfl rfl rfl (by decide +kernel) ⟨(Nat.le_of_ble_eq_true rfl), (Nat.le_of_ble_eq_true rfl)⟩) (PcR_S hPc hKc) rfl rfl hl.1 rfl (lv_room (Nat.le_of_ble_eq_true rfl)) dX11_readsFor_24 ⟨(Nat.le_of_ble_eq_true rfl), (Nat.le_of_ble_eq_true rfl)⟩) hS (fun q _ h => hFc q h) hFc (fun r9 uu tt H locs htt hvm hw hB hz1 hk1 hS => ?_)
    have hP := va_keep hP hk1
    try dsimp only at hw
    clear hB hz1 hk1 hFc hPc hKc
    obtain rfl : r9 = 1 := hw.trans (by decide)
    refine lv_i2l (v := 1) hx hb dX11_readsFor_27 (by decide) ?_
    refine lv_ladd hx hb dX11_readsFor_28 ?_
    refine lv_topl (fun v10 ev10 => ?_)
    obtain rfl : v10 = 2 := ev10.trans (by decide)
    have hPc := hP.sub (ws' := [(h0, .inr (11, gM a i g)), (a 3, .inl (cm 3, 85, .inr (.inl fn)))]) [0, 1] rfl
    have hKc := hK.sub (tys' := [(cm 3, .long)]) [0] rfl
    have hDc := hD.sub (ws' := [(h0, .inr (11, gM a i g)), (a 3, .inl (cm 3, 85, .inr (.inl fn)))]) [0, 1] (by decide) rfl
    have hFc := va_free (wc := [(h0, .inr (11, gM a i g)), (a 3, .inl (cm 3, 85, .inr (.inl fn)))]) hD hS hA [0, 1] rfl
    refine va_callv (va_runV (As := [.int (nI k), .int (nI 8), .long 2]) (rest := []) ⟨hx, hb, hml, hown, hts⟩ (c_adds l D _ h0 a cm i g fn k 8 2 (by first | assumption | omega) (by first | assumption | omega)) (cwV 3 hts g_c_readsFor_c_adds_130 rfl rfl rfl (by decide +kernel) ⟨(Nat.le_of_ble_eq_true rfl), (Nat.le_of_ble_eq_true rfl)⟩) (PcW_V (q0 := 0) hPc hKc hDc rfl rfl) rfl rfl hl.1 rfl (lv_room (Nat.le_of_ble_eq_true rfl)) dX11_readsFor_29 ⟨(Nat.le_of_ble_eq_true rfl), (Nat.le_of_ble_eq_true rfl)⟩) hS (fun q _ h => hFc q h) hFc (fun uu tt H locs htt hvm hw hB hz1 hk1 hS => ?_)
    obtain ⟨w12, rfl⟩ : ∃ z, z = uu := ⟨_, rfl⟩
    obtain ⟨hP1, hK1, hD1⟩ := hB
    rw [htt] at hP1
    have hK1 := va_K.moved hvm.symm hK1
    have hP1 : va_P D vwCl [(h0, .inr (11, gM a i g)), (a 3, .inl (cm 3, 85, .inr (.inl w12)))] H := hP1
    obtain ⟨hP, hD⟩ := va_join (wr := [(a 4, .inl (cm 4, 800, .inl fk)), (a 6, .inl (cm 6, 800, .inl fb)), (a 8, .inl (cm 8, 10240, .inl ff)), (a 9, .inl (cm 9, 10240, .inl fh))]) (w1 := [(h0, .inr (11, gM a i g)), (a 3, .inl (cm 3, 85, .inr (.inl w12)))]) hP hD [0, 1] [2, 3, 4, 5] rfl rfl (by decide) (by decide) hk1 hFc hP1 hD1
    have hP : va_P D vwCl [(a 4, .inl (cm 4, 800, .inl fk)), (a 6, .inl (cm 6, 800, .inl fb)), (a 8, .inl (cm 8, 10240, .inl ff)), (a 9, .inl (cm 9, 10240, .inl fh)), (h0, .inr (11, gM a i g)), (a 3, .inl (cm 3, 85, .inr (.inl w12)))] H := hP
    have hD : va_D A [(a 4, .inl (cm 4, 800, .inl fk)), (a 6, .inl (cm 6, 800, .inl fb)), (a 8, .inl (cm 8, 10240, .inl ff)), (a 9, .inl (cm 9, 10240, .inl fh)), (h0, .inr (11, gM a i g)), (a 3, .inl (cm 3, 85, .inr (.inl w12)))] := hD
    try dsimp only at hw
    clear hz1 hk1 hFc hPc hKc hDc
    have hL13 := hw
    exact W.vret hx hb hr (fun t ht hW => ⟨⟨w12, rfl, hL13.2, by rw [ht]; exact hP.sub [4, 5, 0, 1, 2, 3] rfl, va_K.moved hW.alike (hK.sub [0, 1, 2, 3, 4] rfl), hD.sub [4, 5, 0, 1, 2, 3] (by decide) rfl⟩, hS.F ht⟩) hS.2.2 dX11_readsFor_32

