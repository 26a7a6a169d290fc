theorem dX11_opens_0 : decode cX11_opens 0 = .ok (.aload_n 0, 1) := by decide +kernel
theorem dX11_opens_1 : decode cX11_opens 1 = .ok (.bipush 91, 2) := by decide +kernel
theorem dX11_opens_3 : decode cX11_opens 3 = .ok (.invokevirtual 363, 3) := by decide +kernel
theorem dX11_opens_6 : decode cX11_opens 6 = .ok (.aload_n 0, 1) := by decide +kernel
theorem dX11_opens_7 : decode cX11_opens 7 = .ok (.invokevirtual 313, 3) := by decide +kernel
theorem dX11_opens_10 : decode cX11_opens 10 = .ok (.ifCond .ne 4, 3) := by decide +kernel
theorem dX11_opens_13 : decode cX11_opens 13 = .ok (.return_, 1) := by decide +kernel
theorem dX11_opens_14 : decode cX11_opens 14 = .ok (.aload_n 0, 1) := by decide +kernel
theorem dX11_opens_15 : decode cX11_opens 15 = .ok (.getfield 48, 3) := by decide +kernel
theorem dX11_opens_18 : decode cX11_opens 18 = .ok (.aload_n 0, 1) := by decide +kernel
theorem dX11_opens_19 : decode cX11_opens 19 = .ok (.getfield 286, 3) := by decide +kernel
theorem dX11_opens_22 : decode cX11_opens 22 = .ok (.aload_n 0, 1) := by decide +kernel
theorem dX11_opens_23 : decode cX11_opens 23 = .ok (.getfield 335, 3) := by decide +kernel
theorem dX11_opens_26 : decode cX11_opens 26 = .ok (.iastore, 1) := by decide +kernel
theorem dX11_opens_27 : decode cX11_opens 27 = .ok (.aload_n 0, 1) := by decide +kernel
theorem dX11_opens_28 : decode cX11_opens 28 = .ok (.dup, 1) := by decide +kernel
theorem dX11_opens_29 : decode cX11_opens 29 = .ok (.getfield 286, 3) := by decide +kernel
theorem dX11_opens_32 : decode cX11_opens 32 = .ok (.iconst 1, 1) := by decide +kernel
theorem dX11_opens_33 : decode cX11_opens 33 = .ok (.iadd, 1) := by decide +kernel
theorem dX11_opens_34 : decode cX11_opens 34 = .ok (.putfield 286, 3) := by decide +kernel
theorem dX11_opens_37 : decode cX11_opens 37 = .ok (.aload_n 0, 1) := by decide +kernel
theorem dX11_opens_38 : decode cX11_opens 38 = .ok (.iload_n 1, 1) := by decide +kernel
theorem dX11_opens_39 : decode cX11_opens 39 = .ok (.iload_n 2, 1) := by decide +kernel
theorem dX11_opens_40 : decode cX11_opens 40 = .ok (.invokevirtual 344, 3) := by decide +kernel
theorem dX11_opens_43 : decode cX11_opens 43 = .ok (.aload_n 0, 1) := by decide +kernel
theorem dX11_opens_44 : decode cX11_opens 44 = .ok (.iconst 0, 1) := by decide +kernel
theorem dX11_opens_45 : decode cX11_opens 45 = .ok (.iconst 0, 1) := by decide +kernel
theorem dX11_opens_46 : decode cX11_opens 46 = .ok (.invokevirtual 344, 3) := by decide +kernel
theorem dX11_opens_49 : decode cX11_opens 49 = .ok (.return_, 1) := by decide +kernel
def own_c_opens : List Cond := [.methodLink RX11 363 yX11_needsSign, .instanceMethod yX11_needsSign, .selects RX11 yX11_needsSign yX11_needsSign, .initialized RX11, .methodLink RX11 313 yX11_isFine, .instanceMethod yX11_isFine, .selects RX11 yX11_isFine yX11_isFine, .fieldLink RX11 48 "ClashFreeModel" "openAt" "[I", .fieldLink RX11 286 "ClashFreeModel" "blocks" "I", .fieldLink RX11 335 "ClashFreeModel" "coded" "I", .methodLink RX11 344 yX11_emits, .instanceMethod yX11_emits, .selects RX11 yX11_emits yX11_emits]
def wp_c_opens : List Cond := .code yX11_opens cX11_opens 3 none :: (own_c_opens ++ (wp_c_needsSign ++ (wp_c_isFine ++ (wp_c_emits ++ (wsX110 ++ ([] : List Cond))))))
set_option maxRecDepth 20000 in
theorem inown_c_opens : ∀ w ∈ own_c_opens, w ∈ lw_tbl := mem_places [1689, 1691, 79, 115, 1669, 1671, 74, 1244, 1243, 1236, 1685, 1687, 78] (by decide +kernel)
set_option maxRecDepth 20000 in
theorem in_c_opens : ∀ w ∈ wp_c_opens, w ∈ lw_tbl := List.forall_mem_cons.mpr ⟨List.mem_of_getElem? (i := 1750) (by decide +kernel), List.forall_mem_append.mpr ⟨inown_c_opens, List.forall_mem_append.mpr ⟨in_c_needsSign, List.forall_mem_append.mpr ⟨in_c_isFine, List.forall_mem_append.mpr ⟨in_c_emits, List.forall_mem_append.mpr ⟨lwb_X11, fun _ h => absurd h List.not_mem_nil⟩⟩⟩⟩⟩⟩
set_option maxRecDepth 20000 in
theorem good_c_opens : wp_c_opens.all goodWord = true := by decide +kernel
set_option maxRecDepth 20000 in
theorem g_c_opens_c_needsSign_363 : GoodIn wp_c_opens (wsV RX11 363 RX11 yX11_needsSign wp_c_needsSign) := goodIn_sub (List.forall_mem_append.mpr ⟨List.forall_mem_cons.mpr ⟨(List.mem_of_getElem? (i := 1) rfl), List.forall_mem_cons.mpr ⟨(List.mem_of_getElem? (i := 2) rfl), List.forall_mem_cons.mpr ⟨(List.mem_of_getElem? (i := 3) rfl), List.forall_mem_cons.mpr ⟨(List.mem_of_getElem? (i := 4) rfl), fun _ h => absurd h List.not_mem_nil⟩⟩⟩⟩, (fun _ h => (List.mem_cons_of_mem _ (List.mem_append_right _ (List.mem_append_left _ h))))⟩) (by decide +kernel)
set_option maxRecDepth 20000 in
theorem g_c_opens_c_isFine_313 : GoodIn wp_c_opens (wsV RX11 313 RX11 yX11_isFine wp_c_isFine) := goodIn_sub (List.forall_mem_append.mpr ⟨List.forall_mem_cons.mpr ⟨(List.mem_of_getElem? (i := 5) rfl), List.forall_mem_cons.mpr ⟨(List.mem_of_getElem? (i := 6) rfl), List.forall_mem_cons.mpr ⟨(List.mem_of_getElem? (i := 7) rfl), List.forall_mem_cons.mpr ⟨(List.mem_of_getElem? (i := 4) rfl), fun _ h => absurd h List.not_mem_nil⟩⟩⟩⟩, (fun _ h => (List.mem_cons_of_mem _ (List.mem_append_right _ (List.mem_append_right _ (List.mem_append_left _ h)))))⟩) (by decide +kernel)
set_option maxRecDepth 20000 in
theorem g_c_opens_c_emits_344 : GoodIn wp_c_opens (wsV RX11 344 RX11 yX11_emits wp_c_emits) := goodIn_sub (List.forall_mem_append.mpr ⟨List.forall_mem_cons.mpr ⟨(List.mem_of_getElem? (i := 11) rfl), List.forall_mem_cons.mpr ⟨(List.mem_of_getElem? (i := 12) rfl), List.forall_mem_cons.mpr ⟨(List.mem_of_getElem? (i := 13) rfl), List.forall_mem_cons.mpr ⟨(List.mem_of_getElem? (i := 4) rfl), fun _ h => absurd h List.not_mem_nil⟩⟩⟩⟩, (fun _ h => (List.mem_cons_of_mem _ (List.mem_append_right _ (List.mem_append_right _ (List.mem_append_right _ (List.mem_append_left _ h))))))⟩) (by decide +kernel)
set_option maxHeartbeats 4000000 in
set_option maxRecDepth 100000 in
theorem c_opens (l : Launch) (D : va_G) (sz : Nat) (h0 : Nat) (a : Nat → Nat) (cm : Nat → ClassId) (i : Nat → Int32) (g : Nat → Int64) (fT : Nat → Int32) (fc : Nat → Int32) (fo : Nat → Int32) (cd : Nat) (zs : Nat) (ta : Nat) (en : Int32) (bd : Int32) (bp : Int32) (bq : Int32) (bk : Nat) (pl : Nat) (br : Int32) (x : Nat) (z2 : Int32) (bt : Nat → Nat) (vz : Option (SM × RC)) (hx4 : x = 4 ∨ x = 5) (hz6 : zs ≤ 600) (hta : ta ≤ zs) (hcp : cd + 1 ≤ ta) (hb5 : bk ≤ 5) (hWq : bd = 0 → bk ≤ 4 ∧ PSt fc fo cd bk (x - 4)) (hbt : TieB fT bt) (hV : bd = 0 → (x = 4 ∧ ∃ zv, FR bt zs vz zv cd fc bk fo ta en ∧ z2 = nI zv) ∨ (x = 5 ∧ SR bt zs vz 9 cd fc bk fo ta en ∧ z2 = 0)) (hVn : ¬ bd = 0 → vz = none) : Met l yX11_opens wp_c_opens ({ frames := 3, cells := 0, slots := 0, locals := 63 }) (PcW D [.ref h0, .int (nI x), .int z2] sz [(h0, .inr (11, gP a i g (nI cd) (nI zs) (nI ta) en bd bp bq (nI bk) (nI pl) br)), (a 1, .inl (cm 1, 1400, .inl fT)), (a 19, .inl (cm 19, 2000, .inl fc)), (a 28, .inl (cm 28, 6, .inl fo))] [(cm 1, .byte), (cm 19, .int), (cm 28, .int)]) (va_Qv (fun (u : (Nat → Int32) × (Nat → Int32) × (Nat) × (Nat) × (Int32) × (Int32) × (Int32) × (Nat)) => u.2.2.1 ≤ u.2.2.2.1 ∧ ta ≤ u.2.2.2.1 ∧ u.2.2.2.1 ≤ zs ∧ u.2.2.2.2.2.2.2 ≤ 5 ∧ (u.2.2.2.2.1 = 0 → bd = 0 ∧ ta + 1 ≤ u.2.2.2.1 ∧ PSt u.1 u.2.1 u.2.2.1 u.2.2.2.2.2.2.2 0) ∧ (u.2.2.2.2.1 = 0 → TR bt zs vz 0 0 u.2.2.1 u.1 u.2.2.2.2.2.2.2 u.2.1 u.2.2.2.1 en) ∧ (¬ u.2.2.2.2.1 = 0 → vz = none)) (fun (u : (Nat → Int32) × (Nat → Int32) × (Nat) × (Nat) × (Int32) × (Int32) × (Int32) × (Nat)) t => va_P D vwCl [(h0, .inr (11, gP a i g (nI u.2.2.1) (nI zs) (nI u.2.2.2.1) en u.2.2.2.2.1 u.2.2.2.2.2.1 u.2.2.2.2.2.2.1 (nI u.2.2.2.2.2.2.2) (nI pl) br)), (a 1, .inl (cm 1, 1400, .inl fT)), (a 19, .inl (cm 19, 2000, .inl u.1)), (a 28, .inl (cm 28, 6, .inl u.2.1))] t.heap ∧ va_K D vwCl [(cm 1, .byte), (cm 19, .int), (cm 28, .int)] t ∧ va_D (va_A [(h0, .inr (11, gP a i g (nI cd) (nI zs) (nI ta) en bd bp bq (nI bk) (nI pl) br)), (a 1, .inl (cm 1, 1400, .inl fT)), (a 19, .inl (cm 19, 2000, .inl fc)), (a 28, .inl (cm 28, 6, .inl fo))] sz) [(h0, .inr (11, gP a i g (nI u.2.2.1) (nI zs) (nI u.2.2.2.1) en u.2.2.2.2.1 u.2.2.2.2.2.1 u.2.2.2.2.2.2.1 (nI u.2.2.2.2.2.2.2) (nI pl) br)), (a 1, .inl (cm 1, 1400, .inl fT)), (a 19, .inl (cm 19, 2000, .inl u.1)), (a 28, .inl (cm 28, 6, .inl u.2.1))]) (va_A [(h0, .inr (11, gP a i g (nI cd) (nI zs) (nI ta) en bd bp bq (nI bk) (nI pl) br)), (a 1, .inl (cm 1, 1400, .inl fT)), (a 19, .inl (cm 19, 2000, .inl fc)), (a 28, .inl (cm 28, 6, .inl fo))] sz)) 0 0 (va_A [(h0, .inr (11, gP a i g (nI cd) (nI zs) (nI ta) en bd bp bq (nI bk) (nI pl) br)), (a 1, .inl (cm 1, 1400, .inl fT)), (a 19, .inl (cm 19, 2000, .inl fc)), (a 28, .inl (cm 28, 6, .inl fo))] sz) := by
  refine Met.ofW (cc := cX11_opens) (maxL := 3) (ret := none) (by decide) rfl ?_
  intro p e s m args below meth c s₁ B hml hv
  obtain ⟨rfl, hsz, hP, hK, hD0⟩ := hv
  have hx := B.exec
  have hb := B.bytes
  have hr := B.returns
  have hts := atoms_spec (ws := wp_c_opens) B.pre
  have hin_X11 : ∀ w ∈ wsX110, w ∈ wp_c_opens := fun _ h => (List.mem_cons_of_mem _ (List.mem_append_right _ (List.mem_append_right _ (List.mem_append_right _ (List.mem_append_right _ (List.mem_append_left _ h))))))
  have hown : s.vm.findClass RX11 = some m.cls := findClass_of_methodNamed B.named
  have hlocks := B.notSynchronized
  subst hsz
  have hD := hD0.self (sz := s.heap.size)
  generalize hAe : va_A [(h0, .inr (11, gP a i g (nI cd) (nI zs) (nI ta) en bd bp bq (nI bk) (nI pl) br)), (a 1, .inl (cm 1, 1400, .inl fT)), (a 19, .inl (cm 19, 2000, .inl fc)), (a 28, .inl (cm 28, 6, .inl fo))] s.heap.size = A at hD ⊢
  have hA : ∀ q : Nat, s.heap.size ≤ q → A q := fun q h => by rw [← hAe]; exact Or.inr h
  have hS : va_S A s.heap s.heap [] := va_S.rf
  have hP : va_P D vwCl [(h0, .inr (11, gP a i g (nI cd) (nI zs) (nI ta) en bd bp bq (nI bk) (nI pl) br)), (a 1, .inl (cm 1, 1400, .inl fT)), (a 19, .inl (cm 19, 2000, .inl fc)), (a 28, .inl (cm 28, 6, .inl fo))] s.heap := hP
  have hl := lv_entry ([.ref h0, .int (nI x), .int z2]) (n := 3) (Nat.le_of_ble_eq_true rfl)
  rw [lg_entry_eq]
  generalize (lg_sl ([.ref h0, .int (nI x), .int z2]) ++ List.replicate (3 - (lg_sl ([.ref h0, .int (nI x), .int z2])).length) Slot.unset).toArray = ls at hl ⊢
  have hl : lv_has ls 3 [(0, .ref h0), (1, .int (nI x)), (2, .int z2)] := hl
  have hzs : zs ≤ 1400 := by omega
  refine lv_aload_n hx hb dX11_opens_0 rfl (lv_at hl 0 rfl) ?_
  refine lv_bipush (v := 91) hx hb dX11_opens_1 (by decide) ?_
  have hPc := hP.sub (ws' := [(h0, .inr (11, gP a i g (nI cd) (nI zs) (nI ta) en bd bp bq (nI bk) (nI pl) br)), (a 1, .inl (cm 1, 1400, .inl fT))]) [0, 1] rfl
  have hKc := hK.sub (tys' := [(cm 1, .byte)]) [0] rfl
  have hDc := hD.sub (ws' := [(h0, .inr (11, gP a i g (nI cd) (nI zs) (nI ta) en bd bp bq (nI bk) (nI pl) br)), (a 1, .inl (cm 1, 1400, .inl fT))]) [0, 1] (by decide) rfl
  have hFc := va_free (wc := [(h0, .inr (11, gP a i g (nI cd) (nI zs) (nI ta) en bd bp bq (nI bk) (nI pl) br)), (a 1, .inl (cm 1, 1400, .inl fT))]) hD hS hA [0, 1] rfl
  refine va_callv (va_runV (As := [.int 91]) (rest := []) ⟨hx, hb, hml, hown, hts⟩ (c_needsSign l D _ h0 a cm i g fT cd zs ta en bd bp bq bk pl br 91 91 bt (by omega) (by omega) hbt rfl (by decide)) (cwV 1 hts g_c_opens_c_needsSign_363 rfl rfl rfl (by decide +kernel) ⟨(Nat.le_of_ble_eq_true rfl), (Nat.le_of_ble_eq_true rfl)⟩) (PcW_V (q0 := 0) hPc hKc hDc rfl rfl) rfl rfl hl.1 rfl (lv_room (Nat.le_of_ble_eq_true rfl)) dX11_opens_3 ⟨(Nat.le_of_ble_eq_true rfl), (Nat.le_of_ble_eq_true rfl)⟩) hS (fun q _ h => hFc q h) hFc (fun uu tt H locs htt hvm hw hB hz1 hk1 hS => ?_)
  obtain ⟨w2, w3, w4, w5⟩ := uu
  obtain ⟨hP1, hK1, hD1⟩ := hB
  rw [htt] at hP1
  have hK1 := va_K.moved hvm.symm hK1
  have hP1 : va_P D vwCl [(h0, .inr (11, gP a i g (nI cd) (nI zs) (nI w2) en w3 w4 w5 (nI bk) (nI pl) br)), (a 1, .inl (cm 1, 1400, .inl fT))] H := hP1
  obtain ⟨hP, hD⟩ := va_join (wr := [(a 19, .inl (cm 19, 2000, .inl fc)), (a 28, .inl (cm 28, 6, .inl fo))]) (w1 := [(h0, .inr (11, gP a i g (nI cd) (nI zs) (nI w2) en w3 w4 w5 (nI bk) (nI pl) br)), (a 1, .inl (cm 1, 1400, .inl fT))]) hP hD [0, 1] [2, 3] rfl rfl (by decide) (by decide) hk1 hFc hP1 hD1
  have hP : va_P D vwCl [(a 19, .inl (cm 19, 2000, .inl fc)), (a 28, .inl (cm 28, 6, .inl fo)), (h0, .inr (11, gP a i g (nI cd) (nI zs) (nI w2) en w3 w4 w5 (nI bk) (nI pl) br)), (a 1, .inl (cm 1, 1400, .inl fT))] H := hP
  have hD : va_D A [(a 19, .inl (cm 19, 2000, .inl fc)), (a 28, .inl (cm 28, 6, .inl fo)), (h0, .inr (11, gP a i g (nI cd) (nI zs) (nI w2) en w3 w4 w5 (nI bk) (nI pl) br)), (a 1, .inl (cm 1, 1400, .inl fT))] := hD
  try dsimp only at hw
  clear hz1 hk1 hFc hPc hKc hDc
  obtain ⟨hb6_1, hb6_2, hb6_b, hb6_s, hb6_n⟩ := hw
  refine lv_aload_n hx hb dX11_opens_6 rfl (lv_at hl 0 rfl) ?_
  have hPc := hP.sub (ws' := [(h0, .inr (11, gP a i g (nI cd) (nI zs) (nI w2) en w3 w4 w5 (nI bk) (nI pl) br))]) [2] rfl
  have hKc := hK.sub (tys' := []) [] rfl
  have hFc := va_free0 hS hA
  refine va_calli (va_runV (As := []) (rest := []) ⟨hx, hb, hml, hown, hts⟩ (c_isFine l D _ h0 a cm i g cd zs w2 en w3 w4 w5 bk pl br) (cwV 0 hts g_c_opens_c_isFine_313 rfl rfl rfl (by decide +kernel) ⟨(Nat.le_of_ble_eq_true rfl), (Nat.le_of_ble_eq_true rfl)⟩) (PcR_V (q0 := 0) hPc hKc rfl rfl) rfl rfl hl.1 rfl (lv_room (Nat.le_of_ble_eq_true rfl)) dX11_opens_7 ⟨(Nat.le_of_ble_eq_true rfl), (Nat.le_of_ble_eq_true rfl)⟩) hS (fun q _ h => hFc q h) hFc (fun r7 uu tt H locs htt hvm hw hB hz1 hk1 hS => ?_)
  have hP := va_keep hP hk1
  try dsimp only at hw
  clear hB hz1 hk1 hFc hPc hKc
  rcases hw with ⟨rfl, hA_r7⟩ | ⟨rfl, hA_r7⟩
  ·
    have hbk4 := (hWq (hb6_b hA_r7).1).1
    have htl := (hb6_b hA_r7).2
    refine lv_if_ne (tgt := 14) hx hb dX11_opens_10 (by decide) (fun hc => ?_) (fun hc => absurd hc (by decide))
    refine lv_aload_n hx hb dX11_opens_14 rfl (lv_at hl 0 rfl) ?_
    refine va_get (D := D) (ci := 11) (v := .ref (a 28)) (C := RX11) (T := TX11) (N := 47) hx hb hts hin_X11 hown hK hP 2 rfl rfl 28 (by decide) (hts (.fieldLink RX11 48 "ClashFreeModel" "openAt" "[I") (List.mem_of_getElem? (i := 8) rfl)) (fun _ h9 => h9) rfl dX11_opens_15 ?_
    refine lv_aload_n hx hb dX11_opens_18 rfl (lv_at hl 0 rfl) ?_
    refine va_get (D := D) (ci := 11) (v := .int (nI bk)) (C := RX11) (T := TX11) (N := 47) hx hb hts hin_X11 hown hK hP 2 rfl rfl 27 (by decide) (hts (.fieldLink RX11 286 "ClashFreeModel" "blocks" "I") (List.mem_of_getElem? (i := 9) rfl)) (fun _ h9 => h9) rfl dX11_opens_19 ?_
    refine lv_aload_n hx hb dX11_opens_22 rfl (lv_at hl 0 rfl) ?_
    refine va_get (D := D) (ci := 11) (v := .int (nI cd)) (C := RX11) (T := TX11) (N := 47) hx hb hts hin_X11 hown hK hP 2 rfl rfl 20 (by decide) (hts (.fieldLink RX11 335 "ClashFreeModel" "coded" "I") (List.mem_of_getElem? (i := 10) rfl)) (fun _ h9 => h9) rfl dX11_opens_23 ?_
    refine va_iast hx hb hK hP hD hS 1 2 rfl rfl (vp_in_nI (by omega) (by decide)) dX11_opens_26 (fun H locs hP hD hS => ?_)
    have hP : va_P D vwCl [(a 19, .inl (cm 19, 2000, .inl fc)), (a 28, .inl (cm 28, 6, .inl (upd fo (Int32.toNatClampNeg (nI bk)) (nI cd)))), (h0, .inr (11, gP a i g (nI cd) (nI zs) (nI w2) en w3 w4 w5 (nI bk) (nI pl) br)), (a 1, .inl (cm 1, 1400, .inl fT))] H := hP
    have hD : va_D A [(a 19, .inl (cm 19, 2000, .inl fc)), (a 28, .inl (cm 28, 6, .inl (upd fo (Int32.toNatClampNeg (nI bk)) (nI cd)))), (h0, .inr (11, gP a i g (nI cd) (nI zs) (nI w2) en w3 w4 w5 (nI bk) (nI pl) br)), (a 1, .inl (cm 1, 1400, .inl fT))] := hD
    rw [show (upd fo (Int32.toNatClampNeg (nI bk)) (nI cd)) = (upd fo bk (nI cd)) from by rw [nI_clamp (by omega)]] at hP hD
    refine lv_aload_n hx hb dX11_opens_27 rfl (lv_at hl 0 rfl) ?_
    refine lv_dup hx hb dX11_opens_28 rfl ?_
    refine va_get (D := D) (ci := 11) (v := .int (nI bk)) (C := RX11) (T := TX11) (N := 47) hx hb hts hin_X11 hown hK hP 2 rfl rfl 27 (by decide) (hts (.fieldLink RX11 286 "ClashFreeModel" "blocks" "I") (List.mem_of_getElem? (i := 9) rfl)) (fun _ h9 => h9) rfl dX11_opens_29 ?_
    refine lv_iconst (v := 1) hx hb dX11_opens_32 (by decide) ?_
    refine lv_iadd hx hb dX11_opens_33 ?_
    refine lv_topi (fun v8 ev8 => ?_)
    obtain rfl : v8 = nI (bk + 1) := ev8.trans (nI_1 _)
    refine va_put (D := D) (ci := 11) (v := .int (nI (bk + 1))) (ty := .int) (C := RX11) (T := TX11) (N := 47) hx hb hts hin_X11 tyX11 tyX11_ok nmX11 hown hK hP hD hS 2 rfl rfl 27 (by decide) (hts (.fieldLink RX11 286 "ClashFreeModel" "blocks" "I") (List.mem_of_getElem? (i := 9) rfl)) (fun _ h9 => h9) rfl (by decide +kernel) rfl rfl (Nat.le_of_ble_eq_true rfl) dX11_opens_34 (fun H locs hP hD hS => ?_)
    have hP : va_P D vwCl [(a 19, .inl (cm 19, 2000, .inl fc)), (a 28, .inl (cm 28, 6, .inl (upd fo bk (nI cd)))), (h0, .inr (11, gP a i g (nI cd) (nI zs) (nI w2) en w3 w4 w5 (nI (bk + 1)) (nI pl) br)), (a 1, .inl (cm 1, 1400, .inl fT))] H := hP
    have hD : va_D A [(a 19, .inl (cm 19, 2000, .inl fc)), (a 28, .inl (cm 28, 6, .inl (upd fo bk (nI cd)))), (h0, .inr (11, gP a i g (nI cd) (nI zs) (nI w2) en w3 w4 w5 (nI (bk + 1)) (nI pl) br)), (a 1, .inl (cm 1, 1400, .inl fT))] := hD
    refine lv_aload_n hx hb dX11_opens_37 rfl (lv_at hl 0 rfl) ?_
    refine lv_iload_n hx hb dX11_opens_38 rfl (lv_at hl 1 rfl) ?_
    refine lv_iload_n hx hb dX11_opens_39 rfl (lv_at hl 2 rfl) ?_
    have hPc := hP.sub (ws' := [(h0, .inr (11, gP a i g (nI cd) (nI zs) (nI w2) en w3 w4 w5 (nI (bk + 1)) (nI pl) br)), (a 19, .inl (cm 19, 2000, .inl fc))]) [2, 0] rfl
    have hKc := hK.sub (tys' := [(cm 19, .int)]) [1] rfl
    have hDc := hD.sub (ws' := [(h0, .inr (11, gP a i g (nI cd) (nI zs) (nI w2) en w3 w4 w5 (nI (bk + 1)) (nI pl) br)), (a 19, .inl (cm 19, 2000, .inl fc))]) [2, 0] (by decide) rfl
    have hFc := va_free (wc := [(h0, .inr (11, gP a i g (nI cd) (nI zs) (nI w2) en w3 w4 w5 (nI (bk + 1)) (nI pl) br)), (a 19, .inl (cm 19, 2000, .inl fc))]) hD hS hA [2, 0] rfl
    refine va_callv (va_runV (As := [.int (nI x), .int z2]) (rest := []) ⟨hx, hb, hml, hown, hts⟩ (c_emits l D _ h0 a cm i g fc cd zs w2 en w3 w4 w5 (bk + 1) pl br (nI x) z2 (by first | assumption | omega)) (cwV 2 hts g_c_opens_c_emits_344 rfl rfl rfl (by decide +kernel) ⟨(Nat.le_of_ble_eq_true rfl), (Nat.le_of_ble_eq_true rfl)⟩) (PcW_V (q0 := 0) hPc hKc hDc rfl rfl) rfl rfl hl.1 rfl (lv_room (Nat.le_of_ble_eq_true rfl)) dX11_opens_40 ⟨(Nat.le_of_ble_eq_true rfl), (Nat.le_of_ble_eq_true rfl)⟩) hS (fun q _ h => hFc q h) hFc (fun uu tt H locs htt hvm hw hB hz1 hk1 hS => ?_)
    obtain ⟨w10, w11⟩ := uu
    obtain ⟨hP1, hK1, hD1⟩ := hB
    rw [htt] at hP1
    have hK1 := va_K.moved hvm.symm hK1
    have hP1 : va_P D vwCl [(h0, .inr (11, gP a i g (nI w11) (nI zs) (nI w2) en w3 w4 w5 (nI (bk + 1)) (nI pl) br)), (a 19, .inl (cm 19, 2000, .inl w10))] H := hP1
    obtain ⟨hP, hD⟩ := va_join (wr := [(a 28, .inl (cm 28, 6, .inl (upd fo bk (nI cd)))), (a 1, .inl (cm 1, 1400, .inl fT))]) (w1 := [(h0, .inr (11, gP a i g (nI w11) (nI zs) (nI w2) en w3 w4 w5 (nI (bk + 1)) (nI pl) br)), (a 19, .inl (cm 19, 2000, .inl w10))]) hP hD [2, 0] [1, 3] rfl rfl (by decide) (by decide) hk1 hFc hP1 hD1
    have hP : va_P D vwCl [(a 28, .inl (cm 28, 6, .inl (upd fo bk (nI cd)))), (a 1, .inl (cm 1, 1400, .inl fT)), (h0, .inr (11, gP a i g (nI w11) (nI zs) (nI w2) en w3 w4 w5 (nI (bk + 1)) (nI pl) br)), (a 19, .inl (cm 19, 2000, .inl w10))] H := hP
    have hD : va_D A [(a 28, .inl (cm 28, 6, .inl (upd fo bk (nI cd)))), (a 1, .inl (cm 1, 1400, .inl fT)), (h0, .inr (11, gP a i g (nI w11) (nI zs) (nI w2) en w3 w4 w5 (nI (bk + 1)) (nI pl) br)), (a 19, .inl (cm 19, 2000, .inl w10))] := hD
    try dsimp only at hw
    clear hz1 hk1 hFc hPc hKc hDc
    obtain ⟨rfl, rfl⟩ := hw
    have hP : va_P D vwCl [(a 28, .inl (cm 28, 6, .inl (upd fo bk (nI cd)))), (a 1, .inl (cm 1, 1400, .inl fT)), (h0, .inr (11, gP a i g (nI (cd + 1)) (nI zs) (nI w2) en w3 w4 w5 (nI (bk + 1)) (nI pl) br)), (a 19, .inl (cm 19, 2000, .inl (upd (upd fc (2 * cd) (nI x)) (2 * cd + 1) z2)))] H := hP
    have hD : va_D A [(a 28, .inl (cm 28, 6, .inl (upd fo bk (nI cd)))), (a 1, .inl (cm 1, 1400, .inl fT)), (h0, .inr (11, gP a i g (nI (cd + 1)) (nI zs) (nI w2) en w3 w4 w5 (nI (bk + 1)) (nI pl) br)), (a 19, .inl (cm 19, 2000, .inl (upd (upd fc (2 * cd) (nI x)) (2 * cd + 1) z2)))] := hD
    refine lv_aload_n hx hb dX11_opens_43 rfl (lv_at hl 0 rfl) ?_
    refine lv_iconst (v := 0) hx hb dX11_opens_44 (by decide) ?_
    refine lv_iconst (v := 0) hx hb dX11_opens_45 (by decide) ?_
    have hPc := hP.sub (ws' := [(h0, .inr (11, gP a i g (nI (cd + 1)) (nI zs) (nI w2) en w3 w4 w5 (nI (bk + 1)) (nI pl) br)), (a 19, .inl (cm 19, 2000, .inl (upd (upd fc (2 * cd) (nI x)) (2 * cd + 1) z2)))]) [2, 3] rfl
    have hKc := hK.sub (tys' := [(cm 19, .int)]) [1] rfl
    have hDc := hD.sub (ws' := [(h0, .inr (11, gP a i g (nI (cd + 1)) (nI zs) (nI w2) en w3 w4 w5 (nI (bk + 1)) (nI pl) br)), (a 19, .inl (cm 19, 2000, .inl (upd (upd fc (2 * cd) (nI x)) (2 * cd + 1) z2)))]) [2, 3] (by decide) rfl
    have hFc := va_free (wc := [(h0, .inr (11, gP a i g (nI (cd + 1)) (nI zs) (nI w2) en w3 w4 w5 (nI (bk + 1)) (nI pl) br)), (a 19, .inl (cm 19, 2000, .inl (upd (upd fc (2 * cd) (nI x)) (2 * cd + 1) z2)))]) hD hS hA [2, 3] rfl
    refine va_callv (va_runV (As := [.int 0, .int 0]) (rest := []) ⟨hx, hb, hml, hown, hts⟩ (c_emits l D _ h0 a cm i g (upd (upd fc (2 * cd) (nI x)) (2 * cd + 1) z2) (cd + 1) zs w2 en w3 w4 w5 (bk + 1) pl br 0 0 (by first | assumption | omega)) (cwV 2 hts g_c_opens_c_emits_344 rfl rfl rfl (by decide +kernel) ⟨(Nat.le_of_ble_eq_true rfl), (Nat.le_of_ble_eq_true rfl)⟩) (PcW_V (q0 := 0) hPc hKc hDc rfl rfl) rfl rfl hl.1 rfl (lv_room (Nat.le_of_ble_eq_true rfl)) dX11_opens_46 ⟨(Nat.le_of_ble_eq_true rfl), (Nat.le_of_ble_eq_true rfl)⟩) hS (fun q _ h => hFc q h) hFc (fun uu tt H locs htt hvm hw hB hz1 hk1 hS => ?_)
    obtain ⟨w13, w14⟩ := uu
    obtain ⟨hP1, hK1, hD1⟩ := hB
    rw [htt] at hP1
    have hK1 := va_K.moved hvm.symm hK1
    have hP1 : va_P D vwCl [(h0, .inr (11, gP a i g (nI w14) (nI zs) (nI w2) en w3 w4 w5 (nI (bk + 1)) (nI pl) br)), (a 19, .inl (cm 19, 2000, .inl w13))] H := hP1
    obtain ⟨hP, hD⟩ := va_join (wr := [(a 28, .inl (cm 28, 6, .inl (upd fo bk (nI cd)))), (a 1, .inl (cm 1, 1400, .inl fT))]) (w1 := [(h0, .inr (11, gP a i g (nI w14) (nI zs) (nI w2) en w3 w4 w5 (nI (bk + 1)) (nI pl) br)), (a 19, .inl (cm 19, 2000, .inl w13))]) hP hD [2, 3] [0, 1] rfl rfl (by decide) (by decide) hk1 hFc hP1 hD1
    have hP : va_P D vwCl [(a 28, .inl (cm 28, 6, .inl (upd fo bk (nI cd)))), (a 1, .inl (cm 1, 1400, .inl fT)), (h0, .inr (11, gP a i g (nI w14) (nI zs) (nI w2) en w3 w4 w5 (nI (bk + 1)) (nI pl) br)), (a 19, .inl (cm 19, 2000, .inl w13))] H := hP
    have hD : va_D A [(a 28, .inl (cm 28, 6, .inl (upd fo bk (nI cd)))), (a 1, .inl (cm 1, 1400, .inl fT)), (h0, .inr (11, gP a i g (nI w14) (nI zs) (nI w2) en w3 w4 w5 (nI (bk + 1)) (nI pl) br)), (a 19, .inl (cm 19, 2000, .inl w13))] := hD
    try dsimp only at hw
    clear hz1 hk1 hFc hPc hKc hDc
    obtain ⟨rfl, rfl⟩ := hw
    have hP : va_P D vwCl [(a 28, .inl (cm 28, 6, .inl (upd fo bk (nI cd)))), (a 1, .inl (cm 1, 1400, .inl fT)), (h0, .inr (11, gP a i g (nI ((cd + 1) + 1)) (nI zs) (nI w2) en w3 w4 w5 (nI (bk + 1)) (nI pl) br)), (a 19, .inl (cm 19, 2000, .inl (upd (upd (upd (upd fc (2 * cd) (nI x)) (2 * cd + 1) z2) (2 * (cd + 1)) 0) (2 * (cd + 1) + 1) 0)))] H := hP
    have hD : va_D A [(a 28, .inl (cm 28, 6, .inl (upd fo bk (nI cd)))), (a 1, .inl (cm 1, 1400, .inl fT)), (h0, .inr (11, gP a i g (nI ((cd + 1) + 1)) (nI zs) (nI w2) en w3 w4 w5 (nI (bk + 1)) (nI pl) br)), (a 19, .inl (cm 19, 2000, .inl (upd (upd (upd (upd fc (2 * cd) (nI x)) (2 * cd + 1) z2) (2 * (cd + 1)) 0) (2 * (cd + 1) + 1) 0)))] := hD
    exact W.vret hx hb hr (fun t ht hW => ⟨⟨((upd (upd (upd (upd fc (2 * cd) (nI x)) (2 * cd + 1) z2) (2 * (cd + 1)) 0) (2 * (cd + 1) + 1) 0), (upd fo bk (nI cd)), ((cd + 1) + 1), w2, w3, w4, w5, (bk + 1)), rfl, (by (try dsimp only); exact ⟨by omega, by omega, by omega, by omega, fun z => ⟨(hb6_b z).1, (hb6_b z).2, PSt_open (hWq (hb6_b z).1).2 hx4 (by omega) (by omega)⟩, fun z => by
        rw [(hb6_s z).1]
        rcases hV (hb6_b z).1 with ⟨rfl, zv, hF, rfl⟩ | ⟨rfl, hS, rfl⟩
        · exact hF.opn.1 (hb6_s z).2
        · exact hS.opn.1 (hb6_s z).2, fun z => absurd hA_r7 z⟩), by rw [ht]; exact hP.sub [2, 1, 3, 0] rfl, va_K.moved hW.alike (hK.sub [0, 1, 2] rfl), hD.sub [2, 1, 3, 0] (by decide) rfl⟩, hS.F ht⟩) hS.2.2 dX11_opens_49
  ·
    refine lv_if_ne (tgt := 14) hx hb dX11_opens_10 (by decide) (fun hc => absurd (by decide) hc) (fun hc => ?_)
    exact W.vret hx hb hr (fun t ht hW => ⟨⟨(fc, fo, cd, w2, w3, w4, w5, bk), rfl, (by (try dsimp only); exact ⟨by omega, by omega, by omega, hb5, fun z => absurd z hA_r7, fun z => absurd z hA_r7, fun _ => (Decidable.em (bd = 0)).elim (fun h => by
        rcases hV h with ⟨rfl, zv, hF, rfl⟩ | ⟨rfl, hS, rfl⟩
        · exact hF.opn.2 (hb6_n h hA_r7)
        · exact hS.opn.2 (hb6_n h hA_r7)) hVn⟩), by rw [ht]; exact hP.sub [2, 3, 0, 1] rfl, va_K.moved hW.alike (hK.sub [0, 1, 2] rfl), hD.sub [2, 3, 0, 1] (by decide) rfl⟩, hS.F ht⟩) hS.2.2 dX11_opens_13

