theorem dX11_closesBlock_0 : decode cX11_closesBlock 0 = .ok (.aload_n 0, 1) := by decide +kernel
theorem dX11_closesBlock_1 : decode cX11_closesBlock 1 = .ok (.dup, 1) := by decide +kernel
theorem dX11_closesBlock_2 : decode cX11_closesBlock 2 = .ok (.getfield 303, 3) := by decide +kernel
theorem dX11_closesBlock_5 : decode cX11_closesBlock 5 = .ok (.iconst 1, 1) := by decide +kernel
theorem dX11_closesBlock_6 : decode cX11_closesBlock 6 = .ok (.iadd, 1) := by decide +kernel
theorem dX11_closesBlock_7 : decode cX11_closesBlock 7 = .ok (.putfield 303, 3) := by decide +kernel
theorem dX11_closesBlock_10 : decode cX11_closesBlock 10 = .ok (.aload_n 0, 1) := by decide +kernel
theorem dX11_closesBlock_11 : decode cX11_closesBlock 11 = .ok (.dup, 1) := by decide +kernel
theorem dX11_closesBlock_12 : decode cX11_closesBlock 12 = .ok (.getfield 286, 3) := by decide +kernel
theorem dX11_closesBlock_15 : decode cX11_closesBlock 15 = .ok (.iconst 1, 1) := by decide +kernel
theorem dX11_closesBlock_16 : decode cX11_closesBlock 16 = .ok (.isub, 1) := by decide +kernel
theorem dX11_closesBlock_17 : decode cX11_closesBlock 17 = .ok (.putfield 286, 3) := by decide +kernel
theorem dX11_closesBlock_20 : decode cX11_closesBlock 20 = .ok (.aload_n 0, 1) := by decide +kernel
theorem dX11_closesBlock_21 : decode cX11_closesBlock 21 = .ok (.getfield 48, 3) := by decide +kernel
theorem dX11_closesBlock_24 : decode cX11_closesBlock 24 = .ok (.aload_n 0, 1) := by decide +kernel
theorem dX11_closesBlock_25 : decode cX11_closesBlock 25 = .ok (.getfield 286, 3) := by decide +kernel
theorem dX11_closesBlock_28 : decode cX11_closesBlock 28 = .ok (.iaload, 1) := by decide +kernel
theorem dX11_closesBlock_29 : decode cX11_closesBlock 29 = .ok (.istore_n 1, 1) := by decide +kernel
theorem dX11_closesBlock_30 : decode cX11_closesBlock 30 = .ok (.aload_n 0, 1) := by decide +kernel
theorem dX11_closesBlock_31 : decode cX11_closesBlock 31 = .ok (.bipush 6, 2) := by decide +kernel
theorem dX11_closesBlock_33 : decode cX11_closesBlock 33 = .ok (.iload_n 1, 1) := by decide +kernel
theorem dX11_closesBlock_34 : decode cX11_closesBlock 34 = .ok (.invokevirtual 344, 3) := by decide +kernel
theorem dX11_closesBlock_37 : decode cX11_closesBlock 37 = .ok (.aload_n 0, 1) := by decide +kernel
theorem dX11_closesBlock_38 : decode cX11_closesBlock 38 = .ok (.getfield 45, 3) := by decide +kernel
theorem dX11_closesBlock_41 : decode cX11_closesBlock 41 = .ok (.iconst 2, 1) := by decide +kernel
theorem dX11_closesBlock_42 : decode cX11_closesBlock 42 = .ok (.iload_n 1, 1) := by decide +kernel
theorem dX11_closesBlock_43 : decode cX11_closesBlock 43 = .ok (.imul, 1) := by decide +kernel
theorem dX11_closesBlock_44 : decode cX11_closesBlock 44 = .ok (.iconst 3, 1) := by decide +kernel
theorem dX11_closesBlock_45 : decode cX11_closesBlock 45 = .ok (.iadd, 1) := by decide +kernel
theorem dX11_closesBlock_46 : decode cX11_closesBlock 46 = .ok (.aload_n 0, 1) := by decide +kernel
theorem dX11_closesBlock_47 : decode cX11_closesBlock 47 = .ok (.getfield 335, 3) := by decide +kernel
theorem dX11_closesBlock_50 : decode cX11_closesBlock 50 = .ok (.iastore, 1) := by decide +kernel
theorem dX11_closesBlock_51 : decode cX11_closesBlock 51 = .ok (.aload_n 0, 1) := by decide +kernel
theorem dX11_closesBlock_52 : decode cX11_closesBlock 52 = .ok (.bipush 59, 2) := by decide +kernel
theorem dX11_closesBlock_54 : decode cX11_closesBlock 54 = .ok (.invokevirtual 363, 3) := by decide +kernel
theorem dX11_closesBlock_57 : decode cX11_closesBlock 57 = .ok (.return_, 1) := by decide +kernel
def own_c_closesBlock : List Cond := [.fieldLink RX11 303 "ClashFreeModel" "at" "I", .fieldLink RX11 286 "ClashFreeModel" "blocks" "I", .fieldLink RX11 48 "ClashFreeModel" "openAt" "[I", .methodLink RX11 344 yX11_emits, .instanceMethod yX11_emits, .selects RX11 yX11_emits yX11_emits, .initialized RX11, .fieldLink RX11 45 "ClashFreeModel" "code" "[I", .fieldLink RX11 335 "ClashFreeModel" "coded" "I", .methodLink RX11 363 yX11_needsSign, .instanceMethod yX11_needsSign, .selects RX11 yX11_needsSign yX11_needsSign]
def wp_c_closesBlock : List Cond := .code yX11_closesBlock cX11_closesBlock 2 none :: (own_c_closesBlock ++ (wp_c_emits ++ (wp_c_needsSign ++ (wsX110 ++ ([] : List Cond)))))
set_option maxRecDepth 20000 in
theorem inown_c_closesBlock : ∀ w ∈ own_c_closesBlock, w ∈ lw_tbl := mem_places [1238, 1243, 1244, 1685, 1687, 78, 115, 1235, 1236, 1689, 1691, 79] (by decide +kernel)
set_option maxRecDepth 20000 in
theorem in_c_closesBlock : ∀ w ∈ wp_c_closesBlock, w ∈ lw_tbl := List.forall_mem_cons.mpr ⟨List.mem_of_getElem? (i := 1684) (by decide +kernel), List.forall_mem_append.mpr ⟨inown_c_closesBlock, List.forall_mem_append.mpr ⟨in_c_emits, List.forall_mem_append.mpr ⟨in_c_needsSign, List.forall_mem_append.mpr ⟨lwb_X11, fun _ h => absurd h List.not_mem_nil⟩⟩⟩⟩⟩
set_option maxRecDepth 20000 in
theorem good_c_closesBlock : wp_c_closesBlock.all goodWord = true := by decide +kernel
set_option maxRecDepth 20000 in
theorem g_c_closesBlock_c_emits_344 : GoodIn wp_c_closesBlock (wsV RX11 344 RX11 yX11_emits wp_c_emits) := goodIn_sub (List.forall_mem_append.mpr ⟨List.forall_mem_cons.mpr ⟨(List.mem_of_getElem? (i := 4) rfl), List.forall_mem_cons.mpr ⟨(List.mem_of_getElem? (i := 5) rfl), List.forall_mem_cons.mpr ⟨(List.mem_of_getElem? (i := 6) rfl), List.forall_mem_cons.mpr ⟨(List.mem_of_getElem? (i := 7) rfl), fun _ h => absurd h List.not_mem_nil⟩⟩⟩⟩, (fun _ h => (List.mem_cons_of_mem _ (List.mem_append_right _ (List.mem_append_left _ h))))⟩) (by decide +kernel)
set_option maxRecDepth 20000 in
theorem g_c_closesBlock_c_needsSign_363 : GoodIn wp_c_closesBlock (wsV RX11 363 RX11 yX11_needsSign wp_c_needsSign) := goodIn_sub (List.forall_mem_append.mpr ⟨List.forall_mem_cons.mpr ⟨(List.mem_of_getElem? (i := 10) rfl), List.forall_mem_cons.mpr ⟨(List.mem_of_getElem? (i := 11) rfl), List.forall_mem_cons.mpr ⟨(List.mem_of_getElem? (i := 12) rfl), List.forall_mem_cons.mpr ⟨(List.mem_of_getElem? (i := 7) rfl), fun _ h => absurd h List.not_mem_nil⟩⟩⟩⟩, (fun _ h => (List.mem_cons_of_mem _ (List.mem_append_right _ (List.mem_append_right _ (List.mem_append_left _ h)))))⟩) (by decide +kernel)
set_option maxHeartbeats 4000000 in
set_option maxRecDepth 100000 in
theorem c_closesBlock (l : Launch) (D : va_G) (sz : Nat) (h0 : Nat) (a : Nat → Nat) (cm : Nat → ClassId) (i : Nat → Int32) (g : Nat → Int64) (fT : Nat → Int32) (fc : Nat → Int32) (fo : Nat → Int32) (cd : Nat) (zs : Nat) (ta : Nat) (en : Int32) (bd : Int32) (bp : Int32) (bq : Int32) (bk : Nat) (pl : Nat) (br : Int32) (bt : Nat → Nat) (vz : Option (SM × RC)) (hb0 : bd = 0) (hz6 : zs ≤ 600) (hta : ta ≤ zs) (hcp : cd ≤ ta) (hb5 : bk ≤ 5) (hW : PSt fc fo cd bk 0) (hbt : TieB fT bt) (hV : TR bt zs vz 0 0 cd fc bk fo ta en) (hb1 : 1 ≤ bk) (htl : ta < zs) (hsg : SgP bt zs ta 93) (hat : tkA bt zs ta = ta) : Met l yX11_closesBlock wp_c_closesBlock ({ frames := 3, cells := 0, slots := 0, locals := 63 }) (PcW D [.ref h0] sz [(h0, .inr (11, gP a i g (nI cd) (nI zs) (nI ta) en bd bp bq (nI bk) (nI pl) br)), (a 1, .inl (cm 1, 1400, .inl fT)), (a 19, .inl (cm 19, 2000, .inl fc)), (a 28, .inl (cm 28, 6, .inl fo))] [(cm 1, .byte), (cm 19, .int), (cm 28, .int)]) (va_Qv (fun (u : (Nat → Int32) × (Nat) × (Nat) × (Int32) × (Int32) × (Int32) × (Nat)) => u.2.1 ≤ u.2.2.1 ∧ u.2.2.1 ≤ zs ∧ u.2.2.2.2.2.2 ≤ 5 ∧ (u.2.2.2.1 = 0 → ta + 1 ≤ u.2.2.1 ∧ PSt u.1 fo u.2.1 u.2.2.2.2.2.2 0) ∧ (u.2.2.2.1 = 0 → TR bt zs vz 0 0 u.2.1 u.1 u.2.2.2.2.2.2 fo u.2.2.1 en) ∧ (¬ u.2.2.2.1 = 0 → vz = none)) (fun (u : (Nat → Int32) × (Nat) × (Nat) × (Int32) × (Int32) × (Int32) × (Nat)) t => va_P D vwCl [(h0, .inr (11, gP a i g (nI u.2.1) (nI zs) (nI u.2.2.1) en u.2.2.2.1 u.2.2.2.2.1 u.2.2.2.2.2.1 (nI u.2.2.2.2.2.2) (nI pl) br)), (a 1, .inl (cm 1, 1400, .inl fT)), (a 19, .inl (cm 19, 2000, .inl u.1)), (a 28, .inl (cm 28, 6, .inl fo))] t.heap ∧ va_K D vwCl [(cm 1, .byte), (cm 19, .int), (cm 28, .int)] t ∧ va_D (va_A [(h0, .inr (11, gP a i g (nI cd) (nI zs) (nI ta) en bd bp bq (nI bk) (nI pl) br)), (a 1, .inl (cm 1, 1400, .inl fT)), (a 19, .inl (cm 19, 2000, .inl fc)), (a 28, .inl (cm 28, 6, .inl fo))] sz) [(h0, .inr (11, gP a i g (nI u.2.1) (nI zs) (nI u.2.2.1) en u.2.2.2.1 u.2.2.2.2.1 u.2.2.2.2.2.1 (nI u.2.2.2.2.2.2) (nI pl) br)), (a 1, .inl (cm 1, 1400, .inl fT)), (a 19, .inl (cm 19, 2000, .inl u.1)), (a 28, .inl (cm 28, 6, .inl fo))]) (va_A [(h0, .inr (11, gP a i g (nI cd) (nI zs) (nI ta) en bd bp bq (nI bk) (nI pl) br)), (a 1, .inl (cm 1, 1400, .inl fT)), (a 19, .inl (cm 19, 2000, .inl fc)), (a 28, .inl (cm 28, 6, .inl fo))] sz)) 0 0 (va_A [(h0, .inr (11, gP a i g (nI cd) (nI zs) (nI ta) en bd bp bq (nI bk) (nI pl) br)), (a 1, .inl (cm 1, 1400, .inl fT)), (a 19, .inl (cm 19, 2000, .inl fc)), (a 28, .inl (cm 28, 6, .inl fo))] sz) := by
  refine Met.ofW (cc := cX11_closesBlock) (maxL := 2) (ret := none) (by decide) rfl ?_
  intro p e s m args below meth c s₁ B hml hv
  obtain ⟨rfl, hsz, hP, hK, hD0⟩ := hv
  have hx := B.exec
  have hb := B.bytes
  have hr := B.returns
  have hts := atoms_spec (ws := wp_c_closesBlock) B.pre
  have hin_X11 : ∀ w ∈ wsX110, w ∈ wp_c_closesBlock := fun _ h => (List.mem_cons_of_mem _ (List.mem_append_right _ (List.mem_append_right _ (List.mem_append_right _ (List.mem_append_left _ h)))))
  have hown : s.vm.findClass RX11 = some m.cls := findClass_of_methodNamed B.named
  have hlocks := B.notSynchronized
  subst hsz
  have hD := hD0.self (sz := s.heap.size)
  generalize hAe : va_A [(h0, .inr (11, gP a i g (nI cd) (nI zs) (nI ta) en bd bp bq (nI bk) (nI pl) br)), (a 1, .inl (cm 1, 1400, .inl fT)), (a 19, .inl (cm 19, 2000, .inl fc)), (a 28, .inl (cm 28, 6, .inl fo))] s.heap.size = A at hD ⊢
  have hA : ∀ q : Nat, s.heap.size ≤ q → A q := fun q h => by rw [← hAe]; exact Or.inr h
  have hS : va_S A s.heap s.heap [] := va_S.rf
  have hP : va_P D vwCl [(h0, .inr (11, gP a i g (nI cd) (nI zs) (nI ta) en bd bp bq (nI bk) (nI pl) br)), (a 1, .inl (cm 1, 1400, .inl fT)), (a 19, .inl (cm 19, 2000, .inl fc)), (a 28, .inl (cm 28, 6, .inl fo))] s.heap := hP
  have hl := lv_entry ([.ref h0]) (n := 2) (Nat.le_of_ble_eq_true rfl)
  rw [lg_entry_eq]
  generalize (lg_sl ([.ref h0]) ++ List.replicate (2 - (lg_sl ([.ref h0])).length) Slot.unset).toArray = ls at hl ⊢
  have hl : lv_has ls 2 [(0, .ref h0)] := hl
  have hzs : zs ≤ 1400 := by omega
  obtain ⟨f, ef, hf, hWc⟩ := PSt_close hW hb1
  have hTc := hV.cls hb1 hsg ef hf (by omega)
  rw [hat] at hTc
  refine lv_aload_n hx hb dX11_closesBlock_0 rfl (lv_at hl 0 rfl) ?_
  refine lv_dup hx hb dX11_closesBlock_1 rfl ?_
  refine va_get (D := D) (ci := 11) (v := .int (nI ta)) (C := RX11) (T := TX11) (N := 47) hx hb hts hin_X11 hown hK hP 0 rfl rfl 22 (by decide) (hts (.fieldLink RX11 303 "ClashFreeModel" "at" "I") (List.mem_of_getElem? (i := 1) rfl)) (fun _ h9 => h9) rfl dX11_closesBlock_2 ?_
  refine lv_iconst (v := 1) hx hb dX11_closesBlock_5 (by decide) ?_
  refine lv_iadd hx hb dX11_closesBlock_6 ?_
  refine lv_topi (fun v1 ev1 => ?_)
  obtain rfl : v1 = nI (ta + 1) := ev1.trans (nI_1 _)
  refine va_put (D := D) (ci := 11) (v := .int (nI (ta + 1))) (ty := .int) (C := RX11) (T := TX11) (N := 47) hx hb hts hin_X11 tyX11 tyX11_ok nmX11 hown hK hP hD hS 0 rfl rfl 22 (by decide) (hts (.fieldLink RX11 303 "ClashFreeModel" "at" "I") (List.mem_of_getElem? (i := 1) rfl)) (fun _ h9 => h9) rfl (by decide +kernel) rfl rfl (Nat.le_of_ble_eq_true rfl) dX11_closesBlock_7 (fun H locs hP hD hS => ?_)
  have hP : va_P D vwCl [(h0, .inr (11, gP a i g (nI cd) (nI zs) (nI (ta + 1)) en bd bp bq (nI bk) (nI pl) br)), (a 1, .inl (cm 1, 1400, .inl fT)), (a 19, .inl (cm 19, 2000, .inl fc)), (a 28, .inl (cm 28, 6, .inl fo))] H := hP
  have hD : va_D A [(h0, .inr (11, gP a i g (nI cd) (nI zs) (nI (ta + 1)) en bd bp bq (nI bk) (nI pl) br)), (a 1, .inl (cm 1, 1400, .inl fT)), (a 19, .inl (cm 19, 2000, .inl fc)), (a 28, .inl (cm 28, 6, .inl fo))] := hD
  refine lv_aload_n hx hb dX11_closesBlock_10 rfl (lv_at hl 0 rfl) ?_
  refine lv_dup hx hb dX11_closesBlock_11 rfl ?_
  refine va_get (D := D) (ci := 11) (v := .int (nI bk)) (C := RX11) (T := TX11) (N := 47) hx hb hts hin_X11 hown hK hP 0 rfl rfl 27 (by decide) (hts (.fieldLink RX11 286 "ClashFreeModel" "blocks" "I") (List.mem_of_getElem? (i := 2) rfl)) (fun _ h9 => h9) rfl dX11_closesBlock_12 ?_
  refine lv_iconst (v := 1) hx hb dX11_closesBlock_15 (by decide) ?_
  refine lv_isub hx hb dX11_closesBlock_16 ?_
  refine lv_topi (fun v2 ev2 => ?_)
  obtain rfl : v2 = nI (bk - 1) := ev2.trans (pk_sub (b := 1) (by omega))
  refine va_put (D := D) (ci := 11) (v := .int (nI (bk - 1))) (ty := .int) (C := RX11) (T := TX11) (N := 47) hx hb hts hin_X11 tyX11 tyX11_ok nmX11 hown hK hP hD hS 0 rfl rfl 27 (by decide) (hts (.fieldLink RX11 286 "ClashFreeModel" "blocks" "I") (List.mem_of_getElem? (i := 2) rfl)) (fun _ h9 => h9) rfl (by decide +kernel) rfl rfl (Nat.le_of_ble_eq_true rfl) dX11_closesBlock_17 (fun H locs hP hD hS => ?_)
  have hP : va_P D vwCl [(h0, .inr (11, gP a i g (nI cd) (nI zs) (nI (ta + 1)) en bd bp bq (nI (bk - 1)) (nI pl) br)), (a 1, .inl (cm 1, 1400, .inl fT)), (a 19, .inl (cm 19, 2000, .inl fc)), (a 28, .inl (cm 28, 6, .inl fo))] H := hP
  have hD : va_D A [(h0, .inr (11, gP a i g (nI cd) (nI zs) (nI (ta + 1)) en bd bp bq (nI (bk - 1)) (nI pl) br)), (a 1, .inl (cm 1, 1400, .inl fT)), (a 19, .inl (cm 19, 2000, .inl fc)), (a 28, .inl (cm 28, 6, .inl fo))] := hD
  refine lv_aload_n hx hb dX11_closesBlock_20 rfl (lv_at hl 0 rfl) ?_
  refine va_get (D := D) (ci := 11) (v := .ref (a 28)) (C := RX11) (T := TX11) (N := 47) hx hb hts hin_X11 hown hK hP 0 rfl rfl 28 (by decide) (hts (.fieldLink RX11 48 "ClashFreeModel" "openAt" "[I") (List.mem_of_getElem? (i := 3) rfl)) (fun _ h9 => h9) rfl dX11_closesBlock_21 ?_
  refine lv_aload_n hx hb dX11_closesBlock_24 rfl (lv_at hl 0 rfl) ?_
  refine va_get (D := D) (ci := 11) (v := .int (nI (bk - 1))) (C := RX11) (T := TX11) (N := 47) hx hb hts hin_X11 hown hK hP 0 rfl rfl 27 (by decide) (hts (.fieldLink RX11 286 "ClashFreeModel" "blocks" "I") (List.mem_of_getElem? (i := 2) rfl)) (fun _ h9 => h9) rfl dX11_closesBlock_25 ?_
  refine va_iald hx hb hK hP 3 2 rfl rfl (vp_in_nI (by omega) (by decide)) dX11_closesBlock_28 ?_
  refine lv_topi (fun v3 ev3 => ?_)
  obtain rfl : v3 = nI f := ev3.trans (by rw [nI_clamp (by omega)]; exact ef)
  refine lv_istore_n (lv' := [(1, .int (nI f)), (0, .ref h0)]) hx hb dX11_closesBlock_29 rfl hl (by decide) rfl (fun ls hl => ?_)
  refine lv_aload_n hx hb dX11_closesBlock_30 rfl (lv_at hl 1 rfl) ?_
  refine lv_bipush (v := 6) hx hb dX11_closesBlock_31 (by decide) ?_
  refine lv_iload_n hx hb dX11_closesBlock_33 rfl (lv_at hl 0 rfl) ?_
  have hPc := hP.sub (ws' := [(h0, .inr (11, gP a i g (nI cd) (nI zs) (nI (ta + 1)) en bd bp bq (nI (bk - 1)) (nI pl) br)), (a 19, .inl (cm 19, 2000, .inl fc))]) [0, 2] rfl
  have hKc := hK.sub (tys' := [(cm 19, .int)]) [1] rfl
  have hDc := hD.sub (ws' := [(h0, .inr (11, gP a i g (nI cd) (nI zs) (nI (ta + 1)) en bd bp bq (nI (bk - 1)) (nI pl) br)), (a 19, .inl (cm 19, 2000, .inl fc))]) [0, 2] (by decide) rfl
  have hFc := va_free (wc := [(h0, .inr (11, gP a i g (nI cd) (nI zs) (nI (ta + 1)) en bd bp bq (nI (bk - 1)) (nI pl) br)), (a 19, .inl (cm 19, 2000, .inl fc))]) hD hS hA [0, 2] rfl
  refine va_callv (va_runV (As := [.int 6, .int (nI f)]) (rest := []) ⟨hx, hb, hml, hown, hts⟩ (c_emits l D _ h0 a cm i g fc cd zs (ta + 1) en bd bp bq (bk - 1) pl br 6 (nI f) (by first | assumption | omega)) (cwV 2 hts g_c_closesBlock_c_emits_344 rfl rfl rfl (by decide +kernel) ⟨(Nat.le_of_ble_eq_true rfl), (Nat.le_of_ble_eq_true rfl)⟩) (PcW_V (q0 := 0) hPc hKc hDc rfl rfl) rfl rfl hl.1 rfl (lv_room (Nat.le_of_ble_eq_true rfl)) dX11_closesBlock_34 ⟨(Nat.le_of_ble_eq_true rfl), (Nat.le_of_ble_eq_true rfl)⟩) hS (fun q _ h => hFc q h) hFc (fun uu tt H locs htt hvm hw hB hz1 hk1 hS => ?_)
  obtain ⟨w5, w6⟩ := uu
  obtain ⟨hP1, hK1, hD1⟩ := hB
  rw [htt] at hP1
  have hK1 := va_K.moved hvm.symm hK1
  have hP1 : va_P D vwCl [(h0, .inr (11, gP a i g (nI w6) (nI zs) (nI (ta + 1)) en bd bp bq (nI (bk - 1)) (nI pl) br)), (a 19, .inl (cm 19, 2000, .inl w5))] H := hP1
  obtain ⟨hP, hD⟩ := va_join (wr := [(a 1, .inl (cm 1, 1400, .inl fT)), (a 28, .inl (cm 28, 6, .inl fo))]) (w1 := [(h0, .inr (11, gP a i g (nI w6) (nI zs) (nI (ta + 1)) en bd bp bq (nI (bk - 1)) (nI pl) br)), (a 19, .inl (cm 19, 2000, .inl w5))]) hP hD [0, 2] [1, 3] rfl rfl (by decide) (by decide) hk1 hFc hP1 hD1
  have hP : va_P D vwCl [(a 1, .inl (cm 1, 1400, .inl fT)), (a 28, .inl (cm 28, 6, .inl fo)), (h0, .inr (11, gP a i g (nI w6) (nI zs) (nI (ta + 1)) en bd bp bq (nI (bk - 1)) (nI pl) br)), (a 19, .inl (cm 19, 2000, .inl w5))] H := hP
  have hD : va_D A [(a 1, .inl (cm 1, 1400, .inl fT)), (a 28, .inl (cm 28, 6, .inl fo)), (h0, .inr (11, gP a i g (nI w6) (nI zs) (nI (ta + 1)) en bd bp bq (nI (bk - 1)) (nI pl) br)), (a 19, .inl (cm 19, 2000, .inl w5))] := hD
  try dsimp only at hw
  clear hz1 hk1 hFc hPc hKc hDc
  obtain ⟨rfl, rfl⟩ := hw
  have hP : va_P D vwCl [(a 1, .inl (cm 1, 1400, .inl fT)), (a 28, .inl (cm 28, 6, .inl fo)), (h0, .inr (11, gP a i g (nI (cd + 1)) (nI zs) (nI (ta + 1)) en bd bp bq (nI (bk - 1)) (nI pl) br)), (a 19, .inl (cm 19, 2000, .inl (upd (upd fc (2 * cd) 6) (2 * cd + 1) (nI f))))] H := hP
  have hD : va_D A [(a 1, .inl (cm 1, 1400, .inl fT)), (a 28, .inl (cm 28, 6, .inl fo)), (h0, .inr (11, gP a i g (nI (cd + 1)) (nI zs) (nI (ta + 1)) en bd bp bq (nI (bk - 1)) (nI pl) br)), (a 19, .inl (cm 19, 2000, .inl (upd (upd fc (2 * cd) 6) (2 * cd + 1) (nI f))))] := hD
  refine lv_aload_n hx hb dX11_closesBlock_37 rfl (lv_at hl 1 rfl) ?_
  refine va_get (D := D) (ci := 11) (v := .ref (a 19)) (C := RX11) (T := TX11) (N := 47) hx hb hts hin_X11 hown hK hP 2 rfl rfl 19 (by decide) (hts (.fieldLink RX11 45 "ClashFreeModel" "code" "[I") (List.mem_of_getElem? (i := 8) rfl)) (fun _ h9 => h9) rfl dX11_closesBlock_38 ?_
  refine lv_iconst (v := 2) hx hb dX11_closesBlock_41 (by decide) ?_
  refine lv_iload_n hx hb dX11_closesBlock_42 rfl (lv_at hl 0 rfl) ?_
  refine lv_imul hx hb dX11_closesBlock_43 ?_
  refine lv_topi (fun v7 ev7 => ?_)
  obtain rfl : v7 = nI (2 * f) := ev7.trans (pk_mul 2 f)
  refine lv_iconst (v := 3) hx hb dX11_closesBlock_44 (by decide) ?_
  refine lv_iadd hx hb dX11_closesBlock_45 ?_
  refine lv_topi (fun v8 ev8 => ?_)
  obtain rfl : v8 = nI (2 * f + 3) := ev8.trans (nI_add _ 3)
  refine lv_aload_n hx hb dX11_closesBlock_46 rfl (lv_at hl 1 rfl) ?_
  refine va_get (D := D) (ci := 11) (v := .int (nI (cd + 1))) (C := RX11) (T := TX11) (N := 47) hx hb hts hin_X11 hown hK hP 2 rfl rfl 20 (by decide) (hts (.fieldLink RX11 335 "ClashFreeModel" "coded" "I") (List.mem_of_getElem? (i := 9) rfl)) (fun _ h9 => h9) rfl dX11_closesBlock_47 ?_
  refine va_iast hx hb hK hP hD hS 3 1 rfl rfl (vp_in_nI (by omega) (by decide)) dX11_closesBlock_50 (fun H locs hP hD hS => ?_)
  have hP : va_P D vwCl [(a 1, .inl (cm 1, 1400, .inl fT)), (a 28, .inl (cm 28, 6, .inl fo)), (h0, .inr (11, gP a i g (nI (cd + 1)) (nI zs) (nI (ta + 1)) en bd bp bq (nI (bk - 1)) (nI pl) br)), (a 19, .inl (cm 19, 2000, .inl (upd (upd (upd fc (2 * cd) 6) (2 * cd + 1) (nI f)) (Int32.toNatClampNeg (nI (2 * f + 3))) (nI (cd + 1)))))] H := hP
  have hD : va_D A [(a 1, .inl (cm 1, 1400, .inl fT)), (a 28, .inl (cm 28, 6, .inl fo)), (h0, .inr (11, gP a i g (nI (cd + 1)) (nI zs) (nI (ta + 1)) en bd bp bq (nI (bk - 1)) (nI pl) br)), (a 19, .inl (cm 19, 2000, .inl (upd (upd (upd fc (2 * cd) 6) (2 * cd + 1) (nI f)) (Int32.toNatClampNeg (nI (2 * f + 3))) (nI (cd + 1)))))] := hD
  rw [show (upd (upd (upd fc (2 * cd) 6) (2 * cd + 1) (nI f)) (Int32.toNatClampNeg (nI (2 * f + 3))) (nI (cd + 1))) = (upd (upd (upd fc (2 * cd) 6) (2 * cd + 1) (nI f)) (2 * f + 3) (nI (cd + 1))) from by rw [nI_clamp (by omega)]] at hP hD
  refine lv_aload_n hx hb dX11_closesBlock_51 rfl (lv_at hl 1 rfl) ?_
  refine lv_bipush (v := 59) hx hb dX11_closesBlock_52 (by decide) ?_
  have hPc := hP.sub (ws' := [(h0, .inr (11, gP a i g (nI (cd + 1)) (nI zs) (nI (ta + 1)) en bd bp bq (nI (bk - 1)) (nI pl) br)), (a 1, .inl (cm 1, 1400, .inl fT))]) [2, 0] rfl
  have hKc := hK.sub (tys' := [(cm 1, .byte)]) [0] rfl
  have hDc := hD.sub (ws' := [(h0, .inr (11, gP a i g (nI (cd + 1)) (nI zs) (nI (ta + 1)) en bd bp bq (nI (bk - 1)) (nI pl) br)), (a 1, .inl (cm 1, 1400, .inl fT))]) [2, 0] (by decide) rfl
  have hFc := va_free (wc := [(h0, .inr (11, gP a i g (nI (cd + 1)) (nI zs) (nI (ta + 1)) en bd bp bq (nI (bk - 1)) (nI pl) br)), (a 1, .inl (cm 1, 1400, .inl fT))]) hD hS hA [2, 0] rfl
  refine va_callv (va_runV (As := [.int 59]) (rest := []) ⟨hx, hb, hml, hown, hts⟩ (c_needsSign l D _ h0 a cm i g fT (cd + 1) zs (ta + 1) en bd bp bq (bk - 1) pl br 59 59 bt (by omega) (by omega) hbt rfl (by decide)) (cwV 1 hts g_c_closesBlock_c_needsSign_363 rfl rfl rfl (by decide +kernel) ⟨(Nat.le_of_ble_eq_true rfl), (Nat.le_of_ble_eq_true rfl)⟩) (PcW_V (q0 := 0) hPc hKc hDc rfl rfl) rfl rfl hl.1 rfl (lv_room (Nat.le_of_ble_eq_true rfl)) dX11_closesBlock_54 ⟨(Nat.le_of_ble_eq_true rfl), (Nat.le_of_ble_eq_true rfl)⟩) hS (fun q _ h => hFc q h) hFc (fun uu tt H locs htt hvm hw hB hz1 hk1 hS => ?_)
  obtain ⟨w10, w11, w12, w13⟩ := uu
  obtain ⟨hP1, hK1, hD1⟩ := hB
  rw [htt] at hP1
  have hK1 := va_K.moved hvm.symm hK1
  have hP1 : va_P D vwCl [(h0, .inr (11, gP a i g (nI (cd + 1)) (nI zs) (nI w10) en w11 w12 w13 (nI (bk - 1)) (nI pl) br)), (a 1, .inl (cm 1, 1400, .inl fT))] H := hP1
  obtain ⟨hP, hD⟩ := va_join (wr := [(a 28, .inl (cm 28, 6, .inl fo)), (a 19, .inl (cm 19, 2000, .inl (upd (upd (upd fc (2 * cd) 6) (2 * cd + 1) (nI f)) (2 * f + 3) (nI (cd + 1)))))]) (w1 := [(h0, .inr (11, gP a i g (nI (cd + 1)) (nI zs) (nI w10) en w11 w12 w13 (nI (bk - 1)) (nI pl) br)), (a 1, .inl (cm 1, 1400, .inl fT))]) hP hD [2, 0] [1, 3] rfl rfl (by decide) (by decide) hk1 hFc hP1 hD1
  have hP : va_P D vwCl [(a 28, .inl (cm 28, 6, .inl fo)), (a 19, .inl (cm 19, 2000, .inl (upd (upd (upd fc (2 * cd) 6) (2 * cd + 1) (nI f)) (2 * f + 3) (nI (cd + 1))))), (h0, .inr (11, gP a i g (nI (cd + 1)) (nI zs) (nI w10) en w11 w12 w13 (nI (bk - 1)) (nI pl) br)), (a 1, .inl (cm 1, 1400, .inl fT))] H := hP
  have hD : va_D A [(a 28, .inl (cm 28, 6, .inl fo)), (a 19, .inl (cm 19, 2000, .inl (upd (upd (upd fc (2 * cd) 6) (2 * cd + 1) (nI f)) (2 * f + 3) (nI (cd + 1))))), (h0, .inr (11, gP a i g (nI (cd + 1)) (nI zs) (nI w10) en w11 w12 w13 (nI (bk - 1)) (nI pl) br)), (a 1, .inl (cm 1, 1400, .inl fT))] := hD
  try dsimp only at hw
  clear hz1 hk1 hFc hPc hKc hDc
  obtain ⟨hb14_1, hb14_2, hb14_b, hb14_s, hb14_n⟩ := hw
  exact W.vret hx hb hr (fun t ht hW => ⟨⟨((upd (upd (upd fc (2 * cd) 6) (2 * cd + 1) (nI f)) (2 * f + 3) (nI (cd + 1))), (cd + 1), w10, w11, w12, w13, (bk - 1)), rfl, (by (try dsimp only); exact ⟨by omega, by omega, by omega, fun z => ⟨by omega, hWc⟩, fun z => by
      rw [(hb14_s z).1]
      exact hTc.sc.1 (hb14_s z).2, fun z => hTc.sc.2 (hb14_n hb0 z)⟩), by rw [ht]; exact hP.sub [2, 3, 1, 0] rfl, va_K.moved hW.alike (hK.sub [0, 1, 2] rfl), hD.sub [2, 3, 1, 0] (by decide) rfl⟩, hS.F ht⟩) hS.2.2 dX11_closesBlock_57

