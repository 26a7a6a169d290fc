def own_c_isPairN : List Cond := [.constantLong RX11 93 (2147483646), .methodLink RX11 83 yX11_isIn, .static yX11_isIn, .initialized RX11]
def wp_c_isPairN : List Cond := .code yX11_isPair cX11_isPair 2 (some .boolean) :: (own_c_isPairN ++ (wp_c_isIn ++ ([] : List Cond)))
set_option maxRecDepth 20000 in
theorem inown_c_isPairN : ∀ w ∈ own_c_isPairN, w ∈ lw_tbl := mem_places [1414, 1371, 1372, 115] (by decide +kernel)
set_option maxRecDepth 20000 in
theorem in_c_isPairN : ∀ w ∈ wp_c_isPairN, w ∈ lw_tbl := List.forall_mem_cons.mpr ⟨List.mem_of_getElem? (i := 1591) (by decide +kernel), List.forall_mem_append.mpr ⟨inown_c_isPairN, List.forall_mem_append.mpr ⟨in_c_isIn, fun _ h => absurd h List.not_mem_nil⟩⟩⟩
set_option maxRecDepth 20000 in
theorem good_c_isPairN : wp_c_isPairN.all goodWord = true := by decide +kernel
set_option maxRecDepth 20000 in
theorem g_c_isPairN_c_isIn_83 : GoodIn wp_c_isPairN (va_wsS RX11 83 yX11_isIn wp_c_isIn) := goodIn_sub (List.forall_mem_append.mpr ⟨List.forall_mem_cons.mpr ⟨(List.mem_of_getElem? (i := 2) rfl), List.forall_mem_cons.mpr ⟨(List.mem_of_getElem? (i := 3) rfl), List.forall_mem_cons.mpr ⟨(List.mem_of_getElem? (i := 4) rfl), fun _ h => absurd h List.not_mem_nil⟩⟩⟩, (fun _ h => (List.mem_cons_of_mem _ (List.mem_append_right _ (List.mem_append_left _ h))))⟩) (by decide +kernel)
set_option maxHeartbeats 4000000 in
set_option maxRecDepth 100000 in
theorem c_isPairN (l : Launch) (D : va_G) (sz : Nat) (z1 : Int32) (z2 : Int32)  : Met l yX11_isPair wp_c_isPairN ({ frames := 1, cells := 0, slots := 0, locals := 25 }) (PcR D [.int z1, .int z2] sz [] []) (va_Qi (fun (r : Int32) (_ : Unit) => (r = 1 ∧ pairC z1 z2) ∨ (r = 0 ∧ ¬ pairC z1 z2)) (fun (_ : Unit) _ => True) (va_A [] sz)) 0 0 (va_A [] sz) := by
  refine Met.ofW (cc := cX11_isPair) (maxL := 2) (ret := (some .boolean)) (by decide) rfl ?_
  intro p e s m args below meth c s₁ B hml hv
  obtain ⟨rfl, hsz, hP, hK⟩ := hv
  have hx := B.exec
  have hb := B.bytes
  have hr := B.returns
  have hts := atoms_spec (ws := wp_c_isPairN) B.pre
  have hown : s.vm.findClass RX11 = some m.cls := findClass_of_methodNamed B.named
  have hlocks := B.notSynchronized
  subst hsz
  generalize hAe : va_A [] s.heap.size = A at ⊢
  have hA : ∀ q : Nat, s.heap.size ≤ q → A q := fun q h => by rw [← hAe]; exact Or.inr h
  have hS : va_S A s.heap s.heap [] := va_S.rf
  have hP : va_P D vwCl [] s.heap := hP
  have hl := lv_entry ([.int z1, .int z2]) (n := 2) (Nat.le_of_ble_eq_true rfl)
  rw [lg_entry_eq]
  generalize (lg_sl ([.int z1, .int z2]) ++ List.replicate (2 - (lg_sl ([.int z1, .int z2])).length) Slot.unset).toArray = ls at hl ⊢
  have hl : lv_has ls 2 [(0, .int z1), (1, .int z2)] := hl
  refine lv_iload_n hx hb dX11_isPair_0 rfl (lv_at hl 0 rfl) ?_
  refine lv_i2l hx hb dX11_isPair_1 rfl ?_
  refine lv_lconst (v := 1) hx hb dX11_isPair_2 (by decide) ?_
  refine lv_ldc2 (v := 2147483646) hx hb hown (hts (.constantLong RX11 93 (2147483646)) (List.mem_of_getElem? (i := 1) rfl)) dX11_isPair_3 ?_
  have hPc := hP.sub (ws' := []) [] rfl
  have hKc := hK.sub (tys' := []) [] rfl
  have hFc := va_free0 hS hA
  refine va_calli (va_runS (As := [.long (Int32.toInt64 z1), .long 1, .long 2147483646]) (rest := []) ⟨hx, hb, hml, hown, hts⟩ (c_isIn l D _ (Int32.toInt64 z1) 1 2147483646) (va_cwS 3 hts g_c_isPairN_c_isIn_83 rfl rfl rfl (by decide +kernel) ⟨(Nat.le_of_ble_eq_true rfl), (Nat.le_of_ble_eq_true rfl)⟩) (PcR_S hPc hKc) rfl rfl hl.1 rfl (lv_room (Nat.le_of_ble_eq_true rfl)) dX11_isPair_6 ⟨(Nat.le_of_ble_eq_true rfl), (Nat.le_of_ble_eq_true rfl)⟩) hS (fun q _ h => hFc q h) hFc (fun r1 uu tt H locs htt hvm hw hB hz1 hk1 hS => ?_)
  have hP := va_keep hP hk1
  try dsimp only at hw
  clear hB hz1 hk1 hFc hPc hKc
  rcases hw with ⟨rfl, hA_r1⟩ | ⟨rfl, hA_r1⟩
  ·
    refine lv_if_eq (tgt := 28) hx hb dX11_isPair_9 (by decide) (fun hc => absurd hc (by decide)) (fun hc => ?_)
    refine lv_iload_n hx hb dX11_isPair_12 rfl (lv_at hl 1 rfl) ?_
    refine lv_i2l hx hb dX11_isPair_13 rfl ?_
    refine lv_lconst (v := 0) hx hb dX11_isPair_14 (by decide) ?_
    refine lv_ldc2 (v := 2147483646) hx hb hown (hts (.constantLong RX11 93 (2147483646)) (List.mem_of_getElem? (i := 1) rfl)) dX11_isPair_15 ?_
    have hPc := hP.sub (ws' := []) [] rfl
    have hKc := hK.sub (tys' := []) [] rfl
    have hFc := va_free0 hS hA
    refine va_calli (va_runS (As := [.long (Int32.toInt64 z2), .long 0, .long 2147483646]) (rest := []) ⟨hx, hb, hml, hown, hts⟩ (c_isIn l D _ (Int32.toInt64 z2) 0 2147483646) (va_cwS 3 hts g_c_isPairN_c_isIn_83 rfl rfl rfl (by decide +kernel) ⟨(Nat.le_of_ble_eq_true rfl), (Nat.le_of_ble_eq_true rfl)⟩) (PcR_S hPc hKc) rfl rfl hl.1 rfl (lv_room (Nat.le_of_ble_eq_true rfl)) dX11_isPair_18 ⟨(Nat.le_of_ble_eq_true rfl), (Nat.le_of_ble_eq_true rfl)⟩) hS (fun q _ h => hFc q h) hFc (fun r2 uu tt H locs htt hvm hw hB hz1 hk1 hS => ?_)
    have hP := va_keep hP hk1
    try dsimp only at hw
    clear hB hz1 hk1 hFc hPc hKc
    rcases hw with ⟨rfl, hA_r2⟩ | ⟨rfl, hA_r2⟩
    ·
      refine lv_if_eq (tgt := 28) hx hb dX11_isPair_21 (by decide) (fun hc => absurd hc (by decide)) (fun hc => ?_)
      refine lv_iconst (v := 1) hx hb dX11_isPair_24 (by decide) ?_
      refine lv_goto (tgt := 29) hx hb dX11_isPair_25 (by decide) ?_
      exact W.zret (v := 1) hx hb hr rfl (fun t ht hW => ⟨⟨1, (), rfl, Or.inl ⟨rfl, isKp.mp hA_r1, isK_of.mp hA_r2⟩, trivial⟩, hS.F ht⟩) hS.2.2 dX11_isPair_29
    ·
      refine lv_if_eq (tgt := 28) hx hb dX11_isPair_21 (by decide) (fun hc => ?_) (fun hc => absurd (by decide) hc)
      refine lv_iconst (v := 0) hx hb dX11_isPair_28 (by decide) ?_
      exact W.zret (v := 0) hx hb hr rfl (fun t ht hW => ⟨⟨0, (), rfl, Or.inr ⟨rfl, fun q => hA_r2 (isK_of.mpr q.2)⟩, trivial⟩, hS.F ht⟩) hS.2.2 dX11_isPair_29
  ·
    refine lv_if_eq (tgt := 28) hx hb dX11_isPair_9 (by decide) (fun hc => ?_) (fun hc => absurd (by decide) hc)
    refine lv_iconst (v := 0) hx hb dX11_isPair_28 (by decide) ?_
    exact W.zret (v := 0) hx hb hr rfl (fun t ht hW => ⟨⟨0, (), rfl, Or.inr ⟨rfl, fun q => hA_r1 (isKp.mpr q.1)⟩, trivial⟩, hS.F ht⟩) hS.2.2 dX11_isPair_29

def own_c_outerN : List Cond := [.fieldLink RX11 42 "ClashFreeModel" "paper" "[I", .methodLink RX11 95 yX11_manyOf, .instanceMethod yX11_manyOf, .selects RX11 yX11_manyOf yX11_manyOf, .initialized RX11, .fieldLink RX11 17 "ClashFreeModel" "keys" "[I", .methodLink RX11 133 yX11_placeOf, .static yX11_placeOf, .methodLink RX11 198 yX11_flag, .static yX11_flag, .fieldLink RX11 73 "ClashFreeModel" "thrown" "I", .methodLink RX11 222 yX11_isThere, .instanceMethod yX11_isThere, .selects RX11 yX11_isThere yX11_isThere, .methodLink RX11 252 yX11_isPair, .static yX11_isPair, .constantLong RX11 169 (2048), .methodLink RX11 83 yX11_isIn, .static yX11_isIn, .constantLong RX11 87 (3), .constantLong RX11 160 (4), .constantLong RX11 235 (-1000000000000000)]
def wp_c_outerN : List Cond := .code yX11_outer cX11_outer 11 (some .long) :: (own_c_outerN ++ (wp_c_manyOf ++ (wp_c_placeOf ++ (wp_c_flag ++ (wp_c_isThere ++ (wp_c_isPairN ++ (wp_c_isIn ++ (wsX110 ++ ([] : List Cond)))))))))
set_option maxRecDepth 20000 in
theorem inown_c_outerN : ∀ w ∈ own_c_outerN, w ∈ lw_tbl := mem_places [1232, 1396, 1398, 40, 115, 1220, 1434, 1435, 1502, 1503, 1216, 1466, 1468, 54, 1589, 1590, 1441, 1371, 1372, 1378, 1405, 1517] (by decide +kernel)
set_option maxRecDepth 20000 in
theorem in_c_outerN : ∀ w ∈ wp_c_outerN, w ∈ lw_tbl := List.forall_mem_cons.mpr ⟨List.mem_of_getElem? (i := 1588) (by decide +kernel), List.forall_mem_append.mpr ⟨inown_c_outerN, List.forall_mem_append.mpr ⟨in_c_manyOf, List.forall_mem_append.mpr ⟨in_c_placeOf, List.forall_mem_append.mpr ⟨in_c_flag, List.forall_mem_append.mpr ⟨in_c_isThere, List.forall_mem_append.mpr ⟨in_c_isPairN, List.forall_mem_append.mpr ⟨in_c_isIn, List.forall_mem_append.mpr ⟨lwb_X11, fun _ h => absurd h List.not_mem_nil⟩⟩⟩⟩⟩⟩⟩⟩⟩
set_option maxRecDepth 20000 in
theorem good_c_outerN : wp_c_outerN.all goodWord = true := by decide +kernel
set_option maxRecDepth 20000 in
theorem g_c_outerN_c_manyOf_95 : GoodIn wp_c_outerN (wsV RX11 95 RX11 yX11_manyOf wp_c_manyOf) := goodIn_sub (List.forall_mem_append.mpr ⟨List.forall_mem_cons.mpr ⟨(List.mem_of_getElem? (i := 2) rfl), List.forall_mem_cons.mpr ⟨(List.mem_of_getElem? (i := 3) rfl), List.forall_mem_cons.mpr ⟨(List.mem_of_getElem? (i := 4) rfl), List.forall_mem_cons.mpr ⟨(List.mem_of_getElem? (i := 5) rfl), fun _ h => absurd h List.not_mem_nil⟩⟩⟩⟩, (fun _ h => (List.mem_cons_of_mem _ (List.mem_append_right _ (List.mem_append_left _ h))))⟩) (by decide +kernel)
set_option maxRecDepth 20000 in
theorem g_c_outerN_c_placeOf_133 : GoodIn wp_c_outerN (va_wsS RX11 133 yX11_placeOf wp_c_placeOf) := goodIn_sub (List.forall_mem_append.mpr ⟨List.forall_mem_cons.mpr ⟨(List.mem_of_getElem? (i := 7) rfl), List.forall_mem_cons.mpr ⟨(List.mem_of_getElem? (i := 8) rfl), List.forall_mem_cons.mpr ⟨(List.mem_of_getElem? (i := 5) rfl), fun _ h => absurd h List.not_mem_nil⟩⟩⟩, (fun _ h => (List.mem_cons_of_mem _ (List.mem_append_right _ (List.mem_append_right _ (List.mem_append_left _ h)))))⟩) (by decide +kernel)
set_option maxRecDepth 20000 in
theorem g_c_outerN_c_flag_198 : GoodIn wp_c_outerN (va_wsS RX11 198 yX11_flag wp_c_flag) := goodIn_sub (List.forall_mem_append.mpr ⟨List.forall_mem_cons.mpr ⟨(List.mem_of_getElem? (i := 9) rfl), List.forall_mem_cons.mpr ⟨(List.mem_of_getElem? (i := 10) rfl), List.forall_mem_cons.mpr ⟨(List.mem_of_getElem? (i := 5) rfl), fun _ h => absurd h List.not_mem_nil⟩⟩⟩, (fun _ h => (List.mem_cons_of_mem _ (List.mem_append_right _ (List.mem_append_right _ (List.mem_append_right _ (List.mem_append_left _ h))))))⟩) (by decide +kernel)
set_option maxRecDepth 20000 in
theorem g_c_outerN_c_isThere_222 : GoodIn wp_c_outerN (wsV RX11 222 RX11 yX11_isThere wp_c_isThere) := goodIn_sub (List.forall_mem_append.mpr ⟨List.forall_mem_cons.mpr ⟨(List.mem_of_getElem? (i := 12) rfl), List.forall_mem_cons.mpr ⟨(List.mem_of_getElem? (i := 13) rfl), List.forall_mem_cons.mpr ⟨(List.mem_of_getElem? (i := 14) rfl), List.forall_mem_cons.mpr ⟨(List.mem_of_getElem? (i := 5) rfl), fun _ h => absurd h List.not_mem_nil⟩⟩⟩⟩, (fun _ h => (List.mem_cons_of_mem _ (List.mem_append_right _ (List.mem_append_right _ (List.mem_append_right _ (List.mem_append_right _ (List.mem_append_left _ h)))))))⟩) (by decide +kernel)
set_option maxRecDepth 20000 in
theorem g_c_outerN_c_isPairN_252 : GoodIn wp_c_outerN (va_wsS RX11 252 yX11_isPair wp_c_isPairN) := goodIn_sub (List.forall_mem_append.mpr ⟨List.forall_mem_cons.mpr ⟨(List.mem_of_getElem? (i := 15) rfl), List.forall_mem_cons.mpr ⟨(List.mem_of_getElem? (i := 16) rfl), List.forall_mem_cons.mpr ⟨(List.mem_of_getElem? (i := 5) rfl), fun _ h => absurd h List.not_mem_nil⟩⟩⟩, (fun _ h => (List.mem_cons_of_mem _ (List.mem_append_right _ (List.mem_append_right _ (List.mem_append_right _ (List.mem_append_right _ (List.mem_append_right _ (List.mem_append_left _ h))))))))⟩) (by decide +kernel)
set_option maxRecDepth 20000 in
theorem g_c_outerN_c_isIn_83 : GoodIn wp_c_outerN (va_wsS RX11 83 yX11_isIn wp_c_isIn) := goodIn_sub (List.forall_mem_append.mpr ⟨List.forall_mem_cons.mpr ⟨(List.mem_of_getElem? (i := 18) rfl), List.forall_mem_cons.mpr ⟨(List.mem_of_getElem? (i := 19) rfl), List.forall_mem_cons.mpr ⟨(List.mem_of_getElem? (i := 5) rfl), fun _ h => absurd h List.not_mem_nil⟩⟩⟩, (fun _ h => (List.mem_cons_of_mem _ (List.mem_append_right _ (List.mem_append_right _ (List.mem_append_right _ (List.mem_append_right _ (List.mem_append_right _ (List.mem_append_right _ (List.mem_append_left _ h)))))))))⟩) (by decide +kernel)
set_option maxHeartbeats 4000000 in
set_option maxRecDepth 100000 in
theorem lp_oun1 (l : Launch) {p : Program} {e : Env} {s : State} {m : MethodId} {args : Array Value} {below : List Frame} {meth : Method} {c : Code} {Q : State → Prop} {A : Nat → Prop} (D : va_G) (h0 : Nat) (a : Nat → Nat) (cm : Nat → ClassId) (i : Nat → Int32) (g : Nat → Int64) (fn : Nat → Int64) (fk : Nat → Int32) (fb : Nat → Int32) (ff : Nat → Int32) (fh : Nat → Int32) (fa : Nat → Int64) (fs : Nat → Int64) (z5 : Int32) (k : Nat) (cn : Nat) (K : Nat → Nat) (ca : Nat) (cb : Nat) (nn : Nat) (hk : k < 4) (h1 : fn (17 * k + 1) = lN cn) (hcn : cn ≤ 160) (hKy : KyS k fk cn K) (hca : ca < 2147483647) (hcb : cb < 2147483647) (hm1 : 1 ≤ nn) (hm2 : nn ≤ 2048) (hx : p.tables.exec = Jvm.exec) (hb : c.code = cX11_outer) (hml : c.maxLocals = 11) (hown : s.vm.findClass RX11 = some m.cls) (hts : ∀ w ∈ wp_c_outerN, w.before args s = true) (hA : ∀ q, s.heap.size ≤ q → A q) (hK : va_K D vwCl [(cm 3, .long), (cm 4, .int), (cm 6, .int), (cm 8, .int), (cm 9, .int), (cm 10, .long), (cm 11, .long), (cm 16, .int)] s) (kx75 : ∀ (j : Nat), ∀ (gp : Nat → Int32), (j ≤ nn) → (∀ q, q < j → gp q = nI ((cntJ (fun y => plN ca cb nn (K y)) 0) q)) → (nn ≤ j) → ∀ (H : Heap) (locs : List Loc) (ls : Array Slot), va_P D vwCl [(h0, .inr (11, gM a (upd i 0 0) g)), (a 3, .inl (cm 3, 85, .inr (.inl fn))), (a 4, .inl (cm 4, 800, .inl fk)), (a 6, .inl (cm 6, 800, .inl fb)), (a 8, .inl (cm 8, 10240, .inl ff)), (a 9, .inl (cm 9, 10240, .inl fh)), (a 10, .inl (cm 10, 10240, .inr (.inl fa))), (a 11, .inl (cm 11, 10240, .inr (.inl fs))), (a 16, .inl (cm 16, 2048, .inl gp))] H → va_D A [(h0, .inr (11, gM a (upd i 0 0) g)), (a 3, .inl (cm 3, 85, .inr (.inl fn))), (a 4, .inl (cm 4, 800, .inl fk)), (a 6, .inl (cm 6, 800, .inl fb)), (a 8, .inl (cm 8, 10240, .inl ff)), (a 9, .inl (cm 9, 10240, .inl fh)), (a 10, .inl (cm 10, 10240, .inr (.inl fa))), (a 11, .inl (cm 11, 10240, .inr (.inl fs))), (a 16, .inl (cm 16, 2048, .inl gp))] → va_S A s.heap H locs → lv_has ls 11 [(0, .ref h0), (1, .int (nI k)), (2, .int (nI ca)), (3, .int (nI cb)), (4, .int (nI nn)), (5, .int z5)] → W p l e ({ frames := 6, cells := 0, slots := 0, locals := 160 }) s m args below meth c H locs 0 0 Q (F0 m 75 ls [])) : ∀ (N : Nat), ∀ (j : Nat), ∀ (gp : Nat → Int32), (j ≤ nn) → (∀ q, q < j → gp q = nI ((cntJ (fun y => plN ca cb nn (K y)) 0) q)) → nn - j < N → ∀ (H : Heap) (locs : List Loc) (ls : Array Slot), va_P D vwCl [(h0, .inr (11, gM a (upd i 0 0) g)), (a 3, .inl (cm 3, 85, .inr (.inl fn))), (a 4, .inl (cm 4, 800, .inl fk)), (a 6, .inl (cm 6, 800, .inl fb)), (a 8, .inl (cm 8, 10240, .inl ff)), (a 9, .inl (cm 9, 10240, .inl fh)), (a 10, .inl (cm 10, 10240, .inr (.inl fa))), (a 11, .inl (cm 11, 10240, .inr (.inl fs))), (a 16, .inl (cm 16, 2048, .inl gp))] H → va_D A [(h0, .inr (11, gM a (upd i 0 0) g)), (a 3, .inl (cm 3, 85, .inr (.inl fn))), (a 4, .inl (cm 4, 800, .inl fk)), (a 6, .inl (cm 6, 800, .inl fb)), (a 8, .inl (cm 8, 10240, .inl ff)), (a 9, .inl (cm 9, 10240, .inl fh)), (a 10, .inl (cm 10, 10240, .inr (.inl fa))), (a 11, .inl (cm 11, 10240, .inr (.inl fs))), (a 16, .inl (cm 16, 2048, .inl gp))] → va_S A s.heap H locs → lv_has ls 11 [(6, .int (nI j)), (0, .ref h0), (1, .int (nI k)), (2, .int (nI ca)), (3, .int (nI cb)), (4, .int (nI nn)), (5, .int z5)] → W p l e ({ frames := 6, cells := 0, slots := 0, locals := 160 }) s m args below meth c H locs 0 0 Q (F0 m 54 ls []) := by
  have hin_X11 : ∀ w ∈ wsX110, w ∈ wp_c_outerN := fun _ h => (List.mem_cons_of_mem _ (List.mem_append_right _ (List.mem_append_right _ (List.mem_append_right _ (List.mem_append_right _ (List.mem_append_right _ (List.mem_append_right _ (List.mem_append_right _ (List.mem_append_left _ h)))))))))
  intro N
  induction N with
  | zero =>
    intro j gp hj1 hz hm
    exact absurd hm (Nat.not_lt_zero _)
  | succ N ih =>
    intro j gp hj1 hz hm H locs ls hP hD hS hl
    have hKl : ∀ z, z < cn → K z < 2147483648 := fun z a => Nat.lt_trans (hKy.1 z a).2 (by decide)
    refine lv_iload hx hb dX11_outer_54 (lv_at hl 0 rfl) ?_
    refine lv_iload hx hb dX11_outer_56 (lv_at hl 5 rfl) ?_
    refine lv_icmp_ge (tgt := 75) hx hb dX11_outer_58 (by decide) (fun hc1 => ?_) (fun hc1 => ?_)
    ·
      have hge_j : nn ≤ j := (nI_leI (by omega) (by omega)).mp hc1
      exact kx75 j gp (hj1) (hz) (hge_j) H locs ls (hP.sub [0, 1, 2, 3, 4, 5, 6, 7, 8] rfl) (hD.sub [0, 1, 2, 3, 4, 5, 6, 7, 8] (by decide) rfl) hS (lv_sub hl [1, 2, 3, 4, 5, 6] rfl)
    ·
      have hlt_j : j < nn := by
        rcases Nat.lt_or_ge j nn with z | z
        · exact z
        · exact absurd (nI_le z (by omega)) hc1
      refine lv_aload_n hx hb dX11_outer_61 rfl (lv_at hl 1 rfl) ?_
      refine va_get (D := D) (ci := 11) (v := .ref (a 16)) (C := RX11) (T := TX11) (N := 47) hx hb hts hin_X11 hown hK hP 0 rfl rfl 16 (by decide) (hts (.fieldLink RX11 42 "ClashFreeModel" "paper" "[I") (List.mem_of_getElem? (i := 1) rfl)) (fun _ h9 => h9) rfl dX11_outer_62 ?_
      refine lv_iload hx hb dX11_outer_65 (lv_at hl 0 rfl) ?_
      refine lv_iconst (v := 0) hx hb dX11_outer_67 (by decide) ?_
      refine va_iast hx hb hK hP hD hS 8 7 rfl rfl (vp_in_nI (by omega) (by decide)) dX11_outer_68 (fun H locs hP hD hS => ?_)
      have hP : va_P D vwCl [(h0, .inr (11, gM a (upd i 0 0) g)), (a 3, .inl (cm 3, 85, .inr (.inl fn))), (a 4, .inl (cm 4, 800, .inl fk)), (a 6, .inl (cm 6, 800, .inl fb)), (a 8, .inl (cm 8, 10240, .inl ff)), (a 9, .inl (cm 9, 10240, .inl fh)), (a 10, .inl (cm 10, 10240, .inr (.inl fa))), (a 11, .inl (cm 11, 10240, .inr (.inl fs))), (a 16, .inl (cm 16, 2048, .inl (upd gp (Int32.toNatClampNeg (nI j)) 0)))] H := hP
      have hD : va_D A [(h0, .inr (11, gM a (upd i 0 0) g)), (a 3, .inl (cm 3, 85, .inr (.inl fn))), (a 4, .inl (cm 4, 800, .inl fk)), (a 6, .inl (cm 6, 800, .inl fb)), (a 8, .inl (cm 8, 10240, .inl ff)), (a 9, .inl (cm 9, 10240, .inl fh)), (a 10, .inl (cm 10, 10240, .inr (.inl fa))), (a 11, .inl (cm 11, 10240, .inr (.inl fs))), (a 16, .inl (cm 16, 2048, .inl (upd gp (Int32.toNatClampNeg (nI j)) 0)))] := hD
      rw [show (upd gp (Int32.toNatClampNeg (nI j)) 0) = (upd gp j 0) from by rw [nI_clamp (by omega)]] at hP hD
      refine lv_iinc (v := nI (j + 1)) (lv' := [(6, .int (nI (j + 1))), (0, .ref h0), (1, .int (nI k)), (2, .int (nI ca)), (3, .int (nI cb)), (4, .int (nI nn)), (5, .int z5)]) hx hb dX11_outer_69 hl (k := 0) rfl (nI_1 j) (by decide) rfl (fun ls hl => ?_)
      refine lv_goto (tgt := 54) hx hb dX11_outer_72 (by decide) ?_
      exact ih (j + 1) (upd gp j 0) (by omega) (fun q hq => by
        by_cases e : q = j
        · subst e
          rw [pk_us]
          rfl
        · rw [pk_un e]
          exact hz q (by omega)) (by omega) H locs ls (hP.sub [0, 1, 2, 3, 4, 5, 6, 7, 8] rfl) (hD.sub [0, 1, 2, 3, 4, 5, 6, 7, 8] (by decide) rfl) hS (lv_sub hl [0, 1, 2, 3, 4, 5, 6] rfl)
set_option maxHeartbeats 4000000 in
set_option maxRecDepth 100000 in
theorem lp_oun2 (l : Launch) {p : Program} {e : Env} {s : State} {m : MethodId} {args : Array Value} {below : List Frame} {meth : Method} {c : Code} {Q : State → Prop} {A : Nat → Prop} (D : va_G) (h0 : Nat) (a : Nat → Nat) (cm : Nat → ClassId) (i : Nat → Int32) (g : Nat → Int64) (fn : Nat → Int64) (fk : Nat → Int32) (fb : Nat → Int32) (ff : Nat → Int32) (fh : Nat → Int32) (fa : Nat → Int64) (fs : Nat → Int64) (z5 : Int32) (k : Nat) (cn : Nat) (K : Nat → Nat) (ca : Nat) (cb : Nat) (nn : Nat) (hk : k < 4) (h1 : fn (17 * k + 1) = lN cn) (hcn : cn ≤ 160) (hKy : KyS k fk cn K) (hca : ca < 2147483647) (hcb : cb < 2147483647) (hm1 : 1 ≤ nn) (hm2 : nn ≤ 2048) (hx : p.tables.exec = Jvm.exec) (hb : c.code = cX11_outer) (hml : c.maxLocals = 11) (hown : s.vm.findClass RX11 = some m.cls) (hts : ∀ w ∈ wp_c_outerN, w.before args s = true) (hA : ∀ q, s.heap.size ≤ q → A q) (hK : va_K D vwCl [(cm 3, .long), (cm 4, .int), (cm 6, .int), (cm 8, .int), (cm 9, .int), (cm 10, .long), (cm 11, .long), (cm 16, .int)] s) (kx131 : ∀ (x : Nat), ∀ (gp : Nat → Int32), (x ≤ cn) → (∀ q, q < nn → gp q = nI ((cntJ (fun y => plN ca cb nn (K y)) x) q)) → (cn ≤ x) → ∀ (H : Heap) (locs : List Loc) (ls : Array Slot), va_P D vwCl [(h0, .inr (11, gM a (upd i 0 0) g)), (a 3, .inl (cm 3, 85, .inr (.inl fn))), (a 4, .inl (cm 4, 800, .inl fk)), (a 6, .inl (cm 6, 800, .inl fb)), (a 8, .inl (cm 8, 10240, .inl ff)), (a 9, .inl (cm 9, 10240, .inl fh)), (a 10, .inl (cm 10, 10240, .inr (.inl fa))), (a 11, .inl (cm 11, 10240, .inr (.inl fs))), (a 16, .inl (cm 16, 2048, .inl gp))] H → va_D A [(h0, .inr (11, gM a (upd i 0 0) g)), (a 3, .inl (cm 3, 85, .inr (.inl fn))), (a 4, .inl (cm 4, 800, .inl fk)), (a 6, .inl (cm 6, 800, .inl fb)), (a 8, .inl (cm 8, 10240, .inl ff)), (a 9, .inl (cm 9, 10240, .inl fh)), (a 10, .inl (cm 10, 10240, .inr (.inl fa))), (a 11, .inl (cm 11, 10240, .inr (.inl fs))), (a 16, .inl (cm 16, 2048, .inl gp))] → va_S A s.heap H locs → lv_has ls 11 [(0, .ref h0), (1, .int (nI k)), (2, .int (nI ca)), (3, .int (nI cb)), (4, .int (nI nn)), (5, .int z5)] → W p l e ({ frames := 6, cells := 0, slots := 0, locals := 160 }) s m args below meth c H locs 0 0 Q (F0 m 131 ls [])) : ∀ (N : Nat), ∀ (x : Nat), ∀ (gp : Nat → Int32), (x ≤ cn) → (∀ q, q < nn → gp q = nI ((cntJ (fun y => plN ca cb nn (K y)) x) q)) → cn - x < N → ∀ (H : Heap) (locs : List Loc) (ls : Array Slot), va_P D vwCl [(h0, .inr (11, gM a (upd i 0 0) g)), (a 3, .inl (cm 3, 85, .inr (.inl fn))), (a 4, .inl (cm 4, 800, .inl fk)), (a 6, .inl (cm 6, 800, .inl fb)), (a 8, .inl (cm 8, 10240, .inl ff)), (a 9, .inl (cm 9, 10240, .inl fh)), (a 10, .inl (cm 10, 10240, .inr (.inl fa))), (a 11, .inl (cm 11, 10240, .inr (.inl fs))), (a 16, .inl (cm 16, 2048, .inl gp))] H → va_D A [(h0, .inr (11, gM a (upd i 0 0) g)), (a 3, .inl (cm 3, 85, .inr (.inl fn))), (a 4, .inl (cm 4, 800, .inl fk)), (a 6, .inl (cm 6, 800, .inl fb)), (a 8, .inl (cm 8, 10240, .inl ff)), (a 9, .inl (cm 9, 10240, .inl fh)), (a 10, .inl (cm 10, 10240, .inr (.inl fa))), (a 11, .inl (cm 11, 10240, .inr (.inl fs))), (a 16, .inl (cm 16, 2048, .inl gp))] → va_S A s.heap H locs → lv_has ls 11 [(6, .int (nI (160 * k + x))), (0, .ref h0), (1, .int (nI k)), (2, .int (nI ca)), (3, .int (nI cb)), (4, .int (nI nn)), (5, .int z5)] → W p l e ({ frames := 6, cells := 0, slots := 0, locals := 160 }) s m args below meth c H locs 0 0 Q (F0 m 82 ls []) := by
  have hin_X11 : ∀ w ∈ wsX110, w ∈ wp_c_outerN := fun _ h => (List.mem_cons_of_mem _ (List.mem_append_right _ (List.mem_append_right _ (List.mem_append_right _ (List.mem_append_right _ (List.mem_append_right _ (List.mem_append_right _ (List.mem_append_right _ (List.mem_append_left _ h)))))))))
  intro N
  induction N with
  | zero =>
    intro x gp hx2 hc hm
    exact absurd hm (Nat.not_lt_zero _)
  | succ N ih =>
    intro x gp hx2 hc hm H locs ls hP hD hS hl
    have hKl : ∀ z, z < cn → K z < 2147483648 := fun z a => Nat.lt_trans (hKy.1 z a).2 (by decide)
    refine lv_iload hx hb dX11_outer_82 (lv_at hl 0 rfl) ?_
    refine lv_sipush (v := 160) hx hb dX11_outer_84 (by decide) ?_
    refine lv_iload_n hx hb dX11_outer_87 rfl (lv_at hl 2 rfl) ?_
    refine lv_imul hx hb dX11_outer_88 ?_
    refine lv_aload_n hx hb dX11_outer_89 rfl (lv_at hl 1 rfl) ?_
    refine lv_iload_n hx hb dX11_outer_90 rfl (lv_at hl 2 rfl) ?_
    have hPc := hP.sub (ws' := [(h0, .inr (11, gM a (upd i 0 0) g)), (a 3, .inl (cm 3, 85, .inr (.inl fn)))]) [0, 1] rfl
    have hKc := hK.sub (tys' := [(cm 3, .long)]) [0] rfl
    have hFc := va_free0 hS hA
    refine va_calli (va_runV (As := [.int (nI k)]) (rest := [.int (160 * (nI k)), .int (nI (160 * k + x))]) ⟨hx, hb, hml, hown, hts⟩ (c_manyOf l D _ h0 a cm (upd i 0 0) g fn k cn (by first | assumption | omega) h1) (cwV 1 hts g_c_outerN_c_manyOf_95 rfl rfl rfl (by decide +kernel) ⟨(Nat.le_of_ble_eq_true rfl), (Nat.le_of_ble_eq_true rfl)⟩) (PcR_V (q0 := 0) hPc hKc rfl rfl) rfl rfl hl.1 rfl (lv_room (Nat.le_of_ble_eq_true rfl)) dX11_outer_91 ⟨(Nat.le_of_ble_eq_true rfl), (Nat.le_of_ble_eq_true rfl)⟩) hS (fun q _ h => hFc q h) hFc (fun r1 uu tt H locs htt hvm hw hB hz1 hk1 hS => ?_)
    have hP := va_keep hP hk1
    try dsimp only at hw
    clear hB hz1 hk1 hFc hPc hKc
    obtain rfl : r1 = nI cn := hw
    refine lv_iadd hx hb dX11_outer_94 ?_
    refine lv_topi (fun v2 ev2 => ?_)
    obtain rfl : v2 = nI (160 * k + cn) := ev2.trans (ix160 k _)
    refine lv_icmp_ge (tgt := 131) hx hb dX11_outer_95 (by decide) (fun hc3 => ?_) (fun hc3 => ?_)
    ·
      have hge_x : cn ≤ x := by
        have := (nI_leI (a := 160 * k + cn) (b := 160 * k + x) (by omega) (by omega)).mp hc3
        omega
      exact kx131 x gp (hx2) (hc) (hge_x) H locs ls (hP.sub [0, 1, 2, 3, 4, 5, 6, 7, 8] rfl) (hD.sub [0, 1, 2, 3, 4, 5, 6, 7, 8] (by decide) rfl) hS (lv_sub hl [1, 2, 3, 4, 5, 6] rfl)
    ·
      have hlt_x : x < cn := by
        rcases Nat.lt_or_ge x cn with z | z
        · exact z
        · exact absurd (nI_le (show 160 * k + cn ≤ 160 * k + x by omega) (by omega)) hc3
      refine lv_aload_n hx hb dX11_outer_98 rfl (lv_at hl 1 rfl) ?_
      refine va_get (D := D) (ci := 11) (v := .ref (a 16)) (C := RX11) (T := TX11) (N := 47) hx hb hts hin_X11 hown hK hP 0 rfl rfl 16 (by decide) (hts (.fieldLink RX11 42 "ClashFreeModel" "paper" "[I") (List.mem_of_getElem? (i := 1) rfl)) (fun _ h9 => h9) rfl dX11_outer_99 ?_
      refine lv_iload_n hx hb dX11_outer_102 rfl (lv_at hl 3 rfl) ?_
      refine lv_i2l hx hb dX11_outer_103 rfl ?_
      refine lv_topl (fun v4 ev4 => ?_)
      obtain rfl : v4 = lN ca := ev4.trans (nI_l (by omega))
      refine lv_iload_n hx hb dX11_outer_104 rfl (lv_at hl 4 rfl) ?_
      refine lv_i2l hx hb dX11_outer_105 rfl ?_
      refine lv_topl (fun v5 ev5 => ?_)
      obtain rfl : v5 = lN cb := ev5.trans (nI_l (by omega))
      refine lv_aload_n hx hb dX11_outer_106 rfl (lv_at hl 1 rfl) ?_
      refine va_get (D := D) (ci := 11) (v := .ref (a 4)) (C := RX11) (T := TX11) (N := 47) hx hb hts hin_X11 hown hK hP 0 rfl rfl 4 (by decide) (hts (.fieldLink RX11 17 "ClashFreeModel" "keys" "[I") (List.mem_of_getElem? (i := 6) rfl)) (fun _ h9 => h9) rfl dX11_outer_107 ?_
      refine lv_iload hx hb dX11_outer_110 (lv_at hl 0 rfl) ?_
      refine va_iald hx hb hK hP 2 1 rfl rfl (vp_in_nI (by omega) (by decide)) dX11_outer_112 ?_
      refine lv_topi (fun v6 ev6 => ?_)
      obtain rfl : v6 = nI (K x) := ev6.trans (by rw [nI_clamp (by omega)]; exact (hKy.1 _ (by omega)).1)
      refine lv_i2l hx hb dX11_outer_113 rfl ?_
      refine lv_topl (fun v7 ev7 => ?_)
      obtain rfl : v7 = lN (K x) := ev7.trans (nI_l (Nat.lt_trans (hKy.1 _ (by omega)).2 (by decide)))
      refine lv_iload hx hb dX11_outer_114 (lv_at hl 5 rfl) ?_
      refine lv_i2l hx hb dX11_outer_116 rfl ?_
      refine lv_topl (fun v8 ev8 => ?_)
      obtain rfl : v8 = lN nn := ev8.trans (nI_l (by omega))
      have hPc := hP.sub (ws' := []) [] rfl
      have hKc := hK.sub (tys' := []) [] rfl
      have hFc := va_free0 hS hA
      refine va_calli (va_runS (As := [.long (lN ca), .long (lN cb), .long (lN (K x)), .long (lN nn)]) (rest := [.ref (a 16)]) ⟨hx, hb, hml, hown, hts⟩ (c_placeOf l D _ ca cb (K x) nn (by first | assumption | omega) (by first | assumption | omega) (by first | assumption | omega | exact hKl _ (by omega)) (by first | assumption | omega) (by first | assumption | omega)) (va_cwS 4 hts g_c_outerN_c_placeOf_133 rfl rfl rfl (by decide +kernel) ⟨(Nat.le_of_ble_eq_true rfl), (Nat.le_of_ble_eq_true rfl)⟩) (PcR_S hPc hKc) rfl rfl hl.1 rfl (lv_room (Nat.le_of_ble_eq_true rfl)) dX11_outer_117 ⟨(Nat.le_of_ble_eq_true rfl), (Nat.le_of_ble_eq_true rfl)⟩) hS (fun q _ h => hFc q h) hFc (fun r9 uu tt H locs htt hvm hw hB hz1 hk1 hS => ?_)
      have hP := va_keep hP hk1
      try dsimp only at hw
      clear hB hz1 hk1 hFc hPc hKc
      obtain rfl : r9 = nI ((ca * (K x) + cb) % 2147483647 % nn) := hw
      refine lv_dup2_11 hx hb dX11_outer_120 rfl rfl ?_
      refine va_iald hx hb hK hP 8 7 rfl rfl (vp_in_nI (by have := Nat.mod_lt ((ca * K x + cb) % 2147483647) (show 0 < nn by omega); omega) (by decide)) dX11_outer_121 ?_
      refine lv_topi (fun v10 ev10 => ?_)
      obtain rfl : v10 = nI ((cntJ (fun y => plN ca cb nn (K y)) x) (plN ca cb nn (K x))) := ev10.trans (by rw [nI_clamp (by have := Nat.mod_lt ((ca * K x + cb) % 2147483647) (show 0 < nn by omega); omega)]; exact hc _ (Nat.mod_lt _ (by omega)))
      refine lv_iconst (v := 1) hx hb dX11_outer_122 (by decide) ?_
      refine lv_iadd hx hb dX11_outer_123 ?_
      refine lv_topi (fun v11 ev11 => ?_)
      obtain rfl : v11 = nI ((cntJ (fun y => plN ca cb nn (K y)) x) (plN ca cb nn (K x)) + 1) := ev11.trans (nI_1 _)
      refine va_iast hx hb hK hP hD hS 8 7 rfl rfl (vp_in_nI (by have := Nat.mod_lt ((ca * K x + cb) % 2147483647) (show 0 < nn by omega); omega) (by decide)) dX11_outer_124 (fun H locs hP hD hS => ?_)
      have hP : va_P D vwCl [(h0, .inr (11, gM a (upd i 0 0) g)), (a 3, .inl (cm 3, 85, .inr (.inl fn))), (a 4, .inl (cm 4, 800, .inl fk)), (a 6, .inl (cm 6, 800, .inl fb)), (a 8, .inl (cm 8, 10240, .inl ff)), (a 9, .inl (cm 9, 10240, .inl fh)), (a 10, .inl (cm 10, 10240, .inr (.inl fa))), (a 11, .inl (cm 11, 10240, .inr (.inl fs))), (a 16, .inl (cm 16, 2048, .inl (upd gp (Int32.toNatClampNeg (nI ((ca * (K x) + cb) % 2147483647 % nn))) (nI ((cntJ (fun y => plN ca cb nn (K y)) x) (plN ca cb nn (K x)) + 1)))))] H := hP
      have hD : va_D A [(h0, .inr (11, gM a (upd i 0 0) g)), (a 3, .inl (cm 3, 85, .inr (.inl fn))), (a 4, .inl (cm 4, 800, .inl fk)), (a 6, .inl (cm 6, 800, .inl fb)), (a 8, .inl (cm 8, 10240, .inl ff)), (a 9, .inl (cm 9, 10240, .inl fh)), (a 10, .inl (cm 10, 10240, .inr (.inl fa))), (a 11, .inl (cm 11, 10240, .inr (.inl fs))), (a 16, .inl (cm 16, 2048, .inl (upd gp (Int32.toNatClampNeg (nI ((ca * (K x) + cb) % 2147483647 % nn))) (nI ((cntJ (fun y => plN ca cb nn (K y)) x) (plN ca cb nn (K x)) + 1)))))] := hD
      rw [show (upd gp (Int32.toNatClampNeg (nI ((ca * (K x) + cb) % 2147483647 % nn))) (nI ((cntJ (fun y => plN ca cb nn (K y)) x) (plN ca cb nn (K x)) + 1))) = (upd gp (plN ca cb nn (K x)) (nI ((cntJ (fun y => plN ca cb nn (K y)) x) (plN ca cb nn (K x)) + 1))) from by rw [nI_clamp (by have := Nat.mod_lt ((ca * K x + cb) % 2147483647) (show 0 < nn by omega); omega)]; rfl] at hP hD
      refine lv_iinc (v := nI (160 * k + (x + 1))) (lv' := [(6, .int (nI (160 * k + (x + 1)))), (0, .ref h0), (1, .int (nI k)), (2, .int (nI ca)), (3, .int (nI cb)), (4, .int (nI nn)), (5, .int z5)]) hx hb dX11_outer_125 hl (k := 0) rfl (nI_1 _) (by decide) rfl (fun ls hl => ?_)
      refine lv_goto (tgt := 82) hx hb dX11_outer_128 (by decide) ?_
      exact ih (x + 1) (upd gp (plN ca cb nn (K x)) (nI ((cntJ (fun y => plN ca cb nn (K y)) x) (plN ca cb nn (K x)) + 1))) (by omega) (fun q hq => by
        rw [cntJ_s]
        by_cases e : q = (plN ca cb nn (K x))
        · subst e
          rw [pk_us, if_pos rfl]
        · rw [pk_un e, if_neg (fun z => e z.symm), Nat.add_zero]
          exact hc q hq) (by omega) H locs ls (hP.sub [0, 1, 2, 3, 4, 5, 6, 7, 8] rfl) (hD.sub [0, 1, 2, 3, 4, 5, 6, 7, 8] (by decide) rfl) hS (lv_sub hl [0, 1, 2, 3, 4, 5, 6] rfl)
set_option maxHeartbeats 4000000 in
set_option maxRecDepth 100000 in
theorem lp_oun3 (l : Launch) {p : Program} {e : Env} {s : State} {m : MethodId} {args : Array Value} {below : List Frame} {meth : Method} {c : Code} {Q : State → Prop} {A : Nat → Prop} (D : va_G) (h0 : Nat) (a : Nat → Nat) (cm : Nat → ClassId) (i : Nat → Int32) (g : Nat → Int64) (fn : Nat → Int64) (fk : Nat → Int32) (fb : Nat → Int32) (ff : Nat → Int32) (fh : Nat → Int32) (fa : Nat → Int64) (fs : Nat → Int64) (z5 : Int32) (k : Nat) (cn : Nat) (K : Nat → Nat) (ca : Nat) (cb : Nat) (nn : Nat) (gp : Nat → Int32) (hk : k < 4) (h1 : fn (17 * k + 1) = lN cn) (hcn : cn ≤ 160) (hKy : KyS k fk cn K) (hca : ca < 2147483647) (hcb : cb < 2147483647) (hm1 : 1 ≤ nn) (hm2 : nn ≤ 2048) (hcc : ∀ q, q < nn → gp q = nI ((cntJ (fun y => plN ca cb nn (K y)) cn) q)) (hx : p.tables.exec = Jvm.exec) (hb : c.code = cX11_outer) (hml : c.maxLocals = 11) (hown : s.vm.findClass RX11 = some m.cls) (hts : ∀ w ∈ wp_c_outerN, w.before args s = true) (hA : ∀ q, s.heap.size ≤ q → A q) (hK : va_K D vwCl [(cm 3, .long), (cm 4, .int), (cm 6, .int), (cm 8, .int), (cm 9, .int), (cm 10, .long), (cm 11, .long), (cm 16, .int)] s) (kx227 : ∀ (j : Nat), (j ≤ nn) → (nn ≤ j) → ∀ (H : Heap) (locs : List Loc) (ls : Array Slot), va_P D vwCl [(h0, .inr (11, gM a (upd i 0 0) g)), (a 3, .inl (cm 3, 85, .inr (.inl fn))), (a 4, .inl (cm 4, 800, .inl fk)), (a 6, .inl (cm 6, 800, .inl fb)), (a 8, .inl (cm 8, 10240, .inl ff)), (a 9, .inl (cm 9, 10240, .inl fh)), (a 10, .inl (cm 10, 10240, .inr (.inl fa))), (a 11, .inl (cm 11, 10240, .inr (.inl fs))), (a 16, .inl (cm 16, 2048, .inl gp))] H → va_D A [(h0, .inr (11, gM a (upd i 0 0) g)), (a 3, .inl (cm 3, 85, .inr (.inl fn))), (a 4, .inl (cm 4, 800, .inl fk)), (a 6, .inl (cm 6, 800, .inl fb)), (a 8, .inl (cm 8, 10240, .inl ff)), (a 9, .inl (cm 9, 10240, .inl fh)), (a 10, .inl (cm 10, 10240, .inr (.inl fa))), (a 11, .inl (cm 11, 10240, .inr (.inl fs))), (a 16, .inl (cm 16, 2048, .inl gp))] → va_S A s.heap H locs → lv_has ls 11 [(9, .int (nI (zeN (cntJ (fun y => plN ca cb nn (K y)) cn) j))), (8, .int (nI (mxN (cntJ (fun y => plN ca cb nn (K y)) cn) j))), (6, .long (lN (sqF (cntJ (fun y => plN ca cb nn (K y)) cn) j))), (0, .ref h0), (5, .int z5)] → W p l e ({ frames := 6, cells := 0, slots := 0, locals := 160 }) s m args below meth c H locs 0 0 Q (F0 m 227 ls [])) : ∀ (N : Nat), ∀ (j : Nat), (j ≤ nn) → nn - j < N → ∀ (H : Heap) (locs : List Loc) (ls : Array Slot), va_P D vwCl [(h0, .inr (11, gM a (upd i 0 0) g)), (a 3, .inl (cm 3, 85, .inr (.inl fn))), (a 4, .inl (cm 4, 800, .inl fk)), (a 6, .inl (cm 6, 800, .inl fb)), (a 8, .inl (cm 8, 10240, .inl ff)), (a 9, .inl (cm 9, 10240, .inl fh)), (a 10, .inl (cm 10, 10240, .inr (.inl fa))), (a 11, .inl (cm 11, 10240, .inr (.inl fs))), (a 16, .inl (cm 16, 2048, .inl gp))] H → va_D A [(h0, .inr (11, gM a (upd i 0 0) g)), (a 3, .inl (cm 3, 85, .inr (.inl fn))), (a 4, .inl (cm 4, 800, .inl fk)), (a 6, .inl (cm 6, 800, .inl fb)), (a 8, .inl (cm 8, 10240, .inl ff)), (a 9, .inl (cm 9, 10240, .inl fh)), (a 10, .inl (cm 10, 10240, .inr (.inl fa))), (a 11, .inl (cm 11, 10240, .inr (.inl fs))), (a 16, .inl (cm 16, 2048, .inl gp))] → va_S A s.heap H locs → lv_has ls 11 [(10, .int (nI j)), (9, .int (nI (zeN (cntJ (fun y => plN ca cb nn (K y)) cn) j))), (8, .int (nI (mxN (cntJ (fun y => plN ca cb nn (K y)) cn) j))), (6, .long (lN (sqF (cntJ (fun y => plN ca cb nn (K y)) cn) j))), (0, .ref h0), (1, .int (nI k)), (2, .int (nI ca)), (3, .int (nI cb)), (4, .int (nI nn)), (5, .int z5)] → W p l e ({ frames := 6, cells := 0, slots := 0, locals := 160 }) s m args below meth c H locs 0 0 Q (F0 m 143 ls []) := by
  have hin_X11 : ∀ w ∈ wsX110, w ∈ wp_c_outerN := fun _ h => (List.mem_cons_of_mem _ (List.mem_append_right _ (List.mem_append_right _ (List.mem_append_right _ (List.mem_append_right _ (List.mem_append_right _ (List.mem_append_right _ (List.mem_append_right _ (List.mem_append_left _ h)))))))))
  intro N
  induction N with
  | zero =>
    intro j hj1 hm
    exact absurd hm (Nat.not_lt_zero _)
  | succ N ih =>
    intro j hj1 hm H locs ls hP hD hS hl
    have hKl : ∀ z, z < cn → K z < 2147483648 := fun z a => Nat.lt_trans (hKy.1 z a).2 (by decide)
    have hcl := cntJ_le (fun y => plN ca cb nn (K y)) cn j
    have hmxl := mxN_le (c := (cntJ (fun y => plN ca cb nn (K y)) cn)) (b := cn) (cntJ_le _ cn) j
    have hzl := zeN_le (cntJ (fun y => plN ca cb nn (K y)) cn) j
    refine lv_iload hx hb dX11_outer_143 (lv_at hl 0 rfl) ?_
    refine lv_iload hx hb dX11_outer_145 (lv_at hl 8 rfl) ?_
    refine lv_icmp_ge (tgt := 227) hx hb dX11_outer_147 (by decide) (fun hc1 => ?_) (fun hc1 => ?_)
    ·
      have hge_j : nn ≤ j := (nI_leI (by omega) (by omega)).mp hc1
      exact kx227 j (hj1) (hge_j) H locs ls (hP.sub [0, 1, 2, 3, 4, 5, 6, 7, 8] rfl) (hD.sub [0, 1, 2, 3, 4, 5, 6, 7, 8] (by decide) rfl) hS (lv_sub hl [1, 2, 3, 4, 9] rfl)
    ·
      have hlt_j : j < nn := by
        rcases Nat.lt_or_ge j nn with z | z
        · exact z
        · exact absurd (nI_le z (by omega)) hc1
      refine lv_lload hx hb dX11_outer_150 (lv_at hl 3 rfl) ?_
      refine lv_aload_n hx hb dX11_outer_152 rfl (lv_at hl 4 rfl) ?_
      refine va_get (D := D) (ci := 11) (v := .ref (a 16)) (C := RX11) (T := TX11) (N := 47) hx hb hts hin_X11 hown hK hP 0 rfl rfl 16 (by decide) (hts (.fieldLink RX11 42 "ClashFreeModel" "paper" "[I") (List.mem_of_getElem? (i := 1) rfl)) (fun _ h9 => h9) rfl dX11_outer_153 ?_
      refine lv_iload hx hb dX11_outer_156 (lv_at hl 0 rfl) ?_
      refine va_iald hx hb hK hP 8 7 rfl rfl (vp_in_nI (by omega) (by decide)) dX11_outer_158 ?_
      refine lv_topi (fun v2 ev2 => ?_)
      obtain rfl : v2 = nI ((cntJ (fun y => plN ca cb nn (K y)) cn) j) := ev2.trans (by rw [nI_clamp (by omega)]; exact hcc j hlt_j)
      refine lv_i2l hx hb dX11_outer_159 rfl ?_
      refine lv_topl (fun v3 ev3 => ?_)
      obtain rfl : v3 = lN ((cntJ (fun y => plN ca cb nn (K y)) cn) j) := ev3.trans (nI_l (by omega))
      refine lv_aload_n hx hb dX11_outer_160 rfl (lv_at hl 4 rfl) ?_
      refine va_get (D := D) (ci := 11) (v := .ref (a 16)) (C := RX11) (T := TX11) (N := 47) hx hb hts hin_X11 hown hK hP 0 rfl rfl 16 (by decide) (hts (.fieldLink RX11 42 "ClashFreeModel" "paper" "[I") (List.mem_of_getElem? (i := 1) rfl)) (fun _ h9 => h9) rfl dX11_outer_161 ?_
      refine lv_iload hx hb dX11_outer_164 (lv_at hl 0 rfl) ?_
      refine va_iald hx hb hK hP 8 7 rfl rfl (vp_in_nI (by omega) (by decide)) dX11_outer_166 ?_
      refine lv_topi (fun v4 ev4 => ?_)
      obtain rfl : v4 = nI ((cntJ (fun y => plN ca cb nn (K y)) cn) j) := ev4.trans (by rw [nI_clamp (by omega)]; exact hcc j hlt_j)
      refine lv_i2l hx hb dX11_outer_167 rfl ?_
      refine lv_topl (fun v5 ev5 => ?_)
      obtain rfl : v5 = lN ((cntJ (fun y => plN ca cb nn (K y)) cn) j) := ev5.trans (nI_l (by omega))
      refine lv_lmul hx hb dX11_outer_168 ?_
      refine lv_topl (fun v6 ev6 => ?_)
      obtain rfl : v6 = lN (((cntJ (fun y => plN ca cb nn (K y)) cn) j) * ((cntJ (fun y => plN ca cb nn (K y)) cn) j)) := ev6.trans (lN_mul _ _)
      refine lv_ladd hx hb dX11_outer_169 ?_
      refine lv_topl (fun v7 ev7 => ?_)
      obtain rfl : v7 = lN (sqF (cntJ (fun y => plN ca cb nn (K y)) cn) (j + 1)) := ev7.trans (lN_add (sqF (cntJ (fun y => plN ca cb nn (K y)) cn) j) (((cntJ (fun y => plN ca cb nn (K y)) cn) j) * ((cntJ (fun y => plN ca cb nn (K y)) cn) j)))
      refine lv_lstore (lv' := [(6, .long (lN (sqF (cntJ (fun y => plN ca cb nn (K y)) cn) (j + 1)))), (10, .int (nI j)), (9, .int (nI (zeN (cntJ (fun y => plN ca cb nn (K y)) cn) j))), (8, .int (nI (mxN (cntJ (fun y => plN ca cb nn (K y)) cn) j))), (0, .ref h0), (1, .int (nI k)), (2, .int (nI ca)), (3, .int (nI cb)), (4, .int (nI nn)), (5, .int z5)]) hx hb dX11_outer_170 hl (by decide) rfl (fun ls hl => ?_)
      refine lv_aload_n hx hb dX11_outer_172 rfl (lv_at hl 4 rfl) ?_
      refine va_get (D := D) (ci := 11) (v := .ref (a 16)) (C := RX11) (T := TX11) (N := 47) hx hb hts hin_X11 hown hK hP 0 rfl rfl 16 (by decide) (hts (.fieldLink RX11 42 "ClashFreeModel" "paper" "[I") (List.mem_of_getElem? (i := 1) rfl)) (fun _ h9 => h9) rfl dX11_outer_173 ?_
      refine lv_iload hx hb dX11_outer_176 (lv_at hl 1 rfl) ?_
      refine va_iald hx hb hK hP 8 7 rfl rfl (vp_in_nI (by omega) (by decide)) dX11_outer_178 ?_
      refine lv_topi (fun v8 ev8 => ?_)
      obtain rfl : v8 = nI ((cntJ (fun y => plN ca cb nn (K y)) cn) j) := ev8.trans (by rw [nI_clamp (by omega)]; exact hcc j hlt_j)
      refine lv_iload hx hb dX11_outer_179 (lv_at hl 3 rfl) ?_
      refine lv_icmp_le (tgt := 194) hx hb dX11_outer_181 (by decide) (fun hc9 => ?_) (fun hc9 => ?_)
      ·
        have hmx : mxN (cntJ (fun y => plN ca cb nn (K y)) cn) (j + 1) = mxN (cntJ (fun y => plN ca cb nn (K y)) cn) j := if_neg (Nat.not_lt.mpr ((nI_leI (by omega) (by omega)).mp hc9))
        refine lv_iload hx hb dX11_outer_194 (lv_at hl 3 rfl) ?_
        refine lv_istore (lv' := [(8, .int (nI (mxN (cntJ (fun y => plN ca cb nn (K y)) cn) j))), (6, .long (lN (sqF (cntJ (fun y => plN ca cb nn (K y)) cn) (j + 1)))), (10, .int (nI j)), (9, .int (nI (zeN (cntJ (fun y => plN ca cb nn (K y)) cn) j))), (0, .ref h0), (1, .int (nI k)), (2, .int (nI ca)), (3, .int (nI cb)), (4, .int (nI nn)), (5, .int z5)]) hx hb dX11_outer_196 hl (by decide) rfl (fun ls hl => ?_)
        refine lv_iload hx hb dX11_outer_198 (lv_at hl 3 rfl) ?_
        refine lv_aload_n hx hb dX11_outer_200 rfl (lv_at hl 4 rfl) ?_
        refine va_get (D := D) (ci := 11) (v := .ref (a 16)) (C := RX11) (T := TX11) (N := 47) hx hb hts hin_X11 hown hK hP 0 rfl rfl 16 (by decide) (hts (.fieldLink RX11 42 "ClashFreeModel" "paper" "[I") (List.mem_of_getElem? (i := 1) rfl)) (fun _ h9 => h9) rfl dX11_outer_201 ?_
        refine lv_iload hx hb dX11_outer_204 (lv_at hl 2 rfl) ?_
        refine va_iald hx hb hK hP 8 7 rfl rfl (vp_in_nI (by omega) (by decide)) dX11_outer_206 ?_
        refine lv_topi (fun v10 ev10 => ?_)
        obtain rfl : v10 = nI ((cntJ (fun y => plN ca cb nn (K y)) cn) j) := ev10.trans (by rw [nI_clamp (by omega)]; exact hcc j hlt_j)
        refine lv_if_ne (tgt := 214) hx hb dX11_outer_207 (by decide) (fun hc11 => ?_) (fun hc11 => ?_)
        ·
          have hze : zeN (cntJ (fun y => plN ca cb nn (K y)) cn) (j + 1) = zeN (cntJ (fun y => plN ca cb nn (K y)) cn) j := if_neg (fun z => hc11 (by rw [z]; rfl))
          refine lv_iconst (v := 0) hx hb dX11_outer_214 (by decide) ?_
          have hPc := hP.sub (ws' := []) [] rfl
          have hKc := hK.sub (tys' := []) [] rfl
          have hFc := va_free0 hS hA
          refine va_calli (va_runS (As := [.int 0]) (rest := [.int (nI (zeN (cntJ (fun y => plN ca cb nn (K y)) cn) j))]) ⟨hx, hb, hml, hown, hts⟩ (c_flag l D _ 0) (va_cwS 1 hts g_c_outerN_c_flag_198 rfl rfl rfl (by decide +kernel) ⟨(Nat.le_of_ble_eq_true rfl), (Nat.le_of_ble_eq_true rfl)⟩) (PcR_S hPc hKc) rfl rfl hl.1 rfl (lv_room (Nat.le_of_ble_eq_true rfl)) dX11_outer_215 ⟨(Nat.le_of_ble_eq_true rfl), (Nat.le_of_ble_eq_true rfl)⟩) hS (fun q _ h => hFc q h) hFc (fun r12 uu tt H locs htt hvm hw hB hz1 hk1 hS => ?_)
          have hP := va_keep hP hk1
          try dsimp only at hw
          clear hB hz1 hk1 hFc hPc hKc
          obtain rfl : r12 = 0 := hw.trans (by decide)
          refine lv_iadd hx hb dX11_outer_218 ?_
          refine lv_topi (fun v13 ev13 => ?_)
          obtain rfl : v13 = nI (zeN (cntJ (fun y => plN ca cb nn (K y)) cn) j) := ev13.trans (Int32.add_zero _)
          refine lv_istore (lv' := [(9, .int (nI (zeN (cntJ (fun y => plN ca cb nn (K y)) cn) j))), (8, .int (nI (mxN (cntJ (fun y => plN ca cb nn (K y)) cn) j))), (6, .long (lN (sqF (cntJ (fun y => plN ca cb nn (K y)) cn) (j + 1)))), (10, .int (nI j)), (0, .ref h0), (1, .int (nI k)), (2, .int (nI ca)), (3, .int (nI cb)), (4, .int (nI nn)), (5, .int z5)]) hx hb dX11_outer_219 hl (by decide) rfl (fun ls hl => ?_)
          refine lv_iinc (v := nI (j + 1)) (lv' := [(10, .int (nI (j + 1))), (9, .int (nI (zeN (cntJ (fun y => plN ca cb nn (K y)) cn) j))), (8, .int (nI (mxN (cntJ (fun y => plN ca cb nn (K y)) cn) j))), (6, .long (lN (sqF (cntJ (fun y => plN ca cb nn (K y)) cn) (j + 1)))), (0, .ref h0), (1, .int (nI k)), (2, .int (nI ca)), (3, .int (nI cb)), (4, .int (nI nn)), (5, .int z5)]) hx hb dX11_outer_221 hl (k := 3) rfl (nI_1 j) (by decide) rfl (fun ls hl => ?_)
          refine lv_goto (tgt := 143) hx hb dX11_outer_224 (by decide) ?_
          rw [← hmx, ← hze] at hl
          exact ih (j + 1) (by omega) (by omega) H locs ls (hP.sub [0, 1, 2, 3, 4, 5, 6, 7, 8] rfl) (hD.sub [0, 1, 2, 3, 4, 5, 6, 7, 8] (by decide) rfl) hS (lv_sub hl [0, 1, 2, 3, 4, 5, 6, 7, 8, 9] rfl)
        ·
          have hze : zeN (cntJ (fun y => plN ca cb nn (K y)) cn) (j + 1) = zeN (cntJ (fun y => plN ca cb nn (K y)) cn) j + 1 := if_pos ((nI_eq (b := 0) (by omega) (by decide)).mp hc11)
          refine lv_iconst (v := 1) hx hb dX11_outer_210 (by decide) ?_
          refine lv_goto (tgt := 215) hx hb dX11_outer_211 (by decide) ?_
          have hPc := hP.sub (ws' := []) [] rfl
          have hKc := hK.sub (tys' := []) [] rfl
          have hFc := va_free0 hS hA
          refine va_calli (va_runS (As := [.int 1]) (rest := [.int (nI (zeN (cntJ (fun y => plN ca cb nn (K y)) cn) j))]) ⟨hx, hb, hml, hown, hts⟩ (c_flag l D _ 1) (va_cwS 1 hts g_c_outerN_c_flag_198 rfl rfl rfl (by decide +kernel) ⟨(Nat.le_of_ble_eq_true rfl), (Nat.le_of_ble_eq_true rfl)⟩) (PcR_S hPc hKc) rfl rfl hl.1 rfl (lv_room (Nat.le_of_ble_eq_true rfl)) dX11_outer_215 ⟨(Nat.le_of_ble_eq_true rfl), (Nat.le_of_ble_eq_true rfl)⟩) hS (fun q _ h => hFc q h) hFc (fun r14 uu tt H locs htt hvm hw hB hz1 hk1 hS => ?_)
          have hP := va_keep hP hk1
          try dsimp only at hw
          clear hB hz1 hk1 hFc hPc hKc
          obtain rfl : r14 = 1 := hw.trans (by decide)
          refine lv_iadd hx hb dX11_outer_218 ?_
          refine lv_topi (fun v15 ev15 => ?_)
          obtain rfl : v15 = nI (zeN (cntJ (fun y => plN ca cb nn (K y)) cn) j + 1) := ev15.trans (nI_1 _)
          refine lv_istore (lv' := [(9, .int (nI (zeN (cntJ (fun y => plN ca cb nn (K y)) cn) j + 1))), (8, .int (nI (mxN (cntJ (fun y => plN ca cb nn (K y)) cn) j))), (6, .long (lN (sqF (cntJ (fun y => plN ca cb nn (K y)) cn) (j + 1)))), (10, .int (nI j)), (0, .ref h0), (1, .int (nI k)), (2, .int (nI ca)), (3, .int (nI cb)), (4, .int (nI nn)), (5, .int z5)]) hx hb dX11_outer_219 hl (by decide) rfl (fun ls hl => ?_)
          refine lv_iinc (v := nI (j + 1)) (lv' := [(10, .int (nI (j + 1))), (9, .int (nI (zeN (cntJ (fun y => plN ca cb nn (K y)) cn) j + 1))), (8, .int (nI (mxN (cntJ (fun y => plN ca cb nn (K y)) cn) j))), (6, .long (lN (sqF (cntJ (fun y => plN ca cb nn (K y)) cn) (j + 1)))), (0, .ref h0), (1, .int (nI k)), (2, .int (nI ca)), (3, .int (nI cb)), (4, .int (nI nn)), (5, .int z5)]) hx hb dX11_outer_221 hl (k := 3) rfl (nI_1 j) (by decide) rfl (fun ls hl => ?_)
          refine lv_goto (tgt := 143) hx hb dX11_outer_224 (by decide) ?_
          rw [← hmx, ← hze] at hl
          exact ih (j + 1) (by omega) (by omega) H locs ls (hP.sub [0, 1, 2, 3, 4, 5, 6, 7, 8] rfl) (hD.sub [0, 1, 2, 3, 4, 5, 6, 7, 8] (by decide) rfl) hS (lv_sub hl [0, 1, 2, 3, 4, 5, 6, 7, 8, 9] rfl)
      ·
        have hmx : mxN (cntJ (fun y => plN ca cb nn (K y)) cn) (j + 1) = ((cntJ (fun y => plN ca cb nn (K y)) cn) j) := if_pos (Nat.not_le.mp (fun z => hc9 (nI_le z (by omega))))
        refine lv_aload_n hx hb dX11_outer_184 rfl (lv_at hl 4 rfl) ?_
        refine va_get (D := D) (ci := 11) (v := .ref (a 16)) (C := RX11) (T := TX11) (N := 47) hx hb hts hin_X11 hown hK hP 0 rfl rfl 16 (by decide) (hts (.fieldLink RX11 42 "ClashFreeModel" "paper" "[I") (List.mem_of_getElem? (i := 1) rfl)) (fun _ h9 => h9) rfl dX11_outer_185 ?_
        refine lv_iload hx hb dX11_outer_188 (lv_at hl 1 rfl) ?_
        refine va_iald hx hb hK hP 8 7 rfl rfl (vp_in_nI (by omega) (by decide)) dX11_outer_190 ?_
        refine lv_topi (fun v16 ev16 => ?_)
        obtain rfl : v16 = nI ((cntJ (fun y => plN ca cb nn (K y)) cn) j) := ev16.trans (by rw [nI_clamp (by omega)]; exact hcc j hlt_j)
        refine lv_goto (tgt := 196) hx hb dX11_outer_191 (by decide) ?_
        refine lv_istore (lv' := [(8, .int (nI ((cntJ (fun y => plN ca cb nn (K y)) cn) j))), (6, .long (lN (sqF (cntJ (fun y => plN ca cb nn (K y)) cn) (j + 1)))), (10, .int (nI j)), (9, .int (nI (zeN (cntJ (fun y => plN ca cb nn (K y)) cn) j))), (0, .ref h0), (1, .int (nI k)), (2, .int (nI ca)), (3, .int (nI cb)), (4, .int (nI nn)), (5, .int z5)]) hx hb dX11_outer_196 hl (by decide) rfl (fun ls hl => ?_)
        refine lv_iload hx hb dX11_outer_198 (lv_at hl 3 rfl) ?_
        refine lv_aload_n hx hb dX11_outer_200 rfl (lv_at hl 4 rfl) ?_
        refine va_get (D := D) (ci := 11) (v := .ref (a 16)) (C := RX11) (T := TX11) (N := 47) hx hb hts hin_X11 hown hK hP 0 rfl rfl 16 (by decide) (hts (.fieldLink RX11 42 "ClashFreeModel" "paper" "[I") (List.mem_of_getElem? (i := 1) rfl)) (fun _ h9 => h9) rfl dX11_outer_201 ?_
        refine lv_iload hx hb dX11_outer_204 (lv_at hl 2 rfl) ?_
        refine va_iald hx hb hK hP 8 7 rfl rfl (vp_in_nI (by omega) (by decide)) dX11_outer_206 ?_
        refine lv_topi (fun v17 ev17 => ?_)
        obtain rfl : v17 = nI ((cntJ (fun y => plN ca cb nn (K y)) cn) j) := ev17.trans (by rw [nI_clamp (by omega)]; exact hcc j hlt_j)
        refine lv_if_ne (tgt := 214) hx hb dX11_outer_207 (by decide) (fun hc18 => ?_) (fun hc18 => ?_)
        ·
          have hze : zeN (cntJ (fun y => plN ca cb nn (K y)) cn) (j + 1) = zeN (cntJ (fun y => plN ca cb nn (K y)) cn) j := if_neg (fun z => hc18 (by rw [z]; rfl))
          refine lv_iconst (v := 0) hx hb dX11_outer_214 (by decide) ?_
          have hPc := hP.sub (ws' := []) [] rfl
          have hKc := hK.sub (tys' := []) [] rfl
          have hFc := va_free0 hS hA
          refine va_calli (va_runS (As := [.int 0]) (rest := [.int (nI (zeN (cntJ (fun y => plN ca cb nn (K y)) cn) j))]) ⟨hx, hb, hml, hown, hts⟩ (c_flag l D _ 0) (va_cwS 1 hts g_c_outerN_c_flag_198 rfl rfl rfl (by decide +kernel) ⟨(Nat.le_of_ble_eq_true rfl), (Nat.le_of_ble_eq_true rfl)⟩) (PcR_S hPc hKc) rfl rfl hl.1 rfl (lv_room (Nat.le_of_ble_eq_true rfl)) dX11_outer_215 ⟨(Nat.le_of_ble_eq_true rfl), (Nat.le_of_ble_eq_true rfl)⟩) hS (fun q _ h => hFc q h) hFc (fun r19 uu tt H locs htt hvm hw hB hz1 hk1 hS => ?_)
          have hP := va_keep hP hk1
          try dsimp only at hw
          clear hB hz1 hk1 hFc hPc hKc
          obtain rfl : r19 = 0 := hw.trans (by decide)
          refine lv_iadd hx hb dX11_outer_218 ?_
          refine lv_topi (fun v20 ev20 => ?_)
          obtain rfl : v20 = nI (zeN (cntJ (fun y => plN ca cb nn (K y)) cn) j) := ev20.trans (Int32.add_zero _)
          refine lv_istore (lv' := [(9, .int (nI (zeN (cntJ (fun y => plN ca cb nn (K y)) cn) j))), (8, .int (nI ((cntJ (fun y => plN ca cb nn (K y)) cn) j))), (6, .long (lN (sqF (cntJ (fun y => plN ca cb nn (K y)) cn) (j + 1)))), (10, .int (nI j)), (0, .ref h0), (1, .int (nI k)), (2, .int (nI ca)), (3, .int (nI cb)), (4, .int (nI nn)), (5, .int z5)]) hx hb dX11_outer_219 hl (by decide) rfl (fun ls hl => ?_)
          refine lv_iinc (v := nI (j + 1)) (lv' := [(10, .int (nI (j + 1))), (9, .int (nI (zeN (cntJ (fun y => plN ca cb nn (K y)) cn) j))), (8, .int (nI ((cntJ (fun y => plN ca cb nn (K y)) cn) j))), (6, .long (lN (sqF (cntJ (fun y => plN ca cb nn (K y)) cn) (j + 1)))), (0, .ref h0), (1, .int (nI k)), (2, .int (nI ca)), (3, .int (nI cb)), (4, .int (nI nn)), (5, .int z5)]) hx hb dX11_outer_221 hl (k := 3) rfl (nI_1 j) (by decide) rfl (fun ls hl => ?_)
          refine lv_goto (tgt := 143) hx hb dX11_outer_224 (by decide) ?_
          rw [← hmx, ← hze] at hl
          exact ih (j + 1) (by omega) (by omega) H locs ls (hP.sub [0, 1, 2, 3, 4, 5, 6, 7, 8] rfl) (hD.sub [0, 1, 2, 3, 4, 5, 6, 7, 8] (by decide) rfl) hS (lv_sub hl [0, 1, 2, 3, 4, 5, 6, 7, 8, 9] rfl)
        ·
          have hze : zeN (cntJ (fun y => plN ca cb nn (K y)) cn) (j + 1) = zeN (cntJ (fun y => plN ca cb nn (K y)) cn) j + 1 := if_pos ((nI_eq (b := 0) (by omega) (by decide)).mp hc18)
          refine lv_iconst (v := 1) hx hb dX11_outer_210 (by decide) ?_
          refine lv_goto (tgt := 215) hx hb dX11_outer_211 (by decide) ?_
          have hPc := hP.sub (ws' := []) [] rfl
          have hKc := hK.sub (tys' := []) [] rfl
          have hFc := va_free0 hS hA
          refine va_calli (va_runS (As := [.int 1]) (rest := [.int (nI (zeN (cntJ (fun y => plN ca cb nn (K y)) cn) j))]) ⟨hx, hb, hml, hown, hts⟩ (c_flag l D _ 1) (va_cwS 1 hts g_c_outerN_c_flag_198 rfl rfl rfl (by decide +kernel) ⟨(Nat.le_of_ble_eq_true rfl), (Nat.le_of_ble_eq_true rfl)⟩) (PcR_S hPc hKc) rfl rfl hl.1 rfl (lv_room (Nat.le_of_ble_eq_true rfl)) dX11_outer_215 ⟨(Nat.le_of_ble_eq_true rfl), (Nat.le_of_ble_eq_true rfl)⟩) hS (fun q _ h => hFc q h) hFc (fun r21 uu tt H locs htt hvm hw hB hz1 hk1 hS => ?_)
          have hP := va_keep hP hk1
          try dsimp only at hw
          clear hB hz1 hk1 hFc hPc hKc
          obtain rfl : r21 = 1 := hw.trans (by decide)
          refine lv_iadd hx hb dX11_outer_218 ?_
          refine lv_topi (fun v22 ev22 => ?_)
          obtain rfl : v22 = nI (zeN (cntJ (fun y => plN ca cb nn (K y)) cn) j + 1) := ev22.trans (nI_1 _)
          refine lv_istore (lv' := [(9, .int (nI (zeN (cntJ (fun y => plN ca cb nn (K y)) cn) j + 1))), (8, .int (nI ((cntJ (fun y => plN ca cb nn (K y)) cn) j))), (6, .long (lN (sqF (cntJ (fun y => plN ca cb nn (K y)) cn) (j + 1)))), (10, .int (nI j)), (0, .ref h0), (1, .int (nI k)), (2, .int (nI ca)), (3, .int (nI cb)), (4, .int (nI nn)), (5, .int z5)]) hx hb dX11_outer_219 hl (by decide) rfl (fun ls hl => ?_)
          refine lv_iinc (v := nI (j + 1)) (lv' := [(10, .int (nI (j + 1))), (9, .int (nI (zeN (cntJ (fun y => plN ca cb nn (K y)) cn) j + 1))), (8, .int (nI ((cntJ (fun y => plN ca cb nn (K y)) cn) j))), (6, .long (lN (sqF (cntJ (fun y => plN ca cb nn (K y)) cn) (j + 1)))), (0, .ref h0), (1, .int (nI k)), (2, .int (nI ca)), (3, .int (nI cb)), (4, .int (nI nn)), (5, .int z5)]) hx hb dX11_outer_221 hl (k := 3) rfl (nI_1 j) (by decide) rfl (fun ls hl => ?_)
          refine lv_goto (tgt := 143) hx hb dX11_outer_224 (by decide) ?_
          rw [← hmx, ← hze] at hl
          exact ih (j + 1) (by omega) (by omega) H locs ls (hP.sub [0, 1, 2, 3, 4, 5, 6, 7, 8] rfl) (hD.sub [0, 1, 2, 3, 4, 5, 6, 7, 8] (by decide) rfl) hS (lv_sub hl [0, 1, 2, 3, 4, 5, 6, 7, 8, 9] rfl)
set_option maxHeartbeats 4000000 in
set_option maxRecDepth 100000 in
theorem c_outerN (l : Launch) (D : va_G) (sz : Nat) (h0 : Nat) (a : Nat → Nat) (cm : Nat → ClassId) (i : Nat → Int32) (g : Nat → Int64) (fn : Nat → Int64) (fk : Nat → Int32) (fb : Nat → Int32) (ff : Nat → Int32) (fh : Nat → Int32) (fa : Nat → Int64) (fs : Nat → Int64) (fp : Nat → Int32) (z1 : Int32) (z2 : Int32) (z3 : Int32) (z4 : Int32) (z5 : Int32) (hM : MInv fn fk fb ff fh fa fs) : Met l yX11_outer wp_c_outerN ({ frames := 6, cells := 0, slots := 0, locals := 160 }) (PcW D [.ref h0, .int z1, .int z2, .int z3, .int z4, .int z5] sz [(h0, .inr (11, gM a i g)), (a 3, .inl (cm 3, 85, .inr (.inl fn))), (a 4, .inl (cm 4, 800, .inl fk)), (a 6, .inl (cm 6, 800, .inl fb)), (a 8, .inl (cm 8, 10240, .inl ff)), (a 9, .inl (cm 9, 10240, .inl fh)), (a 10, .inl (cm 10, 10240, .inr (.inl fa))), (a 11, .inl (cm 11, 10240, .inr (.inl fs))), (a 16, .inl (cm 16, 2048, .inl fp))] [(cm 3, .long), (cm 4, .int), (cm 6, .int), (cm 8, .int), (cm 9, .int), (cm 10, .long), (cm 11, .long), (cm 16, .int)]) (va_Ql (fun (r : Int64) (u : (Nat → Int32) × (Int32)) => ∀ fv, r = outA (there fn z1) (lsR fn fk fv) z1 z2 z3 z4 z5) (fun (u : (Nat → Int32) × (Int32)) t => va_P D vwCl [(h0, .inr (11, gM a (upd i 0 u.2) g)), (a 3, .inl (cm 3, 85, .inr (.inl fn))), (a 4, .inl (cm 4, 800, .inl fk)), (a 6, .inl (cm 6, 800, .inl fb)), (a 8, .inl (cm 8, 10240, .inl ff)), (a 9, .inl (cm 9, 10240, .inl fh)), (a 10, .inl (cm 10, 10240, .inr (.inl fa))), (a 11, .inl (cm 11, 10240, .inr (.inl fs))), (a 16, .inl (cm 16, 2048, .inl u.1))] t.heap ∧ va_K D vwCl [(cm 3, .long), (cm 4, .int), (cm 6, .int), (cm 8, .int), (cm 9, .int), (cm 10, .long), (cm 11, .long), (cm 16, .int)] t ∧ va_D (va_A [(h0, .inr (11, gM a i g)), (a 3, .inl (cm 3, 85, .inr (.inl fn))), (a 4, .inl (cm 4, 800, .inl fk)), (a 6, .inl (cm 6, 800, .inl fb)), (a 8, .inl (cm 8, 10240, .inl ff)), (a 9, .inl (cm 9, 10240, .inl fh)), (a 10, .inl (cm 10, 10240, .inr (.inl fa))), (a 11, .inl (cm 11, 10240, .inr (.inl fs))), (a 16, .inl (cm 16, 2048, .inl fp))] sz) [(h0, .inr (11, gM a (upd i 0 u.2) g)), (a 3, .inl (cm 3, 85, .inr (.inl fn))), (a 4, .inl (cm 4, 800, .inl fk)), (a 6, .inl (cm 6, 800, .inl fb)), (a 8, .inl (cm 8, 10240, .inl ff)), (a 9, .inl (cm 9, 10240, .inl fh)), (a 10, .inl (cm 10, 10240, .inr (.inl fa))), (a 11, .inl (cm 11, 10240, .inr (.inl fs))), (a 16, .inl (cm 16, 2048, .inl u.1))]) (va_A [(h0, .inr (11, gM a i g)), (a 3, .inl (cm 3, 85, .inr (.inl fn))), (a 4, .inl (cm 4, 800, .inl fk)), (a 6, .inl (cm 6, 800, .inl fb)), (a 8, .inl (cm 8, 10240, .inl ff)), (a 9, .inl (cm 9, 10240, .inl fh)), (a 10, .inl (cm 10, 10240, .inr (.inl fa))), (a 11, .inl (cm 11, 10240, .inr (.inl fs))), (a 16, .inl (cm 16, 2048, .inl fp))] sz)) 0 0 (va_A [(h0, .inr (11, gM a i g)), (a 3, .inl (cm 3, 85, .inr (.inl fn))), (a 4, .inl (cm 4, 800, .inl fk)), (a 6, .inl (cm 6, 800, .inl fb)), (a 8, .inl (cm 8, 10240, .inl ff)), (a 9, .inl (cm 9, 10240, .inl fh)), (a 10, .inl (cm 10, 10240, .inr (.inl fa))), (a 11, .inl (cm 11, 10240, .inr (.inl fs))), (a 16, .inl (cm 16, 2048, .inl fp))] sz) := by
  refine Met.ofW (cc := cX11_outer) (maxL := 11) (ret := (some .long)) (by decide) rfl ?_
  intro p e s m args below meth c s₁ B hml hv
  obtain ⟨rfl, hsz, hP, hK, hD0⟩ := hv
  have hx := B.exec
  have hb := B.bytes
  have hr := B.returns
  have hts := atoms_spec (ws := wp_c_outerN) B.pre
  have hin_X11 : ∀ w ∈ wsX110, w ∈ wp_c_outerN := fun _ h => (List.mem_cons_of_mem _ (List.mem_append_right _ (List.mem_append_right _ (List.mem_append_right _ (List.mem_append_right _ (List.mem_append_right _ (List.mem_append_right _ (List.mem_append_right _ (List.mem_append_left _ h)))))))))
  have hown : s.vm.findClass RX11 = some m.cls := findClass_of_methodNamed B.named
  have hlocks := B.notSynchronized
  subst hsz
  have hD := hD0.self (sz := s.heap.size)
  generalize hAe : va_A [(h0, .inr (11, gM a i g)), (a 3, .inl (cm 3, 85, .inr (.inl fn))), (a 4, .inl (cm 4, 800, .inl fk)), (a 6, .inl (cm 6, 800, .inl fb)), (a 8, .inl (cm 8, 10240, .inl ff)), (a 9, .inl (cm 9, 10240, .inl fh)), (a 10, .inl (cm 10, 10240, .inr (.inl fa))), (a 11, .inl (cm 11, 10240, .inr (.inl fs))), (a 16, .inl (cm 16, 2048, .inl fp))] s.heap.size = A at hD ⊢
  have hA : ∀ q : Nat, s.heap.size ≤ q → A q := fun q h => by rw [← hAe]; exact Or.inr h
  have hS : va_S A s.heap s.heap [] := va_S.rf
  have hP : va_P D vwCl [(h0, .inr (11, gM a i g)), (a 3, .inl (cm 3, 85, .inr (.inl fn))), (a 4, .inl (cm 4, 800, .inl fk)), (a 6, .inl (cm 6, 800, .inl fb)), (a 8, .inl (cm 8, 10240, .inl ff)), (a 9, .inl (cm 9, 10240, .inl fh)), (a 10, .inl (cm 10, 10240, .inr (.inl fa))), (a 11, .inl (cm 11, 10240, .inr (.inl fs))), (a 16, .inl (cm 16, 2048, .inl fp))] s.heap := hP
  have hl := lv_entry ([.ref h0, .int z1, .int z2, .int z3, .int z4, .int z5]) (n := 11) (Nat.le_of_ble_eq_true rfl)
  rw [lg_entry_eq]
  generalize (lg_sl ([.ref h0, .int z1, .int z2, .int z3, .int z4, .int z5]) ++ List.replicate (11 - (lg_sl ([.ref h0, .int z1, .int z2, .int z3, .int z4, .int z5])).length) Slot.unset).toArray = ls at hl ⊢
  have hl : lv_has ls 11 [(0, .ref h0), (1, .int z1), (2, .int z2), (3, .int z3), (4, .int z4), (5, .int z5)] := hl
  refine lv_aload_n hx hb dX11_outer_0 rfl (lv_at hl 0 rfl) ?_
  refine lv_iconst (v := 0) hx hb dX11_outer_1 (by decide) ?_
  refine va_put (D := D) (ci := 11) (v := .int 0) (ty := .int) (C := RX11) (T := TX11) (N := 47) hx hb hts hin_X11 tyX11 tyX11_ok nmX11 hown hK hP hD hS 0 rfl rfl 0 (by decide) (hts (.fieldLink RX11 73 "ClashFreeModel" "thrown" "I") (List.mem_of_getElem? (i := 11) rfl)) (fun _ h9 => h9) rfl (by decide +kernel) rfl rfl (Nat.le_of_ble_eq_true rfl) dX11_outer_2 (fun H locs hP hD hS => ?_)
  have hP : va_P D vwCl [(h0, .inr (11, gM a (upd i 0 0) g)), (a 3, .inl (cm 3, 85, .inr (.inl fn))), (a 4, .inl (cm 4, 800, .inl fk)), (a 6, .inl (cm 6, 800, .inl fb)), (a 8, .inl (cm 8, 10240, .inl ff)), (a 9, .inl (cm 9, 10240, .inl fh)), (a 10, .inl (cm 10, 10240, .inr (.inl fa))), (a 11, .inl (cm 11, 10240, .inr (.inl fs))), (a 16, .inl (cm 16, 2048, .inl fp))] H := hP
  have hD : va_D A [(h0, .inr (11, gM a (upd i 0 0) g)), (a 3, .inl (cm 3, 85, .inr (.inl fn))), (a 4, .inl (cm 4, 800, .inl fk)), (a 6, .inl (cm 6, 800, .inl fb)), (a 8, .inl (cm 8, 10240, .inl ff)), (a 9, .inl (cm 9, 10240, .inl fh)), (a 10, .inl (cm 10, 10240, .inr (.inl fa))), (a 11, .inl (cm 11, 10240, .inr (.inl fs))), (a 16, .inl (cm 16, 2048, .inl fp))] := hD
  refine lv_aload_n hx hb dX11_outer_5 rfl (lv_at hl 0 rfl) ?_
  refine lv_iload_n hx hb dX11_outer_6 rfl (lv_at hl 1 rfl) ?_
  have hPc := hP.sub (ws' := [(h0, .inr (11, gM a (upd i 0 0) g)), (a 3, .inl (cm 3, 85, .inr (.inl fn)))]) [0, 1] rfl
  have hKc := hK.sub (tys' := [(cm 3, .long)]) [0] rfl
  have hFc := va_free0 hS hA
  refine va_calli (va_runV (As := [.int z1]) (rest := []) ⟨hx, hb, hml, hown, hts⟩ (c_isThere l D _ h0 a cm (upd i 0 0) g fn z1) (cwV 1 hts g_c_outerN_c_isThere_222 rfl rfl rfl (by decide +kernel) ⟨(Nat.le_of_ble_eq_true rfl), (Nat.le_of_ble_eq_true rfl)⟩) (PcR_V (q0 := 0) hPc hKc rfl rfl) rfl rfl hl.1 rfl (lv_room (Nat.le_of_ble_eq_true rfl)) dX11_outer_7 ⟨(Nat.le_of_ble_eq_true rfl), (Nat.le_of_ble_eq_true rfl)⟩) hS (fun q _ h => hFc q h) hFc (fun r1 uu tt H locs htt hvm hw hB hz1 hk1 hS => ?_)
  have hP := va_keep hP hk1
  try dsimp only at hw
  clear hB hz1 hk1 hFc hPc hKc
  rcases hw with ⟨rfl, hA_r1⟩ | ⟨rfl, hA_r1⟩
  ·
    obtain ⟨k, hk, rfl, ht⟩ := hA_r1
    obtain ⟨cn, nb, K, J, hT⟩ := hM.2.2 k hk ht
    have hth := (show there fn (nI k) from ⟨k, hk, rfl, ht⟩)
    obtain ⟨h1, hcn, h4, hn1, hn2, ⟨ka, kb, hka, hkb, h6, h7⟩, hKy, hBk, hHs, ⟨bn, ns, gr, h14, hbn, h15, hs1, hs2, h16, hgr⟩⟩ := id hT
    refine lv_if_eq (tgt := 47) hx hb dX11_outer_10 (by decide) (fun hc => absurd hc (by decide)) (fun hc => ?_)
    refine lv_iload_n hx hb dX11_outer_13 rfl (lv_at hl 2 rfl) ?_
    refine lv_iload_n hx hb dX11_outer_14 rfl (lv_at hl 3 rfl) ?_
    have hPc := hP.sub (ws' := []) [] rfl
    have hKc := hK.sub (tys' := []) [] rfl
    have hFc := va_free0 hS hA
    refine va_calli (va_runS (As := [.int z2, .int z3]) (rest := []) ⟨hx, hb, hml, hown, hts⟩ (c_isPairN l D _ z2 z3) (va_cwS 2 hts g_c_outerN_c_isPairN_252 rfl rfl rfl (by decide +kernel) ⟨(Nat.le_of_ble_eq_true rfl), (Nat.le_of_ble_eq_true rfl)⟩) (PcR_S hPc hKc) rfl rfl hl.1 rfl (lv_room (Nat.le_of_ble_eq_true rfl)) dX11_outer_15 ⟨(Nat.le_of_ble_eq_true rfl), (Nat.le_of_ble_eq_true rfl)⟩) hS (fun q _ h => hFc q h) hFc (fun r2 uu tt H locs htt hvm hw hB hz1 hk1 hS => ?_)
    have hP := va_keep hP hk1
    try dsimp only at hw
    clear hB hz1 hk1 hFc hPc hKc
    rcases hw with ⟨rfl, hA_r2⟩ | ⟨rfl, hA_r2⟩
    ·
      obtain ⟨⟨ca, hca1, hca, rfl⟩, ⟨cb, hcb, rfl⟩⟩ := hA_r2
      refine lv_if_eq (tgt := 47) hx hb dX11_outer_18 (by decide) (fun hc => absurd hc (by decide)) (fun hc => ?_)
      refine lv_iload hx hb dX11_outer_21 (lv_at hl 4 rfl) ?_
      refine lv_i2l hx hb dX11_outer_23 rfl ?_
      refine lv_lconst (v := 1) hx hb dX11_outer_24 (by decide) ?_
      refine lv_ldc2 (v := 2048) hx hb hown (hts (.constantLong RX11 169 (2048)) (List.mem_of_getElem? (i := 17) rfl)) dX11_outer_25 ?_
      have hPc := hP.sub (ws' := []) [] rfl
      have hKc := hK.sub (tys' := []) [] rfl
      have hFc := va_free0 hS hA
      refine va_calli (va_runS (As := [.long (Int32.toInt64 z4), .long 1, .long 2048]) (rest := []) ⟨hx, hb, hml, hown, hts⟩ (c_isIn l D _ (Int32.toInt64 z4) 1 2048) (va_cwS 3 hts g_c_outerN_c_isIn_83 rfl rfl rfl (by decide +kernel) ⟨(Nat.le_of_ble_eq_true rfl), (Nat.le_of_ble_eq_true rfl)⟩) (PcR_S hPc hKc) rfl rfl hl.1 rfl (lv_room (Nat.le_of_ble_eq_true rfl)) dX11_outer_28 ⟨(Nat.le_of_ble_eq_true rfl), (Nat.le_of_ble_eq_true rfl)⟩) hS (fun q _ h => hFc q h) hFc (fun r3 uu tt H locs htt hvm hw hB hz1 hk1 hS => ?_)
      have hP := va_keep hP hk1
      try dsimp only at hw
      clear hB hz1 hk1 hFc hPc hKc
      rcases hw with ⟨rfl, hA_r3⟩ | ⟨rfl, hA_r3⟩
      ·
        obtain ⟨nn, hm1, hm2, rfl⟩ := isBk.mp hA_r3
        refine lv_if_eq (tgt := 47) hx hb dX11_outer_31 (by decide) (fun hc => absurd hc (by decide)) (fun hc => ?_)
        refine lv_iload hx hb dX11_outer_34 (lv_at hl 5 rfl) ?_
        refine lv_i2l hx hb dX11_outer_36 rfl ?_
        refine lv_lconst (v := 0) hx hb dX11_outer_37 (by decide) ?_
        refine lv_ldc2 (v := 3) hx hb hown (hts (.constantLong RX11 87 (3)) (List.mem_of_getElem? (i := 20) rfl)) dX11_outer_38 ?_
        have hPc := hP.sub (ws' := []) [] rfl
        have hKc := hK.sub (tys' := []) [] rfl
        have hFc := va_free0 hS hA
        refine va_calli (va_runS (As := [.long (Int32.toInt64 z5), .long 0, .long 3]) (rest := []) ⟨hx, hb, hml, hown, hts⟩ (c_isIn l D _ (Int32.toInt64 z5) 0 3) (va_cwS 3 hts g_c_outerN_c_isIn_83 rfl rfl rfl (by decide +kernel) ⟨(Nat.le_of_ble_eq_true rfl), (Nat.le_of_ble_eq_true rfl)⟩) (PcR_S hPc hKc) rfl rfl hl.1 rfl (lv_room (Nat.le_of_ble_eq_true rfl)) dX11_outer_41 ⟨(Nat.le_of_ble_eq_true rfl), (Nat.le_of_ble_eq_true rfl)⟩) hS (fun q _ h => hFc q h) hFc (fun r4 uu tt H locs htt hvm hw hB hz1 hk1 hS => ?_)
        have hP := va_keep hP hk1
        try dsimp only at hw
        clear hB hz1 hk1 hFc hPc hKc
        rcases hw with ⟨rfl, hA_r4⟩ | ⟨rfl, hA_r4⟩
        ·
          refine lv_if_ne (tgt := 51) hx hb dX11_outer_44 (by decide) (fun hc => ?_) (fun hc => absurd hc (by decide))
          refine lv_iconst (v := 0) hx hb dX11_outer_51 (by decide) ?_
          refine lv_istore (lv' := [(6, .int 0), (0, .ref h0), (1, .int (nI k)), (2, .int (nI ca)), (3, .int (nI cb)), (4, .int (nI nn)), (5, .int z5)]) hx hb dX11_outer_52 hl (by decide) rfl (fun ls hl => ?_)
          refine lp_oun1 l D h0 a cm (upd i 0 0) g fn fk fb ff fh fa fs z5 k cn K ca cb nn (hk) (h1) (hcn) (hKy) (hca) (hcb) (hm1) (hm2) hx hb hml hown hts hA (hK.sub [0, 1, 2, 3, 4, 5, 6, 7] rfl) ?_ (nn + 1) 0 fp (Nat.zero_le _) (fun q hq => absurd hq (Nat.not_lt_zero _)) (by omega) _ _ _ (hP.sub [0, 1, 2, 3, 4, 5, 6, 7, 8] rfl) (hD.sub [0, 1, 2, 3, 4, 5, 6, 7, 8] (by decide) rfl) hS (lv_sub hl [0, 1, 2, 3, 4, 5, 6] rfl)
          intro j_5 gp_6 hj1_7 hz_8 hx9 H locs ls hP hD hS hl
          refine lv_sipush (v := 160) hx hb dX11_outer_75 (by decide) ?_
          refine lv_iload_n hx hb dX11_outer_78 rfl (lv_at hl 1 rfl) ?_
          refine lv_imul hx hb dX11_outer_79 ?_
          refine lv_topi (fun v10 ev10 => ?_)
          obtain rfl : v10 = nI (160 * k + 0) := ev10.trans (pk_mul 160 k)
          refine lv_istore (lv' := [(6, .int (nI (160 * k + 0))), (0, .ref h0), (1, .int (nI k)), (2, .int (nI ca)), (3, .int (nI cb)), (4, .int (nI nn)), (5, .int z5)]) hx hb dX11_outer_80 hl (by decide) rfl (fun ls hl => ?_)
          refine lp_oun2 l D h0 a cm (upd (upd i 0 0) 0 0) g fn fk fb ff fh fa fs z5 k cn K ca cb nn (hk) (h1) (hcn) (hKy) (hca) (hcb) (hm1) (hm2) hx hb hml hown hts hA (hK.sub [0, 1, 2, 3, 4, 5, 6, 7] rfl) ?_ (cn + 1) 0 gp_6 (Nat.zero_le _) (fun q hq => hz_8 q (by omega)) (by omega) _ _ _ (hP.sub [0, 1, 2, 3, 4, 5, 6, 7, 8] rfl) (hD.sub [0, 1, 2, 3, 4, 5, 6, 7, 8] (by decide) rfl) hS (lv_sub hl [0, 1, 2, 3, 4, 5, 6] rfl)
          intro x_11 gp_12 hx2_13 hc_14 hx15 H locs ls hP hD hS hl
          refine lv_lconst (v := 0) hx hb dX11_outer_131 (by decide) ?_
          refine lv_lstore (lv' := [(6, .long 0), (0, .ref h0), (1, .int (nI k)), (2, .int (nI ca)), (3, .int (nI cb)), (4, .int (nI nn)), (5, .int z5)]) hx hb dX11_outer_132 hl (by decide) rfl (fun ls hl => ?_)
          refine lv_iconst (v := 0) hx hb dX11_outer_134 (by decide) ?_
          refine lv_istore (lv' := [(8, .int 0), (6, .long 0), (0, .ref h0), (1, .int (nI k)), (2, .int (nI ca)), (3, .int (nI cb)), (4, .int (nI nn)), (5, .int z5)]) hx hb dX11_outer_135 hl (by decide) rfl (fun ls hl => ?_)
          refine lv_iconst (v := 0) hx hb dX11_outer_137 (by decide) ?_
          refine lv_istore (lv' := [(9, .int 0), (8, .int 0), (6, .long 0), (0, .ref h0), (1, .int (nI k)), (2, .int (nI ca)), (3, .int (nI cb)), (4, .int (nI nn)), (5, .int z5)]) hx hb dX11_outer_138 hl (by decide) rfl (fun ls hl => ?_)
          refine lv_iconst (v := 0) hx hb dX11_outer_140 (by decide) ?_
          refine lv_istore (lv' := [(10, .int 0), (9, .int 0), (8, .int 0), (6, .long 0), (0, .ref h0), (1, .int (nI k)), (2, .int (nI ca)), (3, .int (nI cb)), (4, .int (nI nn)), (5, .int z5)]) hx hb dX11_outer_141 hl (by decide) rfl (fun ls hl => ?_)
          have hcc := (show x_11 = cn by omega) ▸ hc_14
          refine lp_oun3 l D h0 a cm (upd (upd (upd i 0 0) 0 0) 0 0) g fn fk fb ff fh fa fs z5 k cn K ca cb nn gp_12 (hk) (h1) (hcn) (hKy) (hca) (hcb) (hm1) (hm2) (hcc) hx hb hml hown hts hA (hK.sub [0, 1, 2, 3, 4, 5, 6, 7] rfl) ?_ (nn + 1) 0 (Nat.zero_le _) (by omega) _ _ _ (hP.sub [0, 1, 2, 3, 4, 5, 6, 7, 8] rfl) (hD.sub [0, 1, 2, 3, 4, 5, 6, 7, 8] (by decide) rfl) hS (lv_sub hl [0, 1, 2, 3, 4, 5, 6, 7, 8, 9] rfl)
          intro j_16 hj1_17 hx18 H locs ls hP hD hS hl
          have hjn : j_16 = nn := by omega
          refine lv_iload hx hb dX11_outer_227 (lv_at hl 4 rfl) ?_
          refine lv_if_ne (tgt := 241) hx hb dX11_outer_229 (by decide) (fun hc19 => ?_) (fun hc19 => ?_)
          ·
            refine lv_iload hx hb dX11_outer_241 (lv_at hl 4 rfl) ?_
            refine lv_iconst (v := 1) hx hb dX11_outer_243 (by decide) ?_
            refine lv_icmp_ne (tgt := 252) hx hb dX11_outer_244 (by decide) (fun hc20 => ?_) (fun hc20 => ?_)
            ·
              refine lv_iload hx hb dX11_outer_252 (lv_at hl 4 rfl) ?_
              refine lv_iconst (v := 2) hx hb dX11_outer_254 (by decide) ?_
              refine lv_icmp_ne (tgt := 264) hx hb dX11_outer_255 (by decide) (fun hc21 => ?_) (fun hc21 => ?_)
              ·
                refine lv_iload hx hb dX11_outer_264 (lv_at hl 0 rfl) ?_
                refine lv_i2l hx hb dX11_outer_266 rfl ?_
                refine lv_topl (fun v22 ev22 => ?_)
                obtain rfl : v22 = lN (zeN (cntJ (fun y => plN ca cb nn (K y)) cn) j_16) := ev22.trans (nI_l (by have := zeN_le (cntJ (fun y => plN ca cb nn (K y)) cn) j_16; omega))
                exact W.lret (v := lN (zeN (cntJ (fun y => plN ca cb nn (K y)) cn) j_16)) hx hb hr (fun t ht hW => ⟨⟨lN (zeN (cntJ (fun y => plN ca cb nn (K y)) cn) j_16), (gp_12, 0), rfl, fun fv => by rw [outA_1 hk hth hca1 hca hcb hm1 hm2 (isIn04c.mp hA_r4), lsR_T hk hT fv, cntL_t, ouR_3 hc19 hc20 hc21, ← hjn], by rw [ht]; exact hP.sub [0, 1, 2, 3, 4, 5, 6, 7, 8] rfl, va_K.moved hW.alike (hK.sub [0, 1, 2, 3, 4, 5, 6, 7] rfl), hD.sub [0, 1, 2, 3, 4, 5, 6, 7, 8] (by decide) rfl⟩, hS.F ht⟩) hS.2.2 dX11_outer_267
              ·
                refine lv_iload hx hb dX11_outer_258 (lv_at hl 1 rfl) ?_
                refine lv_i2l hx hb dX11_outer_260 rfl ?_
                refine lv_topl (fun v23 ev23 => ?_)
                obtain rfl : v23 = lN (mxN (cntJ (fun y => plN ca cb nn (K y)) cn) j_16) := ev23.trans (nI_l (by have := mxN_le (c := (cntJ (fun y => plN ca cb nn (K y)) cn)) (b := cn) (cntJ_le _ cn) j_16; omega))
                refine lv_goto (tgt := 267) hx hb dX11_outer_261 (by decide) ?_
                exact W.lret (v := lN (mxN (cntJ (fun y => plN ca cb nn (K y)) cn) j_16)) hx hb hr (fun t ht hW => ⟨⟨lN (mxN (cntJ (fun y => plN ca cb nn (K y)) cn) j_16), (gp_12, 0), rfl, fun fv => by rw [outA_1 hk hth hca1 hca hcb hm1 hm2 (isIn04c.mp hA_r4), lsR_T hk hT fv, cntL_t, ouR_2 hc19 hc20 hc21, ← hjn], by rw [ht]; exact hP.sub [0, 1, 2, 3, 4, 5, 6, 7, 8] rfl, va_K.moved hW.alike (hK.sub [0, 1, 2, 3, 4, 5, 6, 7] rfl), hD.sub [0, 1, 2, 3, 4, 5, 6, 7, 8] (by decide) rfl⟩, hS.F ht⟩) hS.2.2 dX11_outer_267
            ·
              refine lv_lload hx hb dX11_outer_247 (lv_at hl 2 rfl) ?_
              refine lv_goto (tgt := 267) hx hb dX11_outer_249 (by decide) ?_
              exact W.lret (v := lN (sqF (cntJ (fun y => plN ca cb nn (K y)) cn) j_16)) hx hb hr (fun t ht hW => ⟨⟨lN (sqF (cntJ (fun y => plN ca cb nn (K y)) cn) j_16), (gp_12, 0), rfl, fun fv => by rw [outA_1 hk hth hca1 hca hcb hm1 hm2 (isIn04c.mp hA_r4), lsR_T hk hT fv, cntL_t, ouR_1 hc19 hc20, ← hjn], by rw [ht]; exact hP.sub [0, 1, 2, 3, 4, 5, 6, 7, 8] rfl, va_K.moved hW.alike (hK.sub [0, 1, 2, 3, 4, 5, 6, 7] rfl), hD.sub [0, 1, 2, 3, 4, 5, 6, 7, 8] (by decide) rfl⟩, hS.F ht⟩) hS.2.2 dX11_outer_267
          ·
            refine lv_ldc2 (v := 4) hx hb hown (hts (.constantLong RX11 160 (4)) (List.mem_of_getElem? (i := 21) rfl)) dX11_outer_232 ?_
            refine lv_lload hx hb dX11_outer_235 (lv_at hl 2 rfl) ?_
            refine lv_lmul hx hb dX11_outer_237 ?_
            refine lv_topl (fun v24 ev24 => ?_)
            obtain rfl : v24 = lN (4 * sqF (cntJ (fun y => plN ca cb nn (K y)) cn) j_16) := ev24.trans (lN_mul 4 _)
            refine lv_goto (tgt := 267) hx hb dX11_outer_238 (by decide) ?_
            exact W.lret (v := lN (4 * sqF (cntJ (fun y => plN ca cb nn (K y)) cn) j_16)) hx hb hr (fun t ht hW => ⟨⟨lN (4 * sqF (cntJ (fun y => plN ca cb nn (K y)) cn) j_16), (gp_12, 0), rfl, fun fv => by rw [outA_1 hk hth hca1 hca hcb hm1 hm2 (isIn04c.mp hA_r4), lsR_T hk hT fv, cntL_t, ouR_0 hc19, ← hjn], by rw [ht]; exact hP.sub [0, 1, 2, 3, 4, 5, 6, 7, 8] rfl, va_K.moved hW.alike (hK.sub [0, 1, 2, 3, 4, 5, 6, 7] rfl), hD.sub [0, 1, 2, 3, 4, 5, 6, 7, 8] (by decide) rfl⟩, hS.F ht⟩) hS.2.2 dX11_outer_267
        ·
          refine lv_if_ne (tgt := 51) hx hb dX11_outer_44 (by decide) (fun hc => absurd (by decide) hc) (fun hc => ?_)
          refine lv_ldc2 (v := (-1000000000000000)) hx hb hown (hts (.constantLong RX11 235 (-1000000000000000)) (List.mem_of_getElem? (i := 22) rfl)) dX11_outer_47 ?_
          exact W.lret (v := (-1000000000000000)) hx hb hr (fun t ht hW => ⟨⟨(-1000000000000000), (fp, 0), rfl, fun fv => (outA_0 (fun q => hA_r4 (isIn04c.mpr q.2.2.2))).symm, by rw [ht]; exact hP.sub [0, 1, 2, 3, 4, 5, 6, 7, 8] rfl, va_K.moved hW.alike (hK.sub [0, 1, 2, 3, 4, 5, 6, 7] rfl), hD.sub [0, 1, 2, 3, 4, 5, 6, 7, 8] (by decide) rfl⟩, hS.F ht⟩) hS.2.2 dX11_outer_50
      ·
        refine lv_if_eq (tgt := 47) hx hb dX11_outer_31 (by decide) (fun hc => ?_) (fun hc => absurd (by decide) hc)
        refine lv_ldc2 (v := (-1000000000000000)) hx hb hown (hts (.constantLong RX11 235 (-1000000000000000)) (List.mem_of_getElem? (i := 22) rfl)) dX11_outer_47 ?_
        exact W.lret (v := (-1000000000000000)) hx hb hr (fun t ht hW => ⟨⟨(-1000000000000000), (fp, 0), rfl, fun fv => (outA_0 (fun q => hA_r3 (isBk.mpr q.2.2.1))).symm, by rw [ht]; exact hP.sub [0, 1, 2, 3, 4, 5, 6, 7, 8] rfl, va_K.moved hW.alike (hK.sub [0, 1, 2, 3, 4, 5, 6, 7] rfl), hD.sub [0, 1, 2, 3, 4, 5, 6, 7, 8] (by decide) rfl⟩, hS.F ht⟩) hS.2.2 dX11_outer_50
    ·
      refine lv_if_eq (tgt := 47) hx hb dX11_outer_18 (by decide) (fun hc => ?_) (fun hc => absurd (by decide) hc)
      refine lv_ldc2 (v := (-1000000000000000)) hx hb hown (hts (.constantLong RX11 235 (-1000000000000000)) (List.mem_of_getElem? (i := 22) rfl)) dX11_outer_47 ?_
      exact W.lret (v := (-1000000000000000)) hx hb hr (fun t ht hW => ⟨⟨(-1000000000000000), (fp, 0), rfl, fun fv => (outA_0 (fun q => hA_r2 q.2.1)).symm, by rw [ht]; exact hP.sub [0, 1, 2, 3, 4, 5, 6, 7, 8] rfl, va_K.moved hW.alike (hK.sub [0, 1, 2, 3, 4, 5, 6, 7] rfl), hD.sub [0, 1, 2, 3, 4, 5, 6, 7, 8] (by decide) rfl⟩, hS.F ht⟩) hS.2.2 dX11_outer_50
  ·
    refine lv_if_eq (tgt := 47) hx hb dX11_outer_10 (by decide) (fun hc => ?_) (fun hc => absurd (by decide) hc)
    refine lv_ldc2 (v := (-1000000000000000)) hx hb hown (hts (.constantLong RX11 235 (-1000000000000000)) (List.mem_of_getElem? (i := 22) rfl)) dX11_outer_47 ?_
    exact W.lret (v := (-1000000000000000)) hx hb hr (fun t ht hW => ⟨⟨(-1000000000000000), (fp, 0), rfl, fun fv => (outA_0 (fun q => hA_r1 q.1)).symm, by rw [ht]; exact hP.sub [0, 1, 2, 3, 4, 5, 6, 7, 8] rfl, va_K.moved hW.alike (hK.sub [0, 1, 2, 3, 4, 5, 6, 7] rfl), hD.sub [0, 1, 2, 3, 4, 5, 6, 7, 8] (by decide) rfl⟩, hS.F ht⟩) hS.2.2 dX11_outer_50

