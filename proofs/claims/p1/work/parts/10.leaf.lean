def own_c_isIn : List Cond := []
def wp_c_isIn : List Cond := .code yX11_isIn cX11_isIn 6 (some .boolean) :: (own_c_isIn ++ ([] : List Cond))
set_option maxRecDepth 20000 in
theorem inown_c_isIn : ∀ w ∈ own_c_isIn, w ∈ lw_tbl := mem_places [] (by decide +kernel)
set_option maxRecDepth 20000 in
theorem in_c_isIn : ∀ w ∈ wp_c_isIn, w ∈ lw_tbl := List.forall_mem_cons.mpr ⟨List.mem_of_getElem? (i := 1373) (by decide +kernel), List.forall_mem_append.mpr ⟨inown_c_isIn, fun _ h => absurd h List.not_mem_nil⟩⟩
set_option maxRecDepth 20000 in
theorem good_c_isIn : wp_c_isIn.all goodWord = true := by decide +kernel
set_option maxHeartbeats 4000000 in
set_option maxRecDepth 100000 in
theorem c_isIn (l : Launch) (D : va_G) (sz : Nat) (v0 : Int64) (v1 : Int64) (v2 : Int64)  : Met l yX11_isIn wp_c_isIn ({ frames := 0, cells := 0, slots := 0, locals := 0 }) (PcR D [.long v0, .long v1, .long v2] sz [] []) (va_Qi (fun (r : Int32) (_ : Unit) => r = if v1 ≤ v0 ∧ v0 ≤ v2 then 1 else 0) (fun (_ : Unit) _ => True) (va_A [] sz)) 0 0 (va_A [] sz) := by
  refine Met.ofW (cc := cX11_isIn) (maxL := 6) (ret := (some .boolean)) (by decide) rfl ?_
  intro p e s m args below meth c s₁ B hml hv
  obtain ⟨rfl, hsz, hP, hK⟩ := hv
  have hx := B.exec
  have hb := B.bytes
  have hr := B.returns
  have hts := atoms_spec (ws := wp_c_isIn) B.pre
  have hown : s.vm.findClass RX11 = some m.cls := findClass_of_methodNamed B.named
  have hlocks := B.notSynchronized
  subst hsz
  generalize hAe : va_A [] s.heap.size = A at ⊢
  have hA : ∀ q : Nat, s.heap.size ≤ q → A q := fun q h => by rw [← hAe]; exact Or.inr h
  have hS : va_S A s.heap s.heap [] := va_S.rf
  have hP : va_P D vwCl [] s.heap := hP
  have hl := lv_entry ([.long v0, .long v1, .long v2]) (n := 6) (Nat.le_of_ble_eq_true rfl)
  rw [lg_entry_eq]
  generalize (lg_sl ([.long v0, .long v1, .long v2]) ++ List.replicate (6 - (lg_sl ([.long v0, .long v1, .long v2])).length) Slot.unset).toArray = ls at hl ⊢
  have hl : lv_has ls 6 [(0, .long v0), (2, .long v1), (4, .long v2)] := hl
  refine lv_lload_n hx hb dX11_isIn_0 rfl (lv_at hl 0 rfl) ?_
  refine lv_lload_n hx hb dX11_isIn_1 rfl (lv_at hl 1 rfl) ?_
  refine W.lcmp hx hb dX11_isIn_2 ?_
  refine lv_if_lt (tgt := 17) hx hb dX11_isIn_3 (by decide) (fun hc1 => ?_) (fun hc1 => ?_)
  ·
    refine lv_iconst (v := 0) hx hb dX11_isIn_17 (by decide) ?_
    exact W.zret (v := 0) hx hb hr rfl (fun t ht hW => ⟨⟨0, (), rfl, by rw [if_neg (fun h => absurd h.1 (Int64.not_le.mpr ((lg_cmp_lt _ _).mp hc1)))], trivial⟩, hS.F ht⟩) hS.2.2 dX11_isIn_18
  ·
    refine lv_lload_n hx hb dX11_isIn_6 rfl (lv_at hl 0 rfl) ?_
    refine lv_lload hx hb dX11_isIn_7 (lv_at hl 2 rfl) ?_
    refine W.lcmp hx hb dX11_isIn_9 ?_
    refine lv_if_gt (tgt := 17) hx hb dX11_isIn_10 (by decide) (fun hc2 => ?_) (fun hc2 => ?_)
    ·
      refine lv_iconst (v := 0) hx hb dX11_isIn_17 (by decide) ?_
      exact W.zret (v := 0) hx hb hr rfl (fun t ht hW => ⟨⟨0, (), rfl, by rw [if_neg (fun h => absurd h.2 (Int64.not_le.mpr ((lg_cmp_gt _ _).mp hc2)))], trivial⟩, hS.F ht⟩) hS.2.2 dX11_isIn_18
    ·
      refine lv_iconst (v := 1) hx hb dX11_isIn_13 (by decide) ?_
      refine lv_goto (tgt := 18) hx hb dX11_isIn_14 (by decide) ?_
      exact W.zret (v := 1) hx hb hr rfl (fun t ht hW => ⟨⟨1, (), rfl, by rw [if_pos ⟨Int64.not_lt.mp (mt (lg_cmp_lt _ _).mpr hc1), Int64.not_lt.mp (mt (lg_cmp_gt _ _).mpr hc2)⟩], trivial⟩, hS.F ht⟩) hS.2.2 dX11_isIn_18

def own_c_flag0 : List Cond := []
def wp_c_flag0 : List Cond := .code yX11_flag cX11_flag 1 (some .int) :: (own_c_flag0 ++ ([] : List Cond))
set_option maxRecDepth 20000 in
theorem inown_c_flag0 : ∀ w ∈ own_c_flag0, w ∈ lw_tbl := mem_places [] (by decide +kernel)
set_option maxRecDepth 20000 in
theorem in_c_flag0 : ∀ w ∈ wp_c_flag0, w ∈ lw_tbl := List.forall_mem_cons.mpr ⟨List.mem_of_getElem? (i := 1504) (by decide +kernel), List.forall_mem_append.mpr ⟨inown_c_flag0, fun _ h => absurd h List.not_mem_nil⟩⟩
set_option maxRecDepth 20000 in
theorem good_c_flag0 : wp_c_flag0.all goodWord = true := by decide +kernel
set_option maxHeartbeats 4000000 in
set_option maxRecDepth 100000 in
theorem c_flag0 (l : Launch) (D : va_G) (sz : Nat)   : Met l yX11_flag wp_c_flag0 ({ frames := 0, cells := 0, slots := 0, locals := 0 }) (PcR D [.int 0] sz [] []) (va_Qi (fun (r : Int32) (_ : Unit) => r = 0) (fun (_ : Unit) _ => True) (va_A [] sz)) 0 0 (va_A [] sz) := by
  refine Met.ofW (cc := cX11_flag) (maxL := 1) (ret := (some .int)) (by decide) rfl ?_
  intro p e s m args below meth c s₁ B hml hv
  obtain ⟨rfl, hsz, hP, hK⟩ := hv
  have hx := B.exec
  have hb := B.bytes
  have hr := B.returns
  have hts := atoms_spec (ws := wp_c_flag0) B.pre
  have hown : s.vm.findClass RX11 = some m.cls := findClass_of_methodNamed B.named
  have hlocks := B.notSynchronized
  subst hsz
  generalize hAe : va_A [] s.heap.size = A at ⊢
  have hA : ∀ q : Nat, s.heap.size ≤ q → A q := fun q h => by rw [← hAe]; exact Or.inr h
  have hS : va_S A s.heap s.heap [] := va_S.rf
  have hP : va_P D vwCl [] s.heap := hP
  have hl := lv_entry ([.int 0]) (n := 1) (Nat.le_of_ble_eq_true rfl)
  rw [lg_entry_eq]
  generalize (lg_sl ([.int 0]) ++ List.replicate (1 - (lg_sl ([.int 0])).length) Slot.unset).toArray = ls at hl ⊢
  have hl : lv_has ls 1 [(0, .int 0)] := hl
  refine lv_iload_n hx hb dX11_flag_0 rfl (lv_at hl 0 rfl) ?_
  refine lv_if_eq (tgt := 8) hx hb dX11_flag_1 (by decide) (fun hc => ?_) (fun hc => absurd (by decide) hc)
  refine lv_iconst (v := 0) hx hb dX11_flag_8 (by decide) ?_
  exact W.iret (v := 0) hx hb hr (fun t ht hW => ⟨⟨0, (), rfl, rfl, trivial⟩, hS.F ht⟩) hS.2.2 dX11_flag_9

def own_c_of : List Cond := [.fieldLink RX11 13 "ClashFreeModel" "n" "[J"]
def wp_c_of : List Cond := .code yX11_of cX11_of 3 (some .long) :: (own_c_of ++ (wsX110 ++ ([] : List Cond)))
set_option maxRecDepth 20000 in
theorem inown_c_of : ∀ w ∈ own_c_of, w ∈ lw_tbl := mem_places [1219] (by decide +kernel)
set_option maxRecDepth 20000 in
theorem in_c_of : ∀ w ∈ wp_c_of, w ∈ lw_tbl := List.forall_mem_cons.mpr ⟨List.mem_of_getElem? (i := 1403) (by decide +kernel), List.forall_mem_append.mpr ⟨inown_c_of, List.forall_mem_append.mpr ⟨lwb_X11, fun _ h => absurd h List.not_mem_nil⟩⟩⟩
set_option maxRecDepth 20000 in
theorem good_c_of : wp_c_of.all goodWord = true := by decide +kernel
set_option maxHeartbeats 4000000 in
set_option maxRecDepth 100000 in
theorem c_of (l : Launch) (D : va_G) (sz : Nat) (h0 : Nat) (a : Nat → Nat) (cN : ClassId) (tp : Int32) (sd : Int64) (pa : Int64) (pb : Int64) (dr : Int32) (k : Nat) (w : Nat) (f : Nat → Int64) (hk : k < 5) (hw : w < 17) : Met l yX11_of wp_c_of ({ frames := 0, cells := 0, slots := 0, locals := 0 }) (PcR D [.ref h0, .int (nI k), .int (nI w)] sz [(h0, .inr (11, fM a tp sd pa pb dr)), (a 3, .inl (cN, 85, .inr (.inl f)))] [(cN, .long)]) (va_Ql (fun (r : Int64) (_ : Unit) => r = f (17 * k + w)) (fun (_ : Unit) _ => True) (va_A [] sz)) 0 0 (va_A [] sz) := by
  refine Met.ofW (cc := cX11_of) (maxL := 3) (ret := (some .long)) (by decide) rfl ?_
  intro p e s m args below meth c s₁ B hml hv
  obtain ⟨rfl, hsz, hP, hK⟩ := hv
  have hx := B.exec
  have hb := B.bytes
  have hr := B.returns
  have hts := atoms_spec (ws := wp_c_of) B.pre
  have hin_X11 : ∀ w ∈ wsX110, w ∈ wp_c_of := fun _ h => (List.mem_cons_of_mem _ (List.mem_append_right _ (List.mem_append_left _ h)))
  have hown : s.vm.findClass RX11 = some m.cls := findClass_of_methodNamed B.named
  have hlocks := B.notSynchronized
  subst hsz
  generalize hAe : va_A [] s.heap.size = A at ⊢
  have hA : ∀ q : Nat, s.heap.size ≤ q → A q := fun q h => by rw [← hAe]; exact Or.inr h
  have hS : va_S A s.heap s.heap [] := va_S.rf
  have hP : va_P D vwCl [(h0, .inr (11, fM a tp sd pa pb dr)), (a 3, .inl (cN, 85, .inr (.inl f)))] s.heap := hP
  have hl := lv_entry ([.ref h0, .int (nI k), .int (nI w)]) (n := 3) (Nat.le_of_ble_eq_true rfl)
  rw [lg_entry_eq]
  generalize (lg_sl ([.ref h0, .int (nI k), .int (nI w)]) ++ List.replicate (3 - (lg_sl ([.ref h0, .int (nI k), .int (nI w)])).length) Slot.unset).toArray = ls at hl ⊢
  have hl : lv_has ls 3 [(0, .ref h0), (1, .int (nI k)), (2, .int (nI w))] := hl
  refine lv_aload_n hx hb dX11_of_0 rfl (lv_at hl 0 rfl) ?_
  refine va_get (D := D) (ci := 11) (v := .ref (a 3)) (C := RX11) (T := TX11) (N := 47) hx hb hts hin_X11 hown hK hP 0 rfl rfl 3 (by decide) (hts (.fieldLink RX11 13 "ClashFreeModel" "n" "[J") (List.mem_of_getElem? (i := 1) rfl)) (fun _ h9 => h9) rfl dX11_of_1 ?_
  refine lv_bipush (v := 17) hx hb dX11_of_4 (by decide) ?_
  refine lv_iload_n hx hb dX11_of_6 rfl (lv_at hl 1 rfl) ?_
  refine lv_imul hx hb dX11_of_7 ?_
  refine lv_iload_n hx hb dX11_of_8 rfl (lv_at hl 2 rfl) ?_
  refine lv_iadd hx hb dX11_of_9 ?_
  refine lv_topi (fun v1 ev1 => ?_)
  obtain rfl : v1 = nI (17 * k + w) := ev1.trans (ix17 k w)
  refine va_lald hx hb hK hP 1 0 rfl rfl (vp_in_nI (by omega) (by decide)) dX11_of_10 ?_
  refine lv_topl (fun v2 ev2 => ?_)
  obtain rfl : v2 = f (17 * k + w) := ev2.trans (by rw [nI_clamp (by omega)])
  exact W.lret (v := f (17 * k + w)) hx hb hr (fun t ht hW => ⟨⟨f (17 * k + w), (), rfl, rfl, trivial⟩, hS.F ht⟩) hS.2.2 dX11_of_11

def own_c_isThere : List Cond := [.constantLong RX11 87 (3), .methodLink RX11 83 yX11_isIn, .static yX11_isIn, .initialized RX11, .methodLink RX11 89 yX11_of, .instanceMethod yX11_of, .selects RX11 yX11_of yX11_of]
def wp_c_isThere : List Cond := .code yX11_isThere cX11_isThere 2 (some .boolean) :: (own_c_isThere ++ (wp_c_isIn ++ (wp_c_of ++ ([] : List Cond))))
set_option maxRecDepth 20000 in
theorem inown_c_isThere : ∀ w ∈ own_c_isThere, w ∈ lw_tbl := mem_places [1378, 1371, 1372, 115, 1400, 1402, 41] (by decide +kernel)
set_option maxRecDepth 20000 in
theorem in_c_isThere : ∀ w ∈ wp_c_isThere, w ∈ lw_tbl := List.forall_mem_cons.mpr ⟨List.mem_of_getElem? (i := 1469) (by decide +kernel), List.forall_mem_append.mpr ⟨inown_c_isThere, List.forall_mem_append.mpr ⟨in_c_isIn, List.forall_mem_append.mpr ⟨in_c_of, fun _ h => absurd h List.not_mem_nil⟩⟩⟩⟩
set_option maxRecDepth 20000 in
theorem good_c_isThere : wp_c_isThere.all goodWord = true := by decide +kernel
set_option maxRecDepth 20000 in
theorem g_c_isThere_c_isIn_83 : GoodIn wp_c_isThere (va_wsS RX11 83 yX11_isIn wp_c_isIn) := goodIn_sub (List.forall_mem_append.mpr ⟨List.forall_mem_cons.mpr ⟨(List.mem_of_getElem? (i := 2) rfl), List.forall_mem_cons.mpr ⟨(List.mem_of_getElem? (i := 3) rfl), List.forall_mem_cons.mpr ⟨(List.mem_of_getElem? (i := 4) rfl), fun _ h => absurd h List.not_mem_nil⟩⟩⟩, (fun _ h => (List.mem_cons_of_mem _ (List.mem_append_right _ (List.mem_append_left _ h))))⟩) (by decide +kernel)
set_option maxRecDepth 20000 in
theorem g_c_isThere_c_of_89 : GoodIn wp_c_isThere (wsV RX11 89 RX11 yX11_of wp_c_of) := goodIn_sub (List.forall_mem_append.mpr ⟨List.forall_mem_cons.mpr ⟨(List.mem_of_getElem? (i := 5) rfl), List.forall_mem_cons.mpr ⟨(List.mem_of_getElem? (i := 6) rfl), List.forall_mem_cons.mpr ⟨(List.mem_of_getElem? (i := 7) rfl), List.forall_mem_cons.mpr ⟨(List.mem_of_getElem? (i := 4) rfl), fun _ h => absurd h List.not_mem_nil⟩⟩⟩⟩, (fun _ h => (List.mem_cons_of_mem _ (List.mem_append_right _ (List.mem_append_right _ (List.mem_append_left _ h)))))⟩) (by decide +kernel)
set_option maxHeartbeats 4000000 in
set_option maxRecDepth 100000 in
theorem c_isThere (l : Launch) (D : va_G) (sz : Nat) (h0 : Nat) (a : Nat → Nat) (cN : ClassId) (tp : Int32) (sd : Int64) (pa : Int64) (pb : Int64) (dr : Int32) (z1 : Int32)  : Met l yX11_isThere wp_c_isThere ({ frames := 1, cells := 0, slots := 0, locals := 25 }) (PcR D [.ref h0, .int z1] sz [(h0, .inr (11, fM a tp sd pa pb dr)), (a 3, .inl (cN, 85, .inr (.inl (fun _ => 0))))] [(cN, .long)]) (va_Qi (fun (r : Int32) (_ : Unit) => r = 0) (fun (_ : Unit) _ => True) (va_A [] sz)) 0 0 (va_A [] sz) := by
  refine Met.ofW (cc := cX11_isThere) (maxL := 2) (ret := (some .boolean)) (by decide) rfl ?_
  intro p e s m args below meth c s₁ B hml hv
  obtain ⟨rfl, hsz, hP, hK⟩ := hv
  have hx := B.exec
  have hb := B.bytes
  have hr := B.returns
  have hts := atoms_spec (ws := wp_c_isThere) B.pre
  have hown : s.vm.findClass RX11 = some m.cls := findClass_of_methodNamed B.named
  have hlocks := B.notSynchronized
  subst hsz
  generalize hAe : va_A [] s.heap.size = A at ⊢
  have hA : ∀ q : Nat, s.heap.size ≤ q → A q := fun q h => by rw [← hAe]; exact Or.inr h
  have hS : va_S A s.heap s.heap [] := va_S.rf
  have hP : va_P D vwCl [(h0, .inr (11, fM a tp sd pa pb dr)), (a 3, .inl (cN, 85, .inr (.inl (fun _ => 0))))] s.heap := hP
  have hl := lv_entry ([.ref h0, .int z1]) (n := 2) (Nat.le_of_ble_eq_true rfl)
  rw [lg_entry_eq]
  generalize (lg_sl ([.ref h0, .int z1]) ++ List.replicate (2 - (lg_sl ([.ref h0, .int z1])).length) Slot.unset).toArray = ls at hl ⊢
  have hl : lv_has ls 2 [(0, .ref h0), (1, .int z1)] := hl
  refine lv_iload_n hx hb dX11_isThere_0 rfl (lv_at hl 1 rfl) ?_
  refine lv_i2l hx hb dX11_isThere_1 rfl ?_
  refine lv_lconst (v := 0) hx hb dX11_isThere_2 (by decide) ?_
  refine lv_ldc2 (v := 3) hx hb hown (hts (.constantLong RX11 87 (3)) (List.mem_of_getElem? (i := 1) rfl)) dX11_isThere_3 ?_
  have hPc := hP.sub (ws' := []) [] rfl
  have hKc := hK.sub (tys' := []) [] rfl
  have hFc := va_free0 hS hA
  refine va_calli (va_runS (As := [.long (Int32.toInt64 z1), .long 0, .long 3]) (rest := []) ⟨hx, hb, hml, hown, hts⟩ (c_isIn l D _ (Int32.toInt64 z1) 0 3) (va_cwS 3 hts g_c_isThere_c_isIn_83 rfl rfl rfl (by decide +kernel) ⟨(Nat.le_of_ble_eq_true rfl), (Nat.le_of_ble_eq_true rfl)⟩) (PcR_S hPc hKc) rfl rfl hl.1 rfl (lv_room (Nat.le_of_ble_eq_true rfl)) dX11_isThere_6 ⟨(Nat.le_of_ble_eq_true rfl), (Nat.le_of_ble_eq_true rfl)⟩) hS (fun q _ h => hFc q h) hFc (fun r1 uu tt H locs htt hvm hw hB hz1 hk1 hS => ?_)
  have hP := va_keep hP hk1
  try dsimp only at hw
  clear hB hz1 hk1 hFc hPc hKc
  have hw_r1 := hw
  refine lv_if_eq (tgt := 27) hx hb dX11_isThere_9 (by decide) (fun hc2 => ?_) (fun hc2 => ?_)
  ·
    refine lv_iconst (v := 0) hx hb dX11_isThere_27 (by decide) ?_
    exact W.zret (v := 0) hx hb hr rfl (fun t ht hW => ⟨⟨0, (), rfl, rfl, trivial⟩, hS.F ht⟩) hS.2.2 dX11_isThere_28
  ·
    obtain ⟨k, hk, rfl⟩ := isIn04 (by rw [← hw_r1]; exact hc2)
    refine lv_aload_n hx hb dX11_isThere_12 rfl (lv_at hl 0 rfl) ?_
    refine lv_iload_n hx hb dX11_isThere_13 rfl (lv_at hl 1 rfl) ?_
    refine lv_iconst (v := 0) hx hb dX11_isThere_14 (by decide) ?_
    have hPc := hP.sub (ws' := [(h0, .inr (11, fM a tp sd pa pb dr)), (a 3, .inl (cN, 85, .inr (.inl (fun _ => 0))))]) [0, 1] rfl
    have hKc := hK.sub (tys' := [(cN, .long)]) [0] rfl
    have hFc := va_free0 hS hA
    refine va_calll (va_runV (As := [.int (nI k), .int (nI 0)]) (rest := []) ⟨hx, hb, hml, hown, hts⟩ (c_of l D _ h0 a cN tp sd pa pb dr k 0 (fun _ => 0) (by first | omega | assumption) (by first | omega | assumption)) (cwV 2 hts g_c_isThere_c_of_89 rfl rfl rfl (by decide +kernel) ⟨(Nat.le_of_ble_eq_true rfl), (Nat.le_of_ble_eq_true rfl)⟩) (PcR_V (q0 := 0) hPc hKc rfl rfl) rfl rfl hl.1 rfl (lv_room (Nat.le_of_ble_eq_true rfl)) dX11_isThere_15 ⟨(Nat.le_of_ble_eq_true rfl), (Nat.le_of_ble_eq_true rfl)⟩) hS (fun q _ h => hFc q h) hFc (fun r3 uu tt H locs htt hvm hw hB hz1 hk1 hS => ?_)
    have hP := va_keep hP hk1
    try dsimp only at hw
    clear hB hz1 hk1 hFc hPc hKc
    obtain rfl : r3 = 0 := hw
    refine lv_lconst (v := 1) hx hb dX11_isThere_18 (by decide) ?_
    refine W.lcmp hx hb dX11_isThere_19 ?_
    refine lv_topi (fun v4 ev4 => ?_)
    obtain rfl : v4 = (-1) := ev4.trans (by decide)
    refine lv_if_ne (tgt := 27) hx hb dX11_isThere_20 (by decide) (fun hc => ?_) (fun hc => absurd hc (by decide))
    refine lv_iconst (v := 0) hx hb dX11_isThere_27 (by decide) ?_
    exact W.zret (v := 0) hx hb hr rfl (fun t ht hW => ⟨⟨0, (), rfl, rfl, trivial⟩, hS.F ht⟩) hS.2.2 dX11_isThere_28

def own_c_isBucket : List Cond := [.methodLink RX11 222 yX11_isThere, .instanceMethod yX11_isThere, .selects RX11 yX11_isThere yX11_isThere, .initialized RX11]
def wp_c_isBucket : List Cond := .code yX11_isBucket cX11_isBucket 3 (some .boolean) :: (own_c_isBucket ++ (wp_c_isThere ++ ([] : List Cond)))
set_option maxRecDepth 20000 in
theorem inown_c_isBucket : ∀ w ∈ own_c_isBucket, w ∈ lw_tbl := mem_places [1466, 1468, 54, 115] (by decide +kernel)
set_option maxRecDepth 20000 in
theorem in_c_isBucket : ∀ w ∈ wp_c_isBucket, w ∈ lw_tbl := List.forall_mem_cons.mpr ⟨List.mem_of_getElem? (i := 1544) (by decide +kernel), List.forall_mem_append.mpr ⟨inown_c_isBucket, List.forall_mem_append.mpr ⟨in_c_isThere, fun _ h => absurd h List.not_mem_nil⟩⟩⟩
set_option maxRecDepth 20000 in
theorem good_c_isBucket : wp_c_isBucket.all goodWord = true := by decide +kernel
set_option maxRecDepth 20000 in
theorem g_c_isBucket_c_isThere_222 : GoodIn wp_c_isBucket (wsV RX11 222 RX11 yX11_isThere wp_c_isThere) := goodIn_sub (List.forall_mem_append.mpr ⟨List.forall_mem_cons.mpr ⟨(List.mem_of_getElem? (i := 1) rfl), List.forall_mem_cons.mpr ⟨(List.mem_of_getElem? (i := 2) rfl), List.forall_mem_cons.mpr ⟨(List.mem_of_getElem? (i := 3) rfl), List.forall_mem_cons.mpr ⟨(List.mem_of_getElem? (i := 4) rfl), fun _ h => absurd h List.not_mem_nil⟩⟩⟩⟩, (fun _ h => (List.mem_cons_of_mem _ (List.mem_append_right _ (List.mem_append_left _ h))))⟩) (by decide +kernel)
set_option maxHeartbeats 4000000 in
set_option maxRecDepth 100000 in
theorem c_isBucket (l : Launch) (D : va_G) (sz : Nat) (h0 : Nat) (a : Nat → Nat) (cN : ClassId) (tp : Int32) (sd : Int64) (pa : Int64) (pb : Int64) (dr : Int32) (z1 : Int32) (z2 : Int32)  : Met l yX11_isBucket wp_c_isBucket ({ frames := 2, cells := 0, slots := 0, locals := 46 }) (PcR D [.ref h0, .int z1, .int z2] sz [(h0, .inr (11, fM a tp sd pa pb dr)), (a 3, .inl (cN, 85, .inr (.inl (fun _ => 0))))] [(cN, .long)]) (va_Qi (fun (r : Int32) (_ : Unit) => r = 0) (fun (_ : Unit) _ => True) (va_A [] sz)) 0 0 (va_A [] sz) := by
  refine Met.ofW (cc := cX11_isBucket) (maxL := 3) (ret := (some .boolean)) (by decide) rfl ?_
  intro p e s m args below meth c s₁ B hml hv
  obtain ⟨rfl, hsz, hP, hK⟩ := hv
  have hx := B.exec
  have hb := B.bytes
  have hr := B.returns
  have hts := atoms_spec (ws := wp_c_isBucket) B.pre
  have hown : s.vm.findClass RX11 = some m.cls := findClass_of_methodNamed B.named
  have hlocks := B.notSynchronized
  subst hsz
  generalize hAe : va_A [] s.heap.size = A at ⊢
  have hA : ∀ q : Nat, s.heap.size ≤ q → A q := fun q h => by rw [← hAe]; exact Or.inr h
  have hS : va_S A s.heap s.heap [] := va_S.rf
  have hP : va_P D vwCl [(h0, .inr (11, fM a tp sd pa pb dr)), (a 3, .inl (cN, 85, .inr (.inl (fun _ => 0))))] s.heap := hP
  have hl := lv_entry ([.ref h0, .int z1, .int z2]) (n := 3) (Nat.le_of_ble_eq_true rfl)
  rw [lg_entry_eq]
  generalize (lg_sl ([.ref h0, .int z1, .int z2]) ++ List.replicate (3 - (lg_sl ([.ref h0, .int z1, .int z2])).length) Slot.unset).toArray = ls at hl ⊢
  have hl : lv_has ls 3 [(0, .ref h0), (1, .int z1), (2, .int z2)] := hl
  refine lv_aload_n hx hb dX11_isBucket_0 rfl (lv_at hl 0 rfl) ?_
  refine lv_iload_n hx hb dX11_isBucket_1 rfl (lv_at hl 1 rfl) ?_
  have hPc := hP.sub (ws' := [(h0, .inr (11, fM a tp sd pa pb dr)), (a 3, .inl (cN, 85, .inr (.inl (fun _ => 0))))]) [0, 1] rfl
  have hKc := hK.sub (tys' := [(cN, .long)]) [0] rfl
  have hFc := va_free0 hS hA
  refine va_calli (va_runV (As := [.int z1]) (rest := []) ⟨hx, hb, hml, hown, hts⟩ (c_isThere l D _ h0 a cN tp sd pa pb dr z1) (cwV 1 hts g_c_isBucket_c_isThere_222 rfl rfl rfl (by decide +kernel) ⟨(Nat.le_of_ble_eq_true rfl), (Nat.le_of_ble_eq_true rfl)⟩) (PcR_V (q0 := 0) hPc hKc rfl rfl) rfl rfl hl.1 rfl (lv_room (Nat.le_of_ble_eq_true rfl)) dX11_isBucket_2 ⟨(Nat.le_of_ble_eq_true rfl), (Nat.le_of_ble_eq_true rfl)⟩) hS (fun q _ h => hFc q h) hFc (fun r1 uu tt H locs htt hvm hw hB hz1 hk1 hS => ?_)
  have hP := va_keep hP hk1
  try dsimp only at hw
  clear hB hz1 hk1 hFc hPc hKc
  obtain rfl : r1 = 0 := hw
  refine lv_if_eq (tgt := 29) hx hb dX11_isBucket_5 (by decide) (fun hc => ?_) (fun hc => absurd (by decide) hc)
  refine lv_iconst (v := 0) hx hb dX11_isBucket_29 (by decide) ?_
  exact W.zret (v := 0) hx hb hr rfl (fun t ht hW => ⟨⟨0, (), rfl, rfl, trivial⟩, hS.F ht⟩) hS.2.2 dX11_isBucket_30

def own_c_isImageM : List Cond := []
def wp_c_isImageM : List Cond := .code yX11_isImage cX11_isImage 8 (some .boolean) :: (own_c_isImageM ++ ([] : List Cond))
set_option maxRecDepth 20000 in
theorem inown_c_isImageM : ∀ w ∈ own_c_isImageM, w ∈ lw_tbl := mem_places [] (by decide +kernel)
set_option maxRecDepth 20000 in
theorem in_c_isImageM : ∀ w ∈ wp_c_isImageM, w ∈ lw_tbl := List.forall_mem_cons.mpr ⟨List.mem_of_getElem? (i := 1814) (by decide +kernel), List.forall_mem_append.mpr ⟨inown_c_isImageM, fun _ h => absurd h List.not_mem_nil⟩⟩
set_option maxRecDepth 20000 in
theorem good_c_isImageM : wp_c_isImageM.all goodWord = true := by decide +kernel
set_option maxHeartbeats 4000000 in
set_option maxRecDepth 100000 in
theorem c_isImageM (l : Launch) (D : va_G) (sz : Nat) (h0 : Nat) (a : Nat → Nat) (cN : ClassId) (tp : Int32) (sd : Int64) (pa : Int64) (pb : Int64) (dr : Int32)  : Met l yX11_isImage wp_c_isImageM ({ frames := 0, cells := 0, slots := 0, locals := 0 }) (PcR D [.ref h0, .int 0] sz [(h0, .inr (11, fM a tp sd pa pb dr)), (a 3, .inl (cN, 85, .inr (.inl (fun _ => 0))))] [(cN, .long)]) (va_Qi (fun (r : Int32) (_ : Unit) => r = 0) (fun (_ : Unit) _ => True) (va_A [] sz)) 0 0 (va_A [] sz) := by
  refine Met.ofW (cc := cX11_isImage) (maxL := 8) (ret := (some .boolean)) (by decide) rfl ?_
  intro p e s m args below meth c s₁ B hml hv
  obtain ⟨rfl, hsz, hP, hK⟩ := hv
  have hx := B.exec
  have hb := B.bytes
  have hr := B.returns
  have hts := atoms_spec (ws := wp_c_isImageM) B.pre
  have hown : s.vm.findClass RX11 = some m.cls := findClass_of_methodNamed B.named
  have hlocks := B.notSynchronized
  subst hsz
  generalize hAe : va_A [] s.heap.size = A at ⊢
  have hA : ∀ q : Nat, s.heap.size ≤ q → A q := fun q h => by rw [← hAe]; exact Or.inr h
  have hS : va_S A s.heap s.heap [] := va_S.rf
  have hP : va_P D vwCl [(h0, .inr (11, fM a tp sd pa pb dr)), (a 3, .inl (cN, 85, .inr (.inl (fun _ => 0))))] s.heap := hP
  have hl := lv_entry ([.ref h0, .int 0]) (n := 8) (Nat.le_of_ble_eq_true rfl)
  rw [lg_entry_eq]
  generalize (lg_sl ([.ref h0, .int 0]) ++ List.replicate (8 - (lg_sl ([.ref h0, .int 0])).length) Slot.unset).toArray = ls at hl ⊢
  have hl : lv_has ls 8 [(0, .ref h0), (1, .int 0)] := hl
  refine lv_iload_n hx hb dX11_isImage_0 rfl (lv_at hl 1 rfl) ?_
  refine lv_bipush (v := 14) hx hb dX11_isImage_1 (by decide) ?_
  refine lv_icmp_lt (tgt := 44) hx hb dX11_isImage_3 (by decide) (fun hc => ?_) (fun hc => absurd (by decide) hc)
  refine lv_iconst (v := 0) hx hb dX11_isImage_44 (by decide) ?_
  exact W.zret (v := 0) hx hb hr rfl (fun t ht hW => ⟨⟨0, (), rfl, rfl, trivial⟩, hS.F ht⟩) hS.2.2 dX11_isImage_45

def own_c_puts : List Cond := [.fieldLink RX11 7 "ClashFreeModel" "tape" "[B", .fieldLink RX11 76 "ClashFreeModel" "taped" "I"]
def wp_c_puts : List Cond := .code yX11_puts cX11_puts 3 none :: (own_c_puts ++ (wsX110 ++ ([] : List Cond)))
set_option maxRecDepth 20000 in
theorem inown_c_puts : ∀ w ∈ own_c_puts, w ∈ lw_tbl := mem_places [1217, 1218] (by decide +kernel)
set_option maxRecDepth 20000 in
theorem in_c_puts : ∀ w ∈ wp_c_puts, w ∈ lw_tbl := List.forall_mem_cons.mpr ⟨List.mem_of_getElem? (i := 1366) (by decide +kernel), List.forall_mem_append.mpr ⟨inown_c_puts, List.forall_mem_append.mpr ⟨lwb_X11, fun _ h => absurd h List.not_mem_nil⟩⟩⟩
set_option maxRecDepth 20000 in
theorem good_c_puts : wp_c_puts.all goodWord = true := by decide +kernel
set_option maxHeartbeats 4000000 in
set_option maxRecDepth 100000 in
theorem c_puts (l : Launch) (D : va_G) (sz : Nat) (h0 : Nat) (a : Nat → Nat) (sd : Int64) (pa : Int64) (pb : Int64) (dr : Int32) (cB : ClassId) (f : Nat → Int32) (k : Nat) (z1 : Int32) (hk : k + 4 ≤ 1400) : Met l yX11_puts wp_c_puts ({ frames := 0, cells := 0, slots := 0, locals := 0 }) (PcW D [.ref h0, .int z1] sz [(h0, .inr (11, fM a (nI k) sd pa pb dr)), (a 1, .inl (cB, 1400, .inl f))] [(cB, .byte)]) (va_Qv (fun (_ : Nat → Int32) => True) (fun (u : Nat → Int32) t => va_P D vwCl [(h0, .inr (11, fM a (nI (k + 4)) sd pa pb dr)), (a 1, .inl (cB, 1400, .inl u))] t.heap ∧ va_K D vwCl [(cB, .byte)] t ∧ va_D (va_A [(h0, .inr (11, fM a (nI k) sd pa pb dr)), (a 1, .inl (cB, 1400, .inl f))] sz) [(h0, .inr (11, fM a (nI (k + 4)) sd pa pb dr)), (a 1, .inl (cB, 1400, .inl u))]) (va_A [(h0, .inr (11, fM a (nI k) sd pa pb dr)), (a 1, .inl (cB, 1400, .inl f))] sz)) 0 0 (va_A [(h0, .inr (11, fM a (nI k) sd pa pb dr)), (a 1, .inl (cB, 1400, .inl f))] sz) := by
  refine Met.ofW (cc := cX11_puts) (maxL := 3) (ret := none) (by decide) rfl ?_
  intro p e s m args below meth c s₁ B hml hv
  obtain ⟨rfl, hsz, hP, hK, hD0⟩ := hv
  have hx := B.exec
  have hb := B.bytes
  have hr := B.returns
  have hts := atoms_spec (ws := wp_c_puts) B.pre
  have hin_X11 : ∀ w ∈ wsX110, w ∈ wp_c_puts := fun _ h => (List.mem_cons_of_mem _ (List.mem_append_right _ (List.mem_append_left _ h)))
  have hown : s.vm.findClass RX11 = some m.cls := findClass_of_methodNamed B.named
  have hlocks := B.notSynchronized
  subst hsz
  have hD := hD0.self (sz := s.heap.size)
  generalize hAe : va_A [(h0, .inr (11, fM a (nI k) sd pa pb dr)), (a 1, .inl (cB, 1400, .inl f))] s.heap.size = A at hD ⊢
  have hA : ∀ q : Nat, s.heap.size ≤ q → A q := fun q h => by rw [← hAe]; exact Or.inr h
  have hS : va_S A s.heap s.heap [] := va_S.rf
  have hP : va_P D vwCl [(h0, .inr (11, fM a (nI k) sd pa pb dr)), (a 1, .inl (cB, 1400, .inl f))] s.heap := hP
  have hl := lv_entry ([.ref h0, .int z1]) (n := 3) (Nat.le_of_ble_eq_true rfl)
  rw [lg_entry_eq]
  generalize (lg_sl ([.ref h0, .int z1]) ++ List.replicate (3 - (lg_sl ([.ref h0, .int z1])).length) Slot.unset).toArray = ls at hl ⊢
  have hl : lv_has ls 3 [(0, .ref h0), (1, .int z1)] := hl
  refine lv_bipush (v := 24) hx hb dX11_puts_0 (by decide) ?_
  refine lv_istore_n (lv' := [(2, .int 24), (0, .ref h0), (1, .int z1)]) hx hb dX11_puts_2 rfl hl (by decide) rfl (fun ls hl => ?_)
  refine lv_iload_n hx hb dX11_puts_3 rfl (lv_at hl 0 rfl) ?_
  refine lv_if_lt (tgt := 36) hx hb dX11_puts_4 (by decide) (fun hc => absurd hc (by decide)) (fun hc => ?_)
  refine lv_aload_n hx hb dX11_puts_7 rfl (lv_at hl 1 rfl) ?_
  refine va_get (D := D) (ci := 11) (v := .ref (a 1)) (C := RX11) (T := TX11) (N := 47) hx hb hts hin_X11 hown hK hP 0 rfl rfl 1 (by decide) (hts (.fieldLink RX11 7 "ClashFreeModel" "tape" "[B") (List.mem_of_getElem? (i := 1) rfl)) (fun _ h9 => h9) rfl dX11_puts_8 ?_
  refine lv_aload_n hx hb dX11_puts_11 rfl (lv_at hl 1 rfl) ?_
  refine va_get (D := D) (ci := 11) (v := .int (nI k)) (C := RX11) (T := TX11) (N := 47) hx hb hts hin_X11 hown hK hP 0 rfl rfl 2 (by decide) (hts (.fieldLink RX11 76 "ClashFreeModel" "taped" "I") (List.mem_of_getElem? (i := 2) rfl)) (fun _ h9 => h9) rfl dX11_puts_12 ?_
  refine lv_iload_n hx hb dX11_puts_15 rfl (lv_at hl 2 rfl) ?_
  refine lv_iload_n hx hb dX11_puts_16 rfl (lv_at hl 0 rfl) ?_
  refine lv_ishr hx hb dX11_puts_17 ?_
  refine lv_topi (fun v1 ev1 => ?_)
  refine lv_i2b hx hb dX11_puts_18 rfl ?_
  refine lv_topi (fun v2 ev2 => ?_)
  refine va_bast hx hb hK hP hD hS 1 0 rfl rfl (vp_in_nI (by omega) (by decide)) dX11_puts_19 (fun H locs hP hD hS => ?_)
  have hP : va_P D vwCl [(h0, .inr (11, fM a (nI k) sd pa pb dr)), (a 1, .inl (cB, 1400, .inl (upd f (Int32.toNatClampNeg (nI k)) (vp_nar .byte v2))))] H := hP
  have hD : va_D A [(h0, .inr (11, fM a (nI k) sd pa pb dr)), (a 1, .inl (cB, 1400, .inl (upd f (Int32.toNatClampNeg (nI k)) (vp_nar .byte v2))))] := hD
  generalize upd f (Int32.toNatClampNeg (nI k)) (vp_nar .byte v2) = g3 at hP hD
  refine lv_aload_n hx hb dX11_puts_20 rfl (lv_at hl 1 rfl) ?_
  refine lv_dup hx hb dX11_puts_21 rfl ?_
  refine va_get (D := D) (ci := 11) (v := .int (nI k)) (C := RX11) (T := TX11) (N := 47) hx hb hts hin_X11 hown hK hP 0 rfl rfl 2 (by decide) (hts (.fieldLink RX11 76 "ClashFreeModel" "taped" "I") (List.mem_of_getElem? (i := 2) rfl)) (fun _ h9 => h9) rfl dX11_puts_22 ?_
  refine lv_iconst (v := 1) hx hb dX11_puts_25 (by decide) ?_
  refine lv_iadd hx hb dX11_puts_26 ?_
  refine lv_topi (fun v4 ev4 => ?_)
  obtain rfl : v4 = nI (k + 1) := ev4.trans (nI_add k 1)
  refine va_put (D := D) (ci := 11) (v := .int (nI (k + 1))) (ty := .int) (C := RX11) (T := TX11) (N := 47) hx hb hts hin_X11 tyX11 tyX11_ok nmX11 hown hK hP hD hS 0 rfl rfl 2 (by decide) (hts (.fieldLink RX11 76 "ClashFreeModel" "taped" "I") (List.mem_of_getElem? (i := 2) rfl)) (fun _ h9 => h9) rfl (by decide +kernel) rfl rfl (Nat.le_of_ble_eq_true rfl) dX11_puts_27 (fun H locs hP hD hS => ?_)
  have hP : va_P D vwCl [(h0, .inr (11, fM a (nI (k + 1)) sd pa pb dr)), (a 1, .inl (cB, 1400, .inl g3))] H := hP
  have hD : va_D A [(h0, .inr (11, fM a (nI (k + 1)) sd pa pb dr)), (a 1, .inl (cB, 1400, .inl g3))] := hD
  refine lv_iinc (v := 16) (lv' := [(2, .int 16), (0, .ref h0), (1, .int z1)]) hx hb dX11_puts_30 hl (k := 0) rfl (by decide) (by decide) rfl (fun ls hl => ?_)
  refine lv_goto (tgt := 3) hx hb dX11_puts_33 (by decide) ?_
  refine lv_iload_n hx hb dX11_puts_3 rfl (lv_at hl 0 rfl) ?_
  refine lv_if_lt (tgt := 36) hx hb dX11_puts_4 (by decide) (fun hc => absurd hc (by decide)) (fun hc => ?_)
  refine lv_aload_n hx hb dX11_puts_7 rfl (lv_at hl 1 rfl) ?_
  refine va_get (D := D) (ci := 11) (v := .ref (a 1)) (C := RX11) (T := TX11) (N := 47) hx hb hts hin_X11 hown hK hP 0 rfl rfl 1 (by decide) (hts (.fieldLink RX11 7 "ClashFreeModel" "tape" "[B") (List.mem_of_getElem? (i := 1) rfl)) (fun _ h9 => h9) rfl dX11_puts_8 ?_
  refine lv_aload_n hx hb dX11_puts_11 rfl (lv_at hl 1 rfl) ?_
  refine va_get (D := D) (ci := 11) (v := .int (nI (k + 1))) (C := RX11) (T := TX11) (N := 47) hx hb hts hin_X11 hown hK hP 0 rfl rfl 2 (by decide) (hts (.fieldLink RX11 76 "ClashFreeModel" "taped" "I") (List.mem_of_getElem? (i := 2) rfl)) (fun _ h9 => h9) rfl dX11_puts_12 ?_
  refine lv_iload_n hx hb dX11_puts_15 rfl (lv_at hl 2 rfl) ?_
  refine lv_iload_n hx hb dX11_puts_16 rfl (lv_at hl 0 rfl) ?_
  refine lv_ishr hx hb dX11_puts_17 ?_
  refine lv_topi (fun v5 ev5 => ?_)
  refine lv_i2b hx hb dX11_puts_18 rfl ?_
  refine lv_topi (fun v6 ev6 => ?_)
  refine va_bast hx hb hK hP hD hS 1 0 rfl rfl (vp_in_nI (by omega) (by decide)) dX11_puts_19 (fun H locs hP hD hS => ?_)
  have hP : va_P D vwCl [(h0, .inr (11, fM a (nI (k + 1)) sd pa pb dr)), (a 1, .inl (cB, 1400, .inl (upd g3 (Int32.toNatClampNeg (nI (k + 1))) (vp_nar .byte v6))))] H := hP
  have hD : va_D A [(h0, .inr (11, fM a (nI (k + 1)) sd pa pb dr)), (a 1, .inl (cB, 1400, .inl (upd g3 (Int32.toNatClampNeg (nI (k + 1))) (vp_nar .byte v6))))] := hD
  generalize upd g3 (Int32.toNatClampNeg (nI (k + 1))) (vp_nar .byte v6) = g7 at hP hD
  refine lv_aload_n hx hb dX11_puts_20 rfl (lv_at hl 1 rfl) ?_
  refine lv_dup hx hb dX11_puts_21 rfl ?_
  refine va_get (D := D) (ci := 11) (v := .int (nI (k + 1))) (C := RX11) (T := TX11) (N := 47) hx hb hts hin_X11 hown hK hP 0 rfl rfl 2 (by decide) (hts (.fieldLink RX11 76 "ClashFreeModel" "taped" "I") (List.mem_of_getElem? (i := 2) rfl)) (fun _ h9 => h9) rfl dX11_puts_22 ?_
  refine lv_iconst (v := 1) hx hb dX11_puts_25 (by decide) ?_
  refine lv_iadd hx hb dX11_puts_26 ?_
  refine lv_topi (fun v8 ev8 => ?_)
  obtain rfl : v8 = nI (k + 2) := ev8.trans (nI_add (k + 1) 1)
  refine va_put (D := D) (ci := 11) (v := .int (nI (k + 2))) (ty := .int) (C := RX11) (T := TX11) (N := 47) hx hb hts hin_X11 tyX11 tyX11_ok nmX11 hown hK hP hD hS 0 rfl rfl 2 (by decide) (hts (.fieldLink RX11 76 "ClashFreeModel" "taped" "I") (List.mem_of_getElem? (i := 2) rfl)) (fun _ h9 => h9) rfl (by decide +kernel) rfl rfl (Nat.le_of_ble_eq_true rfl) dX11_puts_27 (fun H locs hP hD hS => ?_)
  have hP : va_P D vwCl [(h0, .inr (11, fM a (nI (k + 2)) sd pa pb dr)), (a 1, .inl (cB, 1400, .inl g7))] H := hP
  have hD : va_D A [(h0, .inr (11, fM a (nI (k + 2)) sd pa pb dr)), (a 1, .inl (cB, 1400, .inl g7))] := hD
  refine lv_iinc (v := 8) (lv' := [(2, .int 8), (0, .ref h0), (1, .int z1)]) hx hb dX11_puts_30 hl (k := 0) rfl (by decide) (by decide) rfl (fun ls hl => ?_)
  refine lv_goto (tgt := 3) hx hb dX11_puts_33 (by decide) ?_
  refine lv_iload_n hx hb dX11_puts_3 rfl (lv_at hl 0 rfl) ?_
  refine lv_if_lt (tgt := 36) hx hb dX11_puts_4 (by decide) (fun hc => absurd hc (by decide)) (fun hc => ?_)
  refine lv_aload_n hx hb dX11_puts_7 rfl (lv_at hl 1 rfl) ?_
  refine va_get (D := D) (ci := 11) (v := .ref (a 1)) (C := RX11) (T := TX11) (N := 47) hx hb hts hin_X11 hown hK hP 0 rfl rfl 1 (by decide) (hts (.fieldLink RX11 7 "ClashFreeModel" "tape" "[B") (List.mem_of_getElem? (i := 1) rfl)) (fun _ h9 => h9) rfl dX11_puts_8 ?_
  refine lv_aload_n hx hb dX11_puts_11 rfl (lv_at hl 1 rfl) ?_
  refine va_get (D := D) (ci := 11) (v := .int (nI (k + 2))) (C := RX11) (T := TX11) (N := 47) hx hb hts hin_X11 hown hK hP 0 rfl rfl 2 (by decide) (hts (.fieldLink RX11 76 "ClashFreeModel" "taped" "I") (List.mem_of_getElem? (i := 2) rfl)) (fun _ h9 => h9) rfl dX11_puts_12 ?_
  refine lv_iload_n hx hb dX11_puts_15 rfl (lv_at hl 2 rfl) ?_
  refine lv_iload_n hx hb dX11_puts_16 rfl (lv_at hl 0 rfl) ?_
  refine lv_ishr hx hb dX11_puts_17 ?_
  refine lv_topi (fun v9 ev9 => ?_)
  refine lv_i2b hx hb dX11_puts_18 rfl ?_
  refine lv_topi (fun v10 ev10 => ?_)
  refine va_bast hx hb hK hP hD hS 1 0 rfl rfl (vp_in_nI (by omega) (by decide)) dX11_puts_19 (fun H locs hP hD hS => ?_)
  have hP : va_P D vwCl [(h0, .inr (11, fM a (nI (k + 2)) sd pa pb dr)), (a 1, .inl (cB, 1400, .inl (upd g7 (Int32.toNatClampNeg (nI (k + 2))) (vp_nar .byte v10))))] H := hP
  have hD : va_D A [(h0, .inr (11, fM a (nI (k + 2)) sd pa pb dr)), (a 1, .inl (cB, 1400, .inl (upd g7 (Int32.toNatClampNeg (nI (k + 2))) (vp_nar .byte v10))))] := hD
  generalize upd g7 (Int32.toNatClampNeg (nI (k + 2))) (vp_nar .byte v10) = g11 at hP hD
  refine lv_aload_n hx hb dX11_puts_20 rfl (lv_at hl 1 rfl) ?_
  refine lv_dup hx hb dX11_puts_21 rfl ?_
  refine va_get (D := D) (ci := 11) (v := .int (nI (k + 2))) (C := RX11) (T := TX11) (N := 47) hx hb hts hin_X11 hown hK hP 0 rfl rfl 2 (by decide) (hts (.fieldLink RX11 76 "ClashFreeModel" "taped" "I") (List.mem_of_getElem? (i := 2) rfl)) (fun _ h9 => h9) rfl dX11_puts_22 ?_
  refine lv_iconst (v := 1) hx hb dX11_puts_25 (by decide) ?_
  refine lv_iadd hx hb dX11_puts_26 ?_
  refine lv_topi (fun v12 ev12 => ?_)
  obtain rfl : v12 = nI (k + 3) := ev12.trans (nI_add (k + 2) 1)
  refine va_put (D := D) (ci := 11) (v := .int (nI (k + 3))) (ty := .int) (C := RX11) (T := TX11) (N := 47) hx hb hts hin_X11 tyX11 tyX11_ok nmX11 hown hK hP hD hS 0 rfl rfl 2 (by decide) (hts (.fieldLink RX11 76 "ClashFreeModel" "taped" "I") (List.mem_of_getElem? (i := 2) rfl)) (fun _ h9 => h9) rfl (by decide +kernel) rfl rfl (Nat.le_of_ble_eq_true rfl) dX11_puts_27 (fun H locs hP hD hS => ?_)
  have hP : va_P D vwCl [(h0, .inr (11, fM a (nI (k + 3)) sd pa pb dr)), (a 1, .inl (cB, 1400, .inl g11))] H := hP
  have hD : va_D A [(h0, .inr (11, fM a (nI (k + 3)) sd pa pb dr)), (a 1, .inl (cB, 1400, .inl g11))] := hD
  refine lv_iinc (v := 0) (lv' := [(2, .int 0), (0, .ref h0), (1, .int z1)]) hx hb dX11_puts_30 hl (k := 0) rfl (by decide) (by decide) rfl (fun ls hl => ?_)
  refine lv_goto (tgt := 3) hx hb dX11_puts_33 (by decide) ?_
  refine lv_iload_n hx hb dX11_puts_3 rfl (lv_at hl 0 rfl) ?_
  refine lv_if_lt (tgt := 36) hx hb dX11_puts_4 (by decide) (fun hc => absurd hc (by decide)) (fun hc => ?_)
  refine lv_aload_n hx hb dX11_puts_7 rfl (lv_at hl 1 rfl) ?_
  refine va_get (D := D) (ci := 11) (v := .ref (a 1)) (C := RX11) (T := TX11) (N := 47) hx hb hts hin_X11 hown hK hP 0 rfl rfl 1 (by decide) (hts (.fieldLink RX11 7 "ClashFreeModel" "tape" "[B") (List.mem_of_getElem? (i := 1) rfl)) (fun _ h9 => h9) rfl dX11_puts_8 ?_
  refine lv_aload_n hx hb dX11_puts_11 rfl (lv_at hl 1 rfl) ?_
  refine va_get (D := D) (ci := 11) (v := .int (nI (k + 3))) (C := RX11) (T := TX11) (N := 47) hx hb hts hin_X11 hown hK hP 0 rfl rfl 2 (by decide) (hts (.fieldLink RX11 76 "ClashFreeModel" "taped" "I") (List.mem_of_getElem? (i := 2) rfl)) (fun _ h9 => h9) rfl dX11_puts_12 ?_
  refine lv_iload_n hx hb dX11_puts_15 rfl (lv_at hl 2 rfl) ?_
  refine lv_iload_n hx hb dX11_puts_16 rfl (lv_at hl 0 rfl) ?_
  refine lv_ishr hx hb dX11_puts_17 ?_
  refine lv_topi (fun v13 ev13 => ?_)
  refine lv_i2b hx hb dX11_puts_18 rfl ?_
  refine lv_topi (fun v14 ev14 => ?_)
  refine va_bast hx hb hK hP hD hS 1 0 rfl rfl (vp_in_nI (by omega) (by decide)) dX11_puts_19 (fun H locs hP hD hS => ?_)
  have hP : va_P D vwCl [(h0, .inr (11, fM a (nI (k + 3)) sd pa pb dr)), (a 1, .inl (cB, 1400, .inl (upd g11 (Int32.toNatClampNeg (nI (k + 3))) (vp_nar .byte v14))))] H := hP
  have hD : va_D A [(h0, .inr (11, fM a (nI (k + 3)) sd pa pb dr)), (a 1, .inl (cB, 1400, .inl (upd g11 (Int32.toNatClampNeg (nI (k + 3))) (vp_nar .byte v14))))] := hD
  generalize upd g11 (Int32.toNatClampNeg (nI (k + 3))) (vp_nar .byte v14) = g15 at hP hD
  refine lv_aload_n hx hb dX11_puts_20 rfl (lv_at hl 1 rfl) ?_
  refine lv_dup hx hb dX11_puts_21 rfl ?_
  refine va_get (D := D) (ci := 11) (v := .int (nI (k + 3))) (C := RX11) (T := TX11) (N := 47) hx hb hts hin_X11 hown hK hP 0 rfl rfl 2 (by decide) (hts (.fieldLink RX11 76 "ClashFreeModel" "taped" "I") (List.mem_of_getElem? (i := 2) rfl)) (fun _ h9 => h9) rfl dX11_puts_22 ?_
  refine lv_iconst (v := 1) hx hb dX11_puts_25 (by decide) ?_
  refine lv_iadd hx hb dX11_puts_26 ?_
  refine lv_topi (fun v16 ev16 => ?_)
  obtain rfl : v16 = nI (k + 4) := ev16.trans (nI_add (k + 3) 1)
  refine va_put (D := D) (ci := 11) (v := .int (nI (k + 4))) (ty := .int) (C := RX11) (T := TX11) (N := 47) hx hb hts hin_X11 tyX11 tyX11_ok nmX11 hown hK hP hD hS 0 rfl rfl 2 (by decide) (hts (.fieldLink RX11 76 "ClashFreeModel" "taped" "I") (List.mem_of_getElem? (i := 2) rfl)) (fun _ h9 => h9) rfl (by decide +kernel) rfl rfl (Nat.le_of_ble_eq_true rfl) dX11_puts_27 (fun H locs hP hD hS => ?_)
  have hP : va_P D vwCl [(h0, .inr (11, fM a (nI (k + 4)) sd pa pb dr)), (a 1, .inl (cB, 1400, .inl g15))] H := hP
  have hD : va_D A [(h0, .inr (11, fM a (nI (k + 4)) sd pa pb dr)), (a 1, .inl (cB, 1400, .inl g15))] := hD
  refine lv_iinc (v := (-8)) (lv' := [(2, .int (-8)), (0, .ref h0), (1, .int z1)]) hx hb dX11_puts_30 hl (k := 0) rfl (by decide) (by decide) rfl (fun ls hl => ?_)
  refine lv_goto (tgt := 3) hx hb dX11_puts_33 (by decide) ?_
  refine lv_iload_n hx hb dX11_puts_3 rfl (lv_at hl 0 rfl) ?_
  refine lv_if_lt (tgt := 36) hx hb dX11_puts_4 (by decide) (fun hc => ?_) (fun hc => absurd (by decide) hc)
  exact W.vret hx hb hr (fun t ht hW => ⟨⟨g15, rfl, trivial, by rw [ht]; exact hP.sub [0, 1] rfl, va_K.moved hW.alike (hK.sub [0] rfl), hD.sub [0, 1] (by decide) rfl⟩, hS.F ht⟩) hS.2.2 dX11_puts_36

def own_c_isTN : List Cond := []
def wp_c_isTN : List Cond := .code yX10_isTableNumber cX10_isTableNumber 1 (some .boolean) :: (own_c_isTN ++ ([] : List Cond))
set_option maxRecDepth 20000 in
theorem inown_c_isTN : ∀ w ∈ own_c_isTN, w ∈ lw_tbl := mem_places [] (by decide +kernel)
set_option maxRecDepth 20000 in
theorem in_c_isTN : ∀ w ∈ wp_c_isTN, w ∈ lw_tbl := List.forall_mem_cons.mpr ⟨List.mem_of_getElem? (i := 451) (by decide +kernel), List.forall_mem_append.mpr ⟨inown_c_isTN, fun _ h => absurd h List.not_mem_nil⟩⟩
set_option maxRecDepth 20000 in
theorem good_c_isTN : wp_c_isTN.all goodWord = true := by decide +kernel
set_option maxHeartbeats 4000000 in
set_option maxRecDepth 100000 in
theorem c_isTN (l : Launch) (D : va_G) (sz : Nat) (z1 : Int32)  : Met l yX10_isTableNumber wp_c_isTN ({ frames := 0, cells := 0, slots := 0, locals := 0 }) (PcR D [.int z1] sz [] []) (va_Qi (fun (r : Int32) (_ : Unit) => r = if 0 ≤ z1 ∧ z1 < 4 then 1 else 0) (fun (_ : Unit) _ => True) (va_A [] sz)) 0 0 (va_A [] sz) := by
  refine Met.ofW (cc := cX10_isTableNumber) (maxL := 1) (ret := (some .boolean)) (by decide) rfl ?_
  intro p e s m args below meth c s₁ B hml hv
  obtain ⟨rfl, hsz, hP, hK⟩ := hv
  have hx := B.exec
  have hb := B.bytes
  have hr := B.returns
  have hts := atoms_spec (ws := wp_c_isTN) B.pre
  have hown : s.vm.findClass RX10 = some m.cls := findClass_of_methodNamed B.named
  have hlocks := B.notSynchronized
  subst hsz
  generalize hAe : va_A [] s.heap.size = A at ⊢
  have hA : ∀ q : Nat, s.heap.size ≤ q → A q := fun q h => by rw [← hAe]; exact Or.inr h
  have hS : va_S A s.heap s.heap [] := va_S.rf
  have hP : va_P D vwCl [] s.heap := hP
  have hl := lv_entry ([.int z1]) (n := 1) (Nat.le_of_ble_eq_true rfl)
  rw [lg_entry_eq]
  generalize (lg_sl ([.int z1]) ++ List.replicate (1 - (lg_sl ([.int z1])).length) Slot.unset).toArray = ls at hl ⊢
  have hl : lv_has ls 1 [(0, .int z1)] := hl
  refine lv_iload_n hx hb dX10_isTableNumber_0 rfl (lv_at hl 0 rfl) ?_
  refine lv_if_lt (tgt := 13) hx hb dX10_isTableNumber_1 (by decide) (fun hc1 => ?_) (fun hc1 => ?_)
  ·
    refine lv_iconst (v := 0) hx hb dX10_isTableNumber_13 (by decide) ?_
    exact W.zret (v := 0) hx hb hr rfl (fun t ht hW => ⟨⟨0, (), rfl, by rw [if_neg (fun h => absurd h.1 (Int32.not_le.mpr hc1))], trivial⟩, hS.F ht⟩) hS.2.2 dX10_isTableNumber_14
  ·
    refine lv_iload_n hx hb dX10_isTableNumber_4 rfl (lv_at hl 0 rfl) ?_
    refine lv_iconst (v := 4) hx hb dX10_isTableNumber_5 (by decide) ?_
    refine lv_icmp_ge (tgt := 13) hx hb dX10_isTableNumber_6 (by decide) (fun hc2 => ?_) (fun hc2 => ?_)
    ·
      refine lv_iconst (v := 0) hx hb dX10_isTableNumber_13 (by decide) ?_
      exact W.zret (v := 0) hx hb hr rfl (fun t ht hW => ⟨⟨0, (), rfl, by rw [if_neg (fun h => absurd h.2 (Int32.not_lt.mpr hc2))], trivial⟩, hS.F ht⟩) hS.2.2 dX10_isTableNumber_14
    ·
      refine lv_iconst (v := 1) hx hb dX10_isTableNumber_9 (by decide) ?_
      refine lv_goto (tgt := 14) hx hb dX10_isTableNumber_10 (by decide) ?_
      exact W.zret (v := 1) hx hb hr rfl (fun t ht hW => ⟨⟨1, (), rfl, by rw [if_pos ⟨Int32.not_lt.mp hc1, Int32.not_le.mp hc2⟩], trivial⟩, hS.F ht⟩) hS.2.2 dX10_isTableNumber_14

def own_c_tableAt : List Cond := [.methodLink RX10 55 yX10_isTableNumber, .static yX10_isTableNumber, .initialized RX10, .fieldLink RX10 11 "ClashFree" "tables" "[LClashFree$Table;"]
def wp_c_tableAt : List Cond := .code yX10_tableAt cX10_tableAt 2 (some (.object "ClashFree$Table")) :: (own_c_tableAt ++ (wp_c_isTN ++ (wsX100 ++ ([] : List Cond))))
set_option maxRecDepth 20000 in
theorem inown_c_tableAt : ∀ w ∈ own_c_tableAt, w ∈ lw_tbl := mem_places [449, 450, 106, 412] (by decide +kernel)
set_option maxRecDepth 20000 in
theorem in_c_tableAt : ∀ w ∈ wp_c_tableAt, w ∈ lw_tbl := List.forall_mem_cons.mpr ⟨List.mem_of_getElem? (i := 613) (by decide +kernel), List.forall_mem_append.mpr ⟨inown_c_tableAt, List.forall_mem_append.mpr ⟨in_c_isTN, List.forall_mem_append.mpr ⟨lwb_X10, fun _ h => absurd h List.not_mem_nil⟩⟩⟩⟩
set_option maxRecDepth 20000 in
theorem good_c_tableAt : wp_c_tableAt.all goodWord = true := by decide +kernel
set_option maxRecDepth 20000 in
theorem g_c_tableAt_c_isTN_55 : GoodIn wp_c_tableAt (va_wsS RX10 55 yX10_isTableNumber wp_c_isTN) := goodIn_sub (List.forall_mem_append.mpr ⟨List.forall_mem_cons.mpr ⟨(List.mem_of_getElem? (i := 1) rfl), List.forall_mem_cons.mpr ⟨(List.mem_of_getElem? (i := 2) rfl), List.forall_mem_cons.mpr ⟨(List.mem_of_getElem? (i := 3) rfl), fun _ h => absurd h List.not_mem_nil⟩⟩⟩, (fun _ h => (List.mem_cons_of_mem _ (List.mem_append_right _ (List.mem_append_left _ h))))⟩) (by decide +kernel)
set_option maxHeartbeats 4000000 in
set_option maxRecDepth 100000 in
theorem c_tableAt (l : Launch) (D : va_G) (sz : Nat) (h0 : Nat) (ca : Nat → Nat) (cT : ClassId) (tp : Int32) (z1 : Int32)  : Met l yX10_tableAt wp_c_tableAt ({ frames := 1, cells := 0, slots := 0, locals := 20 }) (PcR D [.ref h0, .int z1] sz [(h0, .inr (10, [.ref (ca 0), .ref (ca 1), .int tp, .ref (ca 3), .ref (ca 4), .ref (ca 5), .ref (ca 6)])), (ca 0, .inl (cT, 4, .inr (.inr (.inr (.inr (fun _ => none))))))] [(cT, .object RX9)]) (va_Qq (fun (r : Option Nat) (_ : Unit) => r = none) (fun (_ : Unit) _ => True) (va_A [] sz)) 0 0 (va_A [] sz) := by
  refine Met.ofW (cc := cX10_tableAt) (maxL := 2) (ret := (some (.object "ClashFree$Table"))) (by decide) rfl ?_
  intro p e s m args below meth c s₁ B hml hv
  obtain ⟨rfl, hsz, hP, hK⟩ := hv
  have hx := B.exec
  have hb := B.bytes
  have hr := B.returns
  have hts := atoms_spec (ws := wp_c_tableAt) B.pre
  have hin_X10 : ∀ w ∈ wsX100, w ∈ wp_c_tableAt := fun _ h => (List.mem_cons_of_mem _ (List.mem_append_right _ (List.mem_append_right _ (List.mem_append_left _ h))))
  have hown : s.vm.findClass RX10 = some m.cls := findClass_of_methodNamed B.named
  have hlocks := B.notSynchronized
  subst hsz
  generalize hAe : va_A [] s.heap.size = A at ⊢
  have hA : ∀ q : Nat, s.heap.size ≤ q → A q := fun q h => by rw [← hAe]; exact Or.inr h
  have hS : va_S A s.heap s.heap [] := va_S.rf
  have hP : va_P D vwCl [(h0, .inr (10, [.ref (ca 0), .ref (ca 1), .int tp, .ref (ca 3), .ref (ca 4), .ref (ca 5), .ref (ca 6)])), (ca 0, .inl (cT, 4, .inr (.inr (.inr (.inr (fun _ => none))))))] s.heap := hP
  have hl := lv_entry ([.ref h0, .int z1]) (n := 2) (Nat.le_of_ble_eq_true rfl)
  rw [lg_entry_eq]
  generalize (lg_sl ([.ref h0, .int z1]) ++ List.replicate (2 - (lg_sl ([.ref h0, .int z1])).length) Slot.unset).toArray = ls at hl ⊢
  have hl : lv_has ls 2 [(0, .ref h0), (1, .int z1)] := hl
  refine lv_iload_n hx hb dX10_tableAt_0 rfl (lv_at hl 1 rfl) ?_
  have hPc := hP.sub (ws' := []) [] rfl
  have hKc := hK.sub (tys' := []) [] rfl
  have hFc := va_free0 hS hA
  refine va_calli (va_runS (As := [.int z1]) (rest := []) ⟨hx, hb, hml, hown, hts⟩ (c_isTN l D _ z1) (va_cwS 1 hts g_c_tableAt_c_isTN_55 rfl rfl rfl (by decide +kernel) ⟨(Nat.le_of_ble_eq_true rfl), (Nat.le_of_ble_eq_true rfl)⟩) (PcR_S hPc hKc) rfl rfl hl.1 rfl (lv_room (Nat.le_of_ble_eq_true rfl)) dX10_tableAt_1 ⟨(Nat.le_of_ble_eq_true rfl), (Nat.le_of_ble_eq_true rfl)⟩) hS (fun q _ h => hFc q h) hFc (fun r1 uu tt H locs htt hvm hw hB hz1 hk1 hS => ?_)
  have hP := va_keep hP hk1
  try dsimp only at hw
  clear hB hz1 hk1 hFc hPc hKc
  have hw_r1 := hw
  refine lv_if_eq (tgt := 16) hx hb dX10_tableAt_4 (by decide) (fun hc2 => ?_) (fun hc2 => ?_)
  ·
    refine lv_null hx hb dX10_tableAt_16 ?_
    exact W.aret (v := va_rf none) hx hb hr (Or.inl ⟨_, rfl⟩) (va_rf_or _) (fun t ht hW => ⟨⟨none, (), rfl, rfl, trivial⟩, hS.F ht⟩) hS.2.2 dX10_tableAt_17
  ·
    have hin4 := isT4 (by rw [← hw_r1]; exact hc2)
    refine lv_aload_n hx hb dX10_tableAt_7 rfl (lv_at hl 0 rfl) ?_
    refine va_get (D := D) (ci := 10) (v := .ref (ca 0)) (C := RX10) (T := TX10) (N := 7) hx hb hts hin_X10 hown hK hP 0 rfl rfl 0 (by decide) (hts (.fieldLink RX10 11 "ClashFree" "tables" "[LClashFree$Table;") (List.mem_of_getElem? (i := 4) rfl)) (fun _ h9 => h9) rfl dX10_tableAt_8 ?_
    refine lv_iload_n hx hb dX10_tableAt_11 rfl (lv_at hl 1 rfl) ?_
    refine va_aldq hx hb hK hP 1 0 rfl rfl (hin4) dX10_tableAt_12 ?_
    refine W.eq (g2 := F0 m 13 ls [.null]) rfl ?_
    refine lv_goto (tgt := 17) hx hb dX10_tableAt_13 (by decide) ?_
    exact W.aret (v := va_rf none) hx hb hr (Or.inl ⟨_, rfl⟩) (va_rf_or _) (fun t ht hW => ⟨⟨none, (), rfl, rfl, trivial⟩, hS.F ht⟩) hS.2.2 dX10_tableAt_17

def own_c_countTables : List Cond := [.fieldLink RX10 11 "ClashFree" "tables" "[LClashFree$Table;"]
def wp_c_countTables : List Cond := .code yX10_countTables cX10_countTables 3 (some .int) :: (own_c_countTables ++ (wsX100 ++ ([] : List Cond)))
set_option maxRecDepth 20000 in
theorem inown_c_countTables : ∀ w ∈ own_c_countTables, w ∈ lw_tbl := mem_places [412] (by decide +kernel)
set_option maxRecDepth 20000 in
theorem in_c_countTables : ∀ w ∈ wp_c_countTables, w ∈ lw_tbl := List.forall_mem_cons.mpr ⟨List.mem_of_getElem? (i := 1205) (by decide +kernel), List.forall_mem_append.mpr ⟨inown_c_countTables, List.forall_mem_append.mpr ⟨lwb_X10, fun _ h => absurd h List.not_mem_nil⟩⟩⟩
set_option maxRecDepth 20000 in
theorem good_c_countTables : wp_c_countTables.all goodWord = true := by decide +kernel
set_option maxHeartbeats 4000000 in
set_option maxRecDepth 100000 in
theorem c_countTables (l : Launch) (D : va_G) (sz : Nat) (h0 : Nat) (ca : Nat → Nat) (cT : ClassId) (tp : Int32)  : Met l yX10_countTables wp_c_countTables ({ frames := 0, cells := 0, slots := 0, locals := 0 }) (PcR D [.ref h0] sz [(h0, .inr (10, [.ref (ca 0), .ref (ca 1), .int tp, .ref (ca 3), .ref (ca 4), .ref (ca 5), .ref (ca 6)])), (ca 0, .inl (cT, 4, .inr (.inr (.inr (.inr (fun _ => none))))))] [(cT, .object RX9)]) (va_Qi (fun (r : Int32) (_ : Unit) => r = 0) (fun (_ : Unit) _ => True) (va_A [] sz)) 0 0 (va_A [] sz) := by
  refine Met.ofW (cc := cX10_countTables) (maxL := 3) (ret := (some .int)) (by decide) rfl ?_
  intro p e s m args below meth c s₁ B hml hv
  obtain ⟨rfl, hsz, hP, hK⟩ := hv
  have hx := B.exec
  have hb := B.bytes
  have hr := B.returns
  have hts := atoms_spec (ws := wp_c_countTables) B.pre
  have hin_X10 : ∀ w ∈ wsX100, w ∈ wp_c_countTables := fun _ h => (List.mem_cons_of_mem _ (List.mem_append_right _ (List.mem_append_left _ h)))
  have hown : s.vm.findClass RX10 = some m.cls := findClass_of_methodNamed B.named
  have hlocks := B.notSynchronized
  subst hsz
  generalize hAe : va_A [] s.heap.size = A at ⊢
  have hA : ∀ q : Nat, s.heap.size ≤ q → A q := fun q h => by rw [← hAe]; exact Or.inr h
  have hS : va_S A s.heap s.heap [] := va_S.rf
  have hP : va_P D vwCl [(h0, .inr (10, [.ref (ca 0), .ref (ca 1), .int tp, .ref (ca 3), .ref (ca 4), .ref (ca 5), .ref (ca 6)])), (ca 0, .inl (cT, 4, .inr (.inr (.inr (.inr (fun _ => none))))))] s.heap := hP
  have hl := lv_entry ([.ref h0]) (n := 3) (Nat.le_of_ble_eq_true rfl)
  rw [lg_entry_eq]
  generalize (lg_sl ([.ref h0]) ++ List.replicate (3 - (lg_sl ([.ref h0])).length) Slot.unset).toArray = ls at hl ⊢
  have hl : lv_has ls 3 [(0, .ref h0)] := hl
  refine lv_iconst (v := 0) hx hb dX10_countTables_0 (by decide) ?_
  refine lv_istore_n (lv' := [(1, .int 0), (0, .ref h0)]) hx hb dX10_countTables_1 rfl hl (by decide) rfl (fun ls hl => ?_)
  refine lv_iconst (v := 0) hx hb dX10_countTables_2 (by decide) ?_
  refine lv_istore_n (lv' := [(2, .int 0), (1, .int 0), (0, .ref h0)]) hx hb dX10_countTables_3 rfl hl (by decide) rfl (fun ls hl => ?_)
  refine lv_iload_n hx hb dX10_countTables_4 rfl (lv_at hl 0 rfl) ?_
  refine lv_iconst (v := 4) hx hb dX10_countTables_5 (by decide) ?_
  refine lv_icmp_ge (tgt := 27) hx hb dX10_countTables_6 (by decide) (fun hc => absurd hc (by decide)) (fun hc => ?_)
  refine lv_aload_n hx hb dX10_countTables_9 rfl (lv_at hl 2 rfl) ?_
  refine va_get (D := D) (ci := 10) (v := .ref (ca 0)) (C := RX10) (T := TX10) (N := 7) hx hb hts hin_X10 hown hK hP 0 rfl rfl 0 (by decide) (hts (.fieldLink RX10 11 "ClashFree" "tables" "[LClashFree$Table;") (List.mem_of_getElem? (i := 1) rfl)) (fun _ h9 => h9) rfl dX10_countTables_10 ?_
  refine lv_iload_n hx hb dX10_countTables_13 rfl (lv_at hl 0 rfl) ?_
  refine va_aldq hx hb hK hP 1 0 rfl rfl (show ¬ ((0 : Int32) < 0 ∨ 4 ≤ Int32.toNatClampNeg 0) by decide) dX10_countTables_14 ?_
  refine W.eq (g2 := F0 m 15 ls [.null]) rfl ?_
  refine lv_ifnullN (tgt := 21) hx hb dX10_countTables_15 (by decide) ?_
  refine lv_iinc (v := 1) (lv' := [(2, .int 1), (1, .int 0), (0, .ref h0)]) hx hb dX10_countTables_21 hl (k := 0) rfl (by decide) (by decide) rfl (fun ls hl => ?_)
  refine lv_goto (tgt := 4) hx hb dX10_countTables_24 (by decide) ?_
  refine lv_iload_n hx hb dX10_countTables_4 rfl (lv_at hl 0 rfl) ?_
  refine lv_iconst (v := 4) hx hb dX10_countTables_5 (by decide) ?_
  refine lv_icmp_ge (tgt := 27) hx hb dX10_countTables_6 (by decide) (fun hc => absurd hc (by decide)) (fun hc => ?_)
  refine lv_aload_n hx hb dX10_countTables_9 rfl (lv_at hl 2 rfl) ?_
  refine va_get (D := D) (ci := 10) (v := .ref (ca 0)) (C := RX10) (T := TX10) (N := 7) hx hb hts hin_X10 hown hK hP 0 rfl rfl 0 (by decide) (hts (.fieldLink RX10 11 "ClashFree" "tables" "[LClashFree$Table;") (List.mem_of_getElem? (i := 1) rfl)) (fun _ h9 => h9) rfl dX10_countTables_10 ?_
  refine lv_iload_n hx hb dX10_countTables_13 rfl (lv_at hl 0 rfl) ?_
  refine va_aldq hx hb hK hP 1 0 rfl rfl (show ¬ ((1 : Int32) < 0 ∨ 4 ≤ Int32.toNatClampNeg 1) by decide) dX10_countTables_14 ?_
  refine W.eq (g2 := F0 m 15 ls [.null]) rfl ?_
  refine lv_ifnullN (tgt := 21) hx hb dX10_countTables_15 (by decide) ?_
  refine lv_iinc (v := 2) (lv' := [(2, .int 2), (1, .int 0), (0, .ref h0)]) hx hb dX10_countTables_21 hl (k := 0) rfl (by decide) (by decide) rfl (fun ls hl => ?_)
  refine lv_goto (tgt := 4) hx hb dX10_countTables_24 (by decide) ?_
  refine lv_iload_n hx hb dX10_countTables_4 rfl (lv_at hl 0 rfl) ?_
  refine lv_iconst (v := 4) hx hb dX10_countTables_5 (by decide) ?_
  refine lv_icmp_ge (tgt := 27) hx hb dX10_countTables_6 (by decide) (fun hc => absurd hc (by decide)) (fun hc => ?_)
  refine lv_aload_n hx hb dX10_countTables_9 rfl (lv_at hl 2 rfl) ?_
  refine va_get (D := D) (ci := 10) (v := .ref (ca 0)) (C := RX10) (T := TX10) (N := 7) hx hb hts hin_X10 hown hK hP 0 rfl rfl 0 (by decide) (hts (.fieldLink RX10 11 "ClashFree" "tables" "[LClashFree$Table;") (List.mem_of_getElem? (i := 1) rfl)) (fun _ h9 => h9) rfl dX10_countTables_10 ?_
  refine lv_iload_n hx hb dX10_countTables_13 rfl (lv_at hl 0 rfl) ?_
  refine va_aldq hx hb hK hP 1 0 rfl rfl (show ¬ ((2 : Int32) < 0 ∨ 4 ≤ Int32.toNatClampNeg 2) by decide) dX10_countTables_14 ?_
  refine W.eq (g2 := F0 m 15 ls [.null]) rfl ?_
  refine lv_ifnullN (tgt := 21) hx hb dX10_countTables_15 (by decide) ?_
  refine lv_iinc (v := 3) (lv' := [(2, .int 3), (1, .int 0), (0, .ref h0)]) hx hb dX10_countTables_21 hl (k := 0) rfl (by decide) (by decide) rfl (fun ls hl => ?_)
  refine lv_goto (tgt := 4) hx hb dX10_countTables_24 (by decide) ?_
  refine lv_iload_n hx hb dX10_countTables_4 rfl (lv_at hl 0 rfl) ?_
  refine lv_iconst (v := 4) hx hb dX10_countTables_5 (by decide) ?_
  refine lv_icmp_ge (tgt := 27) hx hb dX10_countTables_6 (by decide) (fun hc => absurd hc (by decide)) (fun hc => ?_)
  refine lv_aload_n hx hb dX10_countTables_9 rfl (lv_at hl 2 rfl) ?_
  refine va_get (D := D) (ci := 10) (v := .ref (ca 0)) (C := RX10) (T := TX10) (N := 7) hx hb hts hin_X10 hown hK hP 0 rfl rfl 0 (by decide) (hts (.fieldLink RX10 11 "ClashFree" "tables" "[LClashFree$Table;") (List.mem_of_getElem? (i := 1) rfl)) (fun _ h9 => h9) rfl dX10_countTables_10 ?_
  refine lv_iload_n hx hb dX10_countTables_13 rfl (lv_at hl 0 rfl) ?_
  refine va_aldq hx hb hK hP 1 0 rfl rfl (show ¬ ((3 : Int32) < 0 ∨ 4 ≤ Int32.toNatClampNeg 3) by decide) dX10_countTables_14 ?_
  refine W.eq (g2 := F0 m 15 ls [.null]) rfl ?_
  refine lv_ifnullN (tgt := 21) hx hb dX10_countTables_15 (by decide) ?_
  refine lv_iinc (v := 4) (lv' := [(2, .int 4), (1, .int 0), (0, .ref h0)]) hx hb dX10_countTables_21 hl (k := 0) rfl (by decide) (by decide) rfl (fun ls hl => ?_)
  refine lv_goto (tgt := 4) hx hb dX10_countTables_24 (by decide) ?_
  refine lv_iload_n hx hb dX10_countTables_4 rfl (lv_at hl 0 rfl) ?_
  refine lv_iconst (v := 4) hx hb dX10_countTables_5 (by decide) ?_
  refine lv_icmp_ge (tgt := 27) hx hb dX10_countTables_6 (by decide) (fun hc => ?_) (fun hc => absurd (by decide) hc)
  refine lv_iload_n hx hb dX10_countTables_27 rfl (lv_at hl 1 rfl) ?_
  exact W.iret (v := 0) hx hb hr (fun t ht hW => ⟨⟨0, (), rfl, rfl, trivial⟩, hS.F ht⟩) hS.2.2 dX10_countTables_28

def own_c_countKeys : List Cond := [.fieldLink RX10 11 "ClashFree" "tables" "[LClashFree$Table;"]
def wp_c_countKeys : List Cond := .code yX10_countKeys cX10_countKeys 3 (some .int) :: (own_c_countKeys ++ (wsX100 ++ ([] : List Cond)))
set_option maxRecDepth 20000 in
theorem inown_c_countKeys : ∀ w ∈ own_c_countKeys, w ∈ lw_tbl := mem_places [412] (by decide +kernel)
set_option maxRecDepth 20000 in
theorem in_c_countKeys : ∀ w ∈ wp_c_countKeys, w ∈ lw_tbl := List.forall_mem_cons.mpr ⟨List.mem_of_getElem? (i := 1209) (by decide +kernel), List.forall_mem_append.mpr ⟨inown_c_countKeys, List.forall_mem_append.mpr ⟨lwb_X10, fun _ h => absurd h List.not_mem_nil⟩⟩⟩
set_option maxRecDepth 20000 in
theorem good_c_countKeys : wp_c_countKeys.all goodWord = true := by decide +kernel
set_option maxHeartbeats 4000000 in
set_option maxRecDepth 100000 in
theorem c_countKeys (l : Launch) (D : va_G) (sz : Nat) (h0 : Nat) (ca : Nat → Nat) (cT : ClassId) (tp : Int32)  : Met l yX10_countKeys wp_c_countKeys ({ frames := 0, cells := 0, slots := 0, locals := 0 }) (PcR D [.ref h0] sz [(h0, .inr (10, [.ref (ca 0), .ref (ca 1), .int tp, .ref (ca 3), .ref (ca 4), .ref (ca 5), .ref (ca 6)])), (ca 0, .inl (cT, 4, .inr (.inr (.inr (.inr (fun _ => none))))))] [(cT, .object RX9)]) (va_Qi (fun (r : Int32) (_ : Unit) => r = 0) (fun (_ : Unit) _ => True) (va_A [] sz)) 0 0 (va_A [] sz) := by
  refine Met.ofW (cc := cX10_countKeys) (maxL := 3) (ret := (some .int)) (by decide) rfl ?_
  intro p e s m args below meth c s₁ B hml hv
  obtain ⟨rfl, hsz, hP, hK⟩ := hv
  have hx := B.exec
  have hb := B.bytes
  have hr := B.returns
  have hts := atoms_spec (ws := wp_c_countKeys) B.pre
  have hin_X10 : ∀ w ∈ wsX100, w ∈ wp_c_countKeys := fun _ h => (List.mem_cons_of_mem _ (List.mem_append_right _ (List.mem_append_left _ h)))
  have hown : s.vm.findClass RX10 = some m.cls := findClass_of_methodNamed B.named
  have hlocks := B.notSynchronized
  subst hsz
  generalize hAe : va_A [] s.heap.size = A at ⊢
  have hA : ∀ q : Nat, s.heap.size ≤ q → A q := fun q h => by rw [← hAe]; exact Or.inr h
  have hS : va_S A s.heap s.heap [] := va_S.rf
  have hP : va_P D vwCl [(h0, .inr (10, [.ref (ca 0), .ref (ca 1), .int tp, .ref (ca 3), .ref (ca 4), .ref (ca 5), .ref (ca 6)])), (ca 0, .inl (cT, 4, .inr (.inr (.inr (.inr (fun _ => none))))))] s.heap := hP
  have hl := lv_entry ([.ref h0]) (n := 3) (Nat.le_of_ble_eq_true rfl)
  rw [lg_entry_eq]
  generalize (lg_sl ([.ref h0]) ++ List.replicate (3 - (lg_sl ([.ref h0])).length) Slot.unset).toArray = ls at hl ⊢
  have hl : lv_has ls 3 [(0, .ref h0)] := hl
  refine lv_iconst (v := 0) hx hb dX10_countKeys_0 (by decide) ?_
  refine lv_istore_n (lv' := [(1, .int 0), (0, .ref h0)]) hx hb dX10_countKeys_1 rfl hl (by decide) rfl (fun ls hl => ?_)
  refine lv_iconst (v := 0) hx hb dX10_countKeys_2 (by decide) ?_
  refine lv_istore_n (lv' := [(2, .int 0), (1, .int 0), (0, .ref h0)]) hx hb dX10_countKeys_3 rfl hl (by decide) rfl (fun ls hl => ?_)
  refine lv_iload_n hx hb dX10_countKeys_4 rfl (lv_at hl 0 rfl) ?_
  refine lv_iconst (v := 4) hx hb dX10_countKeys_5 (by decide) ?_
  refine lv_icmp_ge (tgt := 39) hx hb dX10_countKeys_6 (by decide) (fun hc => absurd hc (by decide)) (fun hc => ?_)
  refine lv_aload_n hx hb dX10_countKeys_9 rfl (lv_at hl 2 rfl) ?_
  refine va_get (D := D) (ci := 10) (v := .ref (ca 0)) (C := RX10) (T := TX10) (N := 7) hx hb hts hin_X10 hown hK hP 0 rfl rfl 0 (by decide) (hts (.fieldLink RX10 11 "ClashFree" "tables" "[LClashFree$Table;") (List.mem_of_getElem? (i := 1) rfl)) (fun _ h9 => h9) rfl dX10_countKeys_10 ?_
  refine lv_iload_n hx hb dX10_countKeys_13 rfl (lv_at hl 0 rfl) ?_
  refine va_aldq hx hb hK hP 1 0 rfl rfl (show ¬ ((0 : Int32) < 0 ∨ 4 ≤ Int32.toNatClampNeg 0) by decide) dX10_countKeys_14 ?_
  refine W.eq (g2 := F0 m 15 ls [.null]) rfl ?_
  refine lv_ifnullN (tgt := 33) hx hb dX10_countKeys_15 (by decide) ?_
  refine lv_iinc (v := 1) (lv' := [(2, .int 1), (1, .int 0), (0, .ref h0)]) hx hb dX10_countKeys_33 hl (k := 0) rfl (by decide) (by decide) rfl (fun ls hl => ?_)
  refine lv_goto (tgt := 4) hx hb dX10_countKeys_36 (by decide) ?_
  refine lv_iload_n hx hb dX10_countKeys_4 rfl (lv_at hl 0 rfl) ?_
  refine lv_iconst (v := 4) hx hb dX10_countKeys_5 (by decide) ?_
  refine lv_icmp_ge (tgt := 39) hx hb dX10_countKeys_6 (by decide) (fun hc => absurd hc (by decide)) (fun hc => ?_)
  refine lv_aload_n hx hb dX10_countKeys_9 rfl (lv_at hl 2 rfl) ?_
  refine va_get (D := D) (ci := 10) (v := .ref (ca 0)) (C := RX10) (T := TX10) (N := 7) hx hb hts hin_X10 hown hK hP 0 rfl rfl 0 (by decide) (hts (.fieldLink RX10 11 "ClashFree" "tables" "[LClashFree$Table;") (List.mem_of_getElem? (i := 1) rfl)) (fun _ h9 => h9) rfl dX10_countKeys_10 ?_
  refine lv_iload_n hx hb dX10_countKeys_13 rfl (lv_at hl 0 rfl) ?_
  refine va_aldq hx hb hK hP 1 0 rfl rfl (show ¬ ((1 : Int32) < 0 ∨ 4 ≤ Int32.toNatClampNeg 1) by decide) dX10_countKeys_14 ?_
  refine W.eq (g2 := F0 m 15 ls [.null]) rfl ?_
  refine lv_ifnullN (tgt := 33) hx hb dX10_countKeys_15 (by decide) ?_
  refine lv_iinc (v := 2) (lv' := [(2, .int 2), (1, .int 0), (0, .ref h0)]) hx hb dX10_countKeys_33 hl (k := 0) rfl (by decide) (by decide) rfl (fun ls hl => ?_)
  refine lv_goto (tgt := 4) hx hb dX10_countKeys_36 (by decide) ?_
  refine lv_iload_n hx hb dX10_countKeys_4 rfl (lv_at hl 0 rfl) ?_
  refine lv_iconst (v := 4) hx hb dX10_countKeys_5 (by decide) ?_
  refine lv_icmp_ge (tgt := 39) hx hb dX10_countKeys_6 (by decide) (fun hc => absurd hc (by decide)) (fun hc => ?_)
  refine lv_aload_n hx hb dX10_countKeys_9 rfl (lv_at hl 2 rfl) ?_
  refine va_get (D := D) (ci := 10) (v := .ref (ca 0)) (C := RX10) (T := TX10) (N := 7) hx hb hts hin_X10 hown hK hP 0 rfl rfl 0 (by decide) (hts (.fieldLink RX10 11 "ClashFree" "tables" "[LClashFree$Table;") (List.mem_of_getElem? (i := 1) rfl)) (fun _ h9 => h9) rfl dX10_countKeys_10 ?_
  refine lv_iload_n hx hb dX10_countKeys_13 rfl (lv_at hl 0 rfl) ?_
  refine va_aldq hx hb hK hP 1 0 rfl rfl (show ¬ ((2 : Int32) < 0 ∨ 4 ≤ Int32.toNatClampNeg 2) by decide) dX10_countKeys_14 ?_
  refine W.eq (g2 := F0 m 15 ls [.null]) rfl ?_
  refine lv_ifnullN (tgt := 33) hx hb dX10_countKeys_15 (by decide) ?_
  refine lv_iinc (v := 3) (lv' := [(2, .int 3), (1, .int 0), (0, .ref h0)]) hx hb dX10_countKeys_33 hl (k := 0) rfl (by decide) (by decide) rfl (fun ls hl => ?_)
  refine lv_goto (tgt := 4) hx hb dX10_countKeys_36 (by decide) ?_
  refine lv_iload_n hx hb dX10_countKeys_4 rfl (lv_at hl 0 rfl) ?_
  refine lv_iconst (v := 4) hx hb dX10_countKeys_5 (by decide) ?_
  refine lv_icmp_ge (tgt := 39) hx hb dX10_countKeys_6 (by decide) (fun hc => absurd hc (by decide)) (fun hc => ?_)
  refine lv_aload_n hx hb dX10_countKeys_9 rfl (lv_at hl 2 rfl) ?_
  refine va_get (D := D) (ci := 10) (v := .ref (ca 0)) (C := RX10) (T := TX10) (N := 7) hx hb hts hin_X10 hown hK hP 0 rfl rfl 0 (by decide) (hts (.fieldLink RX10 11 "ClashFree" "tables" "[LClashFree$Table;") (List.mem_of_getElem? (i := 1) rfl)) (fun _ h9 => h9) rfl dX10_countKeys_10 ?_
  refine lv_iload_n hx hb dX10_countKeys_13 rfl (lv_at hl 0 rfl) ?_
  refine va_aldq hx hb hK hP 1 0 rfl rfl (show ¬ ((3 : Int32) < 0 ∨ 4 ≤ Int32.toNatClampNeg 3) by decide) dX10_countKeys_14 ?_
  refine W.eq (g2 := F0 m 15 ls [.null]) rfl ?_
  refine lv_ifnullN (tgt := 33) hx hb dX10_countKeys_15 (by decide) ?_
  refine lv_iinc (v := 4) (lv' := [(2, .int 4), (1, .int 0), (0, .ref h0)]) hx hb dX10_countKeys_33 hl (k := 0) rfl (by decide) (by decide) rfl (fun ls hl => ?_)
  refine lv_goto (tgt := 4) hx hb dX10_countKeys_36 (by decide) ?_
  refine lv_iload_n hx hb dX10_countKeys_4 rfl (lv_at hl 0 rfl) ?_
  refine lv_iconst (v := 4) hx hb dX10_countKeys_5 (by decide) ?_
  refine lv_icmp_ge (tgt := 39) hx hb dX10_countKeys_6 (by decide) (fun hc => ?_) (fun hc => absurd (by decide) hc)
  refine lv_iload_n hx hb dX10_countKeys_39 rfl (lv_at hl 1 rfl) ?_
  exact W.iret (v := 0) hx hb hr (fun t ht hW => ⟨⟨0, (), rfl, rfl, trivial⟩, hS.F ht⟩) hS.2.2 dX10_countKeys_40

def own_c_isImageC : List Cond := []
def wp_c_isImageC : List Cond := .code yX10_isImage cX10_isImage 6 (some .boolean) :: (own_c_isImageC ++ ([] : List Cond))
set_option maxRecDepth 20000 in
theorem inown_c_isImageC : ∀ w ∈ own_c_isImageC, w ∈ lw_tbl := mem_places [] (by decide +kernel)
set_option maxRecDepth 20000 in
theorem in_c_isImageC : ∀ w ∈ wp_c_isImageC, w ∈ lw_tbl := List.forall_mem_cons.mpr ⟨List.mem_of_getElem? (i := 1168) (by decide +kernel), List.forall_mem_append.mpr ⟨inown_c_isImageC, fun _ h => absurd h List.not_mem_nil⟩⟩
set_option maxRecDepth 20000 in
theorem good_c_isImageC : wp_c_isImageC.all goodWord = true := by decide +kernel
set_option maxHeartbeats 4000000 in
set_option maxRecDepth 100000 in
theorem c_isImageC (l : Launch) (D : va_G) (sz : Nat) (h1 : Nat) (cI : ClassId) (f : Nat → Int32)  : Met l yX10_isImage wp_c_isImageC ({ frames := 0, cells := 0, slots := 0, locals := 0 }) (PcR D [.ref h1, .int 0] sz [] []) (va_Qi (fun (r : Int32) (_ : Unit) => r = 0) (fun (_ : Unit) _ => True) (va_A [] sz)) 0 0 (va_A [] sz) := by
  refine Met.ofW (cc := cX10_isImage) (maxL := 6) (ret := (some .boolean)) (by decide) rfl ?_
  intro p e s m args below meth c s₁ B hml hv
  obtain ⟨rfl, hsz, hP, hK⟩ := hv
  have hx := B.exec
  have hb := B.bytes
  have hr := B.returns
  have hts := atoms_spec (ws := wp_c_isImageC) B.pre
  have hown : s.vm.findClass RX10 = some m.cls := findClass_of_methodNamed B.named
  have hlocks := B.notSynchronized
  subst hsz
  generalize hAe : va_A [] s.heap.size = A at ⊢
  have hA : ∀ q : Nat, s.heap.size ≤ q → A q := fun q h => by rw [← hAe]; exact Or.inr h
  have hS : va_S A s.heap s.heap [] := va_S.rf
  have hP : va_P D vwCl [] s.heap := hP
  have hl := lv_entry ([.ref h1, .int 0]) (n := 6) (Nat.le_of_ble_eq_true rfl)
  rw [lg_entry_eq]
  generalize (lg_sl ([.ref h1, .int 0]) ++ List.replicate (6 - (lg_sl ([.ref h1, .int 0])).length) Slot.unset).toArray = ls at hl ⊢
  have hl : lv_has ls 6 [(0, .ref h1), (1, .int 0)] := hl
  refine lv_iload_n hx hb dX10_isImage_0 rfl (lv_at hl 1 rfl) ?_
  refine lv_bipush (v := 14) hx hb dX10_isImage_1 (by decide) ?_
  refine lv_icmp_lt (tgt := 12) hx hb dX10_isImage_3 (by decide) (fun hc => ?_) (fun hc => absurd (by decide) hc)
  refine lv_iconst (v := 0) hx hb dX10_isImage_12 (by decide) ?_
  exact W.zret (v := 0) hx hb hr rfl (fun t ht hW => ⟨⟨0, (), rfl, rfl, trivial⟩, hS.F ht⟩) hS.2.2 dX10_isImage_13

def own_c_writeInt : List Cond := []
def wp_c_writeInt : List Cond := .code yX10_writeInt cX10_writeInt 4 none :: (own_c_writeInt ++ ([] : List Cond))
set_option maxRecDepth 20000 in
theorem inown_c_writeInt : ∀ w ∈ own_c_writeInt, w ∈ lw_tbl := mem_places [] (by decide +kernel)
set_option maxRecDepth 20000 in
theorem in_c_writeInt : ∀ w ∈ wp_c_writeInt, w ∈ lw_tbl := List.forall_mem_cons.mpr ⟨List.mem_of_getElem? (i := 440) (by decide +kernel), List.forall_mem_append.mpr ⟨inown_c_writeInt, fun _ h => absurd h List.not_mem_nil⟩⟩
set_option maxRecDepth 20000 in
theorem good_c_writeInt : wp_c_writeInt.all goodWord = true := by decide +kernel
set_option maxHeartbeats 4000000 in
set_option maxRecDepth 100000 in
theorem c_writeInt (l : Launch) (D : va_G) (sz : Nat) (h1 : Nat) (cI : ClassId) (f : Nat → Int32) (k : Nat) (z1 : Int32) (hk : k + 4 ≤ 1400) : Met l yX10_writeInt wp_c_writeInt ({ frames := 0, cells := 0, slots := 0, locals := 0 }) (PcW D [.ref h1, .int (nI k), .int z1] sz [(h1, .inl (cI, 1400, .inl f))] [(cI, .int)]) (va_Qv (fun (_ : Nat → Int32) => True) (fun (u : Nat → Int32) t => va_P D vwCl [(h1, .inl (cI, 1400, .inl u))] t.heap ∧ va_K D vwCl [(cI, .int)] t ∧ va_D (va_A [(h1, .inl (cI, 1400, .inl f))] sz) [(h1, .inl (cI, 1400, .inl u))]) (va_A [(h1, .inl (cI, 1400, .inl f))] sz)) 0 0 (va_A [(h1, .inl (cI, 1400, .inl f))] sz) := by
  refine Met.ofW (cc := cX10_writeInt) (maxL := 4) (ret := none) (by decide) rfl ?_
  intro p e s m args below meth c s₁ B hml hv
  obtain ⟨rfl, hsz, hP, hK, hD0⟩ := hv
  have hx := B.exec
  have hb := B.bytes
  have hr := B.returns
  have hts := atoms_spec (ws := wp_c_writeInt) B.pre
  have hown : s.vm.findClass RX10 = some m.cls := findClass_of_methodNamed B.named
  have hlocks := B.notSynchronized
  subst hsz
  have hD := hD0.self (sz := s.heap.size)
  generalize hAe : va_A [(h1, .inl (cI, 1400, .inl f))] s.heap.size = A at hD ⊢
  have hA : ∀ q : Nat, s.heap.size ≤ q → A q := fun q h => by rw [← hAe]; exact Or.inr h
  have hS : va_S A s.heap s.heap [] := va_S.rf
  have hP : va_P D vwCl [(h1, .inl (cI, 1400, .inl f))] s.heap := hP
  have hl := lv_entry ([.ref h1, .int (nI k), .int z1]) (n := 4) (Nat.le_of_ble_eq_true rfl)
  rw [lg_entry_eq]
  generalize (lg_sl ([.ref h1, .int (nI k), .int z1]) ++ List.replicate (4 - (lg_sl ([.ref h1, .int (nI k), .int z1])).length) Slot.unset).toArray = ls at hl ⊢
  have hl : lv_has ls 4 [(0, .ref h1), (1, .int (nI k)), (2, .int z1)] := hl
  refine lv_iload_n hx hb dX10_writeInt_0 rfl (lv_at hl 1 rfl) ?_
  refine lv_if_lt (tgt := 12) hx hb dX10_writeInt_1 (by decide) (fun hc => absurd hc (nI_pos (by omega))) (fun hc => ?_)
  refine lv_iload_n hx hb dX10_writeInt_4 rfl (lv_at hl 1 rfl) ?_
  refine lv_iconst (v := 4) hx hb dX10_writeInt_5 (by decide) ?_
  refine lv_iadd hx hb dX10_writeInt_6 ?_
  refine lv_topi (fun v1 ev1 => ?_)
  obtain rfl : v1 = nI (k + 4) := ev1.trans (nI_add k 4)
  refine lv_aload_n hx hb dX10_writeInt_7 rfl (lv_at hl 0 rfl) ?_
  refine va_alen (v := 1400) hx hb hK hP 0 0 rfl rfl rfl dX10_writeInt_8 ?_
  refine lv_icmp_le (tgt := 13) hx hb dX10_writeInt_9 (by decide) (fun hc => ?_) (fun hc => absurd (nI_le (b := 1400) (by omega) (by decide)) hc)
  refine lv_iconst (v := 0) hx hb dX10_writeInt_13 (by decide) ?_
  refine lv_istore_n (lv' := [(3, .int 0), (0, .ref h1), (1, .int (nI k)), (2, .int z1)]) hx hb dX10_writeInt_14 rfl hl (by decide) rfl (fun ls hl => ?_)
  refine lv_iload_n hx hb dX10_writeInt_15 rfl (lv_at hl 0 rfl) ?_
  refine lv_iconst (v := 4) hx hb dX10_writeInt_16 (by decide) ?_
  refine lv_icmp_ge (tgt := 44) hx hb dX10_writeInt_17 (by decide) (fun hc => absurd hc (by decide)) (fun hc => ?_)
  refine lv_aload_n hx hb dX10_writeInt_20 rfl (lv_at hl 1 rfl) ?_
  refine lv_iload_n hx hb dX10_writeInt_21 rfl (lv_at hl 2 rfl) ?_
  refine lv_iload_n hx hb dX10_writeInt_22 rfl (lv_at hl 0 rfl) ?_
  refine lv_iadd hx hb dX10_writeInt_23 ?_
  refine lv_topi (fun v2 ev2 => ?_)
  obtain rfl : v2 = nI (k + 0) := ev2.trans (nI_add k 0)
  refine lv_iload_n hx hb dX10_writeInt_24 rfl (lv_at hl 3 rfl) ?_
  refine lv_bipush (v := 24) hx hb dX10_writeInt_25 (by decide) ?_
  refine lv_bipush (v := 8) hx hb dX10_writeInt_27 (by decide) ?_
  refine lv_iload_n hx hb dX10_writeInt_29 rfl (lv_at hl 0 rfl) ?_
  refine lv_imul hx hb dX10_writeInt_30 ?_
  refine lv_topi (fun v3 ev3 => ?_)
  obtain rfl : v3 = 0 := ev3.trans (by decide)
  refine lv_isub hx hb dX10_writeInt_31 ?_
  refine lv_topi (fun v4 ev4 => ?_)
  obtain rfl : v4 = 24 := ev4.trans (by decide)
  refine lv_iushr hx hb dX10_writeInt_32 rfl ?_
  refine lv_topi (fun v5 ev5 => ?_)
  refine lv_sipush (v := 255) hx hb dX10_writeInt_33 (by decide) ?_
  refine lv_iand hx hb dX10_writeInt_36 ?_
  refine lv_topi (fun v6 ev6 => ?_)
  refine va_iast hx hb hK hP hD hS 0 0 rfl rfl (vp_in_nI (by omega) (by decide)) dX10_writeInt_37 (fun H locs hP hD hS => ?_)
  have hP : va_P D vwCl [(h1, .inl (cI, 1400, .inl (upd f (Int32.toNatClampNeg (nI (k + 0))) v6)))] H := hP
  have hD : va_D A [(h1, .inl (cI, 1400, .inl (upd f (Int32.toNatClampNeg (nI (k + 0))) v6)))] := hD
  generalize upd f (Int32.toNatClampNeg (nI (k + 0))) v6 = g7 at hP hD
  refine lv_iinc (v := 1) (lv' := [(3, .int 1), (0, .ref h1), (1, .int (nI k)), (2, .int z1)]) hx hb dX10_writeInt_38 hl (k := 0) rfl (by decide) (by decide) rfl (fun ls hl => ?_)
  refine lv_goto (tgt := 15) hx hb dX10_writeInt_41 (by decide) ?_
  refine lv_iload_n hx hb dX10_writeInt_15 rfl (lv_at hl 0 rfl) ?_
  refine lv_iconst (v := 4) hx hb dX10_writeInt_16 (by decide) ?_
  refine lv_icmp_ge (tgt := 44) hx hb dX10_writeInt_17 (by decide) (fun hc => absurd hc (by decide)) (fun hc => ?_)
  refine lv_aload_n hx hb dX10_writeInt_20 rfl (lv_at hl 1 rfl) ?_
  refine lv_iload_n hx hb dX10_writeInt_21 rfl (lv_at hl 2 rfl) ?_
  refine lv_iload_n hx hb dX10_writeInt_22 rfl (lv_at hl 0 rfl) ?_
  refine lv_iadd hx hb dX10_writeInt_23 ?_
  refine lv_topi (fun v8 ev8 => ?_)
  obtain rfl : v8 = nI (k + 1) := ev8.trans (nI_add k 1)
  refine lv_iload_n hx hb dX10_writeInt_24 rfl (lv_at hl 3 rfl) ?_
  refine lv_bipush (v := 24) hx hb dX10_writeInt_25 (by decide) ?_
  refine lv_bipush (v := 8) hx hb dX10_writeInt_27 (by decide) ?_
  refine lv_iload_n hx hb dX10_writeInt_29 rfl (lv_at hl 0 rfl) ?_
  refine lv_imul hx hb dX10_writeInt_30 ?_
  refine lv_topi (fun v9 ev9 => ?_)
  obtain rfl : v9 = 8 := ev9.trans (by decide)
  refine lv_isub hx hb dX10_writeInt_31 ?_
  refine lv_topi (fun v10 ev10 => ?_)
  obtain rfl : v10 = 16 := ev10.trans (by decide)
  refine lv_iushr hx hb dX10_writeInt_32 rfl ?_
  refine lv_topi (fun v11 ev11 => ?_)
  refine lv_sipush (v := 255) hx hb dX10_writeInt_33 (by decide) ?_
  refine lv_iand hx hb dX10_writeInt_36 ?_
  refine lv_topi (fun v12 ev12 => ?_)
  refine va_iast hx hb hK hP hD hS 0 0 rfl rfl (vp_in_nI (by omega) (by decide)) dX10_writeInt_37 (fun H locs hP hD hS => ?_)
  have hP : va_P D vwCl [(h1, .inl (cI, 1400, .inl (upd g7 (Int32.toNatClampNeg (nI (k + 1))) v12)))] H := hP
  have hD : va_D A [(h1, .inl (cI, 1400, .inl (upd g7 (Int32.toNatClampNeg (nI (k + 1))) v12)))] := hD
  generalize upd g7 (Int32.toNatClampNeg (nI (k + 1))) v12 = g13 at hP hD
  refine lv_iinc (v := 2) (lv' := [(3, .int 2), (0, .ref h1), (1, .int (nI k)), (2, .int z1)]) hx hb dX10_writeInt_38 hl (k := 0) rfl (by decide) (by decide) rfl (fun ls hl => ?_)
  refine lv_goto (tgt := 15) hx hb dX10_writeInt_41 (by decide) ?_
  refine lv_iload_n hx hb dX10_writeInt_15 rfl (lv_at hl 0 rfl) ?_
  refine lv_iconst (v := 4) hx hb dX10_writeInt_16 (by decide) ?_
  refine lv_icmp_ge (tgt := 44) hx hb dX10_writeInt_17 (by decide) (fun hc => absurd hc (by decide)) (fun hc => ?_)
  refine lv_aload_n hx hb dX10_writeInt_20 rfl (lv_at hl 1 rfl) ?_
  refine lv_iload_n hx hb dX10_writeInt_21 rfl (lv_at hl 2 rfl) ?_
  refine lv_iload_n hx hb dX10_writeInt_22 rfl (lv_at hl 0 rfl) ?_
  refine lv_iadd hx hb dX10_writeInt_23 ?_
  refine lv_topi (fun v14 ev14 => ?_)
  obtain rfl : v14 = nI (k + 2) := ev14.trans (nI_add k 2)
  refine lv_iload_n hx hb dX10_writeInt_24 rfl (lv_at hl 3 rfl) ?_
  refine lv_bipush (v := 24) hx hb dX10_writeInt_25 (by decide) ?_
  refine lv_bipush (v := 8) hx hb dX10_writeInt_27 (by decide) ?_
  refine lv_iload_n hx hb dX10_writeInt_29 rfl (lv_at hl 0 rfl) ?_
  refine lv_imul hx hb dX10_writeInt_30 ?_
  refine lv_topi (fun v15 ev15 => ?_)
  obtain rfl : v15 = 16 := ev15.trans (by decide)
  refine lv_isub hx hb dX10_writeInt_31 ?_
  refine lv_topi (fun v16 ev16 => ?_)
  obtain rfl : v16 = 8 := ev16.trans (by decide)
  refine lv_iushr hx hb dX10_writeInt_32 rfl ?_
  refine lv_topi (fun v17 ev17 => ?_)
  refine lv_sipush (v := 255) hx hb dX10_writeInt_33 (by decide) ?_
  refine lv_iand hx hb dX10_writeInt_36 ?_
  refine lv_topi (fun v18 ev18 => ?_)
  refine va_iast hx hb hK hP hD hS 0 0 rfl rfl (vp_in_nI (by omega) (by decide)) dX10_writeInt_37 (fun H locs hP hD hS => ?_)
  have hP : va_P D vwCl [(h1, .inl (cI, 1400, .inl (upd g13 (Int32.toNatClampNeg (nI (k + 2))) v18)))] H := hP
  have hD : va_D A [(h1, .inl (cI, 1400, .inl (upd g13 (Int32.toNatClampNeg (nI (k + 2))) v18)))] := hD
  generalize upd g13 (Int32.toNatClampNeg (nI (k + 2))) v18 = g19 at hP hD
  refine lv_iinc (v := 3) (lv' := [(3, .int 3), (0, .ref h1), (1, .int (nI k)), (2, .int z1)]) hx hb dX10_writeInt_38 hl (k := 0) rfl (by decide) (by decide) rfl (fun ls hl => ?_)
  refine lv_goto (tgt := 15) hx hb dX10_writeInt_41 (by decide) ?_
  refine lv_iload_n hx hb dX10_writeInt_15 rfl (lv_at hl 0 rfl) ?_
  refine lv_iconst (v := 4) hx hb dX10_writeInt_16 (by decide) ?_
  refine lv_icmp_ge (tgt := 44) hx hb dX10_writeInt_17 (by decide) (fun hc => absurd hc (by decide)) (fun hc => ?_)
  refine lv_aload_n hx hb dX10_writeInt_20 rfl (lv_at hl 1 rfl) ?_
  refine lv_iload_n hx hb dX10_writeInt_21 rfl (lv_at hl 2 rfl) ?_
  refine lv_iload_n hx hb dX10_writeInt_22 rfl (lv_at hl 0 rfl) ?_
  refine lv_iadd hx hb dX10_writeInt_23 ?_
  refine lv_topi (fun v20 ev20 => ?_)
  obtain rfl : v20 = nI (k + 3) := ev20.trans (nI_add k 3)
  refine lv_iload_n hx hb dX10_writeInt_24 rfl (lv_at hl 3 rfl) ?_
  refine lv_bipush (v := 24) hx hb dX10_writeInt_25 (by decide) ?_
  refine lv_bipush (v := 8) hx hb dX10_writeInt_27 (by decide) ?_
  refine lv_iload_n hx hb dX10_writeInt_29 rfl (lv_at hl 0 rfl) ?_
  refine lv_imul hx hb dX10_writeInt_30 ?_
  refine lv_topi (fun v21 ev21 => ?_)
  obtain rfl : v21 = 24 := ev21.trans (by decide)
  refine lv_isub hx hb dX10_writeInt_31 ?_
  refine lv_topi (fun v22 ev22 => ?_)
  obtain rfl : v22 = 0 := ev22.trans (by decide)
  refine lv_iushr hx hb dX10_writeInt_32 rfl ?_
  refine lv_topi (fun v23 ev23 => ?_)
  refine lv_sipush (v := 255) hx hb dX10_writeInt_33 (by decide) ?_
  refine lv_iand hx hb dX10_writeInt_36 ?_
  refine lv_topi (fun v24 ev24 => ?_)
  refine va_iast hx hb hK hP hD hS 0 0 rfl rfl (vp_in_nI (by omega) (by decide)) dX10_writeInt_37 (fun H locs hP hD hS => ?_)
  have hP : va_P D vwCl [(h1, .inl (cI, 1400, .inl (upd g19 (Int32.toNatClampNeg (nI (k + 3))) v24)))] H := hP
  have hD : va_D A [(h1, .inl (cI, 1400, .inl (upd g19 (Int32.toNatClampNeg (nI (k + 3))) v24)))] := hD
  generalize upd g19 (Int32.toNatClampNeg (nI (k + 3))) v24 = g25 at hP hD
  refine lv_iinc (v := 4) (lv' := [(3, .int 4), (0, .ref h1), (1, .int (nI k)), (2, .int z1)]) hx hb dX10_writeInt_38 hl (k := 0) rfl (by decide) (by decide) rfl (fun ls hl => ?_)
  refine lv_goto (tgt := 15) hx hb dX10_writeInt_41 (by decide) ?_
  refine lv_iload_n hx hb dX10_writeInt_15 rfl (lv_at hl 0 rfl) ?_
  refine lv_iconst (v := 4) hx hb dX10_writeInt_16 (by decide) ?_
  refine lv_icmp_ge (tgt := 44) hx hb dX10_writeInt_17 (by decide) (fun hc => ?_) (fun hc => absurd (by decide) hc)
  exact W.vret hx hb hr (fun t ht hW => ⟨⟨g25, rfl, trivial, by rw [ht]; exact hP.sub [0] rfl, va_K.moved hW.alike (hK.sub [0] rfl), hD.sub [0] (by decide) rfl⟩, hS.F ht⟩) hS.2.2 dX10_writeInt_44

