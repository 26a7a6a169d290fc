def own_c_X10_end : List Cond := [.fieldLink RX10 19 "ClashFree" "taped" "I"]
def wp_c_X10_end : List Cond := .code yX10_end cX10_end 2 (some .boolean) :: (own_c_X10_end ++ (wsX100 ++ ([] : List Cond)))
set_option maxRecDepth 20000 in
theorem inown_c_X10_end : ∀ w ∈ own_c_X10_end, w ∈ lw_tbl := mem_places [414] (by decide +kernel)
set_option maxRecDepth 20000 in
theorem in_c_X10_end : ∀ w ∈ wp_c_X10_end, w ∈ lw_tbl := List.forall_mem_cons.mpr ⟨List.mem_of_getElem? (i := 444) (by decide +kernel), List.forall_mem_append.mpr ⟨inown_c_X10_end, List.forall_mem_append.mpr ⟨lwb_X10, fun _ h => absurd h List.not_mem_nil⟩⟩⟩
set_option maxRecDepth 20000 in
theorem good_c_X10_end : wp_c_X10_end.all goodWord = true := by decide +kernel
set_option maxHeartbeats 4000000 in
set_option maxRecDepth 100000 in
theorem c_X10_end (l : Launch) (D : va_G) (sz : Nat) (h0 : Nat) (ca : Nat → Nat) (z1 : Int32)  : Met l yX10_end wp_c_X10_end ({ frames := 0, cells := 0, slots := 0, locals := 0 }) (PcW D [.ref h0, .int z1] sz [(h0, .inr (10, [.ref (ca 0), .ref (ca 1), .int 0, .ref (ca 3), .ref (ca 4), .ref (ca 5), .ref (ca 6)]))] []) (va_Qi (fun (r : Int32) (_ : Unit) => r = if z1 = 0 then 1 else 0) (fun (_ : Unit) _ => True) (va_A [(h0, .inr (10, [.ref (ca 0), .ref (ca 1), .int 0, .ref (ca 3), .ref (ca 4), .ref (ca 5), .ref (ca 6)]))] sz)) 0 0 (va_A [(h0, .inr (10, [.ref (ca 0), .ref (ca 1), .int 0, .ref (ca 3), .ref (ca 4), .ref (ca 5), .ref (ca 6)]))] sz) := by
  refine Met.ofW (cc := cX10_end) (maxL := 2) (ret := (some .boolean)) (by decide) rfl ?_
  intro p e s m args below meth c s₁ B hml hv
  obtain ⟨rfl, hsz, hP, hK, hD0⟩ := hv
  have hx := B.exec
  have hb := B.bytes
  have hr := B.returns
  have hts := atoms_spec (ws := wp_c_X10_end) B.pre
  have hin_X10 : ∀ w ∈ wsX100, w ∈ wp_c_X10_end := fun _ h => (List.mem_cons_of_mem _ (List.mem_append_right _ (List.mem_append_left _ h)))
  have hown : s.vm.findClass RX10 = some m.cls := findClass_of_methodNamed B.named
  have hlocks := B.notSynchronized
  subst hsz
  have hD := hD0.self (sz := s.heap.size)
  generalize hAe : va_A [(h0, .inr (10, [.ref (ca 0), .ref (ca 1), .int 0, .ref (ca 3), .ref (ca 4), .ref (ca 5), .ref (ca 6)]))] s.heap.size = A at hD ⊢
  have hA : ∀ q : Nat, s.heap.size ≤ q → A q := fun q h => by rw [← hAe]; exact Or.inr h
  have hS : va_S A s.heap s.heap [] := va_S.rf
  have hP : va_P D vwCl [(h0, .inr (10, [.ref (ca 0), .ref (ca 1), .int 0, .ref (ca 3), .ref (ca 4), .ref (ca 5), .ref (ca 6)]))] s.heap := hP
  have hl := lv_entry ([.ref h0, .int z1]) (n := 2) (Nat.le_of_ble_eq_true rfl)
  rw [lg_entry_eq]
  generalize (lg_sl ([.ref h0, .int z1]) ++ List.replicate (2 - (lg_sl ([.ref h0, .int z1])).length) Slot.unset).toArray = ls at hl ⊢
  have hl : lv_has ls 2 [(0, .ref h0), (1, .int z1)] := hl
  refine lv_iload_n hx hb dX10_end_0 rfl (lv_at hl 1 rfl) ?_
  refine lv_if_lt (tgt := 12) hx hb dX10_end_1 (by decide) (fun hc1 => ?_) (fun hc1 => ?_)
  ·
    refine lv_iconst (v := 0) hx hb dX10_end_12 (by decide) ?_
    exact W.zret (v := 0) hx hb hr rfl (fun t ht hW => ⟨⟨0, (), rfl, by rw [if_neg (fun h => absurd hc1 (by rw [h]; decide))], trivial⟩, hS.F ht⟩) hS.2.2 dX10_end_13
  ·
    refine lv_iload_n hx hb dX10_end_4 rfl (lv_at hl 1 rfl) ?_
    refine lv_aload_n hx hb dX10_end_5 rfl (lv_at hl 0 rfl) ?_
    refine va_get (D := D) (ci := 10) (v := .int 0) (C := RX10) (T := TX10) (N := 7) hx hb hts hin_X10 hown hK hP 0 rfl rfl 2 (by decide) (hts (.fieldLink RX10 19 "ClashFree" "taped" "I") (List.mem_of_getElem? (i := 1) rfl)) (fun _ h9 => h9) rfl dX10_end_6 ?_
    refine lv_icmp_le (tgt := 14) hx hb dX10_end_9 (by decide) (fun hc2 => ?_) (fun hc2 => ?_)
    ·
      refine lv_aload_n hx hb dX10_end_14 rfl (lv_at hl 0 rfl) ?_
      refine lv_iload_n hx hb dX10_end_15 rfl (lv_at hl 1 rfl) ?_
      refine va_put (D := D) (ci := 10) (v := .int z1) (ty := .int) (C := RX10) (T := TX10) (N := 7) hx hb hts hin_X10 tyX10 tyX10_ok nmX10 hown hK hP hD hS 0 rfl rfl 2 (by decide) (hts (.fieldLink RX10 19 "ClashFree" "taped" "I") (List.mem_of_getElem? (i := 1) rfl)) (fun _ h9 => h9) rfl (by decide +kernel) rfl rfl (Nat.le_of_ble_eq_true rfl) dX10_end_16 (fun H locs hP hD hS => ?_)
      have hP : va_P D vwCl [(h0, .inr (10, [.ref (ca 0), .ref (ca 1), .int z1, .ref (ca 3), .ref (ca 4), .ref (ca 5), .ref (ca 6)]))] H := hP
      have hD : va_D A [(h0, .inr (10, [.ref (ca 0), .ref (ca 1), .int z1, .ref (ca 3), .ref (ca 4), .ref (ca 5), .ref (ca 6)]))] := hD
      refine lv_iconst (v := 1) hx hb dX10_end_19 (by decide) ?_
      exact W.zret (v := 1) hx hb hr rfl (fun t ht hW => ⟨⟨1, (), rfl, by rw [if_pos (Int32.le_antisymm hc2 (Int32.not_lt.mp hc1))], trivial⟩, hS.F ht⟩) hS.2.2 dX10_end_20
    ·
      refine lv_iconst (v := 0) hx hb dX10_end_12 (by decide) ?_
      exact W.zret (v := 0) hx hb hr rfl (fun t ht hW => ⟨⟨0, (), rfl, by rw [if_neg (fun h => hc2 (by rw [h]; decide))], trivial⟩, hS.F ht⟩) hS.2.2 dX10_end_13

def own_c_X11_end : List Cond := [.fieldLink RX11 73 "ClashFreeModel" "thrown" "I", .fieldLink RX11 76 "ClashFreeModel" "taped" "I", .methodLink RX11 83 yX11_isIn, .static yX11_isIn, .initialized RX11]
def wp_c_X11_end : List Cond := .code yX11_end cX11_end 2 (some .boolean) :: (own_c_X11_end ++ (wp_c_isIn ++ (wsX110 ++ ([] : List Cond))))
set_option maxRecDepth 20000 in
theorem inown_c_X11_end : ∀ w ∈ own_c_X11_end, w ∈ lw_tbl := mem_places [1216, 1218, 1371, 1372, 115] (by decide +kernel)
set_option maxRecDepth 20000 in
theorem in_c_X11_end : ∀ w ∈ wp_c_X11_end, w ∈ lw_tbl := List.forall_mem_cons.mpr ⟨List.mem_of_getElem? (i := 1370) (by decide +kernel), List.forall_mem_append.mpr ⟨inown_c_X11_end, List.forall_mem_append.mpr ⟨in_c_isIn, List.forall_mem_append.mpr ⟨lwb_X11, fun _ h => absurd h List.not_mem_nil⟩⟩⟩⟩
set_option maxRecDepth 20000 in
theorem good_c_X11_end : wp_c_X11_end.all goodWord = true := by decide +kernel
set_option maxRecDepth 20000 in
theorem g_c_X11_end_c_isIn_83 : GoodIn wp_c_X11_end (va_wsS RX11 83 yX11_isIn wp_c_isIn) := goodIn_sub (List.forall_mem_append.mpr ⟨List.forall_mem_cons.mpr ⟨(List.mem_of_getElem? (i := 3) rfl), List.forall_mem_cons.mpr ⟨(List.mem_of_getElem? (i := 4) rfl), List.forall_mem_cons.mpr ⟨(List.mem_of_getElem? (i := 5) rfl), fun _ h => absurd h List.not_mem_nil⟩⟩⟩, (fun _ h => (List.mem_cons_of_mem _ (List.mem_append_right _ (List.mem_append_left _ h))))⟩) (by decide +kernel)
set_option maxHeartbeats 4000000 in
set_option maxRecDepth 100000 in
theorem c_X11_end (l : Launch) (D : va_G) (sz : Nat) (h0 : Nat) (a : Nat → Nat) (cN : ClassId) (sd : Int64) (pa : Int64) (pb : Int64) (dr : Int32) (z1 : Int32)  : Met l yX11_end wp_c_X11_end ({ frames := 1, cells := 0, slots := 0, locals := 25 }) (PcW D [.ref h0, .int z1] sz [(h0, .inr (11, fM a 0 sd pa pb dr)), (a 3, .inl (cN, 85, .inr (.inl (fun _ => 0))))] [(cN, .long)]) (va_Qi (fun (r : Int32) (_ : Unit) => r = if z1 = 0 then 1 else 0) (fun (_ : Unit) _ => True) (va_A [(h0, .inr (11, fM a 0 sd pa pb dr)), (a 3, .inl (cN, 85, .inr (.inl (fun _ => 0))))] sz)) 0 0 (va_A [(h0, .inr (11, fM a 0 sd pa pb dr)), (a 3, .inl (cN, 85, .inr (.inl (fun _ => 0))))] sz) := by
  refine Met.ofW (cc := cX11_end) (maxL := 2) (ret := (some .boolean)) (by decide) rfl ?_
  intro p e s m args below meth c s₁ B hml hv
  obtain ⟨rfl, hsz, hP, hK, hD0⟩ := hv
  have hx := B.exec
  have hb := B.bytes
  have hr := B.returns
  have hts := atoms_spec (ws := wp_c_X11_end) B.pre
  have hin_X11 : ∀ w ∈ wsX110, w ∈ wp_c_X11_end := fun _ h => (List.mem_cons_of_mem _ (List.mem_append_right _ (List.mem_append_right _ (List.mem_append_left _ h))))
  have hown : s.vm.findClass RX11 = some m.cls := findClass_of_methodNamed B.named
  have hlocks := B.notSynchronized
  subst hsz
  have hD := hD0.self (sz := s.heap.size)
  generalize hAe : va_A [(h0, .inr (11, fM a 0 sd pa pb dr)), (a 3, .inl (cN, 85, .inr (.inl (fun _ => 0))))] s.heap.size = A at hD ⊢
  have hA : ∀ q : Nat, s.heap.size ≤ q → A q := fun q h => by rw [← hAe]; exact Or.inr h
  have hS : va_S A s.heap s.heap [] := va_S.rf
  have hP : va_P D vwCl [(h0, .inr (11, fM a 0 sd pa pb dr)), (a 3, .inl (cN, 85, .inr (.inl (fun _ => 0))))] s.heap := hP
  have hl := lv_entry ([.ref h0, .int z1]) (n := 2) (Nat.le_of_ble_eq_true rfl)
  rw [lg_entry_eq]
  generalize (lg_sl ([.ref h0, .int z1]) ++ List.replicate (2 - (lg_sl ([.ref h0, .int z1])).length) Slot.unset).toArray = ls at hl ⊢
  have hl : lv_has ls 2 [(0, .ref h0), (1, .int z1)] := hl
  refine lv_aload_n hx hb dX11_end_0 rfl (lv_at hl 0 rfl) ?_
  refine lv_iconst (v := 0) hx hb dX11_end_1 (by decide) ?_
  refine va_put (D := D) (ci := 11) (v := .int 0) (ty := .int) (C := RX11) (T := TX11) (N := 47) hx hb hts hin_X11 tyX11 tyX11_ok nmX11 hown hK hP hD hS 0 rfl rfl 0 (by decide) (hts (.fieldLink RX11 73 "ClashFreeModel" "thrown" "I") (List.mem_of_getElem? (i := 1) rfl)) (fun _ h9 => h9) rfl (by decide +kernel) rfl rfl (Nat.le_of_ble_eq_true rfl) dX11_end_2 (fun H locs hP hD hS => ?_)
  have hP : va_P D vwCl [(h0, .inr (11, fM a 0 sd pa pb dr)), (a 3, .inl (cN, 85, .inr (.inl (fun _ => 0))))] H := hP
  have hD : va_D A [(h0, .inr (11, fM a 0 sd pa pb dr)), (a 3, .inl (cN, 85, .inr (.inl (fun _ => 0))))] := hD
  refine lv_iload_n hx hb dX11_end_5 rfl (lv_at hl 1 rfl) ?_
  refine lv_i2l hx hb dX11_end_6 rfl ?_
  refine lv_lconst (v := 0) hx hb dX11_end_7 (by decide) ?_
  refine lv_aload_n hx hb dX11_end_8 rfl (lv_at hl 0 rfl) ?_
  refine va_get (D := D) (ci := 11) (v := .int 0) (C := RX11) (T := TX11) (N := 47) hx hb hts hin_X11 hown hK hP 0 rfl rfl 2 (by decide) (hts (.fieldLink RX11 76 "ClashFreeModel" "taped" "I") (List.mem_of_getElem? (i := 2) rfl)) (fun _ h9 => h9) rfl dX11_end_9 ?_
  refine lv_i2l (v := 0) hx hb dX11_end_12 (by decide) ?_
  have hPc := hP.sub (ws' := []) [] rfl
  have hKc := hK.sub (tys' := []) [] rfl
  have hFc := va_free0 hS hA
  refine va_calli (va_runS (As := [.long (Int32.toInt64 z1), .long 0, .long 0]) (rest := []) ⟨hx, hb, hml, hown, hts⟩ (c_isIn l D _ (Int32.toInt64 z1) 0 0) (va_cwS 3 hts g_c_X11_end_c_isIn_83 rfl rfl rfl (by decide +kernel) ⟨(Nat.le_of_ble_eq_true rfl), (Nat.le_of_ble_eq_true rfl)⟩) (PcR_S hPc hKc) rfl rfl hl.1 rfl (lv_room (Nat.le_of_ble_eq_true rfl)) dX11_end_13 ⟨(Nat.le_of_ble_eq_true rfl), (Nat.le_of_ble_eq_true rfl)⟩) hS (fun q _ h => hFc q h) hFc (fun r1 uu tt H locs htt hvm hw hB hz1 hk1 hS => ?_)
  have hP := va_keep hP hk1
  try dsimp only at hw
  clear hB hz1 hk1 hFc hPc hKc
  have hw_r1 := hw
  refine lv_if_ne (tgt := 21) hx hb dX11_end_16 (by decide) (fun hc2 => ?_) (fun hc2 => ?_)
  ·
    refine lv_aload_n hx hb dX11_end_21 rfl (lv_at hl 0 rfl) ?_
    refine lv_iload_n hx hb dX11_end_22 rfl (lv_at hl 1 rfl) ?_
    refine va_put (D := D) (ci := 11) (v := .int z1) (ty := .int) (C := RX11) (T := TX11) (N := 47) hx hb hts hin_X11 tyX11 tyX11_ok nmX11 hown hK hP hD hS 0 rfl rfl 2 (by decide) (hts (.fieldLink RX11 76 "ClashFreeModel" "taped" "I") (List.mem_of_getElem? (i := 2) rfl)) (fun _ h9 => h9) rfl (by decide +kernel) rfl rfl (Nat.le_of_ble_eq_true rfl) dX11_end_23 (fun H locs hP hD hS => ?_)
    have hP : va_P D vwCl [(h0, .inr (11, fM a z1 sd pa pb dr)), (a 3, .inl (cN, 85, .inr (.inl (fun _ => 0))))] H := hP
    have hD : va_D A [(h0, .inr (11, fM a z1 sd pa pb dr)), (a 3, .inl (cN, 85, .inr (.inl (fun _ => 0))))] := hD
    refine lv_iconst (v := 1) hx hb dX11_end_26 (by decide) ?_
    exact W.zret (v := 1) hx hb hr rfl (fun t ht hW => ⟨⟨1, (), rfl, by rw [if_pos (isIn00 (by rw [← hw_r1]; exact hc2))], trivial⟩, hS.F ht⟩) hS.2.2 dX11_end_27
  ·
    refine lv_iconst (v := 0) hx hb dX11_end_19 (by decide) ?_
    exact W.zret (v := 0) hx hb hr rfl (fun t ht hW => ⟨⟨0, (), rfl, by rw [if_neg (fun h => by subst h; rw [hw_r1] at hc2; revert hc2; decide)], trivial⟩, hS.F ht⟩) hS.2.2 dX11_end_20

def own_c_X10_feed : List Cond := [.fieldLink RX10 19 "ClashFree" "taped" "I", .fieldLink RX10 15 "ClashFree" "tape" "[I", .methodLink RX10 51 yX10_writeInt, .static yX10_writeInt, .initialized RX10]
def wp_c_X10_feed : List Cond := .code yX10_feed cX10_feed 6 (some .int) :: (own_c_X10_feed ++ (wp_c_writeInt ++ (wsX100 ++ ([] : List Cond))))
set_option maxRecDepth 20000 in
theorem inown_c_X10_feed : ∀ w ∈ own_c_X10_feed, w ∈ lw_tbl := mem_places [414, 413, 438, 439, 106] (by decide +kernel)
set_option maxRecDepth 20000 in
theorem in_c_X10_feed : ∀ w ∈ wp_c_X10_feed, w ∈ lw_tbl := List.forall_mem_cons.mpr ⟨List.mem_of_getElem? (i := 437) (by decide +kernel), List.forall_mem_append.mpr ⟨inown_c_X10_feed, List.forall_mem_append.mpr ⟨in_c_writeInt, List.forall_mem_append.mpr ⟨lwb_X10, fun _ h => absurd h List.not_mem_nil⟩⟩⟩⟩
set_option maxRecDepth 20000 in
theorem good_c_X10_feed : wp_c_X10_feed.all goodWord = true := by decide +kernel
set_option maxRecDepth 20000 in
theorem g_c_X10_feed_c_writeInt_51 : GoodIn wp_c_X10_feed (va_wsS RX10 51 yX10_writeInt wp_c_writeInt) := goodIn_sub (List.forall_mem_append.mpr ⟨List.forall_mem_cons.mpr ⟨(List.mem_of_getElem? (i := 3) rfl), List.forall_mem_cons.mpr ⟨(List.mem_of_getElem? (i := 4) rfl), List.forall_mem_cons.mpr ⟨(List.mem_of_getElem? (i := 5) rfl), fun _ h => absurd h List.not_mem_nil⟩⟩⟩, (fun _ h => (List.mem_cons_of_mem _ (List.mem_append_right _ (List.mem_append_left _ h))))⟩) (by decide +kernel)
set_option maxHeartbeats 4000000 in
set_option maxRecDepth 100000 in
theorem c_X10_feed (l : Launch) (D : va_G) (sz : Nat) (h0 : Nat) (ca : Nat → Nat) (cI : ClassId) (z1 : Int32) (z2 : Int32) (z3 : Int32) (z4 : Int32) (z5 : Int32)  : Met l yX10_feed wp_c_X10_feed ({ frames := 1, cells := 0, slots := 0, locals := 23 }) (PcW D [.ref h0, .int z1, .int z2, .int z3, .int z4, .int z5] sz [(h0, .inr (10, [.ref (ca 0), .ref (ca 1), .int 0, .ref (ca 3), .ref (ca 4), .ref (ca 5), .ref (ca 6)])), (ca 1, .inl (cI, 1400, .inl (fun _ => 0)))] [(cI, .int)]) (va_Qi (fun (r : Int32) (_ : Unit) => r = 20) (fun (_ : Unit) _ => True) (va_A [(h0, .inr (10, [.ref (ca 0), .ref (ca 1), .int 0, .ref (ca 3), .ref (ca 4), .ref (ca 5), .ref (ca 6)])), (ca 1, .inl (cI, 1400, .inl (fun _ => 0)))] sz)) 0 0 (va_A [(h0, .inr (10, [.ref (ca 0), .ref (ca 1), .int 0, .ref (ca 3), .ref (ca 4), .ref (ca 5), .ref (ca 6)])), (ca 1, .inl (cI, 1400, .inl (fun _ => 0)))] sz) := by
  refine Met.ofW (cc := cX10_feed) (maxL := 6) (ret := (some .int)) (by decide) rfl ?_
  intro p e s m args below meth c s₁ B hml hv
  obtain ⟨rfl, hsz, hP, hK, hD0⟩ := hv
  have hx := B.exec
  have hb := B.bytes
  have hr := B.returns
  have hts := atoms_spec (ws := wp_c_X10_feed) B.pre
  have hin_X10 : ∀ w ∈ wsX100, w ∈ wp_c_X10_feed := fun _ h => (List.mem_cons_of_mem _ (List.mem_append_right _ (List.mem_append_right _ (List.mem_append_left _ h))))
  have hown : s.vm.findClass RX10 = some m.cls := findClass_of_methodNamed B.named
  have hlocks := B.notSynchronized
  subst hsz
  have hD := hD0.self (sz := s.heap.size)
  generalize hAe : va_A [(h0, .inr (10, [.ref (ca 0), .ref (ca 1), .int 0, .ref (ca 3), .ref (ca 4), .ref (ca 5), .ref (ca 6)])), (ca 1, .inl (cI, 1400, .inl (fun _ => 0)))] s.heap.size = A at hD ⊢
  have hA : ∀ q : Nat, s.heap.size ≤ q → A q := fun q h => by rw [← hAe]; exact Or.inr h
  have hS : va_S A s.heap s.heap [] := va_S.rf
  have hP : va_P D vwCl [(h0, .inr (10, [.ref (ca 0), .ref (ca 1), .int 0, .ref (ca 3), .ref (ca 4), .ref (ca 5), .ref (ca 6)])), (ca 1, .inl (cI, 1400, .inl (fun _ => 0)))] s.heap := hP
  have hl := lv_entry ([.ref h0, .int z1, .int z2, .int z3, .int z4, .int z5]) (n := 6) (Nat.le_of_ble_eq_true rfl)
  rw [lg_entry_eq]
  generalize (lg_sl ([.ref h0, .int z1, .int z2, .int z3, .int z4, .int z5]) ++ List.replicate (6 - (lg_sl ([.ref h0, .int z1, .int z2, .int z3, .int z4, .int z5])).length) Slot.unset).toArray = ls at hl ⊢
  have hl : lv_has ls 6 [(0, .ref h0), (1, .int z1), (2, .int z2), (3, .int z3), (4, .int z4), (5, .int z5)] := hl
  refine lv_aload_n hx hb dX10_feed_0 rfl (lv_at hl 0 rfl) ?_
  refine va_get (D := D) (ci := 10) (v := .int 0) (C := RX10) (T := TX10) (N := 7) hx hb hts hin_X10 hown hK hP 0 rfl rfl 2 (by decide) (hts (.fieldLink RX10 19 "ClashFree" "taped" "I") (List.mem_of_getElem? (i := 1) rfl)) (fun _ h9 => h9) rfl dX10_feed_1 ?_
  refine lv_bipush (v := 20) hx hb dX10_feed_4 (by decide) ?_
  refine lv_iadd hx hb dX10_feed_6 ?_
  refine lv_topi (fun v1 ev1 => ?_)
  obtain rfl : v1 = 20 := ev1.trans (by decide)
  refine lv_sipush (v := 1400) hx hb dX10_feed_7 (by decide) ?_
  refine lv_icmp_le (tgt := 15) hx hb dX10_feed_10 (by decide) (fun hc => ?_) (fun hc => absurd (by decide) hc)
  refine lv_aload_n hx hb dX10_feed_15 rfl (lv_at hl 0 rfl) ?_
  refine va_get (D := D) (ci := 10) (v := .ref (ca 1)) (C := RX10) (T := TX10) (N := 7) hx hb hts hin_X10 hown hK hP 0 rfl rfl 1 (by decide) (hts (.fieldLink RX10 15 "ClashFree" "tape" "[I") (List.mem_of_getElem? (i := 2) rfl)) (fun _ h9 => h9) rfl dX10_feed_16 ?_
  refine lv_aload_n hx hb dX10_feed_19 rfl (lv_at hl 0 rfl) ?_
  refine va_get (D := D) (ci := 10) (v := .int 0) (C := RX10) (T := TX10) (N := 7) hx hb hts hin_X10 hown hK hP 0 rfl rfl 2 (by decide) (hts (.fieldLink RX10 19 "ClashFree" "taped" "I") (List.mem_of_getElem? (i := 1) rfl)) (fun _ h9 => h9) rfl dX10_feed_20 ?_
  refine lv_iload_n hx hb dX10_feed_23 rfl (lv_at hl 1 rfl) ?_
  have hPc := hP.sub (ws' := [(ca 1, .inl (cI, 1400, .inl (fun _ => 0)))]) [1] rfl
  have hKc := hK.sub (tys' := [(cI, .int)]) [0] rfl
  have hDc := hD.sub (ws' := [(ca 1, .inl (cI, 1400, .inl (fun _ => 0)))]) [1] (by decide) rfl
  have hFc := va_free (wc := [(ca 1, .inl (cI, 1400, .inl (fun _ => 0)))]) hD hS hA [1] rfl
  refine va_callv (va_runS (As := [.ref (ca 1), .int (nI 0), .int z1]) (rest := []) ⟨hx, hb, hml, hown, hts⟩ (c_writeInt l D _ (ca 1) cI (fun _ => 0) 0 z1 (by first | omega | assumption)) (va_cwS 3 hts g_c_X10_feed_c_writeInt_51 rfl rfl rfl (by decide +kernel) ⟨(Nat.le_of_ble_eq_true rfl), (Nat.le_of_ble_eq_true rfl)⟩) (PcW_S hPc hKc hDc) rfl rfl hl.1 rfl (lv_room (Nat.le_of_ble_eq_true rfl)) dX10_feed_24 ⟨(Nat.le_of_ble_eq_true rfl), (Nat.le_of_ble_eq_true rfl)⟩) hS (fun q _ h => hFc q h) hFc (fun uu tt H locs htt hvm hw hB hz1 hk1 hS => ?_)
  obtain ⟨g3, rfl⟩ : ∃ z, z = uu := ⟨_, rfl⟩
  obtain ⟨hP1, hK1, hD1⟩ := hB
  rw [htt] at hP1
  have hK1 := va_K.moved hvm.symm hK1
  have hP1 : va_P D vwCl [(ca 1, .inl (cI, 1400, .inl g3))] H := hP1
  obtain ⟨hP, hD⟩ := va_join (wr := [(h0, .inr (10, [.ref (ca 0), .ref (ca 1), .int 0, .ref (ca 3), .ref (ca 4), .ref (ca 5), .ref (ca 6)]))]) (w1 := [(ca 1, .inl (cI, 1400, .inl g3))]) hP hD [1] [0] rfl rfl (by decide) (by decide) hk1 hFc hP1 hD1
  have hP : va_P D vwCl [(h0, .inr (10, [.ref (ca 0), .ref (ca 1), .int 0, .ref (ca 3), .ref (ca 4), .ref (ca 5), .ref (ca 6)])), (ca 1, .inl (cI, 1400, .inl g3))] H := hP
  have hD : va_D A [(h0, .inr (10, [.ref (ca 0), .ref (ca 1), .int 0, .ref (ca 3), .ref (ca 4), .ref (ca 5), .ref (ca 6)])), (ca 1, .inl (cI, 1400, .inl g3))] := hD
  try dsimp only at hw
  clear hz1 hk1 hFc hPc hKc hDc
  refine lv_aload_n hx hb dX10_feed_27 rfl (lv_at hl 0 rfl) ?_
  refine va_get (D := D) (ci := 10) (v := .ref (ca 1)) (C := RX10) (T := TX10) (N := 7) hx hb hts hin_X10 hown hK hP 0 rfl rfl 1 (by decide) (hts (.fieldLink RX10 15 "ClashFree" "tape" "[I") (List.mem_of_getElem? (i := 2) rfl)) (fun _ h9 => h9) rfl dX10_feed_28 ?_
  refine lv_aload_n hx hb dX10_feed_31 rfl (lv_at hl 0 rfl) ?_
  refine va_get (D := D) (ci := 10) (v := .int 0) (C := RX10) (T := TX10) (N := 7) hx hb hts hin_X10 hown hK hP 0 rfl rfl 2 (by decide) (hts (.fieldLink RX10 19 "ClashFree" "taped" "I") (List.mem_of_getElem? (i := 1) rfl)) (fun _ h9 => h9) rfl dX10_feed_32 ?_
  refine lv_iconst (v := 4) hx hb dX10_feed_35 (by decide) ?_
  refine lv_iadd hx hb dX10_feed_36 ?_
  refine lv_topi (fun v4 ev4 => ?_)
  obtain rfl : v4 = 4 := ev4.trans (by decide)
  refine lv_iload_n hx hb dX10_feed_37 rfl (lv_at hl 2 rfl) ?_
  have hPc := hP.sub (ws' := [(ca 1, .inl (cI, 1400, .inl g3))]) [1] rfl
  have hKc := hK.sub (tys' := [(cI, .int)]) [0] rfl
  have hDc := hD.sub (ws' := [(ca 1, .inl (cI, 1400, .inl g3))]) [1] (by decide) rfl
  have hFc := va_free (wc := [(ca 1, .inl (cI, 1400, .inl g3))]) hD hS hA [1] rfl
  refine va_callv (va_runS (As := [.ref (ca 1), .int (nI 4), .int z2]) (rest := []) ⟨hx, hb, hml, hown, hts⟩ (c_writeInt l D _ (ca 1) cI g3 4 z2 (by first | omega | assumption)) (va_cwS 3 hts g_c_X10_feed_c_writeInt_51 rfl rfl rfl (by decide +kernel) ⟨(Nat.le_of_ble_eq_true rfl), (Nat.le_of_ble_eq_true rfl)⟩) (PcW_S hPc hKc hDc) rfl rfl hl.1 rfl (lv_room (Nat.le_of_ble_eq_true rfl)) dX10_feed_38 ⟨(Nat.le_of_ble_eq_true rfl), (Nat.le_of_ble_eq_true rfl)⟩) hS (fun q _ h => hFc q h) hFc (fun uu tt H locs htt hvm hw hB hz1 hk1 hS => ?_)
  obtain ⟨g6, rfl⟩ : ∃ z, z = uu := ⟨_, rfl⟩
  obtain ⟨hP1, hK1, hD1⟩ := hB
  rw [htt] at hP1
  have hK1 := va_K.moved hvm.symm hK1
  have hP1 : va_P D vwCl [(ca 1, .inl (cI, 1400, .inl g6))] H := hP1
  obtain ⟨hP, hD⟩ := va_join (wr := [(h0, .inr (10, [.ref (ca 0), .ref (ca 1), .int 0, .ref (ca 3), .ref (ca 4), .ref (ca 5), .ref (ca 6)]))]) (w1 := [(ca 1, .inl (cI, 1400, .inl g6))]) hP hD [1] [0] rfl rfl (by decide) (by decide) hk1 hFc hP1 hD1
  have hP : va_P D vwCl [(h0, .inr (10, [.ref (ca 0), .ref (ca 1), .int 0, .ref (ca 3), .ref (ca 4), .ref (ca 5), .ref (ca 6)])), (ca 1, .inl (cI, 1400, .inl g6))] H := hP
  have hD : va_D A [(h0, .inr (10, [.ref (ca 0), .ref (ca 1), .int 0, .ref (ca 3), .ref (ca 4), .ref (ca 5), .ref (ca 6)])), (ca 1, .inl (cI, 1400, .inl g6))] := hD
  try dsimp only at hw
  clear hz1 hk1 hFc hPc hKc hDc
  refine lv_aload_n hx hb dX10_feed_41 rfl (lv_at hl 0 rfl) ?_
  refine va_get (D := D) (ci := 10) (v := .ref (ca 1)) (C := RX10) (T := TX10) (N := 7) hx hb hts hin_X10 hown hK hP 0 rfl rfl 1 (by decide) (hts (.fieldLink RX10 15 "ClashFree" "tape" "[I") (List.mem_of_getElem? (i := 2) rfl)) (fun _ h9 => h9) rfl dX10_feed_42 ?_
  refine lv_aload_n hx hb dX10_feed_45 rfl (lv_at hl 0 rfl) ?_
  refine va_get (D := D) (ci := 10) (v := .int 0) (C := RX10) (T := TX10) (N := 7) hx hb hts hin_X10 hown hK hP 0 rfl rfl 2 (by decide) (hts (.fieldLink RX10 19 "ClashFree" "taped" "I") (List.mem_of_getElem? (i := 1) rfl)) (fun _ h9 => h9) rfl dX10_feed_46 ?_
  refine lv_bipush (v := 8) hx hb dX10_feed_49 (by decide) ?_
  refine lv_iadd hx hb dX10_feed_51 ?_
  refine lv_topi (fun v7 ev7 => ?_)
  obtain rfl : v7 = 8 := ev7.trans (by decide)
  refine lv_iload_n hx hb dX10_feed_52 rfl (lv_at hl 3 rfl) ?_
  have hPc := hP.sub (ws' := [(ca 1, .inl (cI, 1400, .inl g6))]) [1] rfl
  have hKc := hK.sub (tys' := [(cI, .int)]) [0] rfl
  have hDc := hD.sub (ws' := [(ca 1, .inl (cI, 1400, .inl g6))]) [1] (by decide) rfl
  have hFc := va_free (wc := [(ca 1, .inl (cI, 1400, .inl g6))]) hD hS hA [1] rfl
  refine va_callv (va_runS (As := [.ref (ca 1), .int (nI 8), .int z3]) (rest := []) ⟨hx, hb, hml, hown, hts⟩ (c_writeInt l D _ (ca 1) cI g6 8 z3 (by first | omega | assumption)) (va_cwS 3 hts g_c_X10_feed_c_writeInt_51 rfl rfl rfl (by decide +kernel) ⟨(Nat.le_of_ble_eq_true rfl), (Nat.le_of_ble_eq_true rfl)⟩) (PcW_S hPc hKc hDc) rfl rfl hl.1 rfl (lv_room (Nat.le_of_ble_eq_true rfl)) dX10_feed_53 ⟨(Nat.le_of_ble_eq_true rfl), (Nat.le_of_ble_eq_true rfl)⟩) hS (fun q _ h => hFc q h) hFc (fun uu tt H locs htt hvm hw hB hz1 hk1 hS => ?_)
  obtain ⟨g9, rfl⟩ : ∃ z, z = uu := ⟨_, rfl⟩
  obtain ⟨hP1, hK1, hD1⟩ := hB
  rw [htt] at hP1
  have hK1 := va_K.moved hvm.symm hK1
  have hP1 : va_P D vwCl [(ca 1, .inl (cI, 1400, .inl g9))] H := hP1
  obtain ⟨hP, hD⟩ := va_join (wr := [(h0, .inr (10, [.ref (ca 0), .ref (ca 1), .int 0, .ref (ca 3), .ref (ca 4), .ref (ca 5), .ref (ca 6)]))]) (w1 := [(ca 1, .inl (cI, 1400, .inl g9))]) hP hD [1] [0] rfl rfl (by decide) (by decide) hk1 hFc hP1 hD1
  have hP : va_P D vwCl [(h0, .inr (10, [.ref (ca 0), .ref (ca 1), .int 0, .ref (ca 3), .ref (ca 4), .ref (ca 5), .ref (ca 6)])), (ca 1, .inl (cI, 1400, .inl g9))] H := hP
  have hD : va_D A [(h0, .inr (10, [.ref (ca 0), .ref (ca 1), .int 0, .ref (ca 3), .ref (ca 4), .ref (ca 5), .ref (ca 6)])), (ca 1, .inl (cI, 1400, .inl g9))] := hD
  try dsimp only at hw
  clear hz1 hk1 hFc hPc hKc hDc
  refine lv_aload_n hx hb dX10_feed_56 rfl (lv_at hl 0 rfl) ?_
  refine va_get (D := D) (ci := 10) (v := .ref (ca 1)) (C := RX10) (T := TX10) (N := 7) hx hb hts hin_X10 hown hK hP 0 rfl rfl 1 (by decide) (hts (.fieldLink RX10 15 "ClashFree" "tape" "[I") (List.mem_of_getElem? (i := 2) rfl)) (fun _ h9 => h9) rfl dX10_feed_57 ?_
  refine lv_aload_n hx hb dX10_feed_60 rfl (lv_at hl 0 rfl) ?_
  refine va_get (D := D) (ci := 10) (v := .int 0) (C := RX10) (T := TX10) (N := 7) hx hb hts hin_X10 hown hK hP 0 rfl rfl 2 (by decide) (hts (.fieldLink RX10 19 "ClashFree" "taped" "I") (List.mem_of_getElem? (i := 1) rfl)) (fun _ h9 => h9) rfl dX10_feed_61 ?_
  refine lv_bipush (v := 12) hx hb dX10_feed_64 (by decide) ?_
  refine lv_iadd hx hb dX10_feed_66 ?_
  refine lv_topi (fun v10 ev10 => ?_)
  obtain rfl : v10 = 12 := ev10.trans (by decide)
  refine lv_iload hx hb dX10_feed_67 (lv_at hl 4 rfl) ?_
  have hPc := hP.sub (ws' := [(ca 1, .inl (cI, 1400, .inl g9))]) [1] rfl
  have hKc := hK.sub (tys' := [(cI, .int)]) [0] rfl
  have hDc := hD.sub (ws' := [(ca 1, .inl (cI, 1400, .inl g9))]) [1] (by decide) rfl
  have hFc := va_free (wc := [(ca 1, .inl (cI, 1400, .inl g9))]) hD hS hA [1] rfl
  refine va_callv (va_runS (As := [.ref (ca 1), .int (nI 12), .int z4]) (rest := []) ⟨hx, hb, hml, hown, hts⟩ (c_writeInt l D _ (ca 1) cI g9 12 z4 (by first | omega | assumption)) (va_cwS 3 hts g_c_X10_feed_c_writeInt_51 rfl rfl rfl (by decide +kernel) ⟨(Nat.le_of_ble_eq_true rfl), (Nat.le_of_ble_eq_true rfl)⟩) (PcW_S hPc hKc hDc) rfl rfl hl.1 rfl (lv_room (Nat.le_of_ble_eq_true rfl)) dX10_feed_69 ⟨(Nat.le_of_ble_eq_true rfl), (Nat.le_of_ble_eq_true rfl)⟩) hS (fun q _ h => hFc q h) hFc (fun uu tt H locs htt hvm hw hB hz1 hk1 hS => ?_)
  obtain ⟨g12, rfl⟩ : ∃ z, z = uu := ⟨_, rfl⟩
  obtain ⟨hP1, hK1, hD1⟩ := hB
  rw [htt] at hP1
  have hK1 := va_K.moved hvm.symm hK1
  have hP1 : va_P D vwCl [(ca 1, .inl (cI, 1400, .inl g12))] H := hP1
  obtain ⟨hP, hD⟩ := va_join (wr := [(h0, .inr (10, [.ref (ca 0), .ref (ca 1), .int 0, .ref (ca 3), .ref (ca 4), .ref (ca 5), .ref (ca 6)]))]) (w1 := [(ca 1, .inl (cI, 1400, .inl g12))]) hP hD [1] [0] rfl rfl (by decide) (by decide) hk1 hFc hP1 hD1
  have hP : va_P D vwCl [(h0, .inr (10, [.ref (ca 0), .ref (ca 1), .int 0, .ref (ca 3), .ref (ca 4), .ref (ca 5), .ref (ca 6)])), (ca 1, .inl (cI, 1400, .inl g12))] H := hP
  have hD : va_D A [(h0, .inr (10, [.ref (ca 0), .ref (ca 1), .int 0, .ref (ca 3), .ref (ca 4), .ref (ca 5), .ref (ca 6)])), (ca 1, .inl (cI, 1400, .inl g12))] := hD
  try dsimp only at hw
  clear hz1 hk1 hFc hPc hKc hDc
  refine lv_aload_n hx hb dX10_feed_72 rfl (lv_at hl 0 rfl) ?_
  refine va_get (D := D) (ci := 10) (v := .ref (ca 1)) (C := RX10) (T := TX10) (N := 7) hx hb hts hin_X10 hown hK hP 0 rfl rfl 1 (by decide) (hts (.fieldLink RX10 15 "ClashFree" "tape" "[I") (List.mem_of_getElem? (i := 2) rfl)) (fun _ h9 => h9) rfl dX10_feed_73 ?_
  refine lv_aload_n hx hb dX10_feed_76 rfl (lv_at hl 0 rfl) ?_
  refine va_get (D := D) (ci := 10) (v := .int 0) (C := RX10) (T := TX10) (N := 7) hx hb hts hin_X10 hown hK hP 0 rfl rfl 2 (by decide) (hts (.fieldLink RX10 19 "ClashFree" "taped" "I") (List.mem_of_getElem? (i := 1) rfl)) (fun _ h9 => h9) rfl dX10_feed_77 ?_
  refine lv_bipush (v := 16) hx hb dX10_feed_80 (by decide) ?_
  refine lv_iadd hx hb dX10_feed_82 ?_
  refine lv_topi (fun v13 ev13 => ?_)
  obtain rfl : v13 = 16 := ev13.trans (by decide)
  refine lv_iload hx hb dX10_feed_83 (lv_at hl 5 rfl) ?_
  have hPc := hP.sub (ws' := [(ca 1, .inl (cI, 1400, .inl g12))]) [1] rfl
  have hKc := hK.sub (tys' := [(cI, .int)]) [0] rfl
  have hDc := hD.sub (ws' := [(ca 1, .inl (cI, 1400, .inl g12))]) [1] (by decide) rfl
  have hFc := va_free (wc := [(ca 1, .inl (cI, 1400, .inl g12))]) hD hS hA [1] rfl
  refine va_callv (va_runS (As := [.ref (ca 1), .int (nI 16), .int z5]) (rest := []) ⟨hx, hb, hml, hown, hts⟩ (c_writeInt l D _ (ca 1) cI g12 16 z5 (by first | omega | assumption)) (va_cwS 3 hts g_c_X10_feed_c_writeInt_51 rfl rfl rfl (by decide +kernel) ⟨(Nat.le_of_ble_eq_true rfl), (Nat.le_of_ble_eq_true rfl)⟩) (PcW_S hPc hKc hDc) rfl rfl hl.1 rfl (lv_room (Nat.le_of_ble_eq_true rfl)) dX10_feed_85 ⟨(Nat.le_of_ble_eq_true rfl), (Nat.le_of_ble_eq_true rfl)⟩) hS (fun q _ h => hFc q h) hFc (fun uu tt H locs htt hvm hw hB hz1 hk1 hS => ?_)
  obtain ⟨g15, rfl⟩ : ∃ z, z = uu := ⟨_, rfl⟩
  obtain ⟨hP1, hK1, hD1⟩ := hB
  rw [htt] at hP1
  have hK1 := va_K.moved hvm.symm hK1
  have hP1 : va_P D vwCl [(ca 1, .inl (cI, 1400, .inl g15))] H := hP1
  obtain ⟨hP, hD⟩ := va_join (wr := [(h0, .inr (10, [.ref (ca 0), .ref (ca 1), .int 0, .ref (ca 3), .ref (ca 4), .ref (ca 5), .ref (ca 6)]))]) (w1 := [(ca 1, .inl (cI, 1400, .inl g15))]) hP hD [1] [0] rfl rfl (by decide) (by decide) hk1 hFc hP1 hD1
  have hP : va_P D vwCl [(h0, .inr (10, [.ref (ca 0), .ref (ca 1), .int 0, .ref (ca 3), .ref (ca 4), .ref (ca 5), .ref (ca 6)])), (ca 1, .inl (cI, 1400, .inl g15))] H := hP
  have hD : va_D A [(h0, .inr (10, [.ref (ca 0), .ref (ca 1), .int 0, .ref (ca 3), .ref (ca 4), .ref (ca 5), .ref (ca 6)])), (ca 1, .inl (cI, 1400, .inl g15))] := hD
  try dsimp only at hw
  clear hz1 hk1 hFc hPc hKc hDc
  refine lv_aload_n hx hb dX10_feed_88 rfl (lv_at hl 0 rfl) ?_
  refine lv_dup hx hb dX10_feed_89 rfl ?_
  refine va_get (D := D) (ci := 10) (v := .int 0) (C := RX10) (T := TX10) (N := 7) hx hb hts hin_X10 hown hK hP 0 rfl rfl 2 (by decide) (hts (.fieldLink RX10 19 "ClashFree" "taped" "I") (List.mem_of_getElem? (i := 1) rfl)) (fun _ h9 => h9) rfl dX10_feed_90 ?_
  refine lv_bipush (v := 20) hx hb dX10_feed_93 (by decide) ?_
  refine lv_iadd hx hb dX10_feed_95 ?_
  refine lv_topi (fun v16 ev16 => ?_)
  obtain rfl : v16 = 20 := ev16.trans (by decide)
  refine va_put (D := D) (ci := 10) (v := .int 20) (ty := .int) (C := RX10) (T := TX10) (N := 7) hx hb hts hin_X10 tyX10 tyX10_ok nmX10 hown hK hP hD hS 0 rfl rfl 2 (by decide) (hts (.fieldLink RX10 19 "ClashFree" "taped" "I") (List.mem_of_getElem? (i := 1) rfl)) (fun _ h9 => h9) rfl (by decide +kernel) rfl rfl (Nat.le_of_ble_eq_true rfl) dX10_feed_96 (fun H locs hP hD hS => ?_)
  have hP : va_P D vwCl [(h0, .inr (10, [.ref (ca 0), .ref (ca 1), .int 20, .ref (ca 3), .ref (ca 4), .ref (ca 5), .ref (ca 6)])), (ca 1, .inl (cI, 1400, .inl g15))] H := hP
  have hD : va_D A [(h0, .inr (10, [.ref (ca 0), .ref (ca 1), .int 20, .ref (ca 3), .ref (ca 4), .ref (ca 5), .ref (ca 6)])), (ca 1, .inl (cI, 1400, .inl g15))] := hD
  refine lv_aload_n hx hb dX10_feed_99 rfl (lv_at hl 0 rfl) ?_
  refine va_get (D := D) (ci := 10) (v := .int 20) (C := RX10) (T := TX10) (N := 7) hx hb hts hin_X10 hown hK hP 0 rfl rfl 2 (by decide) (hts (.fieldLink RX10 19 "ClashFree" "taped" "I") (List.mem_of_getElem? (i := 1) rfl)) (fun _ h9 => h9) rfl dX10_feed_100 ?_
  exact W.iret (v := 20) hx hb hr (fun t ht hW => ⟨⟨20, (), rfl, rfl, trivial⟩, hS.F ht⟩) hS.2.2 dX10_feed_103

def own_c_X11_feed : List Cond := [.fieldLink RX11 73 "ClashFreeModel" "thrown" "I", .fieldLink RX11 76 "ClashFreeModel" "taped" "I", .methodLink RX11 79 yX11_puts, .instanceMethod yX11_puts, .selects RX11 yX11_puts yX11_puts, .initialized RX11]
def wp_c_X11_feed : List Cond := .code yX11_feed cX11_feed 6 (some .int) :: (own_c_X11_feed ++ (wp_c_puts ++ (wsX110 ++ ([] : List Cond))))
set_option maxRecDepth 20000 in
theorem inown_c_X11_feed : ∀ w ∈ own_c_X11_feed, w ∈ lw_tbl := mem_places [1216, 1218, 1363, 1365, 36, 115] (by decide +kernel)
set_option maxRecDepth 20000 in
theorem in_c_X11_feed : ∀ w ∈ wp_c_X11_feed, w ∈ lw_tbl := List.forall_mem_cons.mpr ⟨List.mem_of_getElem? (i := 1362) (by decide +kernel), List.forall_mem_append.mpr ⟨inown_c_X11_feed, List.forall_mem_append.mpr ⟨in_c_puts, List.forall_mem_append.mpr ⟨lwb_X11, fun _ h => absurd h List.not_mem_nil⟩⟩⟩⟩
set_option maxRecDepth 20000 in
theorem good_c_X11_feed : wp_c_X11_feed.all goodWord = true := by decide +kernel
set_option maxRecDepth 20000 in
theorem g_c_X11_feed_c_puts_79 : GoodIn wp_c_X11_feed (wsV RX11 79 RX11 yX11_puts wp_c_puts) := goodIn_sub (List.forall_mem_append.mpr ⟨List.forall_mem_cons.mpr ⟨(List.mem_of_getElem? (i := 3) rfl), List.forall_mem_cons.mpr ⟨(List.mem_of_getElem? (i := 4) rfl), List.forall_mem_cons.mpr ⟨(List.mem_of_getElem? (i := 5) rfl), List.forall_mem_cons.mpr ⟨(List.mem_of_getElem? (i := 6) rfl), fun _ h => absurd h List.not_mem_nil⟩⟩⟩⟩, (fun _ h => (List.mem_cons_of_mem _ (List.mem_append_right _ (List.mem_append_left _ h))))⟩) (by decide +kernel)
set_option maxHeartbeats 4000000 in
set_option maxRecDepth 100000 in
theorem c_X11_feed (l : Launch) (D : va_G) (sz : Nat) (h0 : Nat) (a : Nat → Nat) (sd : Int64) (pa : Int64) (pb : Int64) (dr : Int32) (cB : ClassId) (z1 : Int32) (z2 : Int32) (z3 : Int32) (z4 : Int32) (z5 : Int32)  : Met l yX11_feed wp_c_X11_feed ({ frames := 1, cells := 0, slots := 0, locals := 22 }) (PcW D [.ref h0, .int z1, .int z2, .int z3, .int z4, .int z5] sz [(h0, .inr (11, fM a 0 sd pa pb dr)), (a 1, .inl (cB, 1400, .inl (fun _ => 0)))] [(cB, .byte)]) (va_Qi (fun (r : Int32) (_ : Unit) => r = 20) (fun (_ : Unit) _ => True) (va_A [(h0, .inr (11, fM a 0 sd pa pb dr)), (a 1, .inl (cB, 1400, .inl (fun _ => 0)))] sz)) 0 0 (va_A [(h0, .inr (11, fM a 0 sd pa pb dr)), (a 1, .inl (cB, 1400, .inl (fun _ => 0)))] sz) := by
  refine Met.ofW (cc := cX11_feed) (maxL := 6) (ret := (some .int)) (by decide) rfl ?_
  intro p e s m args below meth c s₁ B hml hv
  obtain ⟨rfl, hsz, hP, hK, hD0⟩ := hv
  have hx := B.exec
  have hb := B.bytes
  have hr := B.returns
  have hts := atoms_spec (ws := wp_c_X11_feed) B.pre
  have hin_X11 : ∀ w ∈ wsX110, w ∈ wp_c_X11_feed := fun _ h => (List.mem_cons_of_mem _ (List.mem_append_right _ (List.mem_append_right _ (List.mem_append_left _ h))))
  have hown : s.vm.findClass RX11 = some m.cls := findClass_of_methodNamed B.named
  have hlocks := B.notSynchronized
  subst hsz
  have hD := hD0.self (sz := s.heap.size)
  generalize hAe : va_A [(h0, .inr (11, fM a 0 sd pa pb dr)), (a 1, .inl (cB, 1400, .inl (fun _ => 0)))] s.heap.size = A at hD ⊢
  have hA : ∀ q : Nat, s.heap.size ≤ q → A q := fun q h => by rw [← hAe]; exact Or.inr h
  have hS : va_S A s.heap s.heap [] := va_S.rf
  have hP : va_P D vwCl [(h0, .inr (11, fM a 0 sd pa pb dr)), (a 1, .inl (cB, 1400, .inl (fun _ => 0)))] s.heap := hP
  have hl := lv_entry ([.ref h0, .int z1, .int z2, .int z3, .int z4, .int z5]) (n := 6) (Nat.le_of_ble_eq_true rfl)
  rw [lg_entry_eq]
  generalize (lg_sl ([.ref h0, .int z1, .int z2, .int z3, .int z4, .int z5]) ++ List.replicate (6 - (lg_sl ([.ref h0, .int z1, .int z2, .int z3, .int z4, .int z5])).length) Slot.unset).toArray = ls at hl ⊢
  have hl : lv_has ls 6 [(0, .ref h0), (1, .int z1), (2, .int z2), (3, .int z3), (4, .int z4), (5, .int z5)] := hl
  refine lv_aload_n hx hb dX11_feed_0 rfl (lv_at hl 0 rfl) ?_
  refine lv_iconst (v := 0) hx hb dX11_feed_1 (by decide) ?_
  refine va_put (D := D) (ci := 11) (v := .int 0) (ty := .int) (C := RX11) (T := TX11) (N := 47) hx hb hts hin_X11 tyX11 tyX11_ok nmX11 hown hK hP hD hS 0 rfl rfl 0 (by decide) (hts (.fieldLink RX11 73 "ClashFreeModel" "thrown" "I") (List.mem_of_getElem? (i := 1) rfl)) (fun _ h9 => h9) rfl (by decide +kernel) rfl rfl (Nat.le_of_ble_eq_true rfl) dX11_feed_2 (fun H locs hP hD hS => ?_)
  have hP : va_P D vwCl [(h0, .inr (11, fM a 0 sd pa pb dr)), (a 1, .inl (cB, 1400, .inl (fun _ => 0)))] H := hP
  have hD : va_D A [(h0, .inr (11, fM a 0 sd pa pb dr)), (a 1, .inl (cB, 1400, .inl (fun _ => 0)))] := hD
  refine lv_aload_n hx hb dX11_feed_5 rfl (lv_at hl 0 rfl) ?_
  refine va_get (D := D) (ci := 11) (v := .int 0) (C := RX11) (T := TX11) (N := 47) hx hb hts hin_X11 hown hK hP 0 rfl rfl 2 (by decide) (hts (.fieldLink RX11 76 "ClashFreeModel" "taped" "I") (List.mem_of_getElem? (i := 2) rfl)) (fun _ h9 => h9) rfl dX11_feed_6 ?_
  refine lv_bipush (v := 20) hx hb dX11_feed_9 (by decide) ?_
  refine lv_iadd hx hb dX11_feed_11 ?_
  refine lv_topi (fun v1 ev1 => ?_)
  obtain rfl : v1 = 20 := ev1.trans (by decide)
  refine lv_sipush (v := 1400) hx hb dX11_feed_12 (by decide) ?_
  refine lv_icmp_le (tgt := 20) hx hb dX11_feed_15 (by decide) (fun hc => ?_) (fun hc => absurd (by decide) hc)
  refine lv_aload_n hx hb dX11_feed_20 rfl (lv_at hl 0 rfl) ?_
  refine lv_iload_n hx hb dX11_feed_21 rfl (lv_at hl 1 rfl) ?_
  have hPc := hP.sub (ws' := [(h0, .inr (11, fM a (nI 0) sd pa pb dr)), (a 1, .inl (cB, 1400, .inl (fun _ => 0)))]) [0, 1] rfl
  have hKc := hK.sub (tys' := [(cB, .byte)]) [0] rfl
  have hDc := hD.sub (ws' := [(h0, .inr (11, fM a (nI 0) sd pa pb dr)), (a 1, .inl (cB, 1400, .inl (fun _ => 0)))]) [0, 1] (by decide) rfl
  have hFc := va_free (wc := [(h0, .inr (11, fM a (nI 0) sd pa pb dr)), (a 1, .inl (cB, 1400, .inl (fun _ => 0)))]) hD hS hA [0, 1] rfl
  refine va_callv (va_runV (As := [.int z1]) (rest := []) ⟨hx, hb, hml, hown, hts⟩ (c_puts l D _ h0 a sd pa pb dr cB (fun _ => 0) 0 z1 (by first | omega | assumption)) (cwV 1 hts g_c_X11_feed_c_puts_79 rfl rfl rfl (by decide +kernel) ⟨(Nat.le_of_ble_eq_true rfl), (Nat.le_of_ble_eq_true rfl)⟩) (PcW_V (q0 := 0) hPc hKc hDc rfl rfl) rfl rfl hl.1 rfl (lv_room (Nat.le_of_ble_eq_true rfl)) dX11_feed_22 ⟨(Nat.le_of_ble_eq_true rfl), (Nat.le_of_ble_eq_true rfl)⟩) hS (fun q _ h => hFc q h) hFc (fun uu tt H locs htt hvm hw hB hz1 hk1 hS => ?_)
  obtain ⟨g3, rfl⟩ : ∃ z, z = uu := ⟨_, rfl⟩
  obtain ⟨hP1, hK1, hD1⟩ := hB
  rw [htt] at hP1
  have hK1 := va_K.moved hvm.symm hK1
  have hP1 : va_P D vwCl [(h0, .inr (11, fM a (nI (0 + 4)) sd pa pb dr)), (a 1, .inl (cB, 1400, .inl g3))] H := hP1
  obtain ⟨hP, hD⟩ := va_join (wr := []) (w1 := [(h0, .inr (11, fM a (nI (0 + 4)) sd pa pb dr)), (a 1, .inl (cB, 1400, .inl g3))]) hP hD [0, 1] [] rfl rfl (by decide) (by decide) hk1 hFc hP1 hD1
  have hP : va_P D vwCl [(h0, .inr (11, fM a (nI (0 + 4)) sd pa pb dr)), (a 1, .inl (cB, 1400, .inl g3))] H := hP
  have hD : va_D A [(h0, .inr (11, fM a (nI (0 + 4)) sd pa pb dr)), (a 1, .inl (cB, 1400, .inl g3))] := hD
  try dsimp only at hw
  clear hz1 hk1 hFc hPc hKc hDc
  refine lv_aload_n hx hb dX11_feed_25 rfl (lv_at hl 0 rfl) ?_
  refine lv_iload_n hx hb dX11_feed_26 rfl (lv_at hl 2 rfl) ?_
  have hPc := hP.sub (ws' := [(h0, .inr (11, fM a (nI (0 + 4)) sd pa pb dr)), (a 1, .inl (cB, 1400, .inl g3))]) [0, 1] rfl
  have hKc := hK.sub (tys' := [(cB, .byte)]) [0] rfl
  have hDc := hD.sub (ws' := [(h0, .inr (11, fM a (nI (0 + 4)) sd pa pb dr)), (a 1, .inl (cB, 1400, .inl g3))]) [0, 1] (by decide) rfl
  have hFc := va_free (wc := [(h0, .inr (11, fM a (nI (0 + 4)) sd pa pb dr)), (a 1, .inl (cB, 1400, .inl g3))]) hD hS hA [0, 1] rfl
  refine va_callv (va_runV (As := [.int z2]) (rest := []) ⟨hx, hb, hml, hown, hts⟩ (c_puts l D _ h0 a sd pa pb dr cB g3 (0 + 4) z2 (by first | omega | assumption)) (cwV 1 hts g_c_X11_feed_c_puts_79 rfl rfl rfl (by decide +kernel) ⟨(Nat.le_of_ble_eq_true rfl), (Nat.le_of_ble_eq_true rfl)⟩) (PcW_V (q0 := 0) hPc hKc hDc rfl rfl) rfl rfl hl.1 rfl (lv_room (Nat.le_of_ble_eq_true rfl)) dX11_feed_27 ⟨(Nat.le_of_ble_eq_true rfl), (Nat.le_of_ble_eq_true rfl)⟩) hS (fun q _ h => hFc q h) hFc (fun uu tt H locs htt hvm hw hB hz1 hk1 hS => ?_)
  obtain ⟨g5, rfl⟩ : ∃ z, z = uu := ⟨_, rfl⟩
  obtain ⟨hP1, hK1, hD1⟩ := hB
  rw [htt] at hP1
  have hK1 := va_K.moved hvm.symm hK1
  have hP1 : va_P D vwCl [(h0, .inr (11, fM a (nI ((0 + 4) + 4)) sd pa pb dr)), (a 1, .inl (cB, 1400, .inl g5))] H := hP1
  obtain ⟨hP, hD⟩ := va_join (wr := []) (w1 := [(h0, .inr (11, fM a (nI ((0 + 4) + 4)) sd pa pb dr)), (a 1, .inl (cB, 1400, .inl g5))]) hP hD [0, 1] [] rfl rfl (by decide) (by decide) hk1 hFc hP1 hD1
  have hP : va_P D vwCl [(h0, .inr (11, fM a (nI ((0 + 4) + 4)) sd pa pb dr)), (a 1, .inl (cB, 1400, .inl g5))] H := hP
  have hD : va_D A [(h0, .inr (11, fM a (nI ((0 + 4) + 4)) sd pa pb dr)), (a 1, .inl (cB, 1400, .inl g5))] := hD
  try dsimp only at hw
  clear hz1 hk1 hFc hPc hKc hDc
  refine lv_aload_n hx hb dX11_feed_30 rfl (lv_at hl 0 rfl) ?_
  refine lv_iload_n hx hb dX11_feed_31 rfl (lv_at hl 3 rfl) ?_
  have hPc := hP.sub (ws' := [(h0, .inr (11, fM a (nI ((0 + 4) + 4)) sd pa pb dr)), (a 1, .inl (cB, 1400, .inl g5))]) [0, 1] rfl
  have hKc := hK.sub (tys' := [(cB, .byte)]) [0] rfl
  have hDc := hD.sub (ws' := [(h0, .inr (11, fM a (nI ((0 + 4) + 4)) sd pa pb dr)), (a 1, .inl (cB, 1400, .inl g5))]) [0, 1] (by decide) rfl
  have hFc := va_free (wc := [(h0, .inr (11, fM a (nI ((0 + 4) + 4)) sd pa pb dr)), (a 1, .inl (cB, 1400, .inl g5))]) hD hS hA [0, 1] rfl
  refine va_callv (va_runV (As := [.int z3]) (rest := []) ⟨hx, hb, hml, hown, hts⟩ (c_puts l D _ h0 a sd pa pb dr cB g5 ((0 + 4) + 4) z3 (by first | omega | assumption)) (cwV 1 hts g_c_X11_feed_c_puts_79 rfl rfl rfl (by decide +kernel) ⟨(Nat.le_of_ble_eq_true rfl), (Nat.le_of_ble_eq_true rfl)⟩) (PcW_V (q0 := 0) hPc hKc hDc rfl rfl) rfl rfl hl.1 rfl (lv_room (Nat.le_of_ble_eq_true rfl)) dX11_feed_32 ⟨(Nat.le_of_ble_eq_true rfl), (Nat.le_of_ble_eq_true rfl)⟩) hS (fun q _ h => hFc q h) hFc (fun uu tt H locs htt hvm hw hB hz1 hk1 hS => ?_)
  obtain ⟨g7, rfl⟩ : ∃ z, z = uu := ⟨_, rfl⟩
  obtain ⟨hP1, hK1, hD1⟩ := hB
  rw [htt] at hP1
  have hK1 := va_K.moved hvm.symm hK1
  have hP1 : va_P D vwCl [(h0, .inr (11, fM a (nI (((0 + 4) + 4) + 4)) sd pa pb dr)), (a 1, .inl (cB, 1400, .inl g7))] H := hP1
  obtain ⟨hP, hD⟩ := va_join (wr := []) (w1 := [(h0, .inr (11, fM a (nI (((0 + 4) + 4) + 4)) sd pa pb dr)), (a 1, .inl (cB, 1400, .inl g7))]) hP hD [0, 1] [] rfl rfl (by decide) (by decide) hk1 hFc hP1 hD1
  have hP : va_P D vwCl [(h0, .inr (11, fM a (nI (((0 + 4) + 4) + 4)) sd pa pb dr)), (a 1, .inl (cB, 1400, .inl g7))] H := hP
  have hD : va_D A [(h0, .inr (11, fM a (nI (((0 + 4) + 4) + 4)) sd pa pb dr)), (a 1, .inl (cB, 1400, .inl g7))] := hD
  try dsimp only at hw
  clear hz1 hk1 hFc hPc hKc hDc
  refine lv_aload_n hx hb dX11_feed_35 rfl (lv_at hl 0 rfl) ?_
  refine lv_iload hx hb dX11_feed_36 (lv_at hl 4 rfl) ?_
  have hPc := hP.sub (ws' := [(h0, .inr (11, fM a (nI (((0 + 4) + 4) + 4)) sd pa pb dr)), (a 1, .inl (cB, 1400, .inl g7))]) [0, 1] rfl
  have hKc := hK.sub (tys' := [(cB, .byte)]) [0] rfl
  have hDc := hD.sub (ws' := [(h0, .inr (11, fM a (nI (((0 + 4) + 4) + 4)) sd pa pb dr)), (a 1, .inl (cB, 1400, .inl g7))]) [0, 1] (by decide) rfl
  have hFc := va_free (wc := [(h0, .inr (11, fM a (nI (((0 + 4) + 4) + 4)) sd pa pb dr)), (a 1, .inl (cB, 1400, .inl g7))]) hD hS hA [0, 1] rfl
  refine va_callv (va_runV (As := [.int z4]) (rest := []) ⟨hx, hb, hml, hown, hts⟩ (c_puts l D _ h0 a sd pa pb dr cB g7 (((0 + 4) + 4) + 4) z4 (by first | omega | assumption)) (cwV 1 hts g_c_X11_feed_c_puts_79 rfl rfl rfl (by decide +kernel) ⟨(Nat.le_of_ble_eq_true rfl), (Nat.le_of_ble_eq_true rfl)⟩) (PcW_V (q0 := 0) hPc hKc hDc rfl rfl) rfl rfl hl.1 rfl (lv_room (Nat.le_of_ble_eq_true rfl)) dX11_feed_38 ⟨(Nat.le_of_ble_eq_true rfl), (Nat.le_of_ble_eq_true rfl)⟩) hS (fun q _ h => hFc q h) hFc (fun uu tt H locs htt hvm hw hB hz1 hk1 hS => ?_)
  obtain ⟨g9, rfl⟩ : ∃ z, z = uu := ⟨_, rfl⟩
  obtain ⟨hP1, hK1, hD1⟩ := hB
  rw [htt] at hP1
  have hK1 := va_K.moved hvm.symm hK1
  have hP1 : va_P D vwCl [(h0, .inr (11, fM a (nI ((((0 + 4) + 4) + 4) + 4)) sd pa pb dr)), (a 1, .inl (cB, 1400, .inl g9))] H := hP1
  obtain ⟨hP, hD⟩ := va_join (wr := []) (w1 := [(h0, .inr (11, fM a (nI ((((0 + 4) + 4) + 4) + 4)) sd pa pb dr)), (a 1, .inl (cB, 1400, .inl g9))]) hP hD [0, 1] [] rfl rfl (by decide) (by decide) hk1 hFc hP1 hD1
  have hP : va_P D vwCl [(h0, .inr (11, fM a (nI ((((0 + 4) + 4) + 4) + 4)) sd pa pb dr)), (a 1, .inl (cB, 1400, .inl g9))] H := hP
  have hD : va_D A [(h0, .inr (11, fM a (nI ((((0 + 4) + 4) + 4) + 4)) sd pa pb dr)), (a 1, .inl (cB, 1400, .inl g9))] := hD
  try dsimp only at hw
  clear hz1 hk1 hFc hPc hKc hDc
  refine lv_aload_n hx hb dX11_feed_41 rfl (lv_at hl 0 rfl) ?_
  refine lv_iload hx hb dX11_feed_42 (lv_at hl 5 rfl) ?_
  have hPc := hP.sub (ws' := [(h0, .inr (11, fM a (nI ((((0 + 4) + 4) + 4) + 4)) sd pa pb dr)), (a 1, .inl (cB, 1400, .inl g9))]) [0, 1] rfl
  have hKc := hK.sub (tys' := [(cB, .byte)]) [0] rfl
  have hDc := hD.sub (ws' := [(h0, .inr (11, fM a (nI ((((0 + 4) + 4) + 4) + 4)) sd pa pb dr)), (a 1, .inl (cB, 1400, .inl g9))]) [0, 1] (by decide) rfl
  have hFc := va_free (wc := [(h0, .inr (11, fM a (nI ((((0 + 4) + 4) + 4) + 4)) sd pa pb dr)), (a 1, .inl (cB, 1400, .inl g9))]) hD hS hA [0, 1] rfl
  refine va_callv (va_runV (As := [.int z5]) (rest := []) ⟨hx, hb, hml, hown, hts⟩ (c_puts l D _ h0 a sd pa pb dr cB g9 ((((0 + 4) + 4) + 4) + 4) z5 (by first | omega | assumption)) (cwV 1 hts g_c_X11_feed_c_puts_79 rfl rfl rfl (by decide +kernel) ⟨(Nat.le_of_ble_eq_true rfl), (Nat.le_of_ble_eq_true rfl)⟩) (PcW_V (q0 := 0) hPc hKc hDc rfl rfl) rfl rfl hl.1 rfl (lv_room (Nat.le_of_ble_eq_true rfl)) dX11_feed_44 ⟨(Nat.le_of_ble_eq_true rfl), (Nat.le_of_ble_eq_true rfl)⟩) hS (fun q _ h => hFc q h) hFc (fun uu tt H locs htt hvm hw hB hz1 hk1 hS => ?_)
  obtain ⟨g11, rfl⟩ : ∃ z, z = uu := ⟨_, rfl⟩
  obtain ⟨hP1, hK1, hD1⟩ := hB
  rw [htt] at hP1
  have hK1 := va_K.moved hvm.symm hK1
  have hP1 : va_P D vwCl [(h0, .inr (11, fM a (nI (((((0 + 4) + 4) + 4) + 4) + 4)) sd pa pb dr)), (a 1, .inl (cB, 1400, .inl g11))] H := hP1
  obtain ⟨hP, hD⟩ := va_join (wr := []) (w1 := [(h0, .inr (11, fM a (nI (((((0 + 4) + 4) + 4) + 4) + 4)) sd pa pb dr)), (a 1, .inl (cB, 1400, .inl g11))]) hP hD [0, 1] [] rfl rfl (by decide) (by decide) hk1 hFc hP1 hD1
  have hP : va_P D vwCl [(h0, .inr (11, fM a (nI (((((0 + 4) + 4) + 4) + 4) + 4)) sd pa pb dr)), (a 1, .inl (cB, 1400, .inl g11))] H := hP
  have hD : va_D A [(h0, .inr (11, fM a (nI (((((0 + 4) + 4) + 4) + 4) + 4)) sd pa pb dr)), (a 1, .inl (cB, 1400, .inl g11))] := hD
  try dsimp only at hw
  clear hz1 hk1 hFc hPc hKc hDc
  refine lv_aload_n hx hb dX11_feed_47 rfl (lv_at hl 0 rfl) ?_
  refine va_get (D := D) (ci := 11) (v := .int (nI (((((0 + 4) + 4) + 4) + 4) + 4))) (C := RX11) (T := TX11) (N := 47) hx hb hts hin_X11 hown hK hP 0 rfl rfl 2 (by decide) (hts (.fieldLink RX11 76 "ClashFreeModel" "taped" "I") (List.mem_of_getElem? (i := 2) rfl)) (fun _ h9 => h9) rfl dX11_feed_48 ?_
  exact W.iret (v := nI (((((0 + 4) + 4) + 4) + 4) + 4)) hx hb hr (fun t ht hW => ⟨⟨nI (((((0 + 4) + 4) + 4) + 4) + 4), (), rfl, by decide, trivial⟩, hS.F ht⟩) hS.2.2 dX11_feed_51

def own_c_X10_back : List Cond := [.methodLink RX10 55 yX10_isTableNumber, .static yX10_isTableNumber, .initialized RX10, .fieldLink RX10 19 "ClashFree" "taped" "I", .fieldLink RX10 15 "ClashFree" "tape" "[I", .methodLink RX10 322 yX10_isImage, .static yX10_isImage]
def wp_c_X10_back : List Cond := .code yX10_back cX10_back 7 (some .int) :: (own_c_X10_back ++ (wp_c_isTN ++ (wp_c_isImageC ++ (wsX100 ++ ([] : List Cond)))))
set_option maxRecDepth 20000 in
theorem inown_c_X10_back : ∀ w ∈ own_c_X10_back, w ∈ lw_tbl := mem_places [449, 450, 106, 414, 413, 1166, 1167] (by decide +kernel)
set_option maxRecDepth 20000 in
theorem in_c_X10_back : ∀ w ∈ wp_c_X10_back, w ∈ lw_tbl := List.forall_mem_cons.mpr ⟨List.mem_of_getElem? (i := 1165) (by decide +kernel), List.forall_mem_append.mpr ⟨inown_c_X10_back, List.forall_mem_append.mpr ⟨in_c_isTN, List.forall_mem_append.mpr ⟨in_c_isImageC, List.forall_mem_append.mpr ⟨lwb_X10, fun _ h => absurd h List.not_mem_nil⟩⟩⟩⟩⟩
set_option maxRecDepth 20000 in
theorem good_c_X10_back : wp_c_X10_back.all goodWord = true := by decide +kernel
set_option maxRecDepth 20000 in
theorem g_c_X10_back_c_isTN_55 : GoodIn wp_c_X10_back (va_wsS RX10 55 yX10_isTableNumber wp_c_isTN) := goodIn_sub (List.forall_mem_append.mpr ⟨List.forall_mem_cons.mpr ⟨(List.mem_of_getElem? (i := 1) rfl), List.forall_mem_cons.mpr ⟨(List.mem_of_getElem? (i := 2) rfl), List.forall_mem_cons.mpr ⟨(List.mem_of_getElem? (i := 3) rfl), fun _ h => absurd h List.not_mem_nil⟩⟩⟩, (fun _ h => (List.mem_cons_of_mem _ (List.mem_append_right _ (List.mem_append_left _ h))))⟩) (by decide +kernel)
set_option maxRecDepth 20000 in
theorem g_c_X10_back_c_isImageC_322 : GoodIn wp_c_X10_back (va_wsS RX10 322 yX10_isImage wp_c_isImageC) := goodIn_sub (List.forall_mem_append.mpr ⟨List.forall_mem_cons.mpr ⟨(List.mem_of_getElem? (i := 6) rfl), List.forall_mem_cons.mpr ⟨(List.mem_of_getElem? (i := 7) rfl), List.forall_mem_cons.mpr ⟨(List.mem_of_getElem? (i := 3) rfl), fun _ h => absurd h List.not_mem_nil⟩⟩⟩, (fun _ h => (List.mem_cons_of_mem _ (List.mem_append_right _ (List.mem_append_right _ (List.mem_append_left _ h)))))⟩) (by decide +kernel)
set_option maxHeartbeats 4000000 in
set_option maxRecDepth 100000 in
theorem c_X10_back (l : Launch) (D : va_G) (sz : Nat) (h0 : Nat) (ca : Nat → Nat) (cI : ClassId) (z1 : Int32)  : Met l yX10_back wp_c_X10_back ({ frames := 1, cells := 0, slots := 0, locals := 25 }) (PcW D [.ref h0, .int z1] sz [(h0, .inr (10, [.ref (ca 0), .ref (ca 1), .int 0, .ref (ca 3), .ref (ca 4), .ref (ca 5), .ref (ca 6)])), (ca 1, .inl (cI, 1400, .inl (fun _ => 0)))] [(cI, .int)]) (va_Qi (fun (r : Int32) (_ : Unit) => r = if 0 ≤ z1 ∧ z1 < 4 then -1 else -2) (fun (_ : Unit) _ => True) (va_A [(h0, .inr (10, [.ref (ca 0), .ref (ca 1), .int 0, .ref (ca 3), .ref (ca 4), .ref (ca 5), .ref (ca 6)])), (ca 1, .inl (cI, 1400, .inl (fun _ => 0)))] sz)) 0 0 (va_A [(h0, .inr (10, [.ref (ca 0), .ref (ca 1), .int 0, .ref (ca 3), .ref (ca 4), .ref (ca 5), .ref (ca 6)])), (ca 1, .inl (cI, 1400, .inl (fun _ => 0)))] sz) := by
  refine Met.ofW (cc := cX10_back) (maxL := 7) (ret := (some .int)) (by decide) rfl ?_
  intro p e s m args below meth c s₁ B hml hv
  obtain ⟨rfl, hsz, hP, hK, hD0⟩ := hv
  have hx := B.exec
  have hb := B.bytes
  have hr := B.returns
  have hts := atoms_spec (ws := wp_c_X10_back) B.pre
  have hin_X10 : ∀ w ∈ wsX100, w ∈ wp_c_X10_back := fun _ h => (List.mem_cons_of_mem _ (List.mem_append_right _ (List.mem_append_right _ (List.mem_append_right _ (List.mem_append_left _ h)))))
  have hown : s.vm.findClass RX10 = some m.cls := findClass_of_methodNamed B.named
  have hlocks := B.notSynchronized
  subst hsz
  have hD := hD0.self (sz := s.heap.size)
  generalize hAe : va_A [(h0, .inr (10, [.ref (ca 0), .ref (ca 1), .int 0, .ref (ca 3), .ref (ca 4), .ref (ca 5), .ref (ca 6)])), (ca 1, .inl (cI, 1400, .inl (fun _ => 0)))] s.heap.size = A at hD ⊢
  have hA : ∀ q : Nat, s.heap.size ≤ q → A q := fun q h => by rw [← hAe]; exact Or.inr h
  have hS : va_S A s.heap s.heap [] := va_S.rf
  have hP : va_P D vwCl [(h0, .inr (10, [.ref (ca 0), .ref (ca 1), .int 0, .ref (ca 3), .ref (ca 4), .ref (ca 5), .ref (ca 6)])), (ca 1, .inl (cI, 1400, .inl (fun _ => 0)))] s.heap := hP
  have hl := lv_entry ([.ref h0, .int z1]) (n := 7) (Nat.le_of_ble_eq_true rfl)
  rw [lg_entry_eq]
  generalize (lg_sl ([.ref h0, .int z1]) ++ List.replicate (7 - (lg_sl ([.ref h0, .int z1])).length) Slot.unset).toArray = ls at hl ⊢
  have hl : lv_has ls 7 [(0, .ref h0), (1, .int z1)] := hl
  refine lv_iload_n hx hb dX10_back_0 rfl (lv_at hl 1 rfl) ?_
  have hPc := hP.sub (ws' := []) [] rfl
  have hKc := hK.sub (tys' := []) [] rfl
  have hFc := va_free0 hS hA
  refine va_calli (va_runS (As := [.int z1]) (rest := []) ⟨hx, hb, hml, hown, hts⟩ (c_isTN l D _ z1) (va_cwS 1 hts g_c_X10_back_c_isTN_55 rfl rfl rfl (by decide +kernel) ⟨(Nat.le_of_ble_eq_true rfl), (Nat.le_of_ble_eq_true rfl)⟩) (PcR_S hPc hKc) rfl rfl hl.1 rfl (lv_room (Nat.le_of_ble_eq_true rfl)) dX10_back_1 ⟨(Nat.le_of_ble_eq_true rfl), (Nat.le_of_ble_eq_true rfl)⟩) hS (fun q _ h => hFc q h) hFc (fun r1 uu tt H locs htt hvm hw hB hz1 hk1 hS => ?_)
  have hP := va_keep hP hk1
  try dsimp only at hw
  clear hB hz1 hk1 hFc hPc hKc
  have hw_r1 := hw
  refine lv_if_ne (tgt := 10) hx hb dX10_back_4 (by decide) (fun hc2 => ?_) (fun hc2 => ?_)
  ·
    refine lv_aload_n hx hb dX10_back_10 rfl (lv_at hl 0 rfl) ?_
    refine va_get (D := D) (ci := 10) (v := .int 0) (C := RX10) (T := TX10) (N := 7) hx hb hts hin_X10 hown hK hP 0 rfl rfl 2 (by decide) (hts (.fieldLink RX10 19 "ClashFree" "taped" "I") (List.mem_of_getElem? (i := 4) rfl)) (fun _ h9 => h9) rfl dX10_back_11 ?_
    refine lv_istore_n (lv' := [(2, .int 0), (0, .ref h0), (1, .int z1)]) hx hb dX10_back_14 rfl hl (by decide) rfl (fun ls hl => ?_)
    refine lv_aload_n hx hb dX10_back_15 rfl (lv_at hl 1 rfl) ?_
    refine lv_iconst (v := 0) hx hb dX10_back_16 (by decide) ?_
    refine va_put (D := D) (ci := 10) (v := .int 0) (ty := .int) (C := RX10) (T := TX10) (N := 7) hx hb hts hin_X10 tyX10 tyX10_ok nmX10 hown hK hP hD hS 0 rfl rfl 2 (by decide) (hts (.fieldLink RX10 19 "ClashFree" "taped" "I") (List.mem_of_getElem? (i := 4) rfl)) (fun _ h9 => h9) rfl (by decide +kernel) rfl rfl (Nat.le_of_ble_eq_true rfl) dX10_back_17 (fun H locs hP hD hS => ?_)
    have hP : va_P D vwCl [(h0, .inr (10, [.ref (ca 0), .ref (ca 1), .int 0, .ref (ca 3), .ref (ca 4), .ref (ca 5), .ref (ca 6)])), (ca 1, .inl (cI, 1400, .inl (fun _ => 0)))] H := hP
    have hD : va_D A [(h0, .inr (10, [.ref (ca 0), .ref (ca 1), .int 0, .ref (ca 3), .ref (ca 4), .ref (ca 5), .ref (ca 6)])), (ca 1, .inl (cI, 1400, .inl (fun _ => 0)))] := hD
    refine lv_aload_n hx hb dX10_back_20 rfl (lv_at hl 1 rfl) ?_
    refine va_get (D := D) (ci := 10) (v := .ref (ca 1)) (C := RX10) (T := TX10) (N := 7) hx hb hts hin_X10 hown hK hP 0 rfl rfl 1 (by decide) (hts (.fieldLink RX10 15 "ClashFree" "tape" "[I") (List.mem_of_getElem? (i := 5) rfl)) (fun _ h9 => h9) rfl dX10_back_21 ?_
    refine lv_iload_n hx hb dX10_back_24 rfl (lv_at hl 0 rfl) ?_
    have hPc := hP.sub (ws' := []) [] rfl
    have hKc := hK.sub (tys' := []) [] rfl
    have hFc := va_free0 hS hA
    refine va_calli (va_runS (As := [.ref (ca 1), .int 0]) (rest := []) ⟨hx, hb, hml, hown, hts⟩ (c_isImageC l D _ (ca 1) cI (fun _ => 0)) (va_cwS 2 hts g_c_X10_back_c_isImageC_322 rfl rfl rfl (by decide +kernel) ⟨(Nat.le_of_ble_eq_true rfl), (Nat.le_of_ble_eq_true rfl)⟩) (PcR_S hPc hKc) rfl rfl hl.1 rfl (lv_room (Nat.le_of_ble_eq_true rfl)) dX10_back_25 ⟨(Nat.le_of_ble_eq_true rfl), (Nat.le_of_ble_eq_true rfl)⟩) hS (fun q _ h => hFc q h) hFc (fun r3 uu tt H locs htt hvm hw hB hz1 hk1 hS => ?_)
    have hP := va_keep hP hk1
    try dsimp only at hw
    clear hB hz1 hk1 hFc hPc hKc
    obtain rfl : r3 = 0 := hw
    refine lv_if_ne (tgt := 33) hx hb dX10_back_28 (by decide) (fun hc => absurd (by decide) hc) (fun hc => ?_)
    refine lv_iconst (v := (-1)) hx hb dX10_back_31 (by decide) ?_
    exact W.iret (v := (-1)) hx hb hr (fun t ht hW => ⟨⟨(-1), (), rfl, by rw [if_pos (ifT (by rw [← hw_r1]; exact hc2))], trivial⟩, hS.F ht⟩) hS.2.2 dX10_back_32
  ·
    refine lv_bipush (v := (-2)) hx hb dX10_back_7 (by decide) ?_
    exact W.iret (v := (-2)) hx hb hr (fun t ht hW => ⟨⟨(-2), (), rfl, by rw [if_neg (ifF (by rw [← hw_r1]; exact hc2))], trivial⟩, hS.F ht⟩) hS.2.2 dX10_back_9

def own_c_X11_back : List Cond := [.fieldLink RX11 73 "ClashFreeModel" "thrown" "I", .constantLong RX11 87 (3), .methodLink RX11 83 yX11_isIn, .static yX11_isIn, .initialized RX11, .fieldLink RX11 76 "ClashFreeModel" "taped" "I", .methodLink RX11 453 yX11_isImage, .instanceMethod yX11_isImage, .selects RX11 yX11_isImage yX11_isImage]
def wp_c_X11_back : List Cond := .code yX11_back cX11_back 5 (some .int) :: (own_c_X11_back ++ (wp_c_isIn ++ (wp_c_isImageM ++ (wsX110 ++ ([] : List Cond)))))
set_option maxRecDepth 20000 in
theorem inown_c_X11_back : ∀ w ∈ own_c_X11_back, w ∈ lw_tbl := mem_places [1216, 1378, 1371, 1372, 115, 1218, 1811, 1813, 103] (by decide +kernel)
set_option maxRecDepth 20000 in
theorem in_c_X11_back : ∀ w ∈ wp_c_X11_back, w ∈ lw_tbl := List.forall_mem_cons.mpr ⟨List.mem_of_getElem? (i := 1810) (by decide +kernel), List.forall_mem_append.mpr ⟨inown_c_X11_back, List.forall_mem_append.mpr ⟨in_c_isIn, List.forall_mem_append.mpr ⟨in_c_isImageM, List.forall_mem_append.mpr ⟨lwb_X11, fun _ h => absurd h List.not_mem_nil⟩⟩⟩⟩⟩
set_option maxRecDepth 20000 in
theorem good_c_X11_back : wp_c_X11_back.all goodWord = true := by decide +kernel
set_option maxRecDepth 20000 in
theorem g_c_X11_back_c_isIn_83 : GoodIn wp_c_X11_back (va_wsS RX11 83 yX11_isIn wp_c_isIn) := goodIn_sub (List.forall_mem_append.mpr ⟨List.forall_mem_cons.mpr ⟨(List.mem_of_getElem? (i := 3) rfl), List.forall_mem_cons.mpr ⟨(List.mem_of_getElem? (i := 4) rfl), List.forall_mem_cons.mpr ⟨(List.mem_of_getElem? (i := 5) rfl), fun _ h => absurd h List.not_mem_nil⟩⟩⟩, (fun _ h => (List.mem_cons_of_mem _ (List.mem_append_right _ (List.mem_append_left _ h))))⟩) (by decide +kernel)
set_option maxRecDepth 20000 in
theorem g_c_X11_back_c_isImageM_453 : GoodIn wp_c_X11_back (wsV RX11 453 RX11 yX11_isImage wp_c_isImageM) := goodIn_sub (List.forall_mem_append.mpr ⟨List.forall_mem_cons.mpr ⟨(List.mem_of_getElem? (i := 7) rfl), List.forall_mem_cons.mpr ⟨(List.mem_of_getElem? (i := 8) rfl), List.forall_mem_cons.mpr ⟨(List.mem_of_getElem? (i := 9) rfl), List.forall_mem_cons.mpr ⟨(List.mem_of_getElem? (i := 5) rfl), fun _ h => absurd h List.not_mem_nil⟩⟩⟩⟩, (fun _ h => (List.mem_cons_of_mem _ (List.mem_append_right _ (List.mem_append_right _ (List.mem_append_left _ h)))))⟩) (by decide +kernel)
set_option maxHeartbeats 4000000 in
set_option maxRecDepth 100000 in
theorem c_X11_back (l : Launch) (D : va_G) (sz : Nat) (h0 : Nat) (a : Nat → Nat) (cN : ClassId) (sd : Int64) (pa : Int64) (pb : Int64) (dr : Int32) (z1 : Int32)  : Met l yX11_back wp_c_X11_back ({ frames := 1, cells := 0, slots := 0, locals := 27 }) (PcW D [.ref h0, .int z1] sz [(h0, .inr (11, fM a 0 sd pa pb dr)), (a 3, .inl (cN, 85, .inr (.inl (fun _ => 0))))] [(cN, .long)]) (va_Qi (fun (r : Int32) (_ : Unit) => r = if 0 ≤ z1 ∧ z1 < 4 then -1 else -2) (fun (_ : Unit) _ => True) (va_A [(h0, .inr (11, fM a 0 sd pa pb dr)), (a 3, .inl (cN, 85, .inr (.inl (fun _ => 0))))] sz)) 0 0 (va_A [(h0, .inr (11, fM a 0 sd pa pb dr)), (a 3, .inl (cN, 85, .inr (.inl (fun _ => 0))))] sz) := by
  refine Met.ofW (cc := cX11_back) (maxL := 5) (ret := (some .int)) (by decide) rfl ?_
  intro p e s m args below meth c s₁ B hml hv
  obtain ⟨rfl, hsz, hP, hK, hD0⟩ := hv
  have hx := B.exec
  have hb := B.bytes
  have hr := B.returns
  have hts := atoms_spec (ws := wp_c_X11_back) B.pre
  have hin_X11 : ∀ w ∈ wsX110, w ∈ wp_c_X11_back := fun _ h => (List.mem_cons_of_mem _ (List.mem_append_right _ (List.mem_append_right _ (List.mem_append_right _ (List.mem_append_left _ h)))))
  have hown : s.vm.findClass RX11 = some m.cls := findClass_of_methodNamed B.named
  have hlocks := B.notSynchronized
  subst hsz
  have hD := hD0.self (sz := s.heap.size)
  generalize hAe : va_A [(h0, .inr (11, fM a 0 sd pa pb dr)), (a 3, .inl (cN, 85, .inr (.inl (fun _ => 0))))] s.heap.size = A at hD ⊢
  have hA : ∀ q : Nat, s.heap.size ≤ q → A q := fun q h => by rw [← hAe]; exact Or.inr h
  have hS : va_S A s.heap s.heap [] := va_S.rf
  have hP : va_P D vwCl [(h0, .inr (11, fM a 0 sd pa pb dr)), (a 3, .inl (cN, 85, .inr (.inl (fun _ => 0))))] s.heap := hP
  have hl := lv_entry ([.ref h0, .int z1]) (n := 5) (Nat.le_of_ble_eq_true rfl)
  rw [lg_entry_eq]
  generalize (lg_sl ([.ref h0, .int z1]) ++ List.replicate (5 - (lg_sl ([.ref h0, .int z1])).length) Slot.unset).toArray = ls at hl ⊢
  have hl : lv_has ls 5 [(0, .ref h0), (1, .int z1)] := hl
  refine lv_aload_n hx hb dX11_back_0 rfl (lv_at hl 0 rfl) ?_
  refine lv_iconst (v := 0) hx hb dX11_back_1 (by decide) ?_
  refine va_put (D := D) (ci := 11) (v := .int 0) (ty := .int) (C := RX11) (T := TX11) (N := 47) hx hb hts hin_X11 tyX11 tyX11_ok nmX11 hown hK hP hD hS 0 rfl rfl 0 (by decide) (hts (.fieldLink RX11 73 "ClashFreeModel" "thrown" "I") (List.mem_of_getElem? (i := 1) rfl)) (fun _ h9 => h9) rfl (by decide +kernel) rfl rfl (Nat.le_of_ble_eq_true rfl) dX11_back_2 (fun H locs hP hD hS => ?_)
  have hP : va_P D vwCl [(h0, .inr (11, fM a 0 sd pa pb dr)), (a 3, .inl (cN, 85, .inr (.inl (fun _ => 0))))] H := hP
  have hD : va_D A [(h0, .inr (11, fM a 0 sd pa pb dr)), (a 3, .inl (cN, 85, .inr (.inl (fun _ => 0))))] := hD
  refine lv_iload_n hx hb dX11_back_5 rfl (lv_at hl 1 rfl) ?_
  refine lv_i2l hx hb dX11_back_6 rfl ?_
  refine lv_lconst (v := 0) hx hb dX11_back_7 (by decide) ?_
  refine lv_ldc2 (v := 3) hx hb hown (hts (.constantLong RX11 87 (3)) (List.mem_of_getElem? (i := 2) rfl)) dX11_back_8 ?_
  have hPc := hP.sub (ws' := []) [] rfl
  have hKc := hK.sub (tys' := []) [] rfl
  have hFc := va_free0 hS hA
  refine va_calli (va_runS (As := [.long (Int32.toInt64 z1), .long 0, .long 3]) (rest := []) ⟨hx, hb, hml, hown, hts⟩ (c_isIn l D _ (Int32.toInt64 z1) 0 3) (va_cwS 3 hts g_c_X11_back_c_isIn_83 rfl rfl rfl (by decide +kernel) ⟨(Nat.le_of_ble_eq_true rfl), (Nat.le_of_ble_eq_true rfl)⟩) (PcR_S hPc hKc) rfl rfl hl.1 rfl (lv_room (Nat.le_of_ble_eq_true rfl)) dX11_back_11 ⟨(Nat.le_of_ble_eq_true rfl), (Nat.le_of_ble_eq_true rfl)⟩) hS (fun q _ h => hFc q h) hFc (fun r1 uu tt H locs htt hvm hw hB hz1 hk1 hS => ?_)
  have hP := va_keep hP hk1
  try dsimp only at hw
  clear hB hz1 hk1 hFc hPc hKc
  have hw_r1 := hw
  refine lv_if_ne (tgt := 20) hx hb dX11_back_14 (by decide) (fun hc2 => ?_) (fun hc2 => ?_)
  ·
    refine lv_aload_n hx hb dX11_back_20 rfl (lv_at hl 0 rfl) ?_
    refine va_get (D := D) (ci := 11) (v := .int 0) (C := RX11) (T := TX11) (N := 47) hx hb hts hin_X11 hown hK hP 0 rfl rfl 2 (by decide) (hts (.fieldLink RX11 76 "ClashFreeModel" "taped" "I") (List.mem_of_getElem? (i := 6) rfl)) (fun _ h9 => h9) rfl dX11_back_21 ?_
    refine lv_istore_n (lv' := [(2, .int 0), (0, .ref h0), (1, .int z1)]) hx hb dX11_back_24 rfl hl (by decide) rfl (fun ls hl => ?_)
    refine lv_aload_n hx hb dX11_back_25 rfl (lv_at hl 1 rfl) ?_
    refine lv_iconst (v := 0) hx hb dX11_back_26 (by decide) ?_
    refine va_put (D := D) (ci := 11) (v := .int 0) (ty := .int) (C := RX11) (T := TX11) (N := 47) hx hb hts hin_X11 tyX11 tyX11_ok nmX11 hown hK hP hD hS 0 rfl rfl 2 (by decide) (hts (.fieldLink RX11 76 "ClashFreeModel" "taped" "I") (List.mem_of_getElem? (i := 6) rfl)) (fun _ h9 => h9) rfl (by decide +kernel) rfl rfl (Nat.le_of_ble_eq_true rfl) dX11_back_27 (fun H locs hP hD hS => ?_)
    have hP : va_P D vwCl [(h0, .inr (11, fM a 0 sd pa pb dr)), (a 3, .inl (cN, 85, .inr (.inl (fun _ => 0))))] H := hP
    have hD : va_D A [(h0, .inr (11, fM a 0 sd pa pb dr)), (a 3, .inl (cN, 85, .inr (.inl (fun _ => 0))))] := hD
    refine lv_aload_n hx hb dX11_back_30 rfl (lv_at hl 1 rfl) ?_
    refine lv_iload_n hx hb dX11_back_31 rfl (lv_at hl 0 rfl) ?_
    have hPc := hP.sub (ws' := [(h0, .inr (11, fM a 0 sd pa pb dr)), (a 3, .inl (cN, 85, .inr (.inl (fun _ => 0))))]) [0, 1] rfl
    have hKc := hK.sub (tys' := [(cN, .long)]) [0] rfl
    have hFc := va_free0 hS hA
    refine va_calli (va_runV (As := [.int 0]) (rest := []) ⟨hx, hb, hml, hown, hts⟩ (c_isImageM l D _ h0 a cN 0 sd pa pb dr) (cwV 1 hts g_c_X11_back_c_isImageM_453 rfl rfl rfl (by decide +kernel) ⟨(Nat.le_of_ble_eq_true rfl), (Nat.le_of_ble_eq_true rfl)⟩) (PcR_V (q0 := 0) hPc hKc rfl rfl) rfl rfl hl.1 rfl (lv_room (Nat.le_of_ble_eq_true rfl)) dX11_back_32 ⟨(Nat.le_of_ble_eq_true rfl), (Nat.le_of_ble_eq_true rfl)⟩) hS (fun q _ h => hFc q h) hFc (fun r3 uu tt H locs htt hvm hw hB hz1 hk1 hS => ?_)
    have hP := va_keep hP hk1
    try dsimp only at hw
    clear hB hz1 hk1 hFc hPc hKc
    obtain rfl : r3 = 0 := hw
    refine lv_if_ne (tgt := 40) hx hb dX11_back_35 (by decide) (fun hc => absurd (by decide) hc) (fun hc => ?_)
    refine lv_iconst (v := (-1)) hx hb dX11_back_38 (by decide) ?_
    exact W.iret (v := (-1)) hx hb hr (fun t ht hW => ⟨⟨(-1), (), rfl, by rw [if_pos (isIn04a (by rw [← hw_r1]; exact hc2))], trivial⟩, hS.F ht⟩) hS.2.2 dX11_back_39
  ·
    refine lv_bipush (v := (-2)) hx hb dX11_back_17 (by decide) ?_
    exact W.iret (v := (-2)) hx hb hr (fun t ht hW => ⟨⟨(-2), (), rfl, by rw [if_neg (isIn04b (by rw [← hw_r1]; exact hc2))], trivial⟩, hS.F ht⟩) hS.2.2 dX11_back_19

def own_c_X10_count : List Cond := [.methodLink RX10 345 yX10_countTables, .instanceMethod yX10_countTables, .selects RX10 yX10_countTables yX10_countTables, .initialized RX10, .methodLink RX10 348 yX10_countKeys, .instanceMethod yX10_countKeys, .selects RX10 yX10_countKeys yX10_countKeys, .fieldLink RX10 19 "ClashFree" "taped" "I"]
def wp_c_X10_count : List Cond := .code yX10_count cX10_count 2 (some .int) :: (own_c_X10_count ++ (wp_c_countTables ++ (wp_c_countKeys ++ (wsX100 ++ ([] : List Cond)))))
set_option maxRecDepth 20000 in
theorem inown_c_X10_count : ∀ w ∈ own_c_X10_count, w ∈ lw_tbl := mem_places [1202, 1204, 34, 106, 1206, 1208, 35, 414] (by decide +kernel)
set_option maxRecDepth 20000 in
theorem in_c_X10_count : ∀ w ∈ wp_c_X10_count, w ∈ lw_tbl := List.forall_mem_cons.mpr ⟨List.mem_of_getElem? (i := 1201) (by decide +kernel), List.forall_mem_append.mpr ⟨inown_c_X10_count, List.forall_mem_append.mpr ⟨in_c_countTables, List.forall_mem_append.mpr ⟨in_c_countKeys, List.forall_mem_append.mpr ⟨lwb_X10, fun _ h => absurd h List.not_mem_nil⟩⟩⟩⟩⟩
set_option maxRecDepth 20000 in
theorem good_c_X10_count : wp_c_X10_count.all goodWord = true := by decide +kernel
set_option maxRecDepth 20000 in
theorem g_c_X10_count_c_countTables_345 : GoodIn wp_c_X10_count (wsV RX10 345 RX10 yX10_countTables wp_c_countTables) := goodIn_sub (List.forall_mem_append.mpr ⟨List.forall_mem_cons.mpr ⟨(List.mem_of_getElem? (i := 1) rfl), List.forall_mem_cons.mpr ⟨(List.mem_of_getElem? (i := 2) rfl), List.forall_mem_cons.mpr ⟨(List.mem_of_getElem? (i := 3) rfl), List.forall_mem_cons.mpr ⟨(List.mem_of_getElem? (i := 4) rfl), fun _ h => absurd h List.not_mem_nil⟩⟩⟩⟩, (fun _ h => (List.mem_cons_of_mem _ (List.mem_append_right _ (List.mem_append_left _ h))))⟩) (by decide +kernel)
set_option maxRecDepth 20000 in
theorem g_c_X10_count_c_countKeys_348 : GoodIn wp_c_X10_count (wsV RX10 348 RX10 yX10_countKeys wp_c_countKeys) := goodIn_sub (List.forall_mem_append.mpr ⟨List.forall_mem_cons.mpr ⟨(List.mem_of_getElem? (i := 5) rfl), List.forall_mem_cons.mpr ⟨(List.mem_of_getElem? (i := 6) rfl), List.forall_mem_cons.mpr ⟨(List.mem_of_getElem? (i := 7) rfl), List.forall_mem_cons.mpr ⟨(List.mem_of_getElem? (i := 4) rfl), fun _ h => absurd h List.not_mem_nil⟩⟩⟩⟩, (fun _ h => (List.mem_cons_of_mem _ (List.mem_append_right _ (List.mem_append_right _ (List.mem_append_left _ h)))))⟩) (by decide +kernel)
set_option maxHeartbeats 4000000 in
set_option maxRecDepth 100000 in
theorem c_X10_count (l : Launch) (D : va_G) (sz : Nat) (h0 : Nat) (ca : Nat → Nat) (cT : ClassId) (z1 : Int32)  : Met l yX10_count wp_c_X10_count ({ frames := 1, cells := 0, slots := 0, locals := 22 }) (PcR D [.ref h0, .int z1] sz [(h0, .inr (10, [.ref (ca 0), .ref (ca 1), .int 0, .ref (ca 3), .ref (ca 4), .ref (ca 5), .ref (ca 6)])), (ca 0, .inl (cT, 4, .inr (.inr (.inr (.inr (fun _ => none))))))] [(cT, .object RX9)]) (va_Qi (fun (r : Int32) (_ : Unit) => r = if z1 = 0 ∨ z1 = 1 ∨ z1 = 2 then 0 else -1) (fun (_ : Unit) _ => True) (va_A [] sz)) 0 0 (va_A [] sz) := by
  refine Met.ofW (cc := cX10_count) (maxL := 2) (ret := (some .int)) (by decide) rfl ?_
  intro p e s m args below meth c s₁ B hml hv
  obtain ⟨rfl, hsz, hP, hK⟩ := hv
  have hx := B.exec
  have hb := B.bytes
  have hr := B.returns
  have hts := atoms_spec (ws := wp_c_X10_count) B.pre
  have hin_X10 : ∀ w ∈ wsX100, w ∈ wp_c_X10_count := fun _ h => (List.mem_cons_of_mem _ (List.mem_append_right _ (List.mem_append_right _ (List.mem_append_right _ (List.mem_append_left _ h)))))
  have hown : s.vm.findClass RX10 = some m.cls := findClass_of_methodNamed B.named
  have hlocks := B.notSynchronized
  subst hsz
  generalize hAe : va_A [] s.heap.size = A at ⊢
  have hA : ∀ q : Nat, s.heap.size ≤ q → A q := fun q h => by rw [← hAe]; exact Or.inr h
  have hS : va_S A s.heap s.heap [] := va_S.rf
  have hP : va_P D vwCl [(h0, .inr (10, [.ref (ca 0), .ref (ca 1), .int 0, .ref (ca 3), .ref (ca 4), .ref (ca 5), .ref (ca 6)])), (ca 0, .inl (cT, 4, .inr (.inr (.inr (.inr (fun _ => none))))))] s.heap := hP
  have hl := lv_entry ([.ref h0, .int z1]) (n := 2) (Nat.le_of_ble_eq_true rfl)
  rw [lg_entry_eq]
  generalize (lg_sl ([.ref h0, .int z1]) ++ List.replicate (2 - (lg_sl ([.ref h0, .int z1])).length) Slot.unset).toArray = ls at hl ⊢
  have hl : lv_has ls 2 [(0, .ref h0), (1, .int z1)] := hl
  refine lv_iload_n hx hb dX10_count_0 rfl (lv_at hl 1 rfl) ?_
  by_cases hs1 : z1 = 0
  ·
    subst hs1
    refine lv_tableIn (off := 27) (tgt := 28) hx hb dX10_count_1 (by decide) (by decide) (by decide +kernel) (by decide) ?_
    refine lv_aload_n hx hb dX10_count_28 rfl (lv_at hl 0 rfl) ?_
    have hPc := hP.sub (ws' := [(h0, .inr (10, [.ref (ca 0), .ref (ca 1), .int 0, .ref (ca 3), .ref (ca 4), .ref (ca 5), .ref (ca 6)])), (ca 0, .inl (cT, 4, .inr (.inr (.inr (.inr (fun _ => none))))))]) [0, 1] rfl
    have hKc := hK.sub (tys' := [(cT, .object RX9)]) [0] rfl
    have hFc := va_free0 hS hA
    refine va_calli (va_runV (As := []) (rest := []) ⟨hx, hb, hml, hown, hts⟩ (c_countTables l D _ h0 ca cT 0) (cwV 0 hts g_c_X10_count_c_countTables_345 rfl rfl rfl (by decide +kernel) ⟨(Nat.le_of_ble_eq_true rfl), (Nat.le_of_ble_eq_true rfl)⟩) (PcR_V (q0 := 0) hPc hKc rfl rfl) rfl rfl hl.1 rfl (lv_room (Nat.le_of_ble_eq_true rfl)) dX10_count_29 ⟨(Nat.le_of_ble_eq_true rfl), (Nat.le_of_ble_eq_true rfl)⟩) hS (fun q _ h => hFc q h) hFc (fun r2 uu tt H locs htt hvm hw hB hz1 hk1 hS => ?_)
    have hP := va_keep hP hk1
    try dsimp only at hw
    clear hB hz1 hk1 hFc hPc hKc
    obtain rfl : r2 = 0 := hw
    exact W.iret (v := 0) hx hb hr (fun t ht hW => ⟨⟨0, (), rfl, by first | rfl | decide | simp_all, trivial⟩, hS.F ht⟩) hS.2.2 dX10_count_32
  by_cases hs3 : z1 = 1
  ·
    subst hs3
    refine lv_tableIn (off := 32) (tgt := 33) hx hb dX10_count_1 (by decide) (by decide) (by decide +kernel) (by decide) ?_
    refine lv_aload_n hx hb dX10_count_33 rfl (lv_at hl 0 rfl) ?_
    have hPc := hP.sub (ws' := [(h0, .inr (10, [.ref (ca 0), .ref (ca 1), .int 0, .ref (ca 3), .ref (ca 4), .ref (ca 5), .ref (ca 6)])), (ca 0, .inl (cT, 4, .inr (.inr (.inr (.inr (fun _ => none))))))]) [0, 1] rfl
    have hKc := hK.sub (tys' := [(cT, .object RX9)]) [0] rfl
    have hFc := va_free0 hS hA
    refine va_calli (va_runV (As := []) (rest := []) ⟨hx, hb, hml, hown, hts⟩ (c_countKeys l D _ h0 ca cT 0) (cwV 0 hts g_c_X10_count_c_countKeys_348 rfl rfl rfl (by decide +kernel) ⟨(Nat.le_of_ble_eq_true rfl), (Nat.le_of_ble_eq_true rfl)⟩) (PcR_V (q0 := 0) hPc hKc rfl rfl) rfl rfl hl.1 rfl (lv_room (Nat.le_of_ble_eq_true rfl)) dX10_count_34 ⟨(Nat.le_of_ble_eq_true rfl), (Nat.le_of_ble_eq_true rfl)⟩) hS (fun q _ h => hFc q h) hFc (fun r4 uu tt H locs htt hvm hw hB hz1 hk1 hS => ?_)
    have hP := va_keep hP hk1
    try dsimp only at hw
    clear hB hz1 hk1 hFc hPc hKc
    obtain rfl : r4 = 0 := hw
    exact W.iret (v := 0) hx hb hr (fun t ht hW => ⟨⟨0, (), rfl, by first | rfl | decide | simp_all, trivial⟩, hS.F ht⟩) hS.2.2 dX10_count_37
  by_cases hs5 : z1 = 2
  ·
    subst hs5
    refine lv_tableIn (off := 37) (tgt := 38) hx hb dX10_count_1 (by decide) (by decide) (by decide +kernel) (by decide) ?_
    refine lv_aload_n hx hb dX10_count_38 rfl (lv_at hl 0 rfl) ?_
    refine va_get (D := D) (ci := 10) (v := .int 0) (C := RX10) (T := TX10) (N := 7) hx hb hts hin_X10 hown hK hP 0 rfl rfl 2 (by decide) (hts (.fieldLink RX10 19 "ClashFree" "taped" "I") (List.mem_of_getElem? (i := 8) rfl)) (fun _ h9 => h9) rfl dX10_count_39 ?_
    exact W.iret (v := 0) hx hb hr (fun t ht hW => ⟨⟨0, (), rfl, by first | rfl | decide | simp_all, trivial⟩, hS.F ht⟩) hS.2.2 dX10_count_42
  refine lv_tableOut (tgt := 43) hx hb dX10_count_1 (sw3 (by assumption) (by assumption) (by assumption)) (by decide) ?_
  refine lv_iconst (v := (-1)) hx hb dX10_count_43 (by decide) ?_
  exact W.iret (v := (-1)) hx hb hr (fun t ht hW => ⟨⟨(-1), (), rfl, by first | rfl | decide | simp_all, trivial⟩, hS.F ht⟩) hS.2.2 dX10_count_44

def own_c_X11_count : List Cond := [.fieldLink RX11 73 "ClashFreeModel" "thrown" "I", .methodLink RX11 222 yX11_isThere, .instanceMethod yX11_isThere, .selects RX11 yX11_isThere yX11_isThere, .initialized RX11, .methodLink RX11 198 yX11_flag, .static yX11_flag, .fieldLink RX11 76 "ClashFreeModel" "taped" "I"]
def wp_c_X11_count : List Cond := .code yX11_count cX11_count 5 (some .int) :: (own_c_X11_count ++ (wp_c_isThere ++ (wp_c_flag0 ++ (wsX110 ++ ([] : List Cond)))))
set_option maxRecDepth 20000 in
theorem inown_c_X11_count : ∀ w ∈ own_c_X11_count, w ∈ lw_tbl := mem_places [1216, 1466, 1468, 54, 115, 1502, 1503, 1218] (by decide +kernel)
set_option maxRecDepth 20000 in
theorem in_c_X11_count : ∀ w ∈ wp_c_X11_count, w ∈ lw_tbl := List.forall_mem_cons.mpr ⟨List.mem_of_getElem? (i := 1826) (by decide +kernel), List.forall_mem_append.mpr ⟨inown_c_X11_count, List.forall_mem_append.mpr ⟨in_c_isThere, List.forall_mem_append.mpr ⟨in_c_flag0, List.forall_mem_append.mpr ⟨lwb_X11, fun _ h => absurd h List.not_mem_nil⟩⟩⟩⟩⟩
set_option maxRecDepth 20000 in
theorem good_c_X11_count : wp_c_X11_count.all goodWord = true := by decide +kernel
set_option maxRecDepth 20000 in
theorem g_c_X11_count_c_isThere_222 : GoodIn wp_c_X11_count (wsV RX11 222 RX11 yX11_isThere wp_c_isThere) := goodIn_sub (List.forall_mem_append.mpr ⟨List.forall_mem_cons.mpr ⟨(List.mem_of_getElem? (i := 2) rfl), List.forall_mem_cons.mpr ⟨(List.mem_of_getElem? (i := 3) rfl), List.forall_mem_cons.mpr ⟨(List.mem_of_getElem? (i := 4) rfl), List.forall_mem_cons.mpr ⟨(List.mem_of_getElem? (i := 5) rfl), fun _ h => absurd h List.not_mem_nil⟩⟩⟩⟩, (fun _ h => (List.mem_cons_of_mem _ (List.mem_append_right _ (List.mem_append_left _ h))))⟩) (by decide +kernel)
set_option maxRecDepth 20000 in
theorem g_c_X11_count_c_flag0_198 : GoodIn wp_c_X11_count (va_wsS RX11 198 yX11_flag wp_c_flag0) := goodIn_sub (List.forall_mem_append.mpr ⟨List.forall_mem_cons.mpr ⟨(List.mem_of_getElem? (i := 6) rfl), List.forall_mem_cons.mpr ⟨(List.mem_of_getElem? (i := 7) rfl), List.forall_mem_cons.mpr ⟨(List.mem_of_getElem? (i := 5) rfl), fun _ h => absurd h List.not_mem_nil⟩⟩⟩, (fun _ h => (List.mem_cons_of_mem _ (List.mem_append_right _ (List.mem_append_right _ (List.mem_append_left _ h)))))⟩) (by decide +kernel)
set_option maxHeartbeats 4000000 in
set_option maxRecDepth 100000 in
theorem c_X11_count (l : Launch) (D : va_G) (sz : Nat) (h0 : Nat) (a : Nat → Nat) (cN : ClassId) (sd : Int64) (pa : Int64) (pb : Int64) (dr : Int32) (z1 : Int32)  : Met l yX11_count wp_c_X11_count ({ frames := 2, cells := 0, slots := 0, locals := 46 }) (PcW D [.ref h0, .int z1] sz [(h0, .inr (11, fM a 0 sd pa pb dr)), (a 3, .inl (cN, 85, .inr (.inl (fun _ => 0))))] [(cN, .long)]) (va_Qi (fun (r : Int32) (_ : Unit) => r = if z1 = 0 ∨ z1 = 1 ∨ z1 = 2 then 0 else -1) (fun (_ : Unit) _ => True) (va_A [(h0, .inr (11, fM a 0 sd pa pb dr)), (a 3, .inl (cN, 85, .inr (.inl (fun _ => 0))))] sz)) 0 0 (va_A [(h0, .inr (11, fM a 0 sd pa pb dr)), (a 3, .inl (cN, 85, .inr (.inl (fun _ => 0))))] sz) := by
  refine Met.ofW (cc := cX11_count) (maxL := 5) (ret := (some .int)) (by decide) rfl ?_
  intro p e s m args below meth c s₁ B hml hv
  obtain ⟨rfl, hsz, hP, hK, hD0⟩ := hv
  have hx := B.exec
  have hb := B.bytes
  have hr := B.returns
  have hts := atoms_spec (ws := wp_c_X11_count) B.pre
  have hin_X11 : ∀ w ∈ wsX110, w ∈ wp_c_X11_count := fun _ h => (List.mem_cons_of_mem _ (List.mem_append_right _ (List.mem_append_right _ (List.mem_append_right _ (List.mem_append_left _ h)))))
  have hown : s.vm.findClass RX11 = some m.cls := findClass_of_methodNamed B.named
  have hlocks := B.notSynchronized
  subst hsz
  have hD := hD0.self (sz := s.heap.size)
  generalize hAe : va_A [(h0, .inr (11, fM a 0 sd pa pb dr)), (a 3, .inl (cN, 85, .inr (.inl (fun _ => 0))))] s.heap.size = A at hD ⊢
  have hA : ∀ q : Nat, s.heap.size ≤ q → A q := fun q h => by rw [← hAe]; exact Or.inr h
  have hS : va_S A s.heap s.heap [] := va_S.rf
  have hP : va_P D vwCl [(h0, .inr (11, fM a 0 sd pa pb dr)), (a 3, .inl (cN, 85, .inr (.inl (fun _ => 0))))] s.heap := hP
  have hl := lv_entry ([.ref h0, .int z1]) (n := 5) (Nat.le_of_ble_eq_true rfl)
  rw [lg_entry_eq]
  generalize (lg_sl ([.ref h0, .int z1]) ++ List.replicate (5 - (lg_sl ([.ref h0, .int z1])).length) Slot.unset).toArray = ls at hl ⊢
  have hl : lv_has ls 5 [(0, .ref h0), (1, .int z1)] := hl
  refine lv_aload_n hx hb dX11_count_0 rfl (lv_at hl 0 rfl) ?_
  refine lv_iconst (v := 0) hx hb dX11_count_1 (by decide) ?_
  refine va_put (D := D) (ci := 11) (v := .int 0) (ty := .int) (C := RX11) (T := TX11) (N := 47) hx hb hts hin_X11 tyX11 tyX11_ok nmX11 hown hK hP hD hS 0 rfl rfl 0 (by decide) (hts (.fieldLink RX11 73 "ClashFreeModel" "thrown" "I") (List.mem_of_getElem? (i := 1) rfl)) (fun _ h9 => h9) rfl (by decide +kernel) rfl rfl (Nat.le_of_ble_eq_true rfl) dX11_count_2 (fun H locs hP hD hS => ?_)
  have hP : va_P D vwCl [(h0, .inr (11, fM a 0 sd pa pb dr)), (a 3, .inl (cN, 85, .inr (.inl (fun _ => 0))))] H := hP
  have hD : va_D A [(h0, .inr (11, fM a 0 sd pa pb dr)), (a 3, .inl (cN, 85, .inr (.inl (fun _ => 0))))] := hD
  refine lv_iconst (v := 0) hx hb dX11_count_5 (by decide) ?_
  refine lv_istore_n (lv' := [(2, .int 0), (0, .ref h0), (1, .int z1)]) hx hb dX11_count_6 rfl hl (by decide) rfl (fun ls hl => ?_)
  refine lv_iconst (v := 0) hx hb dX11_count_7 (by decide) ?_
  refine lv_istore_n (lv' := [(3, .int 0), (2, .int 0), (0, .ref h0), (1, .int z1)]) hx hb dX11_count_8 rfl hl (by decide) rfl (fun ls hl => ?_)
  refine lv_iconst (v := 0) hx hb dX11_count_9 (by decide) ?_
  refine lv_istore (lv' := [(4, .int 0), (3, .int 0), (2, .int 0), (0, .ref h0), (1, .int z1)]) hx hb dX11_count_10 hl (by decide) rfl (fun ls hl => ?_)
  refine lv_iload hx hb dX11_count_12 (lv_at hl 0 rfl) ?_
  refine lv_iconst (v := 4) hx hb dX11_count_14 (by decide) ?_
  refine lv_icmp_ge (tgt := 58) hx hb dX11_count_15 (by decide) (fun hc => absurd hc (by decide)) (fun hc => ?_)
  refine lv_iload_n hx hb dX11_count_18 rfl (lv_at hl 2 rfl) ?_
  refine lv_aload_n hx hb dX11_count_19 rfl (lv_at hl 3 rfl) ?_
  refine lv_iload hx hb dX11_count_20 (lv_at hl 0 rfl) ?_
  have hPc := hP.sub (ws' := [(h0, .inr (11, fM a 0 sd pa pb dr)), (a 3, .inl (cN, 85, .inr (.inl (fun _ => 0))))]) [0, 1] rfl
  have hKc := hK.sub (tys' := [(cN, .long)]) [0] rfl
  have hFc := va_free0 hS hA
  refine va_calli (va_runV (As := [.int 0]) (rest := [.int 0]) ⟨hx, hb, hml, hown, hts⟩ (c_isThere l D _ h0 a cN 0 sd pa pb dr 0) (cwV 1 hts g_c_X11_count_c_isThere_222 rfl rfl rfl (by decide +kernel) ⟨(Nat.le_of_ble_eq_true rfl), (Nat.le_of_ble_eq_true rfl)⟩) (PcR_V (q0 := 0) hPc hKc rfl rfl) rfl rfl hl.1 rfl (lv_room (Nat.le_of_ble_eq_true rfl)) dX11_count_22 ⟨(Nat.le_of_ble_eq_true rfl), (Nat.le_of_ble_eq_true rfl)⟩) hS (fun q _ h => hFc q h) hFc (fun r1 uu tt H locs htt hvm hw hB hz1 hk1 hS => ?_)
  have hP := va_keep hP hk1
  try dsimp only at hw
  clear hB hz1 hk1 hFc hPc hKc
  obtain rfl : r1 = 0 := hw
  have hPc := hP.sub (ws' := []) [] rfl
  have hKc := hK.sub (tys' := []) [] rfl
  have hFc := va_free0 hS hA
  refine va_calli (va_runS (As := [.int 0]) (rest := [.int 0]) ⟨hx, hb, hml, hown, hts⟩ (c_flag0 l D _ ) (va_cwS 1 hts g_c_X11_count_c_flag0_198 rfl rfl rfl (by decide +kernel) ⟨(Nat.le_of_ble_eq_true rfl), (Nat.le_of_ble_eq_true rfl)⟩) (PcR_S hPc hKc) rfl rfl hl.1 rfl (lv_room (Nat.le_of_ble_eq_true rfl)) dX11_count_25 ⟨(Nat.le_of_ble_eq_true rfl), (Nat.le_of_ble_eq_true rfl)⟩) hS (fun q _ h => hFc q h) hFc (fun r2 uu tt H locs htt hvm hw hB hz1 hk1 hS => ?_)
  have hP := va_keep hP hk1
  try dsimp only at hw
  clear hB hz1 hk1 hFc hPc hKc
  obtain rfl : r2 = 0 := hw
  refine lv_iadd hx hb dX11_count_28 ?_
  refine lv_topi (fun v3 ev3 => ?_)
  obtain rfl : v3 = 0 := ev3.trans (by decide)
  refine lv_istore_n (lv' := [(2, .int 0), (4, .int 0), (3, .int 0), (0, .ref h0), (1, .int z1)]) hx hb dX11_count_29 rfl hl (by decide) rfl (fun ls hl => ?_)
  refine lv_iload_n hx hb dX11_count_30 rfl (lv_at hl 2 rfl) ?_
  refine lv_aload_n hx hb dX11_count_31 rfl (lv_at hl 3 rfl) ?_
  refine lv_iload hx hb dX11_count_32 (lv_at hl 1 rfl) ?_
  have hPc := hP.sub (ws' := [(h0, .inr (11, fM a 0 sd pa pb dr)), (a 3, .inl (cN, 85, .inr (.inl (fun _ => 0))))]) [0, 1] rfl
  have hKc := hK.sub (tys' := [(cN, .long)]) [0] rfl
  have hFc := va_free0 hS hA
  refine va_calli (va_runV (As := [.int 0]) (rest := [.int 0]) ⟨hx, hb, hml, hown, hts⟩ (c_isThere l D _ h0 a cN 0 sd pa pb dr 0) (cwV 1 hts g_c_X11_count_c_isThere_222 rfl rfl rfl (by decide +kernel) ⟨(Nat.le_of_ble_eq_true rfl), (Nat.le_of_ble_eq_true rfl)⟩) (PcR_V (q0 := 0) hPc hKc rfl rfl) rfl rfl hl.1 rfl (lv_room (Nat.le_of_ble_eq_true rfl)) dX11_count_34 ⟨(Nat.le_of_ble_eq_true rfl), (Nat.le_of_ble_eq_true rfl)⟩) hS (fun q _ h => hFc q h) hFc (fun r4 uu tt H locs htt hvm hw hB hz1 hk1 hS => ?_)
  have hP := va_keep hP hk1
  try dsimp only at hw
  clear hB hz1 hk1 hFc hPc hKc
  obtain rfl : r4 = 0 := hw
  refine lv_if_eq (tgt := 49) hx hb dX11_count_37 (by decide) (fun hc => ?_) (fun hc => absurd (by decide) hc)
  refine lv_iconst (v := 0) hx hb dX11_count_49 (by decide) ?_
  refine lv_iadd hx hb dX11_count_50 ?_
  refine lv_topi (fun v5 ev5 => ?_)
  obtain rfl : v5 = 0 := ev5.trans (by decide)
  refine lv_istore_n (lv' := [(3, .int 0), (2, .int 0), (4, .int 0), (0, .ref h0), (1, .int z1)]) hx hb dX11_count_51 rfl hl (by decide) rfl (fun ls hl => ?_)
  refine lv_iinc (v := 1) (lv' := [(4, .int 1), (3, .int 0), (2, .int 0), (0, .ref h0), (1, .int z1)]) hx hb dX11_count_52 hl (k := 2) rfl (by decide) (by decide) rfl (fun ls hl => ?_)
  refine lv_goto (tgt := 12) hx hb dX11_count_55 (by decide) ?_
  refine lv_iload hx hb dX11_count_12 (lv_at hl 0 rfl) ?_
  refine lv_iconst (v := 4) hx hb dX11_count_14 (by decide) ?_
  refine lv_icmp_ge (tgt := 58) hx hb dX11_count_15 (by decide) (fun hc => absurd hc (by decide)) (fun hc => ?_)
  refine lv_iload_n hx hb dX11_count_18 rfl (lv_at hl 2 rfl) ?_
  refine lv_aload_n hx hb dX11_count_19 rfl (lv_at hl 3 rfl) ?_
  refine lv_iload hx hb dX11_count_20 (lv_at hl 0 rfl) ?_
  have hPc := hP.sub (ws' := [(h0, .inr (11, fM a 0 sd pa pb dr)), (a 3, .inl (cN, 85, .inr (.inl (fun _ => 0))))]) [0, 1] rfl
  have hKc := hK.sub (tys' := [(cN, .long)]) [0] rfl
  have hFc := va_free0 hS hA
  refine va_calli (va_runV (As := [.int 1]) (rest := [.int 0]) ⟨hx, hb, hml, hown, hts⟩ (c_isThere l D _ h0 a cN 0 sd pa pb dr 1) (cwV 1 hts g_c_X11_count_c_isThere_222 rfl rfl rfl (by decide +kernel) ⟨(Nat.le_of_ble_eq_true rfl), (Nat.le_of_ble_eq_true rfl)⟩) (PcR_V (q0 := 0) hPc hKc rfl rfl) rfl rfl hl.1 rfl (lv_room (Nat.le_of_ble_eq_true rfl)) dX11_count_22 ⟨(Nat.le_of_ble_eq_true rfl), (Nat.le_of_ble_eq_true rfl)⟩) hS (fun q _ h => hFc q h) hFc (fun r6 uu tt H locs htt hvm hw hB hz1 hk1 hS => ?_)
  have hP := va_keep hP hk1
  try dsimp only at hw
  clear hB hz1 hk1 hFc hPc hKc
  obtain rfl : r6 = 0 := hw
  have hPc := hP.sub (ws' := []) [] rfl
  have hKc := hK.sub (tys' := []) [] rfl
  have hFc := va_free0 hS hA
  refine va_calli (va_runS (As := [.int 0]) (rest := [.int 0]) ⟨hx, hb, hml, hown, hts⟩ (c_flag0 l D _ ) (va_cwS 1 hts g_c_X11_count_c_flag0_198 rfl rfl rfl (by decide +kernel) ⟨(Nat.le_of_ble_eq_true rfl), (Nat.le_of_ble_eq_true rfl)⟩) (PcR_S hPc hKc) rfl rfl hl.1 rfl (lv_room (Nat.le_of_ble_eq_true rfl)) dX11_count_25 ⟨(Nat.le_of_ble_eq_true rfl), (Nat.le_of_ble_eq_true rfl)⟩) hS (fun q _ h => hFc q h) hFc (fun r7 uu tt H locs htt hvm hw hB hz1 hk1 hS => ?_)
  have hP := va_keep hP hk1
  try dsimp only at hw
  clear hB hz1 hk1 hFc hPc hKc
  obtain rfl : r7 = 0 := hw
  refine lv_iadd hx hb dX11_count_28 ?_
  refine lv_topi (fun v8 ev8 => ?_)
  obtain rfl : v8 = 0 := ev8.trans (by decide)
  refine lv_istore_n (lv' := [(2, .int 0), (4, .int 1), (3, .int 0), (0, .ref h0), (1, .int z1)]) hx hb dX11_count_29 rfl hl (by decide) rfl (fun ls hl => ?_)
  refine lv_iload_n hx hb dX11_count_30 rfl (lv_at hl 2 rfl) ?_
  refine lv_aload_n hx hb dX11_count_31 rfl (lv_at hl 3 rfl) ?_
  refine lv_iload hx hb dX11_count_32 (lv_at hl 1 rfl) ?_
  have hPc := hP.sub (ws' := [(h0, .inr (11, fM a 0 sd pa pb dr)), (a 3, .inl (cN, 85, .inr (.inl (fun _ => 0))))]) [0, 1] rfl
  have hKc := hK.sub (tys' := [(cN, .long)]) [0] rfl
  have hFc := va_free0 hS hA
  refine va_calli (va_runV (As := [.int 1]) (rest := [.int 0]) ⟨hx, hb, hml, hown, hts⟩ (c_isThere l D _ h0 a cN 0 sd pa pb dr 1) (cwV 1 hts g_c_X11_count_c_isThere_222 rfl rfl rfl (by decide +kernel) ⟨(Nat.le_of_ble_eq_true rfl), (Nat.le_of_ble_eq_true rfl)⟩) (PcR_V (q0 := 0) hPc hKc rfl rfl) rfl rfl hl.1 rfl (lv_room (Nat.le_of_ble_eq_true rfl)) dX11_count_34 ⟨(Nat.le_of_ble_eq_true rfl), (Nat.le_of_ble_eq_true rfl)⟩) hS (fun q _ h => hFc q h) hFc (fun r9 uu tt H locs htt hvm hw hB hz1 hk1 hS => ?_)
  have hP := va_keep hP hk1
  try dsimp only at hw
  clear hB hz1 hk1 hFc hPc hKc
  obtain rfl : r9 = 0 := hw
  refine lv_if_eq (tgt := 49) hx hb dX11_count_37 (by decide) (fun hc => ?_) (fun hc => absurd (by decide) hc)
  refine lv_iconst (v := 0) hx hb dX11_count_49 (by decide) ?_
  refine lv_iadd hx hb dX11_count_50 ?_
  refine lv_topi (fun v10 ev10 => ?_)
  obtain rfl : v10 = 0 := ev10.trans (by decide)
  refine lv_istore_n (lv' := [(3, .int 0), (2, .int 0), (4, .int 1), (0, .ref h0), (1, .int z1)]) hx hb dX11_count_51 rfl hl (by decide) rfl (fun ls hl => ?_)
  refine lv_iinc (v := 2) (lv' := [(4, .int 2), (3, .int 0), (2, .int 0), (0, .ref h0), (1, .int z1)]) hx hb dX11_count_52 hl (k := 2) rfl (by decide) (by decide) rfl (fun ls hl => ?_)
  refine lv_goto (tgt := 12) hx hb dX11_count_55 (by decide) ?_
  refine lv_iload hx hb dX11_count_12 (lv_at hl 0 rfl) ?_
  refine lv_iconst (v := 4) hx hb dX11_count_14 (by decide) ?_
  refine lv_icmp_ge (tgt := 58) hx hb dX11_count_15 (by decide) (fun hc => absurd hc (by decide)) (fun hc => ?_)
  refine lv_iload_n hx hb dX11_count_18 rfl (lv_at hl 2 rfl) ?_
  refine lv_aload_n hx hb dX11_count_19 rfl (lv_at hl 3 rfl) ?_
  refine lv_iload hx hb dX11_count_20 (lv_at hl 0 rfl) ?_
  have hPc := hP.sub (ws' := [(h0, .inr (11, fM a 0 sd pa pb dr)), (a 3, .inl (cN, 85, .inr (.inl (fun _ => 0))))]) [0, 1] rfl
  have hKc := hK.sub (tys' := [(cN, .long)]) [0] rfl
  have hFc := va_free0 hS hA
  refine va_calli (va_runV (As := [.int 2]) (rest := [.int 0]) ⟨hx, hb, hml, hown, hts⟩ (c_isThere l D _ h0 a cN 0 sd pa pb dr 2) (cwV 1 hts g_c_X11_count_c_isThere_222 rfl rfl rfl (by decide +kernel) ⟨(Nat.le_of_ble_eq_true rfl), (Nat.le_of_ble_eq_true rfl)⟩) (PcR_V (q0 := 0) hPc hKc rfl rfl) rfl rfl hl.1 rfl (lv_room (Nat.le_of_ble_eq_true rfl)) dX11_count_22 ⟨(Nat.le_of_ble_eq_true rfl), (Nat.le_of_ble_eq_true rfl)⟩) hS (fun q _ h => hFc q h) hFc (fun r11 uu tt H locs htt hvm hw hB hz1 hk1 hS => ?_)
  have hP := va_keep hP hk1
  try dsimp only at hw
  clear hB hz1 hk1 hFc hPc hKc
  obtain rfl : r11 = 0 := hw
  have hPc := hP.sub (ws' := []) [] rfl
  have hKc := hK.sub (tys' := []) [] rfl
  have hFc := va_free0 hS hA
  refine va_calli (va_runS (As := [.int 0]) (rest := [.int 0]) ⟨hx, hb, hml, hown, hts⟩ (c_flag0 l D _ ) (va_cwS 1 hts g_c_X11_count_c_flag0_198 rfl rfl rfl (by decide +kernel) ⟨(Nat.le_of_ble_eq_true rfl), (Nat.le_of_ble_eq_true rfl)⟩) (PcR_S hPc hKc) rfl rfl hl.1 rfl (lv_room (Nat.le_of_ble_eq_true rfl)) dX11_count_25 ⟨(Nat.le_of_ble_eq_true rfl), (Nat.le_of_ble_eq_true rfl)⟩) hS (fun q _ h => hFc q h) hFc (fun r12 uu tt H locs htt hvm hw hB hz1 hk1 hS => ?_)
  have hP := va_keep hP hk1
  try dsimp only at hw
  clear hB hz1 hk1 hFc hPc hKc
  obtain rfl : r12 = 0 := hw
  refine lv_iadd hx hb dX11_count_28 ?_
  refine lv_topi (fun v13 ev13 => ?_)
  obtain rfl : v13 = 0 := ev13.trans (by decide)
  refine lv_istore_n (lv' := [(2, .int 0), (4, .int 2), (3, .int 0), (0, .ref h0), (1, .int z1)]) hx hb dX11_count_29 rfl hl (by decide) rfl (fun ls hl => ?_)
  refine lv_iload_n hx hb dX11_count_30 rfl (lv_at hl 2 rfl) ?_
  refine lv_aload_n hx hb dX11_count_31 rfl (lv_at hl 3 rfl) ?_
  refine lv_iload hx hb dX11_count_32 (lv_at hl 1 rfl) ?_
  have hPc := hP.sub (ws' := [(h0, .inr (11, fM a 0 sd pa pb dr)), (a 3, .inl (cN, 85, .inr (.inl (fun _ => 0))))]) [0, 1] rfl
  have hKc := hK.sub (tys' := [(cN, .long)]) [0] rfl
  have hFc := va_free0 hS hA
  refine va_calli (va_runV (As := [.int 2]) (rest := [.int 0]) ⟨hx, hb, hml, hown, hts⟩ (c_isThere l D _ h0 a cN 0 sd pa pb dr 2) (cwV 1 hts g_c_X11_count_c_isThere_222 rfl rfl rfl (by decide +kernel) ⟨(Nat.le_of_ble_eq_true rfl), (Nat.le_of_ble_eq_true rfl)⟩) (PcR_V (q0 := 0) hPc hKc rfl rfl) rfl rfl hl.1 rfl (lv_room (Nat.le_of_ble_eq_true rfl)) dX11_count_34 ⟨(Nat.le_of_ble_eq_true rfl), (Nat.le_of_ble_eq_true rfl)⟩) hS (fun q _ h => hFc q h) hFc (fun r14 uu tt H locs htt hvm hw hB hz1 hk1 hS => ?_)
  have hP := va_keep hP hk1
  try dsimp only at hw
  clear hB hz1 hk1 hFc hPc hKc
  obtain rfl : r14 = 0 := hw
  refine lv_if_eq (tgt := 49) hx hb dX11_count_37 (by decide) (fun hc => ?_) (fun hc => absurd (by decide) hc)
  refine lv_iconst (v := 0) hx hb dX11_count_49 (by decide) ?_
  refine lv_iadd hx hb dX11_count_50 ?_
  refine lv_topi (fun v15 ev15 => ?_)
  obtain rfl : v15 = 0 := ev15.trans (by decide)
  refine lv_istore_n (lv' := [(3, .int 0), (2, .int 0), (4, .int 2), (0, .ref h0), (1, .int z1)]) hx hb dX11_count_51 rfl hl (by decide) rfl (fun ls hl => ?_)
  refine lv_iinc (v := 3) (lv' := [(4, .int 3), (3, .int 0), (2, .int 0), (0, .ref h0), (1, .int z1)]) hx hb dX11_count_52 hl (k := 2) rfl (by decide) (by decide) rfl (fun ls hl => ?_)
  refine lv_goto (tgt := 12) hx hb dX11_count_55 (by decide) ?_
  refine lv_iload hx hb dX11_count_12 (lv_at hl 0 rfl) ?_
  refine lv_iconst (v := 4) hx hb dX11_count_14 (by decide) ?_
  refine lv_icmp_ge (tgt := 58) hx hb dX11_count_15 (by decide) (fun hc => absurd hc (by decide)) (fun hc => ?_)
  refine lv_iload_n hx hb dX11_count_18 rfl (lv_at hl 2 rfl) ?_
  refine lv_aload_n hx hb dX11_count_19 rfl (lv_at hl 3 rfl) ?_
  refine lv_iload hx hb dX11_count_20 (lv_at hl 0 rfl) ?_
  have hPc := hP.sub (ws' := [(h0, .inr (11, fM a 0 sd pa pb dr)), (a 3, .inl (cN, 85, .inr (.inl (fun _ => 0))))]) [0, 1] rfl
  have hKc := hK.sub (tys' := [(cN, .long)]) [0] rfl
  have hFc := va_free0 hS hA
  refine va_calli (va_runV (As := [.int 3]) (rest := [.int 0]) ⟨hx, hb, hml, hown, hts⟩ (c_isThere l D _ h0 a cN 0 sd pa pb dr 3) (cwV 1 hts g_c_X11_count_c_isThere_222 rfl rfl rfl (by decide +kernel) ⟨(Nat.le_of_ble_eq_true rfl), (Nat.le_of_ble_eq_true rfl)⟩) (PcR_V (q0 := 0) hPc hKc rfl rfl) rfl rfl hl.1 rfl (lv_room (Nat.le_of_ble_eq_true rfl)) dX11_count_22 ⟨(Nat.le_of_ble_eq_true rfl), (Nat.le_of_ble_eq_true rfl)⟩) hS (fun q _ h => hFc q h) hFc (fun r16 uu tt H locs htt hvm hw hB hz1 hk1 hS => ?_)
  have hP := va_keep hP hk1
  try dsimp only at hw
  clear hB hz1 hk1 hFc hPc hKc
  obtain rfl : r16 = 0 := hw
  have hPc := hP.sub (ws' := []) [] rfl
  have hKc := hK.sub (tys' := []) [] rfl
  have hFc := va_free0 hS hA
  refine va_calli (va_runS (As := [.int 0]) (rest := [.int 0]) ⟨hx, hb, hml, hown, hts⟩ (c_flag0 l D _ ) (va_cwS 1 hts g_c_X11_count_c_flag0_198 rfl rfl rfl (by decide +kernel) ⟨(Nat.le_of_ble_eq_true rfl), (Nat.le_of_ble_eq_true rfl)⟩) (PcR_S hPc hKc) rfl rfl hl.1 rfl (lv_room (Nat.le_of_ble_eq_true rfl)) dX11_count_25 ⟨(Nat.le_of_ble_eq_true rfl), (Nat.le_of_ble_eq_true rfl)⟩) hS (fun q _ h => hFc q h) hFc (fun r17 uu tt H locs htt hvm hw hB hz1 hk1 hS => ?_)
  have hP := va_keep hP hk1
  try dsimp only at hw
  clear hB hz1 hk1 hFc hPc hKc
  obtain rfl : r17 = 0 := hw
  refine lv_iadd hx hb dX11_count_28 ?_
  refine lv_topi (fun v18 ev18 => ?_)
  obtain rfl : v18 = 0 := ev18.trans (by decide)
  refine lv_istore_n (lv' := [(2, .int 0), (4, .int 3), (3, .int 0), (0, .ref h0), (1, .int z1)]) hx hb dX11_count_29 rfl hl (by decide) rfl (fun ls hl => ?_)
  refine lv_iload_n hx hb dX11_count_30 rfl (lv_at hl 2 rfl) ?_
  refine lv_aload_n hx hb dX11_count_31 rfl (lv_at hl 3 rfl) ?_
  refine lv_iload hx hb dX11_count_32 (lv_at hl 1 rfl) ?_
  have hPc := hP.sub (ws' := [(h0, .inr (11, fM a 0 sd pa pb dr)), (a 3, .inl (cN, 85, .inr (.inl (fun _ => 0))))]) [0, 1] rfl
  have hKc := hK.sub (tys' := [(cN, .long)]) [0] rfl
  have hFc := va_free0 hS hA
  refine va_calli (va_runV (As := [.int 3]) (rest := [.int 0]) ⟨hx, hb, hml, hown, hts⟩ (c_isThere l D _ h0 a cN 0 sd pa pb dr 3) (cwV 1 hts g_c_X11_count_c_isThere_222 rfl rfl rfl (by decide +kernel) ⟨(Nat.le_of_ble_eq_true rfl), (Nat.le_of_ble_eq_true rfl)⟩) (PcR_V (q0 := 0) hPc hKc rfl rfl) rfl rfl hl.1 rfl (lv_room (Nat.le_of_ble_eq_true rfl)) dX11_count_34 ⟨(Nat.le_of_ble_eq_true rfl), (Nat.le_of_ble_eq_true rfl)⟩) hS (fun q _ h => hFc q h) hFc (fun r19 uu tt H locs htt hvm hw hB hz1 hk1 hS => ?_)
  have hP := va_keep hP hk1
  try dsimp only at hw
  clear hB hz1 hk1 hFc hPc hKc
  obtain rfl : r19 = 0 := hw
  refine lv_if_eq (tgt := 49) hx hb dX11_count_37 (by decide) (fun hc => ?_) (fun hc => absurd (by decide) hc)
  refine lv_iconst (v := 0) hx hb dX11_count_49 (by decide) ?_
  refine lv_iadd hx hb dX11_count_50 ?_
  refine lv_topi (fun v20 ev20 => ?_)
  obtain rfl : v20 = 0 := ev20.trans (by decide)
  refine lv_istore_n (lv' := [(3, .int 0), (2, .int 0), (4, .int 3), (0, .ref h0), (1, .int z1)]) hx hb dX11_count_51 rfl hl (by decide) rfl (fun ls hl => ?_)
  refine lv_iinc (v := 4) (lv' := [(4, .int 4), (3, .int 0), (2, .int 0), (0, .ref h0), (1, .int z1)]) hx hb dX11_count_52 hl (k := 2) rfl (by decide) (by decide) rfl (fun ls hl => ?_)
  refine lv_goto (tgt := 12) hx hb dX11_count_55 (by decide) ?_
  refine lv_iload hx hb dX11_count_12 (lv_at hl 0 rfl) ?_
  refine lv_iconst (v := 4) hx hb dX11_count_14 (by decide) ?_
  refine lv_icmp_ge (tgt := 58) hx hb dX11_count_15 (by decide) (fun hc => ?_) (fun hc => absurd (by decide) hc)
  refine lv_iload_n hx hb dX11_count_58 rfl (lv_at hl 4 rfl) ?_
  refine lv_if_ne (tgt := 66) hx hb dX11_count_59 (by decide) (fun hc21 => ?_) (fun hc21 => ?_)
  ·
    refine lv_iload_n hx hb dX11_count_66 rfl (lv_at hl 4 rfl) ?_
    refine lv_iconst (v := 1) hx hb dX11_count_67 (by decide) ?_
    refine lv_icmp_ne (tgt := 75) hx hb dX11_count_68 (by decide) (fun hc22 => ?_) (fun hc22 => ?_)
    ·
      refine lv_iload_n hx hb dX11_count_75 rfl (lv_at hl 4 rfl) ?_
      refine lv_iconst (v := 2) hx hb dX11_count_76 (by decide) ?_
      refine lv_icmp_ne (tgt := 87) hx hb dX11_count_77 (by decide) (fun hc23 => ?_) (fun hc23 => ?_)
      ·
        refine lv_iconst (v := (-1)) hx hb dX11_count_87 (by decide) ?_
        exact W.iret (v := (-1)) hx hb hr (fun t ht hW => ⟨⟨(-1), (), rfl, by first | (rw [if_pos (Or.inl (by assumption))]) | (rw [if_pos (Or.inr (Or.inl (by assumption)))]) | (rw [if_pos (Or.inr (Or.inr (by assumption)))]) | (rw [if_neg (fun h => by rcases h with h | h | h <;> contradiction)]), trivial⟩, hS.F ht⟩) hS.2.2 dX11_count_88
      ·
        refine lv_aload_n hx hb dX11_count_80 rfl (lv_at hl 3 rfl) ?_
        refine va_get (D := D) (ci := 11) (v := .int 0) (C := RX11) (T := TX11) (N := 47) hx hb hts hin_X11 hown hK hP 0 rfl rfl 2 (by decide) (hts (.fieldLink RX11 76 "ClashFreeModel" "taped" "I") (List.mem_of_getElem? (i := 8) rfl)) (fun _ h9 => h9) rfl dX11_count_81 ?_
        refine lv_goto (tgt := 88) hx hb dX11_count_84 (by decide) ?_
        exact W.iret (v := 0) hx hb hr (fun t ht hW => ⟨⟨0, (), rfl, by first | (rw [if_pos (Or.inl (by assumption))]) | (rw [if_pos (Or.inr (Or.inl (by assumption)))]) | (rw [if_pos (Or.inr (Or.inr (by assumption)))]) | (rw [if_neg (fun h => by rcases h with h | h | h <;> contradiction)]), trivial⟩, hS.F ht⟩) hS.2.2 dX11_count_88
    ·
      refine lv_iload_n hx hb dX11_count_71 rfl (lv_at hl 1 rfl) ?_
      refine lv_goto (tgt := 88) hx hb dX11_count_72 (by decide) ?_
      exact W.iret (v := 0) hx hb hr (fun t ht hW => ⟨⟨0, (), rfl, by first | (rw [if_pos (Or.inl (by assumption))]) | (rw [if_pos (Or.inr (Or.inl (by assumption)))]) | (rw [if_pos (Or.inr (Or.inr (by assumption)))]) | (rw [if_neg (fun h => by rcases h with h | h | h <;> contradiction)]), trivial⟩, hS.F ht⟩) hS.2.2 dX11_count_88
  ·
    refine lv_iload_n hx hb dX11_count_62 rfl (lv_at hl 2 rfl) ?_
    refine lv_goto (tgt := 88) hx hb dX11_count_63 (by decide) ?_
    exact W.iret (v := 0) hx hb hr (fun t ht hW => ⟨⟨0, (), rfl, by first | (rw [if_pos (Or.inl (by assumption))]) | (rw [if_pos (Or.inr (Or.inl (by assumption)))]) | (rw [if_pos (Or.inr (Or.inr (by assumption)))]) | (rw [if_neg (fun h => by rcases h with h | h | h <;> contradiction)]), trivial⟩, hS.F ht⟩) hS.2.2 dX11_count_88

def own_c_X10_octet : List Cond := [.fieldLink RX10 33 "ClashFree" "written" "LClashFree$Image;", .fieldLink RX10 316 "ClashFree$Image" "length" "I"]
def wp_c_X10_octet : List Cond := .code yX10_octet cX10_octet 2 (some .int) :: (own_c_X10_octet ++ (wsX100 ++ (wsX10 ++ ([] : List Cond))))
set_option maxRecDepth 20000 in
theorem inown_c_X10_octet : ∀ w ∈ own_c_X10_octet, w ∈ lw_tbl := mem_places [416, 258] (by decide +kernel)
set_option maxRecDepth 20000 in
theorem in_c_X10_octet : ∀ w ∈ wp_c_X10_octet, w ∈ lw_tbl := List.forall_mem_cons.mpr ⟨List.mem_of_getElem? (i := 1161) (by decide +kernel), List.forall_mem_append.mpr ⟨inown_c_X10_octet, List.forall_mem_append.mpr ⟨lwb_X10, List.forall_mem_append.mpr ⟨lwb_X1, fun _ h => absurd h List.not_mem_nil⟩⟩⟩⟩
set_option maxRecDepth 20000 in
theorem good_c_X10_octet : wp_c_X10_octet.all goodWord = true := by decide +kernel
set_option maxHeartbeats 4000000 in
set_option maxRecDepth 100000 in
theorem c_X10_octet (l : Launch) (D : va_G) (sz : Nat) (h0 : Nat) (ca : Nat → Nat) (tp : Int32) (qi : Nat) (z1 : Int32)  : Met l yX10_octet wp_c_X10_octet ({ frames := 0, cells := 0, slots := 0, locals := 0 }) (PcR D [.ref h0, .int z1] sz [(h0, .inr (10, [.ref (ca 0), .ref (ca 1), .int tp, .ref (ca 3), .ref (ca 4), .ref (ca 5), .ref (ca 6)])), (ca 4, .inr (1, [.int 0, .ref qi]))] []) (va_Qi (fun (r : Int32) (_ : Unit) => r = -1) (fun (_ : Unit) _ => True) (va_A [] sz)) 0 0 (va_A [] sz) := by
  refine Met.ofW (cc := cX10_octet) (maxL := 2) (ret := (some .int)) (by decide) rfl ?_
  intro p e s m args below meth c s₁ B hml hv
  obtain ⟨rfl, hsz, hP, hK⟩ := hv
  have hx := B.exec
  have hb := B.bytes
  have hr := B.returns
  have hts := atoms_spec (ws := wp_c_X10_octet) B.pre
  have hin_X10 : ∀ w ∈ wsX100, w ∈ wp_c_X10_octet := fun _ h => (List.mem_cons_of_mem _ (List.mem_append_right _ (List.mem_append_left _ h)))
  have hin_X1 : ∀ w ∈ wsX10, w ∈ wp_c_X10_octet := fun _ h => (List.mem_cons_of_mem _ (List.mem_append_right _ (List.mem_append_right _ (List.mem_append_left _ h))))
  have hown : s.vm.findClass RX10 = some m.cls := findClass_of_methodNamed B.named
  have hlocks := B.notSynchronized
  subst hsz
  generalize hAe : va_A [] s.heap.size = A at ⊢
  have hA : ∀ q : Nat, s.heap.size ≤ q → A q := fun q h => by rw [← hAe]; exact Or.inr h
  have hS : va_S A s.heap s.heap [] := va_S.rf
  have hP : va_P D vwCl [(h0, .inr (10, [.ref (ca 0), .ref (ca 1), .int tp, .ref (ca 3), .ref (ca 4), .ref (ca 5), .ref (ca 6)])), (ca 4, .inr (1, [.int 0, .ref qi]))] s.heap := hP
  have hl := lv_entry ([.ref h0, .int z1]) (n := 2) (Nat.le_of_ble_eq_true rfl)
  rw [lg_entry_eq]
  generalize (lg_sl ([.ref h0, .int z1]) ++ List.replicate (2 - (lg_sl ([.ref h0, .int z1])).length) Slot.unset).toArray = ls at hl ⊢
  have hl : lv_has ls 2 [(0, .ref h0), (1, .int z1)] := hl
  refine lv_iload_n hx hb dX10_octet_0 rfl (lv_at hl 1 rfl) ?_
  refine lv_if_lt (tgt := 15) hx hb dX10_octet_1 (by decide) (fun hc1 => ?_) (fun hc1 => ?_)
  ·
    refine lv_iconst (v := (-1)) hx hb dX10_octet_15 (by decide) ?_
    refine lv_goto (tgt := 28) hx hb dX10_octet_16 (by decide) ?_
    exact W.iret (v := (-1)) hx hb hr (fun t ht hW => ⟨⟨(-1), (), rfl, rfl, trivial⟩, hS.F ht⟩) hS.2.2 dX10_octet_28
  ·
    refine lv_iload_n hx hb dX10_octet_4 rfl (lv_at hl 1 rfl) ?_
    refine lv_aload_n hx hb dX10_octet_5 rfl (lv_at hl 0 rfl) ?_
    refine va_get (D := D) (ci := 10) (v := .ref (ca 4)) (C := RX10) (T := TX10) (N := 7) hx hb hts hin_X10 hown hK hP 0 rfl rfl 4 (by decide) (hts (.fieldLink RX10 33 "ClashFree" "written" "LClashFree$Image;") (List.mem_of_getElem? (i := 1) rfl)) (fun _ h9 => h9) rfl dX10_octet_6 ?_
    refine va_get (D := D) (ci := 1) (v := .int 0) (C := RX1) (T := TX1) (N := 2) hx hb hts hin_X1 hown hK hP 1 rfl rfl 0 (by decide) (hts (.fieldLink RX10 316 "ClashFree$Image" "length" "I") (List.mem_of_getElem? (i := 2) rfl)) (fun _ h9 => h9) rfl dX10_octet_9 ?_
    refine lv_icmp_lt (tgt := 19) hx hb dX10_octet_12 (by decide) (fun hc => absurd hc (fun h => absurd h (by assumption))) (fun hc => ?_)
    refine lv_iconst (v := (-1)) hx hb dX10_octet_15 (by decide) ?_
    refine lv_goto (tgt := 28) hx hb dX10_octet_16 (by decide) ?_
    exact W.iret (v := (-1)) hx hb hr (fun t ht hW => ⟨⟨(-1), (), rfl, rfl, trivial⟩, hS.F ht⟩) hS.2.2 dX10_octet_28

def own_c_X11_octet : List Cond := [.fieldLink RX11 73 "ClashFreeModel" "thrown" "I", .fieldLink RX11 437 "ClashFreeModel" "octetMany" "I", .methodLink RX11 83 yX11_isIn, .static yX11_isIn, .initialized RX11]
def wp_c_X11_octet : List Cond := .code yX11_octet cX11_octet 2 (some .int) :: (own_c_X11_octet ++ (wp_c_isIn ++ (wsX110 ++ ([] : List Cond))))
set_option maxRecDepth 20000 in
theorem inown_c_X11_octet : ∀ w ∈ own_c_X11_octet, w ∈ lw_tbl := mem_places [1216, 1262, 1371, 1372, 115] (by decide +kernel)
set_option maxRecDepth 20000 in
theorem in_c_X11_octet : ∀ w ∈ wp_c_X11_octet, w ∈ lw_tbl := List.forall_mem_cons.mpr ⟨List.mem_of_getElem? (i := 1806) (by decide +kernel), List.forall_mem_append.mpr ⟨inown_c_X11_octet, List.forall_mem_append.mpr ⟨in_c_isIn, List.forall_mem_append.mpr ⟨lwb_X11, fun _ h => absurd h List.not_mem_nil⟩⟩⟩⟩
set_option maxRecDepth 20000 in
theorem good_c_X11_octet : wp_c_X11_octet.all goodWord = true := by decide +kernel
set_option maxRecDepth 20000 in
theorem g_c_X11_octet_c_isIn_83 : GoodIn wp_c_X11_octet (va_wsS RX11 83 yX11_isIn wp_c_isIn) := goodIn_sub (List.forall_mem_append.mpr ⟨List.forall_mem_cons.mpr ⟨(List.mem_of_getElem? (i := 3) rfl), List.forall_mem_cons.mpr ⟨(List.mem_of_getElem? (i := 4) rfl), List.forall_mem_cons.mpr ⟨(List.mem_of_getElem? (i := 5) rfl), fun _ h => absurd h List.not_mem_nil⟩⟩⟩, (fun _ h => (List.mem_cons_of_mem _ (List.mem_append_right _ (List.mem_append_left _ h))))⟩) (by decide +kernel)
set_option maxHeartbeats 4000000 in
set_option maxRecDepth 100000 in
theorem c_X11_octet (l : Launch) (D : va_G) (sz : Nat) (h0 : Nat) (a : Nat → Nat) (cN : ClassId) (tp : Int32) (sd : Int64) (pa : Int64) (pb : Int64) (dr : Int32) (z1 : Int32)  : Met l yX11_octet wp_c_X11_octet ({ frames := 1, cells := 0, slots := 0, locals := 25 }) (PcW D [.ref h0, .int z1] sz [(h0, .inr (11, fM a tp sd pa pb dr)), (a 3, .inl (cN, 85, .inr (.inl (fun _ => 0))))] [(cN, .long)]) (va_Qi (fun (r : Int32) (_ : Unit) => r = -1) (fun (_ : Unit) _ => True) (va_A [(h0, .inr (11, fM a tp sd pa pb dr)), (a 3, .inl (cN, 85, .inr (.inl (fun _ => 0))))] sz)) 0 0 (va_A [(h0, .inr (11, fM a tp sd pa pb dr)), (a 3, .inl (cN, 85, .inr (.inl (fun _ => 0))))] sz) := by
  refine Met.ofW (cc := cX11_octet) (maxL := 2) (ret := (some .int)) (by decide) rfl ?_
  intro p e s m args below meth c s₁ B hml hv
  obtain ⟨rfl, hsz, hP, hK, hD0⟩ := hv
  have hx := B.exec
  have hb := B.bytes
  have hr := B.returns
  have hts := atoms_spec (ws := wp_c_X11_octet) B.pre
  have hin_X11 : ∀ w ∈ wsX110, w ∈ wp_c_X11_octet := fun _ h => (List.mem_cons_of_mem _ (List.mem_append_right _ (List.mem_append_right _ (List.mem_append_left _ h))))
  have hown : s.vm.findClass RX11 = some m.cls := findClass_of_methodNamed B.named
  have hlocks := B.notSynchronized
  subst hsz
  have hD := hD0.self (sz := s.heap.size)
  generalize hAe : va_A [(h0, .inr (11, fM a tp sd pa pb dr)), (a 3, .inl (cN, 85, .inr (.inl (fun _ => 0))))] s.heap.size = A at hD ⊢
  have hA : ∀ q : Nat, s.heap.size ≤ q → A q := fun q h => by rw [← hAe]; exact Or.inr h
  have hS : va_S A s.heap s.heap [] := va_S.rf
  have hP : va_P D vwCl [(h0, .inr (11, fM a tp sd pa pb dr)), (a 3, .inl (cN, 85, .inr (.inl (fun _ => 0))))] s.heap := hP
  have hl := lv_entry ([.ref h0, .int z1]) (n := 2) (Nat.le_of_ble_eq_true rfl)
  rw [lg_entry_eq]
  generalize (lg_sl ([.ref h0, .int z1]) ++ List.replicate (2 - (lg_sl ([.ref h0, .int z1])).length) Slot.unset).toArray = ls at hl ⊢
  have hl : lv_has ls 2 [(0, .ref h0), (1, .int z1)] := hl
  refine lv_aload_n hx hb dX11_octet_0 rfl (lv_at hl 0 rfl) ?_
  refine lv_iconst (v := 0) hx hb dX11_octet_1 (by decide) ?_
  refine va_put (D := D) (ci := 11) (v := .int 0) (ty := .int) (C := RX11) (T := TX11) (N := 47) hx hb hts hin_X11 tyX11 tyX11_ok nmX11 hown hK hP hD hS 0 rfl rfl 0 (by decide) (hts (.fieldLink RX11 73 "ClashFreeModel" "thrown" "I") (List.mem_of_getElem? (i := 1) rfl)) (fun _ h9 => h9) rfl (by decide +kernel) rfl rfl (Nat.le_of_ble_eq_true rfl) dX11_octet_2 (fun H locs hP hD hS => ?_)
  have hP : va_P D vwCl [(h0, .inr (11, fM a tp sd pa pb dr)), (a 3, .inl (cN, 85, .inr (.inl (fun _ => 0))))] H := hP
  have hD : va_D A [(h0, .inr (11, fM a tp sd pa pb dr)), (a 3, .inl (cN, 85, .inr (.inl (fun _ => 0))))] := hD
  refine lv_iload_n hx hb dX11_octet_5 rfl (lv_at hl 1 rfl) ?_
  refine lv_i2l hx hb dX11_octet_6 rfl ?_
  refine lv_lconst (v := 0) hx hb dX11_octet_7 (by decide) ?_
  refine lv_aload_n hx hb dX11_octet_8 rfl (lv_at hl 0 rfl) ?_
  refine va_get (D := D) (ci := 11) (v := .int 0) (C := RX11) (T := TX11) (N := 47) hx hb hts hin_X11 hown hK hP 0 rfl rfl 46 (by decide) (hts (.fieldLink RX11 437 "ClashFreeModel" "octetMany" "I") (List.mem_of_getElem? (i := 2) rfl)) (fun _ h9 => h9) rfl dX11_octet_9 ?_
  refine lv_iconst (v := 1) hx hb dX11_octet_12 (by decide) ?_
  refine lv_isub hx hb dX11_octet_13 ?_
  refine lv_topi (fun v1 ev1 => ?_)
  obtain rfl : v1 = (-1) := ev1.trans (by decide)
  refine lv_i2l (v := (-1)) hx hb dX11_octet_14 (by decide) ?_
  have hPc := hP.sub (ws' := []) [] rfl
  have hKc := hK.sub (tys' := []) [] rfl
  have hFc := va_free0 hS hA
  refine va_calli (va_runS (As := [.long (Int32.toInt64 z1), .long 0, .long (-1)]) (rest := []) ⟨hx, hb, hml, hown, hts⟩ (c_isIn l D _ (Int32.toInt64 z1) 0 (-1)) (va_cwS 3 hts g_c_X11_octet_c_isIn_83 rfl rfl rfl (by decide +kernel) ⟨(Nat.le_of_ble_eq_true rfl), (Nat.le_of_ble_eq_true rfl)⟩) (PcR_S hPc hKc) rfl rfl hl.1 rfl (lv_room (Nat.le_of_ble_eq_true rfl)) dX11_octet_15 ⟨(Nat.le_of_ble_eq_true rfl), (Nat.le_of_ble_eq_true rfl)⟩) hS (fun q _ h => hFc q h) hFc (fun r2 uu tt H locs htt hvm hw hB hz1 hk1 hS => ?_)
  have hP := va_keep hP hk1
  try dsimp only at hw
  clear hB hz1 hk1 hFc hPc hKc
  have hw_r2 := hw
  refine lv_if_eq (tgt := 30) hx hb dX11_octet_18 (by decide) (fun hc => ?_) (fun hc => absurd (by rw [hw_r2]; exact isInNo _) hc)
  refine lv_iconst (v := (-1)) hx hb dX11_octet_30 (by decide) ?_
  exact W.iret (v := (-1)) hx hb hr (fun t ht hW => ⟨⟨(-1), (), rfl, rfl, trivial⟩, hS.F ht⟩) hS.2.2 dX11_octet_31

def own_c_X10_ran : List Cond := [.fieldLink RX10 40 "ClashFree" "parser" "LClashFree$Parser;", .fieldLink RX10 282 "ClashFree$Parser" "fault" "I", .constantLong RX10 183 (-1), .fieldLink RX10 47 "ClashFree" "machine" "LClashFree$Machine;", .fieldLink RX10 302 "ClashFree$Machine" "refused" "I", .fieldLink RX10 305 "ClashFree$Machine" "latest" "I", .fieldLink RX10 308 "ClashFree$Machine" "ended" "Z", .constantLong RX10 91 (-1000000000000000)]
def wp_c_X10_ran : List Cond := .code yX10_ran cX10_ran 3 (some .long) :: (own_c_X10_ran ++ (wsX100 ++ (wsX60 ++ (wsX40 ++ ([] : List Cond)))))
set_option maxRecDepth 20000 in
theorem inown_c_X10_ran : ∀ w ∈ own_c_X10_ran, w ∈ lw_tbl := mem_places [417, 328, 727, 418, 386, 388, 390, 691] (by decide +kernel)
set_option maxRecDepth 20000 in
theorem in_c_X10_ran : ∀ w ∈ wp_c_X10_ran, w ∈ lw_tbl := List.forall_mem_cons.mpr ⟨List.mem_of_getElem? (i := 1143) (by decide +kernel), List.forall_mem_append.mpr ⟨inown_c_X10_ran, List.forall_mem_append.mpr ⟨lwb_X10, List.forall_mem_append.mpr ⟨lwb_X6, List.forall_mem_append.mpr ⟨lwb_X4, fun _ h => absurd h List.not_mem_nil⟩⟩⟩⟩⟩
set_option maxRecDepth 20000 in
theorem good_c_X10_ran : wp_c_X10_ran.all goodWord = true := by decide +kernel
set_option maxHeartbeats 4000000 in
set_option maxRecDepth 100000 in
theorem c_X10_ran (l : Launch) (D : va_G) (sz : Nat) (h0 : Nat) (ca : Nat → Nat) (tp : Int32) (qp : Nat → Nat) (qm : Nat → Nat) (z1 : Int32)  : Met l yX10_ran wp_c_X10_ran ({ frames := 0, cells := 0, slots := 0, locals := 0 }) (PcR D [.ref h0, .int z1] sz [(h0, .inr (10, [.ref (ca 0), .ref (ca 1), .int tp, .ref (ca 3), .ref (ca 4), .ref (ca 5), .ref (ca 6)])), (ca 5, .inr (6, [.int 0, .int 0, .int 0, .ref (qp 3), .ref (qp 4), .int 0, .int 0, .int 0, .int 0, .int 0, .int 0, .int 0, .ref (qp 12), .int 0, .ref (qp 14)])), (ca 6, .inr (4, [.int 0, .int 0, .int 0, .int 0, .int 0, .ref (qm 5), .int 0, .ref (qm 7)]))] []) (va_Ql (fun (r : Int64) (_ : Unit) => r = ranF z1) (fun (_ : Unit) _ => True) (va_A [] sz)) 0 0 (va_A [] sz) := by
  refine Met.ofW (cc := cX10_ran) (maxL := 3) (ret := (some .long)) (by decide) rfl ?_
  intro p e s m args below meth c s₁ B hml hv
  obtain ⟨rfl, hsz, hP, hK⟩ := hv
  have hx := B.exec
  have hb := B.bytes
  have hr := B.returns
  have hts := atoms_spec (ws := wp_c_X10_ran) B.pre
  have hin_X10 : ∀ w ∈ wsX100, w ∈ wp_c_X10_ran := fun _ h => (List.mem_cons_of_mem _ (List.mem_append_right _ (List.mem_append_left _ h)))
  have hin_X6 : ∀ w ∈ wsX60, w ∈ wp_c_X10_ran := fun _ h => (List.mem_cons_of_mem _ (List.mem_append_right _ (List.mem_append_right _ (List.mem_append_left _ h))))
  have hin_X4 : ∀ w ∈ wsX40, w ∈ wp_c_X10_ran := fun _ h => (List.mem_cons_of_mem _ (List.mem_append_right _ (List.mem_append_right _ (List.mem_append_right _ (List.mem_append_left _ h)))))
  have hown : s.vm.findClass RX10 = some m.cls := findClass_of_methodNamed B.named
  have hlocks := B.notSynchronized
  subst hsz
  generalize hAe : va_A [] s.heap.size = A at ⊢
  have hA : ∀ q : Nat, s.heap.size ≤ q → A q := fun q h => by rw [← hAe]; exact Or.inr h
  have hS : va_S A s.heap s.heap [] := va_S.rf
  have hP : va_P D vwCl [(h0, .inr (10, [.ref (ca 0), .ref (ca 1), .int tp, .ref (ca 3), .ref (ca 4), .ref (ca 5), .ref (ca 6)])), (ca 5, .inr (6, [.int 0, .int 0, .int 0, .ref (qp 3), .ref (qp 4), .int 0, .int 0, .int 0, .int 0, .int 0, .int 0, .int 0, .ref (qp 12), .int 0, .ref (qp 14)])), (ca 6, .inr (4, [.int 0, .int 0, .int 0, .int 0, .int 0, .ref (qm 5), .int 0, .ref (qm 7)]))] s.heap := hP
  have hl := lv_entry ([.ref h0, .int z1]) (n := 3) (Nat.le_of_ble_eq_true rfl)
  rw [lg_entry_eq]
  generalize (lg_sl ([.ref h0, .int z1]) ++ List.replicate (3 - (lg_sl ([.ref h0, .int z1])).length) Slot.unset).toArray = ls at hl ⊢
  have hl : lv_has ls 3 [(0, .ref h0), (1, .int z1)] := hl
  refine lv_aload_n hx hb dX10_ran_0 rfl (lv_at hl 0 rfl) ?_
  refine va_get (D := D) (ci := 10) (v := .ref (ca 5)) (C := RX10) (T := TX10) (N := 7) hx hb hts hin_X10 hown hK hP 0 rfl rfl 5 (by decide) (hts (.fieldLink RX10 40 "ClashFree" "parser" "LClashFree$Parser;") (List.mem_of_getElem? (i := 1) rfl)) (fun _ h9 => h9) rfl dX10_ran_1 ?_
  refine va_get (D := D) (ci := 6) (v := .int 0) (C := RX6) (T := TX6) (N := 15) hx hb hts hin_X6 hown hK hP 1 rfl rfl 0 (by decide) (hts (.fieldLink RX10 282 "ClashFree$Parser" "fault" "I") (List.mem_of_getElem? (i := 2) rfl)) (fun _ h9 => h9) rfl dX10_ran_4 ?_
  refine lv_if_eq (tgt := 14) hx hb dX10_ran_7 (by decide) (fun hc => ?_) (fun hc => absurd (by decide) hc)
  refine lv_iconst (v := 0) hx hb dX10_ran_14 (by decide) ?_
  refine lv_istore_n (lv' := [(2, .int 0), (0, .ref h0), (1, .int z1)]) hx hb dX10_ran_15 rfl hl (by decide) rfl (fun ls hl => ?_)
  refine lv_iload_n hx hb dX10_ran_16 rfl (lv_at hl 2 rfl) ?_
  by_cases hs1 : z1 = 0
  ·
    subst hs1
    refine lv_tableIn (off := 39) (tgt := 56) hx hb dX10_ran_17 (by decide) (by decide) (by decide +kernel) (by decide) ?_
    refine lv_aload_n hx hb dX10_ran_56 rfl (lv_at hl 1 rfl) ?_
    refine va_get (D := D) (ci := 10) (v := .ref (ca 5)) (C := RX10) (T := TX10) (N := 7) hx hb hts hin_X10 hown hK hP 0 rfl rfl 5 (by decide) (hts (.fieldLink RX10 40 "ClashFree" "parser" "LClashFree$Parser;") (List.mem_of_getElem? (i := 1) rfl)) (fun _ h9 => h9) rfl dX10_ran_57 ?_
    refine va_get (D := D) (ci := 6) (v := .int 0) (C := RX6) (T := TX6) (N := 15) hx hb hts hin_X6 hown hK hP 1 rfl rfl 0 (by decide) (hts (.fieldLink RX10 282 "ClashFree$Parser" "fault" "I") (List.mem_of_getElem? (i := 2) rfl)) (fun _ h9 => h9) rfl dX10_ran_60 ?_
    refine lv_i2l (v := 0) hx hb dX10_ran_63 (by decide) ?_
    exact W.lret (v := 0) hx hb hr (fun t ht hW => ⟨⟨0, (), rfl, by first | rfl | decide | exact (ranF_out (by assumption) (by assumption) (by assumption) (by assumption) (by assumption) (by assumption)).symm, trivial⟩, hS.F ht⟩) hS.2.2 dX10_ran_64
  by_cases hs2 : z1 = 1
  ·
    subst hs2
    refine lv_tableIn (off := 48) (tgt := 65) hx hb dX10_ran_17 (by decide) (by decide) (by decide +kernel) (by decide) ?_
    refine lv_iload_n hx hb dX10_ran_65 rfl (lv_at hl 0 rfl) ?_
    refine lv_if_eq (tgt := 80) hx hb dX10_ran_66 (by decide) (fun hc => ?_) (fun hc => absurd (by decide) hc)
    refine lv_ldc2 (v := (-1)) hx hb hown (hts (.constantLong RX10 183 (-1)) (List.mem_of_getElem? (i := 3) rfl)) dX10_ran_80 ?_
    exact W.lret (v := (-1)) hx hb hr (fun t ht hW => ⟨⟨(-1), (), rfl, by first | rfl | decide | exact (ranF_out (by assumption) (by assumption) (by assumption) (by assumption) (by assumption) (by assumption)).symm, trivial⟩, hS.F ht⟩) hS.2.2 dX10_ran_83
  by_cases hs3 : z1 = 2
  ·
    subst hs3
    refine lv_tableIn (off := 67) (tgt := 84) hx hb dX10_ran_17 (by decide) (by decide) (by decide +kernel) (by decide) ?_
    refine lv_iload_n hx hb dX10_ran_84 rfl (lv_at hl 0 rfl) ?_
    refine lv_if_eq (tgt := 99) hx hb dX10_ran_85 (by decide) (fun hc => ?_) (fun hc => absurd (by decide) hc)
    refine lv_ldc2 (v := (-1)) hx hb hown (hts (.constantLong RX10 183 (-1)) (List.mem_of_getElem? (i := 3) rfl)) dX10_ran_99 ?_
    exact W.lret (v := (-1)) hx hb hr (fun t ht hW => ⟨⟨(-1), (), rfl, by first | rfl | decide | exact (ranF_out (by assumption) (by assumption) (by assumption) (by assumption) (by assumption) (by assumption)).symm, trivial⟩, hS.F ht⟩) hS.2.2 dX10_ran_102
  by_cases hs4 : z1 = 3
  ·
    subst hs4
    refine lv_tableIn (off := 86) (tgt := 103) hx hb dX10_ran_17 (by decide) (by decide) (by decide +kernel) (by decide) ?_
    refine lv_aload_n hx hb dX10_ran_103 rfl (lv_at hl 1 rfl) ?_
    refine va_get (D := D) (ci := 10) (v := .ref (ca 6)) (C := RX10) (T := TX10) (N := 7) hx hb hts hin_X10 hown hK hP 0 rfl rfl 6 (by decide) (hts (.fieldLink RX10 47 "ClashFree" "machine" "LClashFree$Machine;") (List.mem_of_getElem? (i := 4) rfl)) (fun _ h9 => h9) rfl dX10_ran_104 ?_
    refine va_get (D := D) (ci := 4) (v := .int 0) (C := RX4) (T := TX4) (N := 8) hx hb hts hin_X4 hown hK hP 2 rfl rfl 1 (by decide) (hts (.fieldLink RX10 302 "ClashFree$Machine" "refused" "I") (List.mem_of_getElem? (i := 5) rfl)) (fun _ h9 => h9) rfl dX10_ran_107 ?_
    refine lv_i2l (v := 0) hx hb dX10_ran_110 (by decide) ?_
    exact W.lret (v := 0) hx hb hr (fun t ht hW => ⟨⟨0, (), rfl, by first | rfl | decide | exact (ranF_out (by assumption) (by assumption) (by assumption) (by assumption) (by assumption) (by assumption)).symm, trivial⟩, hS.F ht⟩) hS.2.2 dX10_ran_111
  by_cases hs5 : z1 = 4
  ·
    subst hs5
    refine lv_tableIn (off := 95) (tgt := 112) hx hb dX10_ran_17 (by decide) (by decide) (by decide +kernel) (by decide) ?_
    refine lv_aload_n hx hb dX10_ran_112 rfl (lv_at hl 1 rfl) ?_
    refine va_get (D := D) (ci := 10) (v := .ref (ca 6)) (C := RX10) (T := TX10) (N := 7) hx hb hts hin_X10 hown hK hP 0 rfl rfl 6 (by decide) (hts (.fieldLink RX10 47 "ClashFree" "machine" "LClashFree$Machine;") (List.mem_of_getElem? (i := 4) rfl)) (fun _ h9 => h9) rfl dX10_ran_113 ?_
    refine va_get (D := D) (ci := 4) (v := .int 0) (C := RX4) (T := TX4) (N := 8) hx hb hts hin_X4 hown hK hP 2 rfl rfl 2 (by decide) (hts (.fieldLink RX10 305 "ClashFree$Machine" "latest" "I") (List.mem_of_getElem? (i := 6) rfl)) (fun _ h9 => h9) rfl dX10_ran_116 ?_
    refine lv_i2l (v := 0) hx hb dX10_ran_119 (by decide) ?_
    exact W.lret (v := 0) hx hb hr (fun t ht hW => ⟨⟨0, (), rfl, by first | rfl | decide | exact (ranF_out (by assumption) (by assumption) (by assumption) (by assumption) (by assumption) (by assumption)).symm, trivial⟩, hS.F ht⟩) hS.2.2 dX10_ran_120
  by_cases hs6 : z1 = 5
  ·
    subst hs6
    refine lv_tableIn (off := 104) (tgt := 121) hx hb dX10_ran_17 (by decide) (by decide) (by decide +kernel) (by decide) ?_
    refine lv_aload_n hx hb dX10_ran_121 rfl (lv_at hl 1 rfl) ?_
    refine va_get (D := D) (ci := 10) (v := .ref (ca 6)) (C := RX10) (T := TX10) (N := 7) hx hb hts hin_X10 hown hK hP 0 rfl rfl 6 (by decide) (hts (.fieldLink RX10 47 "ClashFree" "machine" "LClashFree$Machine;") (List.mem_of_getElem? (i := 4) rfl)) (fun _ h9 => h9) rfl dX10_ran_122 ?_
    refine va_get (D := D) (ci := 4) (v := .int 0) (C := RX4) (T := TX4) (N := 8) hx hb hts hin_X4 hown hK hP 2 rfl rfl 3 (by decide) (hts (.fieldLink RX10 308 "ClashFree$Machine" "ended" "Z") (List.mem_of_getElem? (i := 7) rfl)) (fun _ h9 => h9) rfl dX10_ran_125 ?_
    refine lv_if_eq (tgt := 135) hx hb dX10_ran_128 (by decide) (fun hc => ?_) (fun hc => absurd (by decide) hc)
    refine lv_lconst (v := 0) hx hb dX10_ran_135 (by decide) ?_
    exact W.lret (v := 0) hx hb hr (fun t ht hW => ⟨⟨0, (), rfl, by first | rfl | decide | exact (ranF_out (by assumption) (by assumption) (by assumption) (by assumption) (by assumption) (by assumption)).symm, trivial⟩, hS.F ht⟩) hS.2.2 dX10_ran_136
  refine lv_tableOut (tgt := 137) hx hb dX10_ran_17 (sw6 (by assumption) (by assumption) (by assumption) (by assumption) (by assumption) (by assumption)) (by decide) ?_
  refine lv_ldc2 (v := (-1000000000000000)) hx hb hown (hts (.constantLong RX10 91 (-1000000000000000)) (List.mem_of_getElem? (i := 8) rfl)) dX10_ran_137 ?_
  exact W.lret (v := (-1000000000000000)) hx hb hr (fun t ht hW => ⟨⟨(-1000000000000000), (), rfl, by first | rfl | decide | exact (ranF_out (by assumption) (by assumption) (by assumption) (by assumption) (by assumption) (by assumption)).symm, trivial⟩, hS.F ht⟩) hS.2.2 dX10_ran_140

def own_c_X11_ran : List Cond := [.fieldLink RX11 73 "ClashFreeModel" "thrown" "I", .fieldLink RX11 382 "ClashFreeModel" "faultKind" "I", .fieldLink RX11 54 "ClashFreeModel" "faultPlace" "I", .fieldLink RX11 58 "ClashFreeModel" "faultDepth" "I", .fieldLink RX11 407 "ClashFreeModel" "refused" "I", .fieldLink RX11 394 "ClashFreeModel" "latest" "I", .fieldLink RX11 403 "ClashFreeModel" "isCut" "Z", .methodLink RX11 198 yX11_flag, .static yX11_flag, .initialized RX11, .constantLong RX11 235 (-1000000000000000)]
def wp_c_X11_ran : List Cond := .code yX11_ran cX11_ran 2 (some .long) :: (own_c_X11_ran ++ (wp_c_flag0 ++ (wsX110 ++ ([] : List Cond))))
set_option maxRecDepth 20000 in
theorem inown_c_X11_ran : ∀ w ∈ own_c_X11_ran, w ∈ lw_tbl := mem_places [1216, 1248, 1249, 1250, 1251, 1252, 1253, 1502, 1503, 115, 1517] (by decide +kernel)
set_option maxRecDepth 20000 in
theorem in_c_X11_ran : ∀ w ∈ wp_c_X11_ran, w ∈ lw_tbl := List.forall_mem_cons.mpr ⟨List.mem_of_getElem? (i := 1789) (by decide +kernel), List.forall_mem_append.mpr ⟨inown_c_X11_ran, List.forall_mem_append.mpr ⟨in_c_flag0, List.forall_mem_append.mpr ⟨lwb_X11, fun _ h => absurd h List.not_mem_nil⟩⟩⟩⟩
set_option maxRecDepth 20000 in
theorem good_c_X11_ran : wp_c_X11_ran.all goodWord = true := by decide +kernel
set_option maxRecDepth 20000 in
theorem g_c_X11_ran_c_flag0_198 : GoodIn wp_c_X11_ran (va_wsS RX11 198 yX11_flag wp_c_flag0) := goodIn_sub (List.forall_mem_append.mpr ⟨List.forall_mem_cons.mpr ⟨(List.mem_of_getElem? (i := 8) rfl), List.forall_mem_cons.mpr ⟨(List.mem_of_getElem? (i := 9) rfl), List.forall_mem_cons.mpr ⟨(List.mem_of_getElem? (i := 10) rfl), fun _ h => absurd h List.not_mem_nil⟩⟩⟩, (fun _ h => (List.mem_cons_of_mem _ (List.mem_append_right _ (List.mem_append_left _ h))))⟩) (by decide +kernel)
set_option maxHeartbeats 4000000 in
set_option maxRecDepth 100000 in
theorem c_X11_ran (l : Launch) (D : va_G) (sz : Nat) (h0 : Nat) (a : Nat → Nat) (cN : ClassId) (tp : Int32) (sd : Int64) (pa : Int64) (pb : Int64) (dr : Int32) (z1 : Int32)  : Met l yX11_ran wp_c_X11_ran ({ frames := 1, cells := 0, slots := 0, locals := 20 }) (PcW D [.ref h0, .int z1] sz [(h0, .inr (11, fM a tp sd pa pb dr)), (a 3, .inl (cN, 85, .inr (.inl (fun _ => 0))))] [(cN, .long)]) (va_Ql (fun (r : Int64) (_ : Unit) => r = ranF z1) (fun (_ : Unit) _ => True) (va_A [(h0, .inr (11, fM a tp sd pa pb dr)), (a 3, .inl (cN, 85, .inr (.inl (fun _ => 0))))] sz)) 0 0 (va_A [(h0, .inr (11, fM a tp sd pa pb dr)), (a 3, .inl (cN, 85, .inr (.inl (fun _ => 0))))] sz) := by
  refine Met.ofW (cc := cX11_ran) (maxL := 2) (ret := (some .long)) (by decide) rfl ?_
  intro p e s m args below meth c s₁ B hml hv
  obtain ⟨rfl, hsz, hP, hK, hD0⟩ := hv
  have hx := B.exec
  have hb := B.bytes
  have hr := B.returns
  have hts := atoms_spec (ws := wp_c_X11_ran) B.pre
  have hin_X11 : ∀ w ∈ wsX110, w ∈ wp_c_X11_ran := fun _ h => (List.mem_cons_of_mem _ (List.mem_append_right _ (List.mem_append_right _ (List.mem_append_left _ h))))
  have hown : s.vm.findClass RX11 = some m.cls := findClass_of_methodNamed B.named
  have hlocks := B.notSynchronized
  subst hsz
  have hD := hD0.self (sz := s.heap.size)
  generalize hAe : va_A [(h0, .inr (11, fM a tp sd pa pb dr)), (a 3, .inl (cN, 85, .inr (.inl (fun _ => 0))))] s.heap.size = A at hD ⊢
  have hA : ∀ q : Nat, s.heap.size ≤ q → A q := fun q h => by rw [← hAe]; exact Or.inr h
  have hS : va_S A s.heap s.heap [] := va_S.rf
  have hP : va_P D vwCl [(h0, .inr (11, fM a tp sd pa pb dr)), (a 3, .inl (cN, 85, .inr (.inl (fun _ => 0))))] s.heap := hP
  have hl := lv_entry ([.ref h0, .int z1]) (n := 2) (Nat.le_of_ble_eq_true rfl)
  rw [lg_entry_eq]
  generalize (lg_sl ([.ref h0, .int z1]) ++ List.replicate (2 - (lg_sl ([.ref h0, .int z1])).length) Slot.unset).toArray = ls at hl ⊢
  have hl : lv_has ls 2 [(0, .ref h0), (1, .int z1)] := hl
  refine lv_aload_n hx hb dX11_ran_0 rfl (lv_at hl 0 rfl) ?_
  refine lv_iconst (v := 0) hx hb dX11_ran_1 (by decide) ?_
  refine va_put (D := D) (ci := 11) (v := .int 0) (ty := .int) (C := RX11) (T := TX11) (N := 47) hx hb hts hin_X11 tyX11 tyX11_ok nmX11 hown hK hP hD hS 0 rfl rfl 0 (by decide) (hts (.fieldLink RX11 73 "ClashFreeModel" "thrown" "I") (List.mem_of_getElem? (i := 1) rfl)) (fun _ h9 => h9) rfl (by decide +kernel) rfl rfl (Nat.le_of_ble_eq_true rfl) dX11_ran_2 (fun H locs hP hD hS => ?_)
  have hP : va_P D vwCl [(h0, .inr (11, fM a tp sd pa pb dr)), (a 3, .inl (cN, 85, .inr (.inl (fun _ => 0))))] H := hP
  have hD : va_D A [(h0, .inr (11, fM a tp sd pa pb dr)), (a 3, .inl (cN, 85, .inr (.inl (fun _ => 0))))] := hD
  refine lv_iload_n hx hb dX11_ran_5 rfl (lv_at hl 1 rfl) ?_
  by_cases hs1 : z1 = 0
  ·
    subst hs1
    refine lv_tableIn (off := 38) (tgt := 44) hx hb dX11_ran_6 (by decide) (by decide) (by decide +kernel) (by decide) ?_
    refine lv_aload_n hx hb dX11_ran_44 rfl (lv_at hl 0 rfl) ?_
    refine va_get (D := D) (ci := 11) (v := .int 0) (C := RX11) (T := TX11) (N := 47) hx hb hts hin_X11 hown hK hP 0 rfl rfl 32 (by decide) (hts (.fieldLink RX11 382 "ClashFreeModel" "faultKind" "I") (List.mem_of_getElem? (i := 2) rfl)) (fun _ h9 => h9) rfl dX11_ran_45 ?_
    refine lv_i2l (v := 0) hx hb dX11_ran_48 (by decide) ?_
    exact W.lret (v := 0) hx hb hr (fun t ht hW => ⟨⟨0, (), rfl, by first | rfl | decide | exact (ranF_out (by assumption) (by assumption) (by assumption) (by assumption) (by assumption) (by assumption)).symm, trivial⟩, hS.F ht⟩) hS.2.2 dX11_ran_49
  by_cases hs2 : z1 = 1
  ·
    subst hs2
    refine lv_tableIn (off := 44) (tgt := 50) hx hb dX11_ran_6 (by decide) (by decide) (by decide +kernel) (by decide) ?_
    refine lv_aload_n hx hb dX11_ran_50 rfl (lv_at hl 0 rfl) ?_
    refine va_get (D := D) (ci := 11) (v := .int (-1)) (C := RX11) (T := TX11) (N := 47) hx hb hts hin_X11 hown hK hP 0 rfl rfl 33 (by decide) (hts (.fieldLink RX11 54 "ClashFreeModel" "faultPlace" "I") (List.mem_of_getElem? (i := 3) rfl)) (fun _ h9 => h9) rfl dX11_ran_51 ?_
    refine lv_i2l (v := (-1)) hx hb dX11_ran_54 (by decide) ?_
    exact W.lret (v := (-1)) hx hb hr (fun t ht hW => ⟨⟨(-1), (), rfl, by first | rfl | decide | exact (ranF_out (by assumption) (by assumption) (by assumption) (by assumption) (by assumption) (by assumption)).symm, trivial⟩, hS.F ht⟩) hS.2.2 dX11_ran_55
  by_cases hs3 : z1 = 2
  ·
    subst hs3
    refine lv_tableIn (off := 50) (tgt := 56) hx hb dX11_ran_6 (by decide) (by decide) (by decide +kernel) (by decide) ?_
    refine lv_aload_n hx hb dX11_ran_56 rfl (lv_at hl 0 rfl) ?_
    refine va_get (D := D) (ci := 11) (v := .int (-1)) (C := RX11) (T := TX11) (N := 47) hx hb hts hin_X11 hown hK hP 0 rfl rfl 34 (by decide) (hts (.fieldLink RX11 58 "ClashFreeModel" "faultDepth" "I") (List.mem_of_getElem? (i := 4) rfl)) (fun _ h9 => h9) rfl dX11_ran_57 ?_
    refine lv_i2l (v := (-1)) hx hb dX11_ran_60 (by decide) ?_
    exact W.lret (v := (-1)) hx hb hr (fun t ht hW => ⟨⟨(-1), (), rfl, by first | rfl | decide | exact (ranF_out (by assumption) (by assumption) (by assumption) (by assumption) (by assumption) (by assumption)).symm, trivial⟩, hS.F ht⟩) hS.2.2 dX11_ran_61
  by_cases hs4 : z1 = 3
  ·
    subst hs4
    refine lv_tableIn (off := 56) (tgt := 62) hx hb dX11_ran_6 (by decide) (by decide) (by decide +kernel) (by decide) ?_
    refine lv_aload_n hx hb dX11_ran_62 rfl (lv_at hl 0 rfl) ?_
    refine va_get (D := D) (ci := 11) (v := .int 0) (C := RX11) (T := TX11) (N := 47) hx hb hts hin_X11 hown hK hP 0 rfl rfl 35 (by decide) (hts (.fieldLink RX11 407 "ClashFreeModel" "refused" "I") (List.mem_of_getElem? (i := 5) rfl)) (fun _ h9 => h9) rfl dX11_ran_63 ?_
    refine lv_i2l (v := 0) hx hb dX11_ran_66 (by decide) ?_
    exact W.lret (v := 0) hx hb hr (fun t ht hW => ⟨⟨0, (), rfl, by first | rfl | decide | exact (ranF_out (by assumption) (by assumption) (by assumption) (by assumption) (by assumption) (by assumption)).symm, trivial⟩, hS.F ht⟩) hS.2.2 dX11_ran_67
  by_cases hs5 : z1 = 4
  ·
    subst hs5
    refine lv_tableIn (off := 62) (tgt := 68) hx hb dX11_ran_6 (by decide) (by decide) (by decide +kernel) (by decide) ?_
    refine lv_aload_n hx hb dX11_ran_68 rfl (lv_at hl 0 rfl) ?_
    refine va_get (D := D) (ci := 11) (v := .int 0) (C := RX11) (T := TX11) (N := 47) hx hb hts hin_X11 hown hK hP 0 rfl rfl 36 (by decide) (hts (.fieldLink RX11 394 "ClashFreeModel" "latest" "I") (List.mem_of_getElem? (i := 6) rfl)) (fun _ h9 => h9) rfl dX11_ran_69 ?_
    refine lv_i2l (v := 0) hx hb dX11_ran_72 (by decide) ?_
    exact W.lret (v := 0) hx hb hr (fun t ht hW => ⟨⟨0, (), rfl, by first | rfl | decide | exact (ranF_out (by assumption) (by assumption) (by assumption) (by assumption) (by assumption) (by assumption)).symm, trivial⟩, hS.F ht⟩) hS.2.2 dX11_ran_73
  by_cases hs6 : z1 = 5
  ·
    subst hs6
    refine lv_tableIn (off := 68) (tgt := 74) hx hb dX11_ran_6 (by decide) (by decide) (by decide +kernel) (by decide) ?_
    refine lv_aload_n hx hb dX11_ran_74 rfl (lv_at hl 0 rfl) ?_
    refine va_get (D := D) (ci := 11) (v := .int 0) (C := RX11) (T := TX11) (N := 47) hx hb hts hin_X11 hown hK hP 0 rfl rfl 37 (by decide) (hts (.fieldLink RX11 403 "ClashFreeModel" "isCut" "Z") (List.mem_of_getElem? (i := 7) rfl)) (fun _ h9 => h9) rfl dX11_ran_75 ?_
    have hPc := hP.sub (ws' := []) [] rfl
    have hKc := hK.sub (tys' := []) [] rfl
    have hFc := va_free0 hS hA
    refine va_calli (va_runS (As := [.int 0]) (rest := []) ⟨hx, hb, hml, hown, hts⟩ (c_flag0 l D _ ) (va_cwS 1 hts g_c_X11_ran_c_flag0_198 rfl rfl rfl (by decide +kernel) ⟨(Nat.le_of_ble_eq_true rfl), (Nat.le_of_ble_eq_true rfl)⟩) (PcR_S hPc hKc) rfl rfl hl.1 rfl (lv_room (Nat.le_of_ble_eq_true rfl)) dX11_ran_78 ⟨(Nat.le_of_ble_eq_true rfl), (Nat.le_of_ble_eq_true rfl)⟩) hS (fun q _ h => hFc q h) hFc (fun r7 uu tt H locs htt hvm hw hB hz1 hk1 hS => ?_)
    have hP := va_keep hP hk1
    try dsimp only at hw
    clear hB hz1 hk1 hFc hPc hKc
    obtain rfl : r7 = 0 := hw
    refine lv_i2l (v := 0) hx hb dX11_ran_81 (by decide) ?_
    exact W.lret (v := 0) hx hb hr (fun t ht hW => ⟨⟨0, (), rfl, by first | rfl | decide | exact (ranF_out (by assumption) (by assumption) (by assumption) (by assumption) (by assumption) (by assumption)).symm, trivial⟩, hS.F ht⟩) hS.2.2 dX11_ran_82
  refine lv_tableOut (tgt := 83) hx hb dX11_ran_6 (sw6 (by assumption) (by assumption) (by assumption) (by assumption) (by assumption) (by assumption)) (by decide) ?_
  refine lv_ldc2 (v := (-1000000000000000)) hx hb hown (hts (.constantLong RX11 235 (-1000000000000000)) (List.mem_of_getElem? (i := 11) rfl)) dX11_ran_83 ?_
  exact W.lret (v := (-1000000000000000)) hx hb hr (fun t ht hW => ⟨⟨(-1000000000000000), (), rfl, by first | rfl | decide | exact (ranF_out (by assumption) (by assumption) (by assumption) (by assumption) (by assumption) (by assumption)).symm, trivial⟩, hS.F ht⟩) hS.2.2 dX11_ran_86

