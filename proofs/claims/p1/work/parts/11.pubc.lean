def own_c_X10_put : List Cond := [.methodLink RX10 74 yX10_tableAt, .instanceMethod yX10_tableAt, .selects RX10 yX10_tableAt yX10_tableAt, .initialized RX10]
def wp_c_X10_put : List Cond := .code yX10_put cX10_put 5 (some .int) :: (own_c_X10_put ++ (wp_c_tableAt ++ ([] : List Cond)))
set_option maxRecDepth 20000 in
theorem inown_c_X10_put : ∀ w ∈ own_c_X10_put, w ∈ lw_tbl := mem_places [610, 612, 2, 106] (by decide +kernel)
set_option maxRecDepth 20000 in
theorem in_c_X10_put : ∀ w ∈ wp_c_X10_put, w ∈ lw_tbl := List.forall_mem_cons.mpr ⟨List.mem_of_getElem? (i := 609) (by decide +kernel), List.forall_mem_append.mpr ⟨inown_c_X10_put, List.forall_mem_append.mpr ⟨in_c_tableAt, fun _ h => absurd h List.not_mem_nil⟩⟩⟩
set_option maxRecDepth 20000 in
theorem good_c_X10_put : wp_c_X10_put.all goodWord = true := by decide +kernel
set_option maxRecDepth 20000 in
theorem g_c_X10_put_c_tableAt_74 : GoodIn wp_c_X10_put (wsV RX10 74 RX10 yX10_tableAt wp_c_tableAt) := goodIn_sub (List.forall_mem_append.mpr ⟨List.forall_mem_cons.mpr ⟨(List.mem_of_getElem? (i := 1) rfl), List.forall_mem_cons.mpr ⟨(List.mem_of_getElem? (i := 2) rfl), List.forall_mem_cons.mpr ⟨(List.mem_of_getElem? (i := 3) rfl), List.forall_mem_cons.mpr ⟨(List.mem_of_getElem? (i := 4) rfl), fun _ h => absurd h List.not_mem_nil⟩⟩⟩⟩, (fun _ h => (List.mem_cons_of_mem _ (List.mem_append_right _ (List.mem_append_left _ h))))⟩) (by decide +kernel)
set_option maxHeartbeats 4000000 in
set_option maxRecDepth 100000 in
theorem c_X10_put (l : Launch) (D : va_G) (sz : Nat) (h0 : Nat) (ca : Nat → Nat) (cT : ClassId) (tp : Int32) (z1 : Int32) (z2 : Int32) (z3 : Int32)  : Met l yX10_put wp_c_X10_put ({ frames := 2, cells := 0, slots := 0, locals := 41 }) (PcR D [.ref h0, .int z1, .int z2, .int z3] sz [(h0, .inr (10, [.ref (ca 0), .ref (ca 1), .int tp, .ref (ca 3), .ref (ca 4), .ref (ca 5), .ref (ca 6)])), (ca 0, .inl (cT, 4, .inr (.inr (.inr (.inr (fun _ => none))))))] [(cT, .object RX9)]) (va_Qi (fun (r : Int32) (_ : Unit) => r = (-2)) (fun (_ : Unit) _ => True) (va_A [] sz)) 0 0 (va_A [] sz) := by
  refine Met.ofW (cc := cX10_put) (maxL := 5) (ret := (some .int)) (by decide) rfl ?_
  intro p e s m args below meth c s₁ B hml hv
  obtain ⟨rfl, hsz, hP, hK⟩ := hv
  have hx := B.exec
  have hb := B.bytes
  have hr := B.returns
  have hts := atoms_spec (ws := wp_c_X10_put) B.pre
  have hown : s.vm.findClass RX10 = some m.cls := findClass_of_methodNamed B.named
  have hlocks := B.notSynchronized
  subst hsz
  generalize hAe : va_A [] s.heap.size = A at ⊢
  have hA : ∀ q : Nat, s.heap.size ≤ q → A q := fun q h => by rw [← hAe]; exact Or.inr h
  have hS : va_S A s.heap s.heap [] := va_S.rf
  have hP : va_P D vwCl [(h0, .inr (10, [.ref (ca 0), .ref (ca 1), .int tp, .ref (ca 3), .ref (ca 4), .ref (ca 5), .ref (ca 6)])), (ca 0, .inl (cT, 4, .inr (.inr (.inr (.inr (fun _ => none))))))] s.heap := hP
  have hl := lv_entry ([.ref h0, .int z1, .int z2, .int z3]) (n := 5) (Nat.le_of_ble_eq_true rfl)
  rw [lg_entry_eq]
  generalize (lg_sl ([.ref h0, .int z1, .int z2, .int z3]) ++ List.replicate (5 - (lg_sl ([.ref h0, .int z1, .int z2, .int z3])).length) Slot.unset).toArray = ls at hl ⊢
  have hl : lv_has ls 5 [(0, .ref h0), (1, .int z1), (2, .int z2), (3, .int z3)] := hl
  refine lv_aload_n hx hb dX10_put_0 rfl (lv_at hl 0 rfl) ?_
  refine lv_iload_n hx hb dX10_put_1 rfl (lv_at hl 1 rfl) ?_
  have hPc := hP.sub (ws' := [(h0, .inr (10, [.ref (ca 0), .ref (ca 1), .int tp, .ref (ca 3), .ref (ca 4), .ref (ca 5), .ref (ca 6)])), (ca 0, .inl (cT, 4, .inr (.inr (.inr (.inr (fun _ => none))))))]) [0, 1] rfl
  have hKc := hK.sub (tys' := [(cT, .object RX9)]) [0] rfl
  have hFc := va_free0 hS hA
  refine va_callq (va_runV (As := [.int z1]) (rest := []) ⟨hx, hb, hml, hown, hts⟩ (c_tableAt l D _ h0 ca cT tp z1) (cwV 1 hts g_c_X10_put_c_tableAt_74 rfl rfl rfl (by decide +kernel) ⟨(Nat.le_of_ble_eq_true rfl), (Nat.le_of_ble_eq_true rfl)⟩) (PcR_V (q0 := 0) hPc hKc rfl rfl) rfl rfl hl.1 rfl (lv_room (Nat.le_of_ble_eq_true rfl)) dX10_put_2 ⟨(Nat.le_of_ble_eq_true rfl), (Nat.le_of_ble_eq_true rfl)⟩) hS (fun q _ h => hFc q h) hFc (fun r1 uu tt H locs htt hvm hw hB hz1 hk1 hS => ?_)
  have hP := va_keep hP hk1
  try dsimp only at hw
  clear hB hz1 hk1 hFc hPc hKc
  obtain rfl : r1 = none := hw
  refine W.eq (g2 := F0 m 5 ls [.null]) rfl ?_
  refine lv_astoreN (lv' := [(4, .null), (0, .ref h0), (1, .int z1), (2, .int z2), (3, .int z3)]) hx hb dX10_put_5 hl (by decide) rfl (fun ls hl => ?_)
  refine lv_aloadN hx hb dX10_put_7 (lv_at hl 0 rfl) ?_
  refine lv_ifnullN (tgt := 19) hx hb dX10_put_9 (by decide) ?_
  refine lv_bipush (v := (-2)) hx hb dX10_put_19 (by decide) ?_
  exact W.iret (v := (-2)) hx hb hr (fun t ht hW => ⟨⟨(-2), (), rfl, rfl, trivial⟩, hS.F ht⟩) hS.2.2 dX10_put_21

def own_c_X10_get : List Cond := [.methodLink RX10 74 yX10_tableAt, .instanceMethod yX10_tableAt, .selects RX10 yX10_tableAt yX10_tableAt, .initialized RX10, .constantLong RX10 91 (-1000000000000000)]
def wp_c_X10_get : List Cond := .code yX10_get cX10_get 5 (some .long) :: (own_c_X10_get ++ (wp_c_tableAt ++ ([] : List Cond)))
set_option maxRecDepth 20000 in
theorem inown_c_X10_get : ∀ w ∈ own_c_X10_get, w ∈ lw_tbl := mem_places [610, 612, 2, 106, 691] (by decide +kernel)
set_option maxRecDepth 20000 in
theorem in_c_X10_get : ∀ w ∈ wp_c_X10_get, w ∈ lw_tbl := List.forall_mem_cons.mpr ⟨List.mem_of_getElem? (i := 690) (by decide +kernel), List.forall_mem_append.mpr ⟨inown_c_X10_get, List.forall_mem_append.mpr ⟨in_c_tableAt, fun _ h => absurd h List.not_mem_nil⟩⟩⟩
set_option maxRecDepth 20000 in
theorem good_c_X10_get : wp_c_X10_get.all goodWord = true := by decide +kernel
set_option maxRecDepth 20000 in
theorem g_c_X10_get_c_tableAt_74 : GoodIn wp_c_X10_get (wsV RX10 74 RX10 yX10_tableAt wp_c_tableAt) := goodIn_sub (List.forall_mem_append.mpr ⟨List.forall_mem_cons.mpr ⟨(List.mem_of_getElem? (i := 1) rfl), List.forall_mem_cons.mpr ⟨(List.mem_of_getElem? (i := 2) rfl), List.forall_mem_cons.mpr ⟨(List.mem_of_getElem? (i := 3) rfl), List.forall_mem_cons.mpr ⟨(List.mem_of_getElem? (i := 4) rfl), fun _ h => absurd h List.not_mem_nil⟩⟩⟩⟩, (fun _ h => (List.mem_cons_of_mem _ (List.mem_append_right _ (List.mem_append_left _ h))))⟩) (by decide +kernel)
set_option maxHeartbeats 4000000 in
set_option maxRecDepth 100000 in
theorem c_X10_get (l : Launch) (D : va_G) (sz : Nat) (h0 : Nat) (ca : Nat → Nat) (cT : ClassId) (tp : Int32) (z1 : Int32) (z2 : Int32)  : Met l yX10_get wp_c_X10_get ({ frames := 2, cells := 0, slots := 0, locals := 41 }) (PcR D [.ref h0, .int z1, .int z2] sz [(h0, .inr (10, [.ref (ca 0), .ref (ca 1), .int tp, .ref (ca 3), .ref (ca 4), .ref (ca 5), .ref (ca 6)])), (ca 0, .inl (cT, 4, .inr (.inr (.inr (.inr (fun _ => none))))))] [(cT, .object RX9)]) (va_Ql (fun (r : Int64) (_ : Unit) => r = (-1000000000000000)) (fun (_ : Unit) _ => True) (va_A [] sz)) 0 0 (va_A [] sz) := by
  refine Met.ofW (cc := cX10_get) (maxL := 5) (ret := (some .long)) (by decide) rfl ?_
  intro p e s m args below meth c s₁ B hml hv
  obtain ⟨rfl, hsz, hP, hK⟩ := hv
  have hx := B.exec
  have hb := B.bytes
  have hr := B.returns
  have hts := atoms_spec (ws := wp_c_X10_get) B.pre
  have hown : s.vm.findClass RX10 = some m.cls := findClass_of_methodNamed B.named
  have hlocks := B.notSynchronized
  subst hsz
  generalize hAe : va_A [] s.heap.size = A at ⊢
  have hA : ∀ q : Nat, s.heap.size ≤ q → A q := fun q h => by rw [← hAe]; exact Or.inr h
  have hS : va_S A s.heap s.heap [] := va_S.rf
  have hP : va_P D vwCl [(h0, .inr (10, [.ref (ca 0), .ref (ca 1), .int tp, .ref (ca 3), .ref (ca 4), .ref (ca 5), .ref (ca 6)])), (ca 0, .inl (cT, 4, .inr (.inr (.inr (.inr (fun _ => none))))))] s.heap := hP
  have hl := lv_entry ([.ref h0, .int z1, .int z2]) (n := 5) (Nat.le_of_ble_eq_true rfl)
  rw [lg_entry_eq]
  generalize (lg_sl ([.ref h0, .int z1, .int z2]) ++ List.replicate (5 - (lg_sl ([.ref h0, .int z1, .int z2])).length) Slot.unset).toArray = ls at hl ⊢
  have hl : lv_has ls 5 [(0, .ref h0), (1, .int z1), (2, .int z2)] := hl
  refine lv_aload_n hx hb dX10_get_0 rfl (lv_at hl 0 rfl) ?_
  refine lv_iload_n hx hb dX10_get_1 rfl (lv_at hl 1 rfl) ?_
  have hPc := hP.sub (ws' := [(h0, .inr (10, [.ref (ca 0), .ref (ca 1), .int tp, .ref (ca 3), .ref (ca 4), .ref (ca 5), .ref (ca 6)])), (ca 0, .inl (cT, 4, .inr (.inr (.inr (.inr (fun _ => none))))))]) [0, 1] rfl
  have hKc := hK.sub (tys' := [(cT, .object RX9)]) [0] rfl
  have hFc := va_free0 hS hA
  refine va_callq (va_runV (As := [.int z1]) (rest := []) ⟨hx, hb, hml, hown, hts⟩ (c_tableAt l D _ h0 ca cT tp z1) (cwV 1 hts g_c_X10_get_c_tableAt_74 rfl rfl rfl (by decide +kernel) ⟨(Nat.le_of_ble_eq_true rfl), (Nat.le_of_ble_eq_true rfl)⟩) (PcR_V (q0 := 0) hPc hKc rfl rfl) rfl rfl hl.1 rfl (lv_room (Nat.le_of_ble_eq_true rfl)) dX10_get_2 ⟨(Nat.le_of_ble_eq_true rfl), (Nat.le_of_ble_eq_true rfl)⟩) hS (fun q _ h => hFc q h) hFc (fun r1 uu tt H locs htt hvm hw hB hz1 hk1 hS => ?_)
  have hP := va_keep hP hk1
  try dsimp only at hw
  clear hB hz1 hk1 hFc hPc hKc
  obtain rfl : r1 = none := hw
  refine W.eq (g2 := F0 m 5 ls [.null]) rfl ?_
  refine lv_astore_nN (lv' := [(3, .null), (0, .ref h0), (1, .int z1), (2, .int z2)]) hx hb dX10_get_5 rfl hl (by decide) rfl (fun ls hl => ?_)
  refine lv_aload_nN hx hb dX10_get_6 rfl (lv_at hl 0 rfl) ?_
  refine lv_ifnullN (tgt := 17) hx hb dX10_get_7 (by decide) ?_
  refine lv_ldc2 (v := (-1000000000000000)) hx hb hown (hts (.constantLong RX10 91 (-1000000000000000)) (List.mem_of_getElem? (i := 5) rfl)) dX10_get_17 ?_
  exact W.lret (v := (-1000000000000000)) hx hb hr (fun t ht hW => ⟨⟨(-1000000000000000), (), rfl, rfl, trivial⟩, hS.F ht⟩) hS.2.2 dX10_get_20

def own_c_X10_drop : List Cond := [.methodLink RX10 74 yX10_tableAt, .instanceMethod yX10_tableAt, .selects RX10 yX10_tableAt yX10_tableAt, .initialized RX10]
def wp_c_X10_drop : List Cond := .code yX10_drop cX10_drop 4 (some .int) :: (own_c_X10_drop ++ (wp_c_tableAt ++ ([] : List Cond)))
set_option maxRecDepth 20000 in
theorem inown_c_X10_drop : ∀ w ∈ own_c_X10_drop, w ∈ lw_tbl := mem_places [610, 612, 2, 106] (by decide +kernel)
set_option maxRecDepth 20000 in
theorem in_c_X10_drop : ∀ w ∈ wp_c_X10_drop, w ∈ lw_tbl := List.forall_mem_cons.mpr ⟨List.mem_of_getElem? (i := 700) (by decide +kernel), List.forall_mem_append.mpr ⟨inown_c_X10_drop, List.forall_mem_append.mpr ⟨in_c_tableAt, fun _ h => absurd h List.not_mem_nil⟩⟩⟩
set_option maxRecDepth 20000 in
theorem good_c_X10_drop : wp_c_X10_drop.all goodWord = true := by decide +kernel
set_option maxRecDepth 20000 in
theorem g_c_X10_drop_c_tableAt_74 : GoodIn wp_c_X10_drop (wsV RX10 74 RX10 yX10_tableAt wp_c_tableAt) := goodIn_sub (List.forall_mem_append.mpr ⟨List.forall_mem_cons.mpr ⟨(List.mem_of_getElem? (i := 1) rfl), List.forall_mem_cons.mpr ⟨(List.mem_of_getElem? (i := 2) rfl), List.forall_mem_cons.mpr ⟨(List.mem_of_getElem? (i := 3) rfl), List.forall_mem_cons.mpr ⟨(List.mem_of_getElem? (i := 4) rfl), fun _ h => absurd h List.not_mem_nil⟩⟩⟩⟩, (fun _ h => (List.mem_cons_of_mem _ (List.mem_append_right _ (List.mem_append_left _ h))))⟩) (by decide +kernel)
set_option maxHeartbeats 4000000 in
set_option maxRecDepth 100000 in
theorem c_X10_drop (l : Launch) (D : va_G) (sz : Nat) (h0 : Nat) (ca : Nat → Nat) (cT : ClassId) (tp : Int32) (z1 : Int32) (z2 : Int32)  : Met l yX10_drop wp_c_X10_drop ({ frames := 2, cells := 0, slots := 0, locals := 41 }) (PcR D [.ref h0, .int z1, .int z2] sz [(h0, .inr (10, [.ref (ca 0), .ref (ca 1), .int tp, .ref (ca 3), .ref (ca 4), .ref (ca 5), .ref (ca 6)])), (ca 0, .inl (cT, 4, .inr (.inr (.inr (.inr (fun _ => none))))))] [(cT, .object RX9)]) (va_Qi (fun (r : Int32) (_ : Unit) => r = (-2)) (fun (_ : Unit) _ => True) (va_A [] sz)) 0 0 (va_A [] sz) := by
  refine Met.ofW (cc := cX10_drop) (maxL := 4) (ret := (some .int)) (by decide) rfl ?_
  intro p e s m args below meth c s₁ B hml hv
  obtain ⟨rfl, hsz, hP, hK⟩ := hv
  have hx := B.exec
  have hb := B.bytes
  have hr := B.returns
  have hts := atoms_spec (ws := wp_c_X10_drop) B.pre
  have hown : s.vm.findClass RX10 = some m.cls := findClass_of_methodNamed B.named
  have hlocks := B.notSynchronized
  subst hsz
  generalize hAe : va_A [] s.heap.size = A at ⊢
  have hA : ∀ q : Nat, s.heap.size ≤ q → A q := fun q h => by rw [← hAe]; exact Or.inr h
  have hS : va_S A s.heap s.heap [] := va_S.rf
  have hP : va_P D vwCl [(h0, .inr (10, [.ref (ca 0), .ref (ca 1), .int tp, .ref (ca 3), .ref (ca 4), .ref (ca 5), .ref (ca 6)])), (ca 0, .inl (cT, 4, .inr (.inr (.inr (.inr (fun _ => none))))))] s.heap := hP
  have hl := lv_entry ([.ref h0, .int z1, .int z2]) (n := 4) (Nat.le_of_ble_eq_true rfl)
  rw [lg_entry_eq]
  generalize (lg_sl ([.ref h0, .int z1, .int z2]) ++ List.replicate (4 - (lg_sl ([.ref h0, .int z1, .int z2])).length) Slot.unset).toArray = ls at hl ⊢
  have hl : lv_has ls 4 [(0, .ref h0), (1, .int z1), (2, .int z2)] := hl
  refine lv_aload_n hx hb dX10_drop_0 rfl (lv_at hl 0 rfl) ?_
  refine lv_iload_n hx hb dX10_drop_1 rfl (lv_at hl 1 rfl) ?_
  have hPc := hP.sub (ws' := [(h0, .inr (10, [.ref (ca 0), .ref (ca 1), .int tp, .ref (ca 3), .ref (ca 4), .ref (ca 5), .ref (ca 6)])), (ca 0, .inl (cT, 4, .inr (.inr (.inr (.inr (fun _ => none))))))]) [0, 1] rfl
  have hKc := hK.sub (tys' := [(cT, .object RX9)]) [0] rfl
  have hFc := va_free0 hS hA
  refine va_callq (va_runV (As := [.int z1]) (rest := []) ⟨hx, hb, hml, hown, hts⟩ (c_tableAt l D _ h0 ca cT tp z1) (cwV 1 hts g_c_X10_drop_c_tableAt_74 rfl rfl rfl (by decide +kernel) ⟨(Nat.le_of_ble_eq_true rfl), (Nat.le_of_ble_eq_true rfl)⟩) (PcR_V (q0 := 0) hPc hKc rfl rfl) rfl rfl hl.1 rfl (lv_room (Nat.le_of_ble_eq_true rfl)) dX10_drop_2 ⟨(Nat.le_of_ble_eq_true rfl), (Nat.le_of_ble_eq_true rfl)⟩) hS (fun q _ h => hFc q h) hFc (fun r1 uu tt H locs htt hvm hw hB hz1 hk1 hS => ?_)
  have hP := va_keep hP hk1
  try dsimp only at hw
  clear hB hz1 hk1 hFc hPc hKc
  obtain rfl : r1 = none := hw
  refine W.eq (g2 := F0 m 5 ls [.null]) rfl ?_
  refine lv_astore_nN (lv' := [(3, .null), (0, .ref h0), (1, .int z1), (2, .int z2)]) hx hb dX10_drop_5 rfl hl (by decide) rfl (fun ls hl => ?_)
  refine lv_aload_nN hx hb dX10_drop_6 rfl (lv_at hl 0 rfl) ?_
  refine lv_ifnullN (tgt := 17) hx hb dX10_drop_7 (by decide) ?_
  refine lv_bipush (v := (-2)) hx hb dX10_drop_17 (by decide) ?_
  exact W.iret (v := (-2)) hx hb hr (fun t ht hW => ⟨⟨(-2), (), rfl, rfl, trivial⟩, hS.F ht⟩) hS.2.2 dX10_drop_19

def own_c_X10_build : List Cond := [.methodLink RX10 74 yX10_tableAt, .instanceMethod yX10_tableAt, .selects RX10 yX10_tableAt yX10_tableAt, .initialized RX10]
def wp_c_X10_build : List Cond := .code yX10_build cX10_build 4 (some .int) :: (own_c_X10_build ++ (wp_c_tableAt ++ ([] : List Cond)))
set_option maxRecDepth 20000 in
theorem inown_c_X10_build : ∀ w ∈ own_c_X10_build, w ∈ lw_tbl := mem_places [610, 612, 2, 106] (by decide +kernel)
set_option maxRecDepth 20000 in
theorem in_c_X10_build : ∀ w ∈ wp_c_X10_build, w ∈ lw_tbl := List.forall_mem_cons.mpr ⟨List.mem_of_getElem? (i := 716) (by decide +kernel), List.forall_mem_append.mpr ⟨inown_c_X10_build, List.forall_mem_append.mpr ⟨in_c_tableAt, fun _ h => absurd h List.not_mem_nil⟩⟩⟩
set_option maxRecDepth 20000 in
theorem good_c_X10_build : wp_c_X10_build.all goodWord = true := by decide +kernel
set_option maxRecDepth 20000 in
theorem g_c_X10_build_c_tableAt_74 : GoodIn wp_c_X10_build (wsV RX10 74 RX10 yX10_tableAt wp_c_tableAt) := goodIn_sub (List.forall_mem_append.mpr ⟨List.forall_mem_cons.mpr ⟨(List.mem_of_getElem? (i := 1) rfl), List.forall_mem_cons.mpr ⟨(List.mem_of_getElem? (i := 2) rfl), List.forall_mem_cons.mpr ⟨(List.mem_of_getElem? (i := 3) rfl), List.forall_mem_cons.mpr ⟨(List.mem_of_getElem? (i := 4) rfl), fun _ h => absurd h List.not_mem_nil⟩⟩⟩⟩, (fun _ h => (List.mem_cons_of_mem _ (List.mem_append_right _ (List.mem_append_left _ h))))⟩) (by decide +kernel)
set_option maxHeartbeats 4000000 in
set_option maxRecDepth 100000 in
theorem c_X10_build (l : Launch) (D : va_G) (sz : Nat) (h0 : Nat) (ca : Nat → Nat) (cT : ClassId) (tp : Int32) (z1 : Int32)  : Met l yX10_build wp_c_X10_build ({ frames := 2, cells := 0, slots := 0, locals := 41 }) (PcR D [.ref h0, .int z1] sz [(h0, .inr (10, [.ref (ca 0), .ref (ca 1), .int tp, .ref (ca 3), .ref (ca 4), .ref (ca 5), .ref (ca 6)])), (ca 0, .inl (cT, 4, .inr (.inr (.inr (.inr (fun _ => none))))))] [(cT, .object RX9)]) (va_Qi (fun (r : Int32) (_ : Unit) => r = (-2)) (fun (_ : Unit) _ => True) (va_A [] sz)) 0 0 (va_A [] sz) := by
  refine Met.ofW (cc := cX10_build) (maxL := 4) (ret := (some .int)) (by decide) rfl ?_
  intro p e s m args below meth c s₁ B hml hv
  obtain ⟨rfl, hsz, hP, hK⟩ := hv
  have hx := B.exec
  have hb := B.bytes
  have hr := B.returns
  have hts := atoms_spec (ws := wp_c_X10_build) B.pre
  have hown : s.vm.findClass RX10 = some m.cls := findClass_of_methodNamed B.named
  have hlocks := B.notSynchronized
  subst hsz
  generalize hAe : va_A [] s.heap.size = A at ⊢
  have hA : ∀ q : Nat, s.heap.size ≤ q → A q := fun q h => by rw [← hAe]; exact Or.inr h
  have hS : va_S A s.heap s.heap [] := va_S.rf
  have hP : va_P D vwCl [(h0, .inr (10, [.ref (ca 0), .ref (ca 1), .int tp, .ref (ca 3), .ref (ca 4), .ref (ca 5), .ref (ca 6)])), (ca 0, .inl (cT, 4, .inr (.inr (.inr (.inr (fun _ => none))))))] s.heap := hP
  have hl := lv_entry ([.ref h0, .int z1]) (n := 4) (Nat.le_of_ble_eq_true rfl)
  rw [lg_entry_eq]
  generalize (lg_sl ([.ref h0, .int z1]) ++ List.replicate (4 - (lg_sl ([.ref h0, .int z1])).length) Slot.unset).toArray = ls at hl ⊢
  have hl : lv_has ls 4 [(0, .ref h0), (1, .int z1)] := hl
  refine lv_aload_n hx hb dX10_build_0 rfl (lv_at hl 0 rfl) ?_
  refine lv_iload_n hx hb dX10_build_1 rfl (lv_at hl 1 rfl) ?_
  have hPc := hP.sub (ws' := [(h0, .inr (10, [.ref (ca 0), .ref (ca 1), .int tp, .ref (ca 3), .ref (ca 4), .ref (ca 5), .ref (ca 6)])), (ca 0, .inl (cT, 4, .inr (.inr (.inr (.inr (fun _ => none))))))]) [0, 1] rfl
  have hKc := hK.sub (tys' := [(cT, .object RX9)]) [0] rfl
  have hFc := va_free0 hS hA
  refine va_callq (va_runV (As := [.int z1]) (rest := []) ⟨hx, hb, hml, hown, hts⟩ (c_tableAt l D _ h0 ca cT tp z1) (cwV 1 hts g_c_X10_build_c_tableAt_74 rfl rfl rfl (by decide +kernel) ⟨(Nat.le_of_ble_eq_true rfl), (Nat.le_of_ble_eq_true rfl)⟩) (PcR_V (q0 := 0) hPc hKc rfl rfl) rfl rfl hl.1 rfl (lv_room (Nat.le_of_ble_eq_true rfl)) dX10_build_2 ⟨(Nat.le_of_ble_eq_true rfl), (Nat.le_of_ble_eq_true rfl)⟩) hS (fun q _ h => hFc q h) hFc (fun r1 uu tt H locs htt hvm hw hB hz1 hk1 hS => ?_)
  have hP := va_keep hP hk1
  try dsimp only at hw
  clear hB hz1 hk1 hFc hPc hKc
  obtain rfl : r1 = none := hw
  refine W.eq (g2 := F0 m 5 ls [.null]) rfl ?_
  refine lv_astore_nN (lv' := [(2, .null), (0, .ref h0), (1, .int z1)]) hx hb dX10_build_5 rfl hl (by decide) rfl (fun ls hl => ?_)
  refine lv_aload_nN hx hb dX10_build_6 rfl (lv_at hl 0 rfl) ?_
  refine lv_ifnonnullN hx hb dX10_build_7 ?_
  refine lv_bipush (v := (-2)) hx hb dX10_build_10 (by decide) ?_
  exact W.iret (v := (-2)) hx hb hr (fun t ht hW => ⟨⟨(-2), (), rfl, rfl, trivial⟩, hS.F ht⟩) hS.2.2 dX10_build_12

def own_c_X10_has : List Cond := [.methodLink RX10 74 yX10_tableAt, .instanceMethod yX10_tableAt, .selects RX10 yX10_tableAt yX10_tableAt, .initialized RX10, .constantLong RX10 91 (-1000000000000000)]
def wp_c_X10_has : List Cond := .code yX10_has cX10_has 4 (some .long) :: (own_c_X10_has ++ (wp_c_tableAt ++ ([] : List Cond)))
set_option maxRecDepth 20000 in
theorem inown_c_X10_has : ∀ w ∈ own_c_X10_has, w ∈ lw_tbl := mem_places [610, 612, 2, 106, 691] (by decide +kernel)
set_option maxRecDepth 20000 in
theorem in_c_X10_has : ∀ w ∈ wp_c_X10_has, w ∈ lw_tbl := List.forall_mem_cons.mpr ⟨List.mem_of_getElem? (i := 720) (by decide +kernel), List.forall_mem_append.mpr ⟨inown_c_X10_has, List.forall_mem_append.mpr ⟨in_c_tableAt, fun _ h => absurd h List.not_mem_nil⟩⟩⟩
set_option maxRecDepth 20000 in
theorem good_c_X10_has : wp_c_X10_has.all goodWord = true := by decide +kernel
set_option maxRecDepth 20000 in
theorem g_c_X10_has_c_tableAt_74 : GoodIn wp_c_X10_has (wsV RX10 74 RX10 yX10_tableAt wp_c_tableAt) := goodIn_sub (List.forall_mem_append.mpr ⟨List.forall_mem_cons.mpr ⟨(List.mem_of_getElem? (i := 1) rfl), List.forall_mem_cons.mpr ⟨(List.mem_of_getElem? (i := 2) rfl), List.forall_mem_cons.mpr ⟨(List.mem_of_getElem? (i := 3) rfl), List.forall_mem_cons.mpr ⟨(List.mem_of_getElem? (i := 4) rfl), fun _ h => absurd h List.not_mem_nil⟩⟩⟩⟩, (fun _ h => (List.mem_cons_of_mem _ (List.mem_append_right _ (List.mem_append_left _ h))))⟩) (by decide +kernel)
set_option maxHeartbeats 4000000 in
set_option maxRecDepth 100000 in
theorem c_X10_has (l : Launch) (D : va_G) (sz : Nat) (h0 : Nat) (ca : Nat → Nat) (cT : ClassId) (tp : Int32) (z1 : Int32) (z2 : Int32)  : Met l yX10_has wp_c_X10_has ({ frames := 2, cells := 0, slots := 0, locals := 41 }) (PcR D [.ref h0, .int z1, .int z2] sz [(h0, .inr (10, [.ref (ca 0), .ref (ca 1), .int tp, .ref (ca 3), .ref (ca 4), .ref (ca 5), .ref (ca 6)])), (ca 0, .inl (cT, 4, .inr (.inr (.inr (.inr (fun _ => none))))))] [(cT, .object RX9)]) (va_Ql (fun (r : Int64) (_ : Unit) => r = (-1000000000000000)) (fun (_ : Unit) _ => True) (va_A [] sz)) 0 0 (va_A [] sz) := by
  refine Met.ofW (cc := cX10_has) (maxL := 4) (ret := (some .long)) (by decide) rfl ?_
  intro p e s m args below meth c s₁ B hml hv
  obtain ⟨rfl, hsz, hP, hK⟩ := hv
  have hx := B.exec
  have hb := B.bytes
  have hr := B.returns
  have hts := atoms_spec (ws := wp_c_X10_has) B.pre
  have hown : s.vm.findClass RX10 = some m.cls := findClass_of_methodNamed B.named
  have hlocks := B.notSynchronized
  subst hsz
  generalize hAe : va_A [] s.heap.size = A at ⊢
  have hA : ∀ q : Nat, s.heap.size ≤ q → A q := fun q h => by rw [← hAe]; exact Or.inr h
  have hS : va_S A s.heap s.heap [] := va_S.rf
  have hP : va_P D vwCl [(h0, .inr (10, [.ref (ca 0), .ref (ca 1), .int tp, .ref (ca 3), .ref (ca 4), .ref (ca 5), .ref (ca 6)])), (ca 0, .inl (cT, 4, .inr (.inr (.inr (.inr (fun _ => none))))))] s.heap := hP
  have hl := lv_entry ([.ref h0, .int z1, .int z2]) (n := 4) (Nat.le_of_ble_eq_true rfl)
  rw [lg_entry_eq]
  generalize (lg_sl ([.ref h0, .int z1, .int z2]) ++ List.replicate (4 - (lg_sl ([.ref h0, .int z1, .int z2])).length) Slot.unset).toArray = ls at hl ⊢
  have hl : lv_has ls 4 [(0, .ref h0), (1, .int z1), (2, .int z2)] := hl
  refine lv_aload_n hx hb dX10_has_0 rfl (lv_at hl 0 rfl) ?_
  refine lv_iload_n hx hb dX10_has_1 rfl (lv_at hl 1 rfl) ?_
  have hPc := hP.sub (ws' := [(h0, .inr (10, [.ref (ca 0), .ref (ca 1), .int tp, .ref (ca 3), .ref (ca 4), .ref (ca 5), .ref (ca 6)])), (ca 0, .inl (cT, 4, .inr (.inr (.inr (.inr (fun _ => none))))))]) [0, 1] rfl
  have hKc := hK.sub (tys' := [(cT, .object RX9)]) [0] rfl
  have hFc := va_free0 hS hA
  refine va_callq (va_runV (As := [.int z1]) (rest := []) ⟨hx, hb, hml, hown, hts⟩ (c_tableAt l D _ h0 ca cT tp z1) (cwV 1 hts g_c_X10_has_c_tableAt_74 rfl rfl rfl (by decide +kernel) ⟨(Nat.le_of_ble_eq_true rfl), (Nat.le_of_ble_eq_true rfl)⟩) (PcR_V (q0 := 0) hPc hKc rfl rfl) rfl rfl hl.1 rfl (lv_room (Nat.le_of_ble_eq_true rfl)) dX10_has_2 ⟨(Nat.le_of_ble_eq_true rfl), (Nat.le_of_ble_eq_true rfl)⟩) hS (fun q _ h => hFc q h) hFc (fun r1 uu tt H locs htt hvm hw hB hz1 hk1 hS => ?_)
  have hP := va_keep hP hk1
  try dsimp only at hw
  clear hB hz1 hk1 hFc hPc hKc
  obtain rfl : r1 = none := hw
  refine W.eq (g2 := F0 m 5 ls [.null]) rfl ?_
  refine lv_astore_nN (lv' := [(3, .null), (0, .ref h0), (1, .int z1), (2, .int z2)]) hx hb dX10_has_5 rfl hl (by decide) rfl (fun ls hl => ?_)
  refine lv_aload_nN hx hb dX10_has_6 rfl (lv_at hl 0 rfl) ?_
  refine lv_ifnonnullN hx hb dX10_has_7 ?_
  refine lv_ldc2 (v := (-1000000000000000)) hx hb hown (hts (.constantLong RX10 91 (-1000000000000000)) (List.mem_of_getElem? (i := 5) rfl)) dX10_has_10 ?_
  exact W.lret (v := (-1000000000000000)) hx hb hr (fun t ht hW => ⟨⟨(-1000000000000000), (), rfl, rfl, trivial⟩, hS.F ht⟩) hS.2.2 dX10_has_13

def own_c_X10_bucket : List Cond := [.methodLink RX10 74 yX10_tableAt, .instanceMethod yX10_tableAt, .selects RX10 yX10_tableAt yX10_tableAt, .initialized RX10, .constantLong RX10 91 (-1000000000000000)]
def wp_c_X10_bucket : List Cond := .code yX10_bucket cX10_bucket 6 (some .long) :: (own_c_X10_bucket ++ (wp_c_tableAt ++ ([] : List Cond)))
set_option maxRecDepth 20000 in
theorem inown_c_X10_bucket : ∀ w ∈ own_c_X10_bucket, w ∈ lw_tbl := mem_places [610, 612, 2, 106, 691] (by decide +kernel)
set_option maxRecDepth 20000 in
theorem in_c_X10_bucket : ∀ w ∈ wp_c_X10_bucket, w ∈ lw_tbl := List.forall_mem_cons.mpr ⟨List.mem_of_getElem? (i := 725) (by decide +kernel), List.forall_mem_append.mpr ⟨inown_c_X10_bucket, List.forall_mem_append.mpr ⟨in_c_tableAt, fun _ h => absurd h List.not_mem_nil⟩⟩⟩
set_option maxRecDepth 20000 in
theorem good_c_X10_bucket : wp_c_X10_bucket.all goodWord = true := by decide +kernel
set_option maxRecDepth 20000 in
theorem g_c_X10_bucket_c_tableAt_74 : GoodIn wp_c_X10_bucket (wsV RX10 74 RX10 yX10_tableAt wp_c_tableAt) := goodIn_sub (List.forall_mem_append.mpr ⟨List.forall_mem_cons.mpr ⟨(List.mem_of_getElem? (i := 1) rfl), List.forall_mem_cons.mpr ⟨(List.mem_of_getElem? (i := 2) rfl), List.forall_mem_cons.mpr ⟨(List.mem_of_getElem? (i := 3) rfl), List.forall_mem_cons.mpr ⟨(List.mem_of_getElem? (i := 4) rfl), fun _ h => absurd h List.not_mem_nil⟩⟩⟩⟩, (fun _ h => (List.mem_cons_of_mem _ (List.mem_append_right _ (List.mem_append_left _ h))))⟩) (by decide +kernel)
set_option maxHeartbeats 4000000 in
set_option maxRecDepth 100000 in
theorem c_X10_bucket (l : Launch) (D : va_G) (sz : Nat) (h0 : Nat) (ca : Nat → Nat) (cT : ClassId) (tp : Int32) (z1 : Int32) (z2 : Int32) (z3 : Int32)  : Met l yX10_bucket wp_c_X10_bucket ({ frames := 2, cells := 0, slots := 0, locals := 41 }) (PcR D [.ref h0, .int z1, .int z2, .int z3] sz [(h0, .inr (10, [.ref (ca 0), .ref (ca 1), .int tp, .ref (ca 3), .ref (ca 4), .ref (ca 5), .ref (ca 6)])), (ca 0, .inl (cT, 4, .inr (.inr (.inr (.inr (fun _ => none))))))] [(cT, .object RX9)]) (va_Ql (fun (r : Int64) (_ : Unit) => r = (-1000000000000000)) (fun (_ : Unit) _ => True) (va_A [] sz)) 0 0 (va_A [] sz) := by
  refine Met.ofW (cc := cX10_bucket) (maxL := 6) (ret := (some .long)) (by decide) rfl ?_
  intro p e s m args below meth c s₁ B hml hv
  obtain ⟨rfl, hsz, hP, hK⟩ := hv
  have hx := B.exec
  have hb := B.bytes
  have hr := B.returns
  have hts := atoms_spec (ws := wp_c_X10_bucket) B.pre
  have hown : s.vm.findClass RX10 = some m.cls := findClass_of_methodNamed B.named
  have hlocks := B.notSynchronized
  subst hsz
  generalize hAe : va_A [] s.heap.size = A at ⊢
  have hA : ∀ q : Nat, s.heap.size ≤ q → A q := fun q h => by rw [← hAe]; exact Or.inr h
  have hS : va_S A s.heap s.heap [] := va_S.rf
  have hP : va_P D vwCl [(h0, .inr (10, [.ref (ca 0), .ref (ca 1), .int tp, .ref (ca 3), .ref (ca 4), .ref (ca 5), .ref (ca 6)])), (ca 0, .inl (cT, 4, .inr (.inr (.inr (.inr (fun _ => none))))))] s.heap := hP
  have hl := lv_entry ([.ref h0, .int z1, .int z2, .int z3]) (n := 6) (Nat.le_of_ble_eq_true rfl)
  rw [lg_entry_eq]
  generalize (lg_sl ([.ref h0, .int z1, .int z2, .int z3]) ++ List.replicate (6 - (lg_sl ([.ref h0, .int z1, .int z2, .int z3])).length) Slot.unset).toArray = ls at hl ⊢
  have hl : lv_has ls 6 [(0, .ref h0), (1, .int z1), (2, .int z2), (3, .int z3)] := hl
  refine lv_aload_n hx hb dX10_bucket_0 rfl (lv_at hl 0 rfl) ?_
  refine lv_iload_n hx hb dX10_bucket_1 rfl (lv_at hl 1 rfl) ?_
  have hPc := hP.sub (ws' := [(h0, .inr (10, [.ref (ca 0), .ref (ca 1), .int tp, .ref (ca 3), .ref (ca 4), .ref (ca 5), .ref (ca 6)])), (ca 0, .inl (cT, 4, .inr (.inr (.inr (.inr (fun _ => none))))))]) [0, 1] rfl
  have hKc := hK.sub (tys' := [(cT, .object RX9)]) [0] rfl
  have hFc := va_free0 hS hA
  refine va_callq (va_runV (As := [.int z1]) (rest := []) ⟨hx, hb, hml, hown, hts⟩ (c_tableAt l D _ h0 ca cT tp z1) (cwV 1 hts g_c_X10_bucket_c_tableAt_74 rfl rfl rfl (by decide +kernel) ⟨(Nat.le_of_ble_eq_true rfl), (Nat.le_of_ble_eq_true rfl)⟩) (PcR_V (q0 := 0) hPc hKc rfl rfl) rfl rfl hl.1 rfl (lv_room (Nat.le_of_ble_eq_true rfl)) dX10_bucket_2 ⟨(Nat.le_of_ble_eq_true rfl), (Nat.le_of_ble_eq_true rfl)⟩) hS (fun q _ h => hFc q h) hFc (fun r1 uu tt H locs htt hvm hw hB hz1 hk1 hS => ?_)
  have hP := va_keep hP hk1
  try dsimp only at hw
  clear hB hz1 hk1 hFc hPc hKc
  obtain rfl : r1 = none := hw
  refine W.eq (g2 := F0 m 5 ls [.null]) rfl ?_
  refine lv_astoreN (lv' := [(4, .null), (0, .ref h0), (1, .int z1), (2, .int z2), (3, .int z3)]) hx hb dX10_bucket_5 hl (by decide) rfl (fun ls hl => ?_)
  refine lv_aloadN hx hb dX10_bucket_7 (lv_at hl 0 rfl) ?_
  refine lv_ifnullN (tgt := 24) hx hb dX10_bucket_9 (by decide) ?_
  refine lv_ldc2 (v := (-1000000000000000)) hx hb hown (hts (.constantLong RX10 91 (-1000000000000000)) (List.mem_of_getElem? (i := 5) rfl)) dX10_bucket_24 ?_
  exact W.lret (v := (-1000000000000000)) hx hb hr (fun t ht hW => ⟨⟨(-1000000000000000), (), rfl, rfl, trivial⟩, hS.F ht⟩) hS.2.2 dX10_bucket_27

def own_c_X10_room : List Cond := [.methodLink RX10 74 yX10_tableAt, .instanceMethod yX10_tableAt, .selects RX10 yX10_tableAt yX10_tableAt, .initialized RX10]
def wp_c_X10_room : List Cond := .code yX10_room cX10_room 6 (some .int) :: (own_c_X10_room ++ (wp_c_tableAt ++ ([] : List Cond)))
set_option maxRecDepth 20000 in
theorem inown_c_X10_room : ∀ w ∈ own_c_X10_room, w ∈ lw_tbl := mem_places [610, 612, 2, 106] (by decide +kernel)
set_option maxRecDepth 20000 in
theorem in_c_X10_room : ∀ w ∈ wp_c_X10_room, w ∈ lw_tbl := List.forall_mem_cons.mpr ⟨List.mem_of_getElem? (i := 731) (by decide +kernel), List.forall_mem_append.mpr ⟨inown_c_X10_room, List.forall_mem_append.mpr ⟨in_c_tableAt, fun _ h => absurd h List.not_mem_nil⟩⟩⟩
set_option maxRecDepth 20000 in
theorem good_c_X10_room : wp_c_X10_room.all goodWord = true := by decide +kernel
set_option maxRecDepth 20000 in
theorem g_c_X10_room_c_tableAt_74 : GoodIn wp_c_X10_room (wsV RX10 74 RX10 yX10_tableAt wp_c_tableAt) := goodIn_sub (List.forall_mem_append.mpr ⟨List.forall_mem_cons.mpr ⟨(List.mem_of_getElem? (i := 1) rfl), List.forall_mem_cons.mpr ⟨(List.mem_of_getElem? (i := 2) rfl), List.forall_mem_cons.mpr ⟨(List.mem_of_getElem? (i := 3) rfl), List.forall_mem_cons.mpr ⟨(List.mem_of_getElem? (i := 4) rfl), fun _ h => absurd h List.not_mem_nil⟩⟩⟩⟩, (fun _ h => (List.mem_cons_of_mem _ (List.mem_append_right _ (List.mem_append_left _ h))))⟩) (by decide +kernel)
set_option maxHeartbeats 4000000 in
set_option maxRecDepth 100000 in
theorem c_X10_room (l : Launch) (D : va_G) (sz : Nat) (h0 : Nat) (ca : Nat → Nat) (cT : ClassId) (tp : Int32) (z1 : Int32) (z2 : Int32) (z3 : Int32)  : Met l yX10_room wp_c_X10_room ({ frames := 2, cells := 0, slots := 0, locals := 41 }) (PcR D [.ref h0, .int z1, .int z2, .int z3] sz [(h0, .inr (10, [.ref (ca 0), .ref (ca 1), .int tp, .ref (ca 3), .ref (ca 4), .ref (ca 5), .ref (ca 6)])), (ca 0, .inl (cT, 4, .inr (.inr (.inr (.inr (fun _ => none))))))] [(cT, .object RX9)]) (va_Qi (fun (r : Int32) (_ : Unit) => r = (-2)) (fun (_ : Unit) _ => True) (va_A [] sz)) 0 0 (va_A [] sz) := by
  refine Met.ofW (cc := cX10_room) (maxL := 6) (ret := (some .int)) (by decide) rfl ?_
  intro p e s m args below meth c s₁ B hml hv
  obtain ⟨rfl, hsz, hP, hK⟩ := hv
  have hx := B.exec
  have hb := B.bytes
  have hr := B.returns
  have hts := atoms_spec (ws := wp_c_X10_room) B.pre
  have hown : s.vm.findClass RX10 = some m.cls := findClass_of_methodNamed B.named
  have hlocks := B.notSynchronized
  subst hsz
  generalize hAe : va_A [] s.heap.size = A at ⊢
  have hA : ∀ q : Nat, s.heap.size ≤ q → A q := fun q h => by rw [← hAe]; exact Or.inr h
  have hS : va_S A s.heap s.heap [] := va_S.rf
  have hP : va_P D vwCl [(h0, .inr (10, [.ref (ca 0), .ref (ca 1), .int tp, .ref (ca 3), .ref (ca 4), .ref (ca 5), .ref (ca 6)])), (ca 0, .inl (cT, 4, .inr (.inr (.inr (.inr (fun _ => none))))))] s.heap := hP
  have hl := lv_entry ([.ref h0, .int z1, .int z2, .int z3]) (n := 6) (Nat.le_of_ble_eq_true rfl)
  rw [lg_entry_eq]
  generalize (lg_sl ([.ref h0, .int z1, .int z2, .int z3]) ++ List.replicate (6 - (lg_sl ([.ref h0, .int z1, .int z2, .int z3])).length) Slot.unset).toArray = ls at hl ⊢
  have hl : lv_has ls 6 [(0, .ref h0), (1, .int z1), (2, .int z2), (3, .int z3)] := hl
  refine lv_aload_n hx hb dX10_room_0 rfl (lv_at hl 0 rfl) ?_
  refine lv_iload_n hx hb dX10_room_1 rfl (lv_at hl 1 rfl) ?_
  have hPc := hP.sub (ws' := [(h0, .inr (10, [.ref (ca 0), .ref (ca 1), .int tp, .ref (ca 3), .ref (ca 4), .ref (ca 5), .ref (ca 6)])), (ca 0, .inl (cT, 4, .inr (.inr (.inr (.inr (fun _ => none))))))]) [0, 1] rfl
  have hKc := hK.sub (tys' := [(cT, .object RX9)]) [0] rfl
  have hFc := va_free0 hS hA
  refine va_callq (va_runV (As := [.int z1]) (rest := []) ⟨hx, hb, hml, hown, hts⟩ (c_tableAt l D _ h0 ca cT tp z1) (cwV 1 hts g_c_X10_room_c_tableAt_74 rfl rfl rfl (by decide +kernel) ⟨(Nat.le_of_ble_eq_true rfl), (Nat.le_of_ble_eq_true rfl)⟩) (PcR_V (q0 := 0) hPc hKc rfl rfl) rfl rfl hl.1 rfl (lv_room (Nat.le_of_ble_eq_true rfl)) dX10_room_2 ⟨(Nat.le_of_ble_eq_true rfl), (Nat.le_of_ble_eq_true rfl)⟩) hS (fun q _ h => hFc q h) hFc (fun r1 uu tt H locs htt hvm hw hB hz1 hk1 hS => ?_)
  have hP := va_keep hP hk1
  try dsimp only at hw
  clear hB hz1 hk1 hFc hPc hKc
  obtain rfl : r1 = none := hw
  refine W.eq (g2 := F0 m 5 ls [.null]) rfl ?_
  refine lv_astoreN (lv' := [(4, .null), (0, .ref h0), (1, .int z1), (2, .int z2), (3, .int z3)]) hx hb dX10_room_5 hl (by decide) rfl (fun ls hl => ?_)
  refine lv_aloadN hx hb dX10_room_7 (lv_at hl 0 rfl) ?_
  refine lv_ifnullN (tgt := 24) hx hb dX10_room_9 (by decide) ?_
  refine lv_bipush (v := (-2)) hx hb dX10_room_24 (by decide) ?_
  exact W.iret (v := (-2)) hx hb hr (fun t ht hW => ⟨⟨(-2), (), rfl, rfl, trivial⟩, hS.F ht⟩) hS.2.2 dX10_room_26

def own_c_X10_place : List Cond := [.methodLink RX10 74 yX10_tableAt, .instanceMethod yX10_tableAt, .selects RX10 yX10_tableAt yX10_tableAt, .initialized RX10]
def wp_c_X10_place : List Cond := .code yX10_place cX10_place 6 (some .int) :: (own_c_X10_place ++ (wp_c_tableAt ++ ([] : List Cond)))
set_option maxRecDepth 20000 in
theorem inown_c_X10_place : ∀ w ∈ own_c_X10_place, w ∈ lw_tbl := mem_places [610, 612, 2, 106] (by decide +kernel)
set_option maxRecDepth 20000 in
theorem in_c_X10_place : ∀ w ∈ wp_c_X10_place, w ∈ lw_tbl := List.forall_mem_cons.mpr ⟨List.mem_of_getElem? (i := 741) (by decide +kernel), List.forall_mem_append.mpr ⟨inown_c_X10_place, List.forall_mem_append.mpr ⟨in_c_tableAt, fun _ h => absurd h List.not_mem_nil⟩⟩⟩
set_option maxRecDepth 20000 in
theorem good_c_X10_place : wp_c_X10_place.all goodWord = true := by decide +kernel
set_option maxRecDepth 20000 in
theorem g_c_X10_place_c_tableAt_74 : GoodIn wp_c_X10_place (wsV RX10 74 RX10 yX10_tableAt wp_c_tableAt) := goodIn_sub (List.forall_mem_append.mpr ⟨List.forall_mem_cons.mpr ⟨(List.mem_of_getElem? (i := 1) rfl), List.forall_mem_cons.mpr ⟨(List.mem_of_getElem? (i := 2) rfl), List.forall_mem_cons.mpr ⟨(List.mem_of_getElem? (i := 3) rfl), List.forall_mem_cons.mpr ⟨(List.mem_of_getElem? (i := 4) rfl), fun _ h => absurd h List.not_mem_nil⟩⟩⟩⟩, (fun _ h => (List.mem_cons_of_mem _ (List.mem_append_right _ (List.mem_append_left _ h))))⟩) (by decide +kernel)
set_option maxHeartbeats 4000000 in
set_option maxRecDepth 100000 in
theorem c_X10_place (l : Launch) (D : va_G) (sz : Nat) (h0 : Nat) (ca : Nat → Nat) (cT : ClassId) (tp : Int32) (z1 : Int32) (z2 : Int32) (z3 : Int32)  : Met l yX10_place wp_c_X10_place ({ frames := 2, cells := 0, slots := 0, locals := 41 }) (PcR D [.ref h0, .int z1, .int z2, .int z3] sz [(h0, .inr (10, [.ref (ca 0), .ref (ca 1), .int tp, .ref (ca 3), .ref (ca 4), .ref (ca 5), .ref (ca 6)])), (ca 0, .inl (cT, 4, .inr (.inr (.inr (.inr (fun _ => none))))))] [(cT, .object RX9)]) (va_Qi (fun (r : Int32) (_ : Unit) => r = (-2)) (fun (_ : Unit) _ => True) (va_A [] sz)) 0 0 (va_A [] sz) := by
  refine Met.ofW (cc := cX10_place) (maxL := 6) (ret := (some .int)) (by decide) rfl ?_
  intro p e s m args below meth c s₁ B hml hv
  obtain ⟨rfl, hsz, hP, hK⟩ := hv
  have hx := B.exec
  have hb := B.bytes
  have hr := B.returns
  have hts := atoms_spec (ws := wp_c_X10_place) B.pre
  have hown : s.vm.findClass RX10 = some m.cls := findClass_of_methodNamed B.named
  have hlocks := B.notSynchronized
  subst hsz
  generalize hAe : va_A [] s.heap.size = A at ⊢
  have hA : ∀ q : Nat, s.heap.size ≤ q → A q := fun q h => by rw [← hAe]; exact Or.inr h
  have hS : va_S A s.heap s.heap [] := va_S.rf
  have hP : va_P D vwCl [(h0, .inr (10, [.ref (ca 0), .ref (ca 1), .int tp, .ref (ca 3), .ref (ca 4), .ref (ca 5), .ref (ca 6)])), (ca 0, .inl (cT, 4, .inr (.inr (.inr (.inr (fun _ => none))))))] s.heap := hP
  have hl := lv_entry ([.ref h0, .int z1, .int z2, .int z3]) (n := 6) (Nat.le_of_ble_eq_true rfl)
  rw [lg_entry_eq]
  generalize (lg_sl ([.ref h0, .int z1, .int z2, .int z3]) ++ List.replicate (6 - (lg_sl ([.ref h0, .int z1, .int z2, .int z3])).length) Slot.unset).toArray = ls at hl ⊢
  have hl : lv_has ls 6 [(0, .ref h0), (1, .int z1), (2, .int z2), (3, .int z3)] := hl
  refine lv_aload_n hx hb dX10_place_0 rfl (lv_at hl 0 rfl) ?_
  refine lv_iload_n hx hb dX10_place_1 rfl (lv_at hl 1 rfl) ?_
  have hPc := hP.sub (ws' := [(h0, .inr (10, [.ref (ca 0), .ref (ca 1), .int tp, .ref (ca 3), .ref (ca 4), .ref (ca 5), .ref (ca 6)])), (ca 0, .inl (cT, 4, .inr (.inr (.inr (.inr (fun _ => none))))))]) [0, 1] rfl
  have hKc := hK.sub (tys' := [(cT, .object RX9)]) [0] rfl
  have hFc := va_free0 hS hA
  refine va_callq (va_runV (As := [.int z1]) (rest := []) ⟨hx, hb, hml, hown, hts⟩ (c_tableAt l D _ h0 ca cT tp z1) (cwV 1 hts g_c_X10_place_c_tableAt_74 rfl rfl rfl (by decide +kernel) ⟨(Nat.le_of_ble_eq_true rfl), (Nat.le_of_ble_eq_true rfl)⟩) (PcR_V (q0 := 0) hPc hKc rfl rfl) rfl rfl hl.1 rfl (lv_room (Nat.le_of_ble_eq_true rfl)) dX10_place_2 ⟨(Nat.le_of_ble_eq_true rfl), (Nat.le_of_ble_eq_true rfl)⟩) hS (fun q _ h => hFc q h) hFc (fun r1 uu tt H locs htt hvm hw hB hz1 hk1 hS => ?_)
  have hP := va_keep hP hk1
  try dsimp only at hw
  clear hB hz1 hk1 hFc hPc hKc
  obtain rfl : r1 = none := hw
  refine W.eq (g2 := F0 m 5 ls [.null]) rfl ?_
  refine lv_astoreN (lv' := [(4, .null), (0, .ref h0), (1, .int z1), (2, .int z2), (3, .int z3)]) hx hb dX10_place_5 hl (by decide) rfl (fun ls hl => ?_)
  refine lv_aloadN hx hb dX10_place_7 (lv_at hl 0 rfl) ?_
  refine lv_ifnullN (tgt := 28) hx hb dX10_place_9 (by decide) ?_
  refine lv_bipush (v := (-2)) hx hb dX10_place_28 (by decide) ?_
  exact W.iret (v := (-2)) hx hb hr (fun t ht hW => ⟨⟨(-2), (), rfl, rfl, trivial⟩, hS.F ht⟩) hS.2.2 dX10_place_30

def own_c_X10_key : List Cond := [.methodLink RX10 74 yX10_tableAt, .instanceMethod yX10_tableAt, .selects RX10 yX10_tableAt yX10_tableAt, .initialized RX10]
def wp_c_X10_key : List Cond := .code yX10_key cX10_key 4 (some .int) :: (own_c_X10_key ++ (wp_c_tableAt ++ ([] : List Cond)))
set_option maxRecDepth 20000 in
theorem inown_c_X10_key : ∀ w ∈ own_c_X10_key, w ∈ lw_tbl := mem_places [610, 612, 2, 106] (by decide +kernel)
set_option maxRecDepth 20000 in
theorem in_c_X10_key : ∀ w ∈ wp_c_X10_key, w ∈ lw_tbl := List.forall_mem_cons.mpr ⟨List.mem_of_getElem? (i := 747) (by decide +kernel), List.forall_mem_append.mpr ⟨inown_c_X10_key, List.forall_mem_append.mpr ⟨in_c_tableAt, fun _ h => absurd h List.not_mem_nil⟩⟩⟩
set_option maxRecDepth 20000 in
theorem good_c_X10_key : wp_c_X10_key.all goodWord = true := by decide +kernel
set_option maxRecDepth 20000 in
theorem g_c_X10_key_c_tableAt_74 : GoodIn wp_c_X10_key (wsV RX10 74 RX10 yX10_tableAt wp_c_tableAt) := goodIn_sub (List.forall_mem_append.mpr ⟨List.forall_mem_cons.mpr ⟨(List.mem_of_getElem? (i := 1) rfl), List.forall_mem_cons.mpr ⟨(List.mem_of_getElem? (i := 2) rfl), List.forall_mem_cons.mpr ⟨(List.mem_of_getElem? (i := 3) rfl), List.forall_mem_cons.mpr ⟨(List.mem_of_getElem? (i := 4) rfl), fun _ h => absurd h List.not_mem_nil⟩⟩⟩⟩, (fun _ h => (List.mem_cons_of_mem _ (List.mem_append_right _ (List.mem_append_left _ h))))⟩) (by decide +kernel)
set_option maxHeartbeats 4000000 in
set_option maxRecDepth 100000 in
theorem c_X10_key (l : Launch) (D : va_G) (sz : Nat) (h0 : Nat) (ca : Nat → Nat) (cT : ClassId) (tp : Int32) (z1 : Int32) (z2 : Int32)  : Met l yX10_key wp_c_X10_key ({ frames := 2, cells := 0, slots := 0, locals := 41 }) (PcR D [.ref h0, .int z1, .int z2] sz [(h0, .inr (10, [.ref (ca 0), .ref (ca 1), .int tp, .ref (ca 3), .ref (ca 4), .ref (ca 5), .ref (ca 6)])), (ca 0, .inl (cT, 4, .inr (.inr (.inr (.inr (fun _ => none))))))] [(cT, .object RX9)]) (va_Qi (fun (r : Int32) (_ : Unit) => r = (-1)) (fun (_ : Unit) _ => True) (va_A [] sz)) 0 0 (va_A [] sz) := by
  refine Met.ofW (cc := cX10_key) (maxL := 4) (ret := (some .int)) (by decide) rfl ?_
  intro p e s m args below meth c s₁ B hml hv
  obtain ⟨rfl, hsz, hP, hK⟩ := hv
  have hx := B.exec
  have hb := B.bytes
  have hr := B.returns
  have hts := atoms_spec (ws := wp_c_X10_key) B.pre
  have hown : s.vm.findClass RX10 = some m.cls := findClass_of_methodNamed B.named
  have hlocks := B.notSynchronized
  subst hsz
  generalize hAe : va_A [] s.heap.size = A at ⊢
  have hA : ∀ q : Nat, s.heap.size ≤ q → A q := fun q h => by rw [← hAe]; exact Or.inr h
  have hS : va_S A s.heap s.heap [] := va_S.rf
  have hP : va_P D vwCl [(h0, .inr (10, [.ref (ca 0), .ref (ca 1), .int tp, .ref (ca 3), .ref (ca 4), .ref (ca 5), .ref (ca 6)])), (ca 0, .inl (cT, 4, .inr (.inr (.inr (.inr (fun _ => none))))))] s.heap := hP
  have hl := lv_entry ([.ref h0, .int z1, .int z2]) (n := 4) (Nat.le_of_ble_eq_true rfl)
  rw [lg_entry_eq]
  generalize (lg_sl ([.ref h0, .int z1, .int z2]) ++ List.replicate (4 - (lg_sl ([.ref h0, .int z1, .int z2])).length) Slot.unset).toArray = ls at hl ⊢
  have hl : lv_has ls 4 [(0, .ref h0), (1, .int z1), (2, .int z2)] := hl
  refine lv_aload_n hx hb dX10_key_0 rfl (lv_at hl 0 rfl) ?_
  refine lv_iload_n hx hb dX10_key_1 rfl (lv_at hl 1 rfl) ?_
  have hPc := hP.sub (ws' := [(h0, .inr (10, [.ref (ca 0), .ref (ca 1), .int tp, .ref (ca 3), .ref (ca 4), .ref (ca 5), .ref (ca 6)])), (ca 0, .inl (cT, 4, .inr (.inr (.inr (.inr (fun _ => none))))))]) [0, 1] rfl
  have hKc := hK.sub (tys' := [(cT, .object RX9)]) [0] rfl
  have hFc := va_free0 hS hA
  refine va_callq (va_runV (As := [.int z1]) (rest := []) ⟨hx, hb, hml, hown, hts⟩ (c_tableAt l D _ h0 ca cT tp z1) (cwV 1 hts g_c_X10_key_c_tableAt_74 rfl rfl rfl (by decide +kernel) ⟨(Nat.le_of_ble_eq_true rfl), (Nat.le_of_ble_eq_true rfl)⟩) (PcR_V (q0 := 0) hPc hKc rfl rfl) rfl rfl hl.1 rfl (lv_room (Nat.le_of_ble_eq_true rfl)) dX10_key_2 ⟨(Nat.le_of_ble_eq_true rfl), (Nat.le_of_ble_eq_true rfl)⟩) hS (fun q _ h => hFc q h) hFc (fun r1 uu tt H locs htt hvm hw hB hz1 hk1 hS => ?_)
  have hP := va_keep hP hk1
  try dsimp only at hw
  clear hB hz1 hk1 hFc hPc hKc
  obtain rfl : r1 = none := hw
  refine W.eq (g2 := F0 m 5 ls [.null]) rfl ?_
  refine lv_astore_nN (lv' := [(3, .null), (0, .ref h0), (1, .int z1), (2, .int z2)]) hx hb dX10_key_5 rfl hl (by decide) rfl (fun ls hl => ?_)
  refine lv_aload_nN hx hb dX10_key_6 rfl (lv_at hl 0 rfl) ?_
  refine lv_ifnullN (tgt := 25) hx hb dX10_key_7 (by decide) ?_
  refine lv_iconst (v := (-1)) hx hb dX10_key_25 (by decide) ?_
  exact W.iret (v := (-1)) hx hb hr (fun t ht hW => ⟨⟨(-1), (), rfl, rfl, trivial⟩, hS.F ht⟩) hS.2.2 dX10_key_26

def own_c_X10_walk : List Cond := [.methodLink RX10 74 yX10_tableAt, .instanceMethod yX10_tableAt, .selects RX10 yX10_tableAt yX10_tableAt, .initialized RX10]
def wp_c_X10_walk : List Cond := .code yX10_walk cX10_walk 5 (some .int) :: (own_c_X10_walk ++ (wp_c_tableAt ++ ([] : List Cond)))
set_option maxRecDepth 20000 in
theorem inown_c_X10_walk : ∀ w ∈ own_c_X10_walk, w ∈ lw_tbl := mem_places [610, 612, 2, 106] (by decide +kernel)
set_option maxRecDepth 20000 in
theorem in_c_X10_walk : ∀ w ∈ wp_c_X10_walk, w ∈ lw_tbl := List.forall_mem_cons.mpr ⟨List.mem_of_getElem? (i := 751) (by decide +kernel), List.forall_mem_append.mpr ⟨inown_c_X10_walk, List.forall_mem_append.mpr ⟨in_c_tableAt, fun _ h => absurd h List.not_mem_nil⟩⟩⟩
set_option maxRecDepth 20000 in
theorem good_c_X10_walk : wp_c_X10_walk.all goodWord = true := by decide +kernel
set_option maxRecDepth 20000 in
theorem g_c_X10_walk_c_tableAt_74 : GoodIn wp_c_X10_walk (wsV RX10 74 RX10 yX10_tableAt wp_c_tableAt) := goodIn_sub (List.forall_mem_append.mpr ⟨List.forall_mem_cons.mpr ⟨(List.mem_of_getElem? (i := 1) rfl), List.forall_mem_cons.mpr ⟨(List.mem_of_getElem? (i := 2) rfl), List.forall_mem_cons.mpr ⟨(List.mem_of_getElem? (i := 3) rfl), List.forall_mem_cons.mpr ⟨(List.mem_of_getElem? (i := 4) rfl), fun _ h => absurd h List.not_mem_nil⟩⟩⟩⟩, (fun _ h => (List.mem_cons_of_mem _ (List.mem_append_right _ (List.mem_append_left _ h))))⟩) (by decide +kernel)
set_option maxHeartbeats 4000000 in
set_option maxRecDepth 100000 in
theorem c_X10_walk (l : Launch) (D : va_G) (sz : Nat) (h0 : Nat) (ca : Nat → Nat) (cT : ClassId) (tp : Int32) (z1 : Int32) (z2 : Int32)  : Met l yX10_walk wp_c_X10_walk ({ frames := 2, cells := 0, slots := 0, locals := 41 }) (PcR D [.ref h0, .int z1, .int z2] sz [(h0, .inr (10, [.ref (ca 0), .ref (ca 1), .int tp, .ref (ca 3), .ref (ca 4), .ref (ca 5), .ref (ca 6)])), (ca 0, .inl (cT, 4, .inr (.inr (.inr (.inr (fun _ => none))))))] [(cT, .object RX9)]) (va_Qi (fun (r : Int32) (_ : Unit) => r = (-1)) (fun (_ : Unit) _ => True) (va_A [] sz)) 0 0 (va_A [] sz) := by
  refine Met.ofW (cc := cX10_walk) (maxL := 5) (ret := (some .int)) (by decide) rfl ?_
  intro p e s m args below meth c s₁ B hml hv
  obtain ⟨rfl, hsz, hP, hK⟩ := hv
  have hx := B.exec
  have hb := B.bytes
  have hr := B.returns
  have hts := atoms_spec (ws := wp_c_X10_walk) B.pre
  have hown : s.vm.findClass RX10 = some m.cls := findClass_of_methodNamed B.named
  have hlocks := B.notSynchronized
  subst hsz
  generalize hAe : va_A [] s.heap.size = A at ⊢
  have hA : ∀ q : Nat, s.heap.size ≤ q → A q := fun q h => by rw [← hAe]; exact Or.inr h
  have hS : va_S A s.heap s.heap [] := va_S.rf
  have hP : va_P D vwCl [(h0, .inr (10, [.ref (ca 0), .ref (ca 1), .int tp, .ref (ca 3), .ref (ca 4), .ref (ca 5), .ref (ca 6)])), (ca 0, .inl (cT, 4, .inr (.inr (.inr (.inr (fun _ => none))))))] s.heap := hP
  have hl := lv_entry ([.ref h0, .int z1, .int z2]) (n := 5) (Nat.le_of_ble_eq_true rfl)
  rw [lg_entry_eq]
  generalize (lg_sl ([.ref h0, .int z1, .int z2]) ++ List.replicate (5 - (lg_sl ([.ref h0, .int z1, .int z2])).length) Slot.unset).toArray = ls at hl ⊢
  have hl : lv_has ls 5 [(0, .ref h0), (1, .int z1), (2, .int z2)] := hl
  refine lv_aload_n hx hb dX10_walk_0 rfl (lv_at hl 0 rfl) ?_
  refine lv_iload_n hx hb dX10_walk_1 rfl (lv_at hl 1 rfl) ?_
  have hPc := hP.sub (ws' := [(h0, .inr (10, [.ref (ca 0), .ref (ca 1), .int tp, .ref (ca 3), .ref (ca 4), .ref (ca 5), .ref (ca 6)])), (ca 0, .inl (cT, 4, .inr (.inr (.inr (.inr (fun _ => none))))))]) [0, 1] rfl
  have hKc := hK.sub (tys' := [(cT, .object RX9)]) [0] rfl
  have hFc := va_free0 hS hA
  refine va_callq (va_runV (As := [.int z1]) (rest := []) ⟨hx, hb, hml, hown, hts⟩ (c_tableAt l D _ h0 ca cT tp z1) (cwV 1 hts g_c_X10_walk_c_tableAt_74 rfl rfl rfl (by decide +kernel) ⟨(Nat.le_of_ble_eq_true rfl), (Nat.le_of_ble_eq_true rfl)⟩) (PcR_V (q0 := 0) hPc hKc rfl rfl) rfl rfl hl.1 rfl (lv_room (Nat.le_of_ble_eq_true rfl)) dX10_walk_2 ⟨(Nat.le_of_ble_eq_true rfl), (Nat.le_of_ble_eq_true rfl)⟩) hS (fun q _ h => hFc q h) hFc (fun r1 uu tt H locs htt hvm hw hB hz1 hk1 hS => ?_)
  have hP := va_keep hP hk1
  try dsimp only at hw
  clear hB hz1 hk1 hFc hPc hKc
  obtain rfl : r1 = none := hw
  refine W.eq (g2 := F0 m 5 ls [.null]) rfl ?_
  refine lv_astore_nN (lv' := [(3, .null), (0, .ref h0), (1, .int z1), (2, .int z2)]) hx hb dX10_walk_5 rfl hl (by decide) rfl (fun ls hl => ?_)
  refine lv_aload_nN hx hb dX10_walk_6 rfl (lv_at hl 0 rfl) ?_
  refine lv_ifnullN (tgt := 25) hx hb dX10_walk_7 (by decide) ?_
  refine lv_iconst (v := (-1)) hx hb dX10_walk_25 (by decide) ?_
  exact W.iret (v := (-1)) hx hb hr (fun t ht hW => ⟨⟨(-1), (), rfl, rfl, trivial⟩, hS.F ht⟩) hS.2.2 dX10_walk_26

def own_c_X10_below : List Cond := [.methodLink RX10 74 yX10_tableAt, .instanceMethod yX10_tableAt, .selects RX10 yX10_tableAt yX10_tableAt, .initialized RX10]
def wp_c_X10_below : List Cond := .code yX10_below cX10_below 4 (some .int) :: (own_c_X10_below ++ (wp_c_tableAt ++ ([] : List Cond)))
set_option maxRecDepth 20000 in
theorem inown_c_X10_below : ∀ w ∈ own_c_X10_below, w ∈ lw_tbl := mem_places [610, 612, 2, 106] (by decide +kernel)
set_option maxRecDepth 20000 in
theorem in_c_X10_below : ∀ w ∈ wp_c_X10_below, w ∈ lw_tbl := List.forall_mem_cons.mpr ⟨List.mem_of_getElem? (i := 760) (by decide +kernel), List.forall_mem_append.mpr ⟨inown_c_X10_below, List.forall_mem_append.mpr ⟨in_c_tableAt, fun _ h => absurd h List.not_mem_nil⟩⟩⟩
set_option maxRecDepth 20000 in
theorem good_c_X10_below : wp_c_X10_below.all goodWord = true := by decide +kernel
set_option maxRecDepth 20000 in
theorem g_c_X10_below_c_tableAt_74 : GoodIn wp_c_X10_below (wsV RX10 74 RX10 yX10_tableAt wp_c_tableAt) := goodIn_sub (List.forall_mem_append.mpr ⟨List.forall_mem_cons.mpr ⟨(List.mem_of_getElem? (i := 1) rfl), List.forall_mem_cons.mpr ⟨(List.mem_of_getElem? (i := 2) rfl), List.forall_mem_cons.mpr ⟨(List.mem_of_getElem? (i := 3) rfl), List.forall_mem_cons.mpr ⟨(List.mem_of_getElem? (i := 4) rfl), fun _ h => absurd h List.not_mem_nil⟩⟩⟩⟩, (fun _ h => (List.mem_cons_of_mem _ (List.mem_append_right _ (List.mem_append_left _ h))))⟩) (by decide +kernel)
set_option maxHeartbeats 4000000 in
set_option maxRecDepth 100000 in
theorem c_X10_below (l : Launch) (D : va_G) (sz : Nat) (h0 : Nat) (ca : Nat → Nat) (cT : ClassId) (tp : Int32) (z1 : Int32) (z2 : Int32)  : Met l yX10_below wp_c_X10_below ({ frames := 2, cells := 0, slots := 0, locals := 41 }) (PcR D [.ref h0, .int z1, .int z2] sz [(h0, .inr (10, [.ref (ca 0), .ref (ca 1), .int tp, .ref (ca 3), .ref (ca 4), .ref (ca 5), .ref (ca 6)])), (ca 0, .inl (cT, 4, .inr (.inr (.inr (.inr (fun _ => none))))))] [(cT, .object RX9)]) (va_Qi (fun (r : Int32) (_ : Unit) => r = (-1)) (fun (_ : Unit) _ => True) (va_A [] sz)) 0 0 (va_A [] sz) := by
  refine Met.ofW (cc := cX10_below) (maxL := 4) (ret := (some .int)) (by decide) rfl ?_
  intro p e s m args below meth c s₁ B hml hv
  obtain ⟨rfl, hsz, hP, hK⟩ := hv
  have hx := B.exec
  have hb := B.bytes
  have hr := B.returns
  have hts := atoms_spec (ws := wp_c_X10_below) B.pre
  have hown : s.vm.findClass RX10 = some m.cls := findClass_of_methodNamed B.named
  have hlocks := B.notSynchronized
  subst hsz
  generalize hAe : va_A [] s.heap.size = A at ⊢
  have hA : ∀ q : Nat, s.heap.size ≤ q → A q := fun q h => by rw [← hAe]; exact Or.inr h
  have hS : va_S A s.heap s.heap [] := va_S.rf
  have hP : va_P D vwCl [(h0, .inr (10, [.ref (ca 0), .ref (ca 1), .int tp, .ref (ca 3), .ref (ca 4), .ref (ca 5), .ref (ca 6)])), (ca 0, .inl (cT, 4, .inr (.inr (.inr (.inr (fun _ => none))))))] s.heap := hP
  have hl := lv_entry ([.ref h0, .int z1, .int z2]) (n := 4) (Nat.le_of_ble_eq_true rfl)
  rw [lg_entry_eq]
  generalize (lg_sl ([.ref h0, .int z1, .int z2]) ++ List.replicate (4 - (lg_sl ([.ref h0, .int z1, .int z2])).length) Slot.unset).toArray = ls at hl ⊢
  have hl : lv_has ls 4 [(0, .ref h0), (1, .int z1), (2, .int z2)] := hl
  refine lv_aload_n hx hb dX10_below_0 rfl (lv_at hl 0 rfl) ?_
  refine lv_iload_n hx hb dX10_below_1 rfl (lv_at hl 1 rfl) ?_
  have hPc := hP.sub (ws' := [(h0, .inr (10, [.ref (ca 0), .ref (ca 1), .int tp, .ref (ca 3), .ref (ca 4), .ref (ca 5), .ref (ca 6)])), (ca 0, .inl (cT, 4, .inr (.inr (.inr (.inr (fun _ => none))))))]) [0, 1] rfl
  have hKc := hK.sub (tys' := [(cT, .object RX9)]) [0] rfl
  have hFc := va_free0 hS hA
  refine va_callq (va_runV (As := [.int z1]) (rest := []) ⟨hx, hb, hml, hown, hts⟩ (c_tableAt l D _ h0 ca cT tp z1) (cwV 1 hts g_c_X10_below_c_tableAt_74 rfl rfl rfl (by decide +kernel) ⟨(Nat.le_of_ble_eq_true rfl), (Nat.le_of_ble_eq_true rfl)⟩) (PcR_V (q0 := 0) hPc hKc rfl rfl) rfl rfl hl.1 rfl (lv_room (Nat.le_of_ble_eq_true rfl)) dX10_below_2 ⟨(Nat.le_of_ble_eq_true rfl), (Nat.le_of_ble_eq_true rfl)⟩) hS (fun q _ h => hFc q h) hFc (fun r1 uu tt H locs htt hvm hw hB hz1 hk1 hS => ?_)
  have hP := va_keep hP hk1
  try dsimp only at hw
  clear hB hz1 hk1 hFc hPc hKc
  obtain rfl : r1 = none := hw
  refine W.eq (g2 := F0 m 5 ls [.null]) rfl ?_
  refine lv_astore_nN (lv' := [(3, .null), (0, .ref h0), (1, .int z1), (2, .int z2)]) hx hb dX10_below_5 rfl hl (by decide) rfl (fun ls hl => ?_)
  refine lv_aload_nN hx hb dX10_below_6 rfl (lv_at hl 0 rfl) ?_
  refine lv_ifnullN (tgt := 14) hx hb dX10_below_7 (by decide) ?_
  refine lv_iconst (v := (-1)) hx hb dX10_below_14 (by decide) ?_
  exact W.iret (v := (-1)) hx hb hr (fun t ht hW => ⟨⟨(-1), (), rfl, rfl, trivial⟩, hS.F ht⟩) hS.2.2 dX10_below_15

def own_c_X10_nearest : List Cond := [.methodLink RX10 74 yX10_tableAt, .instanceMethod yX10_tableAt, .selects RX10 yX10_tableAt yX10_tableAt, .initialized RX10]
def wp_c_X10_nearest : List Cond := .code yX10_nearest cX10_nearest 4 (some .int) :: (own_c_X10_nearest ++ (wp_c_tableAt ++ ([] : List Cond)))
set_option maxRecDepth 20000 in
theorem inown_c_X10_nearest : ∀ w ∈ own_c_X10_nearest, w ∈ lw_tbl := mem_places [610, 612, 2, 106] (by decide +kernel)
set_option maxRecDepth 20000 in
theorem in_c_X10_nearest : ∀ w ∈ wp_c_X10_nearest, w ∈ lw_tbl := List.forall_mem_cons.mpr ⟨List.mem_of_getElem? (i := 765) (by decide +kernel), List.forall_mem_append.mpr ⟨inown_c_X10_nearest, List.forall_mem_append.mpr ⟨in_c_tableAt, fun _ h => absurd h List.not_mem_nil⟩⟩⟩
set_option maxRecDepth 20000 in
theorem good_c_X10_nearest : wp_c_X10_nearest.all goodWord = true := by decide +kernel
set_option maxRecDepth 20000 in
theorem g_c_X10_nearest_c_tableAt_74 : GoodIn wp_c_X10_nearest (wsV RX10 74 RX10 yX10_tableAt wp_c_tableAt) := goodIn_sub (List.forall_mem_append.mpr ⟨List.forall_mem_cons.mpr ⟨(List.mem_of_getElem? (i := 1) rfl), List.forall_mem_cons.mpr ⟨(List.mem_of_getElem? (i := 2) rfl), List.forall_mem_cons.mpr ⟨(List.mem_of_getElem? (i := 3) rfl), List.forall_mem_cons.mpr ⟨(List.mem_of_getElem? (i := 4) rfl), fun _ h => absurd h List.not_mem_nil⟩⟩⟩⟩, (fun _ h => (List.mem_cons_of_mem _ (List.mem_append_right _ (List.mem_append_left _ h))))⟩) (by decide +kernel)
set_option maxHeartbeats 4000000 in
set_option maxRecDepth 100000 in
theorem c_X10_nearest (l : Launch) (D : va_G) (sz : Nat) (h0 : Nat) (ca : Nat → Nat) (cT : ClassId) (tp : Int32) (z1 : Int32) (z2 : Int32)  : Met l yX10_nearest wp_c_X10_nearest ({ frames := 2, cells := 0, slots := 0, locals := 41 }) (PcR D [.ref h0, .int z1, .int z2] sz [(h0, .inr (10, [.ref (ca 0), .ref (ca 1), .int tp, .ref (ca 3), .ref (ca 4), .ref (ca 5), .ref (ca 6)])), (ca 0, .inl (cT, 4, .inr (.inr (.inr (.inr (fun _ => none))))))] [(cT, .object RX9)]) (va_Qi (fun (r : Int32) (_ : Unit) => r = (-1)) (fun (_ : Unit) _ => True) (va_A [] sz)) 0 0 (va_A [] sz) := by
  refine Met.ofW (cc := cX10_nearest) (maxL := 4) (ret := (some .int)) (by decide) rfl ?_
  intro p e s m args below meth c s₁ B hml hv
  obtain ⟨rfl, hsz, hP, hK⟩ := hv
  have hx := B.exec
  have hb := B.bytes
  have hr := B.returns
  have hts := atoms_spec (ws := wp_c_X10_nearest) B.pre
  have hown : s.vm.findClass RX10 = some m.cls := findClass_of_methodNamed B.named
  have hlocks := B.notSynchronized
  subst hsz
  generalize hAe : va_A [] s.heap.size = A at ⊢
  have hA : ∀ q : Nat, s.heap.size ≤ q → A q := fun q h => by rw [← hAe]; exact Or.inr h
  have hS : va_S A s.heap s.heap [] := va_S.rf
  have hP : va_P D vwCl [(h0, .inr (10, [.ref (ca 0), .ref (ca 1), .int tp, .ref (ca 3), .ref (ca 4), .ref (ca 5), .ref (ca 6)])), (ca 0, .inl (cT, 4, .inr (.inr (.inr (.inr (fun _ => none))))))] s.heap := hP
  have hl := lv_entry ([.ref h0, .int z1, .int z2]) (n := 4) (Nat.le_of_ble_eq_true rfl)
  rw [lg_entry_eq]
  generalize (lg_sl ([.ref h0, .int z1, .int z2]) ++ List.replicate (4 - (lg_sl ([.ref h0, .int z1, .int z2])).length) Slot.unset).toArray = ls at hl ⊢
  have hl : lv_has ls 4 [(0, .ref h0), (1, .int z1), (2, .int z2)] := hl
  refine lv_aload_n hx hb dX10_nearest_0 rfl (lv_at hl 0 rfl) ?_
  refine lv_iload_n hx hb dX10_nearest_1 rfl (lv_at hl 1 rfl) ?_
  have hPc := hP.sub (ws' := [(h0, .inr (10, [.ref (ca 0), .ref (ca 1), .int tp, .ref (ca 3), .ref (ca 4), .ref (ca 5), .ref (ca 6)])), (ca 0, .inl (cT, 4, .inr (.inr (.inr (.inr (fun _ => none))))))]) [0, 1] rfl
  have hKc := hK.sub (tys' := [(cT, .object RX9)]) [0] rfl
  have hFc := va_free0 hS hA
  refine va_callq (va_runV (As := [.int z1]) (rest := []) ⟨hx, hb, hml, hown, hts⟩ (c_tableAt l D _ h0 ca cT tp z1) (cwV 1 hts g_c_X10_nearest_c_tableAt_74 rfl rfl rfl (by decide +kernel) ⟨(Nat.le_of_ble_eq_true rfl), (Nat.le_of_ble_eq_true rfl)⟩) (PcR_V (q0 := 0) hPc hKc rfl rfl) rfl rfl hl.1 rfl (lv_room (Nat.le_of_ble_eq_true rfl)) dX10_nearest_2 ⟨(Nat.le_of_ble_eq_true rfl), (Nat.le_of_ble_eq_true rfl)⟩) hS (fun q _ h => hFc q h) hFc (fun r1 uu tt H locs htt hvm hw hB hz1 hk1 hS => ?_)
  have hP := va_keep hP hk1
  try dsimp only at hw
  clear hB hz1 hk1 hFc hPc hKc
  obtain rfl : r1 = none := hw
  refine W.eq (g2 := F0 m 5 ls [.null]) rfl ?_
  refine lv_astore_nN (lv' := [(3, .null), (0, .ref h0), (1, .int z1), (2, .int z2)]) hx hb dX10_nearest_5 rfl hl (by decide) rfl (fun ls hl => ?_)
  refine lv_aload_nN hx hb dX10_nearest_6 rfl (lv_at hl 0 rfl) ?_
  refine lv_ifnullN (tgt := 17) hx hb dX10_nearest_7 (by decide) ?_
  refine lv_iconst (v := (-1)) hx hb dX10_nearest_17 (by decide) ?_
  exact W.iret (v := (-1)) hx hb hr (fun t ht hW => ⟨⟨(-1), (), rfl, rfl, trivial⟩, hS.F ht⟩) hS.2.2 dX10_nearest_18

def own_c_X10_many : List Cond := [.methodLink RX10 74 yX10_tableAt, .instanceMethod yX10_tableAt, .selects RX10 yX10_tableAt yX10_tableAt, .initialized RX10]
def wp_c_X10_many : List Cond := .code yX10_many cX10_many 4 (some .int) :: (own_c_X10_many ++ (wp_c_tableAt ++ ([] : List Cond)))
set_option maxRecDepth 20000 in
theorem inown_c_X10_many : ∀ w ∈ own_c_X10_many, w ∈ lw_tbl := mem_places [610, 612, 2, 106] (by decide +kernel)
set_option maxRecDepth 20000 in
theorem in_c_X10_many : ∀ w ∈ wp_c_X10_many, w ∈ lw_tbl := List.forall_mem_cons.mpr ⟨List.mem_of_getElem? (i := 774) (by decide +kernel), List.forall_mem_append.mpr ⟨inown_c_X10_many, List.forall_mem_append.mpr ⟨in_c_tableAt, fun _ h => absurd h List.not_mem_nil⟩⟩⟩
set_option maxRecDepth 20000 in
theorem good_c_X10_many : wp_c_X10_many.all goodWord = true := by decide +kernel
set_option maxRecDepth 20000 in
theorem g_c_X10_many_c_tableAt_74 : GoodIn wp_c_X10_many (wsV RX10 74 RX10 yX10_tableAt wp_c_tableAt) := goodIn_sub (List.forall_mem_append.mpr ⟨List.forall_mem_cons.mpr ⟨(List.mem_of_getElem? (i := 1) rfl), List.forall_mem_cons.mpr ⟨(List.mem_of_getElem? (i := 2) rfl), List.forall_mem_cons.mpr ⟨(List.mem_of_getElem? (i := 3) rfl), List.forall_mem_cons.mpr ⟨(List.mem_of_getElem? (i := 4) rfl), fun _ h => absurd h List.not_mem_nil⟩⟩⟩⟩, (fun _ h => (List.mem_cons_of_mem _ (List.mem_append_right _ (List.mem_append_left _ h))))⟩) (by decide +kernel)
set_option maxHeartbeats 4000000 in
set_option maxRecDepth 100000 in
theorem c_X10_many (l : Launch) (D : va_G) (sz : Nat) (h0 : Nat) (ca : Nat → Nat) (cT : ClassId) (tp : Int32) (z1 : Int32) (z2 : Int32)  : Met l yX10_many wp_c_X10_many ({ frames := 2, cells := 0, slots := 0, locals := 41 }) (PcR D [.ref h0, .int z1, .int z2] sz [(h0, .inr (10, [.ref (ca 0), .ref (ca 1), .int tp, .ref (ca 3), .ref (ca 4), .ref (ca 5), .ref (ca 6)])), (ca 0, .inl (cT, 4, .inr (.inr (.inr (.inr (fun _ => none))))))] [(cT, .object RX9)]) (va_Qi (fun (r : Int32) (_ : Unit) => r = (-1)) (fun (_ : Unit) _ => True) (va_A [] sz)) 0 0 (va_A [] sz) := by
  refine Met.ofW (cc := cX10_many) (maxL := 4) (ret := (some .int)) (by decide) rfl ?_
  intro p e s m args below meth c s₁ B hml hv
  obtain ⟨rfl, hsz, hP, hK⟩ := hv
  have hx := B.exec
  have hb := B.bytes
  have hr := B.returns
  have hts := atoms_spec (ws := wp_c_X10_many) B.pre
  have hown : s.vm.findClass RX10 = some m.cls := findClass_of_methodNamed B.named
  have hlocks := B.notSynchronized
  subst hsz
  generalize hAe : va_A [] s.heap.size = A at ⊢
  have hA : ∀ q : Nat, s.heap.size ≤ q → A q := fun q h => by rw [← hAe]; exact Or.inr h
  have hS : va_S A s.heap s.heap [] := va_S.rf
  have hP : va_P D vwCl [(h0, .inr (10, [.ref (ca 0), .ref (ca 1), .int tp, .ref (ca 3), .ref (ca 4), .ref (ca 5), .ref (ca 6)])), (ca 0, .inl (cT, 4, .inr (.inr (.inr (.inr (fun _ => none))))))] s.heap := hP
  have hl := lv_entry ([.ref h0, .int z1, .int z2]) (n := 4) (Nat.le_of_ble_eq_true rfl)
  rw [lg_entry_eq]
  generalize (lg_sl ([.ref h0, .int z1, .int z2]) ++ List.replicate (4 - (lg_sl ([.ref h0, .int z1, .int z2])).length) Slot.unset).toArray = ls at hl ⊢
  have hl : lv_has ls 4 [(0, .ref h0), (1, .int z1), (2, .int z2)] := hl
  refine lv_aload_n hx hb dX10_many_0 rfl (lv_at hl 0 rfl) ?_
  refine lv_iload_n hx hb dX10_many_1 rfl (lv_at hl 1 rfl) ?_
  have hPc := hP.sub (ws' := [(h0, .inr (10, [.ref (ca 0), .ref (ca 1), .int tp, .ref (ca 3), .ref (ca 4), .ref (ca 5), .ref (ca 6)])), (ca 0, .inl (cT, 4, .inr (.inr (.inr (.inr (fun _ => none))))))]) [0, 1] rfl
  have hKc := hK.sub (tys' := [(cT, .object RX9)]) [0] rfl
  have hFc := va_free0 hS hA
  refine va_callq (va_runV (As := [.int z1]) (rest := []) ⟨hx, hb, hml, hown, hts⟩ (c_tableAt l D _ h0 ca cT tp z1) (cwV 1 hts g_c_X10_many_c_tableAt_74 rfl rfl rfl (by decide +kernel) ⟨(Nat.le_of_ble_eq_true rfl), (Nat.le_of_ble_eq_true rfl)⟩) (PcR_V (q0 := 0) hPc hKc rfl rfl) rfl rfl hl.1 rfl (lv_room (Nat.le_of_ble_eq_true rfl)) dX10_many_2 ⟨(Nat.le_of_ble_eq_true rfl), (Nat.le_of_ble_eq_true rfl)⟩) hS (fun q _ h => hFc q h) hFc (fun r1 uu tt H locs htt hvm hw hB hz1 hk1 hS => ?_)
  have hP := va_keep hP hk1
  try dsimp only at hw
  clear hB hz1 hk1 hFc hPc hKc
  obtain rfl : r1 = none := hw
  refine W.eq (g2 := F0 m 5 ls [.null]) rfl ?_
  refine lv_astore_nN (lv' := [(3, .null), (0, .ref h0), (1, .int z1), (2, .int z2)]) hx hb dX10_many_5 rfl hl (by decide) rfl (fun ls hl => ?_)
  refine lv_aload_nN hx hb dX10_many_6 rfl (lv_at hl 0 rfl) ?_
  refine lv_ifnullN (tgt := 14) hx hb dX10_many_7 (by decide) ?_
  refine lv_iconst (v := (-1)) hx hb dX10_many_14 (by decide) ?_
  exact W.iret (v := (-1)) hx hb hr (fun t ht hW => ⟨⟨(-1), (), rfl, rfl, trivial⟩, hS.F ht⟩) hS.2.2 dX10_many_15

def own_c_X10_crowd : List Cond := [.methodLink RX10 74 yX10_tableAt, .instanceMethod yX10_tableAt, .selects RX10 yX10_tableAt yX10_tableAt, .initialized RX10]
def wp_c_X10_crowd : List Cond := .code yX10_crowd cX10_crowd 5 (some .int) :: (own_c_X10_crowd ++ (wp_c_tableAt ++ ([] : List Cond)))
set_option maxRecDepth 20000 in
theorem inown_c_X10_crowd : ∀ w ∈ own_c_X10_crowd, w ∈ lw_tbl := mem_places [610, 612, 2, 106] (by decide +kernel)
set_option maxRecDepth 20000 in
theorem in_c_X10_crowd : ∀ w ∈ wp_c_X10_crowd, w ∈ lw_tbl := List.forall_mem_cons.mpr ⟨List.mem_of_getElem? (i := 782) (by decide +kernel), List.forall_mem_append.mpr ⟨inown_c_X10_crowd, List.forall_mem_append.mpr ⟨in_c_tableAt, fun _ h => absurd h List.not_mem_nil⟩⟩⟩
set_option maxRecDepth 20000 in
theorem good_c_X10_crowd : wp_c_X10_crowd.all goodWord = true := by decide +kernel
set_option maxRecDepth 20000 in
theorem g_c_X10_crowd_c_tableAt_74 : GoodIn wp_c_X10_crowd (wsV RX10 74 RX10 yX10_tableAt wp_c_tableAt) := goodIn_sub (List.forall_mem_append.mpr ⟨List.forall_mem_cons.mpr ⟨(List.mem_of_getElem? (i := 1) rfl), List.forall_mem_cons.mpr ⟨(List.mem_of_getElem? (i := 2) rfl), List.forall_mem_cons.mpr ⟨(List.mem_of_getElem? (i := 3) rfl), List.forall_mem_cons.mpr ⟨(List.mem_of_getElem? (i := 4) rfl), fun _ h => absurd h List.not_mem_nil⟩⟩⟩⟩, (fun _ h => (List.mem_cons_of_mem _ (List.mem_append_right _ (List.mem_append_left _ h))))⟩) (by decide +kernel)
set_option maxHeartbeats 4000000 in
set_option maxRecDepth 100000 in
theorem c_X10_crowd (l : Launch) (D : va_G) (sz : Nat) (h0 : Nat) (ca : Nat → Nat) (cT : ClassId) (tp : Int32) (z1 : Int32) (z2 : Int32)  : Met l yX10_crowd wp_c_X10_crowd ({ frames := 2, cells := 0, slots := 0, locals := 41 }) (PcR D [.ref h0, .int z1, .int z2] sz [(h0, .inr (10, [.ref (ca 0), .ref (ca 1), .int tp, .ref (ca 3), .ref (ca 4), .ref (ca 5), .ref (ca 6)])), (ca 0, .inl (cT, 4, .inr (.inr (.inr (.inr (fun _ => none))))))] [(cT, .object RX9)]) (va_Qi (fun (r : Int32) (_ : Unit) => r = (-1)) (fun (_ : Unit) _ => True) (va_A [] sz)) 0 0 (va_A [] sz) := by
  refine Met.ofW (cc := cX10_crowd) (maxL := 5) (ret := (some .int)) (by decide) rfl ?_
  intro p e s m args below meth c s₁ B hml hv
  obtain ⟨rfl, hsz, hP, hK⟩ := hv
  have hx := B.exec
  have hb := B.bytes
  have hr := B.returns
  have hts := atoms_spec (ws := wp_c_X10_crowd) B.pre
  have hown : s.vm.findClass RX10 = some m.cls := findClass_of_methodNamed B.named
  have hlocks := B.notSynchronized
  subst hsz
  generalize hAe : va_A [] s.heap.size = A at ⊢
  have hA : ∀ q : Nat, s.heap.size ≤ q → A q := fun q h => by rw [← hAe]; exact Or.inr h
  have hS : va_S A s.heap s.heap [] := va_S.rf
  have hP : va_P D vwCl [(h0, .inr (10, [.ref (ca 0), .ref (ca 1), .int tp, .ref (ca 3), .ref (ca 4), .ref (ca 5), .ref (ca 6)])), (ca 0, .inl (cT, 4, .inr (.inr (.inr (.inr (fun _ => none))))))] s.heap := hP
  have hl := lv_entry ([.ref h0, .int z1, .int z2]) (n := 5) (Nat.le_of_ble_eq_true rfl)
  rw [lg_entry_eq]
  generalize (lg_sl ([.ref h0, .int z1, .int z2]) ++ List.replicate (5 - (lg_sl ([.ref h0, .int z1, .int z2])).length) Slot.unset).toArray = ls at hl ⊢
  have hl : lv_has ls 5 [(0, .ref h0), (1, .int z1), (2, .int z2)] := hl
  refine lv_aload_n hx hb dX10_crowd_0 rfl (lv_at hl 0 rfl) ?_
  refine lv_iload_n hx hb dX10_crowd_1 rfl (lv_at hl 1 rfl) ?_
  have hPc := hP.sub (ws' := [(h0, .inr (10, [.ref (ca 0), .ref (ca 1), .int tp, .ref (ca 3), .ref (ca 4), .ref (ca 5), .ref (ca 6)])), (ca 0, .inl (cT, 4, .inr (.inr (.inr (.inr (fun _ => none))))))]) [0, 1] rfl
  have hKc := hK.sub (tys' := [(cT, .object RX9)]) [0] rfl
  have hFc := va_free0 hS hA
  refine va_callq (va_runV (As := [.int z1]) (rest := []) ⟨hx, hb, hml, hown, hts⟩ (c_tableAt l D _ h0 ca cT tp z1) (cwV 1 hts g_c_X10_crowd_c_tableAt_74 rfl rfl rfl (by decide +kernel) ⟨(Nat.le_of_ble_eq_true rfl), (Nat.le_of_ble_eq_true rfl)⟩) (PcR_V (q0 := 0) hPc hKc rfl rfl) rfl rfl hl.1 rfl (lv_room (Nat.le_of_ble_eq_true rfl)) dX10_crowd_2 ⟨(Nat.le_of_ble_eq_true rfl), (Nat.le_of_ble_eq_true rfl)⟩) hS (fun q _ h => hFc q h) hFc (fun r1 uu tt H locs htt hvm hw hB hz1 hk1 hS => ?_)
  have hP := va_keep hP hk1
  try dsimp only at hw
  clear hB hz1 hk1 hFc hPc hKc
  obtain rfl : r1 = none := hw
  refine W.eq (g2 := F0 m 5 ls [.null]) rfl ?_
  refine lv_astore_nN (lv' := [(3, .null), (0, .ref h0), (1, .int z1), (2, .int z2)]) hx hb dX10_crowd_5 rfl hl (by decide) rfl (fun ls hl => ?_)
  refine lv_aload_nN hx hb dX10_crowd_6 rfl (lv_at hl 0 rfl) ?_
  refine lv_ifnonnullN hx hb dX10_crowd_7 ?_
  refine lv_iconst (v := (-1)) hx hb dX10_crowd_10 (by decide) ?_
  exact W.iret (v := (-1)) hx hb hr (fun t ht hW => ⟨⟨(-1), (), rfl, rfl, trivial⟩, hS.F ht⟩) hS.2.2 dX10_crowd_11

def own_c_X10_empty : List Cond := [.methodLink RX10 74 yX10_tableAt, .instanceMethod yX10_tableAt, .selects RX10 yX10_tableAt yX10_tableAt, .initialized RX10]
def wp_c_X10_empty : List Cond := .code yX10_empty cX10_empty 3 (some .int) :: (own_c_X10_empty ++ (wp_c_tableAt ++ ([] : List Cond)))
set_option maxRecDepth 20000 in
theorem inown_c_X10_empty : ∀ w ∈ own_c_X10_empty, w ∈ lw_tbl := mem_places [610, 612, 2, 106] (by decide +kernel)
set_option maxRecDepth 20000 in
theorem in_c_X10_empty : ∀ w ∈ wp_c_X10_empty, w ∈ lw_tbl := List.forall_mem_cons.mpr ⟨List.mem_of_getElem? (i := 794) (by decide +kernel), List.forall_mem_append.mpr ⟨inown_c_X10_empty, List.forall_mem_append.mpr ⟨in_c_tableAt, fun _ h => absurd h List.not_mem_nil⟩⟩⟩
set_option maxRecDepth 20000 in
theorem good_c_X10_empty : wp_c_X10_empty.all goodWord = true := by decide +kernel
set_option maxRecDepth 20000 in
theorem g_c_X10_empty_c_tableAt_74 : GoodIn wp_c_X10_empty (wsV RX10 74 RX10 yX10_tableAt wp_c_tableAt) := goodIn_sub (List.forall_mem_append.mpr ⟨List.forall_mem_cons.mpr ⟨(List.mem_of_getElem? (i := 1) rfl), List.forall_mem_cons.mpr ⟨(List.mem_of_getElem? (i := 2) rfl), List.forall_mem_cons.mpr ⟨(List.mem_of_getElem? (i := 3) rfl), List.forall_mem_cons.mpr ⟨(List.mem_of_getElem? (i := 4) rfl), fun _ h => absurd h List.not_mem_nil⟩⟩⟩⟩, (fun _ h => (List.mem_cons_of_mem _ (List.mem_append_right _ (List.mem_append_left _ h))))⟩) (by decide +kernel)
set_option maxHeartbeats 4000000 in
set_option maxRecDepth 100000 in
theorem c_X10_empty (l : Launch) (D : va_G) (sz : Nat) (h0 : Nat) (ca : Nat → Nat) (cT : ClassId) (tp : Int32) (z1 : Int32)  : Met l yX10_empty wp_c_X10_empty ({ frames := 2, cells := 0, slots := 0, locals := 41 }) (PcR D [.ref h0, .int z1] sz [(h0, .inr (10, [.ref (ca 0), .ref (ca 1), .int tp, .ref (ca 3), .ref (ca 4), .ref (ca 5), .ref (ca 6)])), (ca 0, .inl (cT, 4, .inr (.inr (.inr (.inr (fun _ => none))))))] [(cT, .object RX9)]) (va_Qi (fun (r : Int32) (_ : Unit) => r = (-1)) (fun (_ : Unit) _ => True) (va_A [] sz)) 0 0 (va_A [] sz) := by
  refine Met.ofW (cc := cX10_empty) (maxL := 3) (ret := (some .int)) (by decide) rfl ?_
  intro p e s m args below meth c s₁ B hml hv
  obtain ⟨rfl, hsz, hP, hK⟩ := hv
  have hx := B.exec
  have hb := B.bytes
  have hr := B.returns
  have hts := atoms_spec (ws := wp_c_X10_empty) B.pre
  have hown : s.vm.findClass RX10 = some m.cls := findClass_of_methodNamed B.named
  have hlocks := B.notSynchronized
  subst hsz
  generalize hAe : va_A [] s.heap.size = A at ⊢
  have hA : ∀ q : Nat, s.heap.size ≤ q → A q := fun q h => by rw [← hAe]; exact Or.inr h
  have hS : va_S A s.heap s.heap [] := va_S.rf
  have hP : va_P D vwCl [(h0, .inr (10, [.ref (ca 0), .ref (ca 1), .int tp, .ref (ca 3), .ref (ca 4), .ref (ca 5), .ref (ca 6)])), (ca 0, .inl (cT, 4, .inr (.inr (.inr (.inr (fun _ => none))))))] s.heap := hP
  have hl := lv_entry ([.ref h0, .int z1]) (n := 3) (Nat.le_of_ble_eq_true rfl)
  rw [lg_entry_eq]
  generalize (lg_sl ([.ref h0, .int z1]) ++ List.replicate (3 - (lg_sl ([.ref h0, .int z1])).length) Slot.unset).toArray = ls at hl ⊢
  have hl : lv_has ls 3 [(0, .ref h0), (1, .int z1)] := hl
  refine lv_aload_n hx hb dX10_empty_0 rfl (lv_at hl 0 rfl) ?_
  refine lv_iload_n hx hb dX10_empty_1 rfl (lv_at hl 1 rfl) ?_
  have hPc := hP.sub (ws' := [(h0, .inr (10, [.ref (ca 0), .ref (ca 1), .int tp, .ref (ca 3), .ref (ca 4), .ref (ca 5), .ref (ca 6)])), (ca 0, .inl (cT, 4, .inr (.inr (.inr (.inr (fun _ => none))))))]) [0, 1] rfl
  have hKc := hK.sub (tys' := [(cT, .object RX9)]) [0] rfl
  have hFc := va_free0 hS hA
  refine va_callq (va_runV (As := [.int z1]) (rest := []) ⟨hx, hb, hml, hown, hts⟩ (c_tableAt l D _ h0 ca cT tp z1) (cwV 1 hts g_c_X10_empty_c_tableAt_74 rfl rfl rfl (by decide +kernel) ⟨(Nat.le_of_ble_eq_true rfl), (Nat.le_of_ble_eq_true rfl)⟩) (PcR_V (q0 := 0) hPc hKc rfl rfl) rfl rfl hl.1 rfl (lv_room (Nat.le_of_ble_eq_true rfl)) dX10_empty_2 ⟨(Nat.le_of_ble_eq_true rfl), (Nat.le_of_ble_eq_true rfl)⟩) hS (fun q _ h => hFc q h) hFc (fun r1 uu tt H locs htt hvm hw hB hz1 hk1 hS => ?_)
  have hP := va_keep hP hk1
  try dsimp only at hw
  clear hB hz1 hk1 hFc hPc hKc
  obtain rfl : r1 = none := hw
  refine W.eq (g2 := F0 m 5 ls [.null]) rfl ?_
  refine lv_astore_nN (lv' := [(2, .null), (0, .ref h0), (1, .int z1)]) hx hb dX10_empty_5 rfl hl (by decide) rfl (fun ls hl => ?_)
  refine lv_aload_nN hx hb dX10_empty_6 rfl (lv_at hl 0 rfl) ?_
  refine lv_ifnonnullN hx hb dX10_empty_7 ?_
  refine lv_iconst (v := (-1)) hx hb dX10_empty_10 (by decide) ?_
  refine lv_goto (tgt := 29) hx hb dX10_empty_11 (by decide) ?_
  exact W.iret (v := (-1)) hx hb hr (fun t ht hW => ⟨⟨(-1), (), rfl, rfl, trivial⟩, hS.F ht⟩) hS.2.2 dX10_empty_29

def own_c_X10_left : List Cond := [.methodLink RX10 74 yX10_tableAt, .instanceMethod yX10_tableAt, .selects RX10 yX10_tableAt yX10_tableAt, .initialized RX10]
def wp_c_X10_left : List Cond := .code yX10_left cX10_left 3 (some .int) :: (own_c_X10_left ++ (wp_c_tableAt ++ ([] : List Cond)))
set_option maxRecDepth 20000 in
theorem inown_c_X10_left : ∀ w ∈ own_c_X10_left, w ∈ lw_tbl := mem_places [610, 612, 2, 106] (by decide +kernel)
set_option maxRecDepth 20000 in
theorem in_c_X10_left : ∀ w ∈ wp_c_X10_left, w ∈ lw_tbl := List.forall_mem_cons.mpr ⟨List.mem_of_getElem? (i := 798) (by decide +kernel), List.forall_mem_append.mpr ⟨inown_c_X10_left, List.forall_mem_append.mpr ⟨in_c_tableAt, fun _ h => absurd h List.not_mem_nil⟩⟩⟩
set_option maxRecDepth 20000 in
theorem good_c_X10_left : wp_c_X10_left.all goodWord = true := by decide +kernel
set_option maxRecDepth 20000 in
theorem g_c_X10_left_c_tableAt_74 : GoodIn wp_c_X10_left (wsV RX10 74 RX10 yX10_tableAt wp_c_tableAt) := goodIn_sub (List.forall_mem_append.mpr ⟨List.forall_mem_cons.mpr ⟨(List.mem_of_getElem? (i := 1) rfl), List.forall_mem_cons.mpr ⟨(List.mem_of_getElem? (i := 2) rfl), List.forall_mem_cons.mpr ⟨(List.mem_of_getElem? (i := 3) rfl), List.forall_mem_cons.mpr ⟨(List.mem_of_getElem? (i := 4) rfl), fun _ h => absurd h List.not_mem_nil⟩⟩⟩⟩, (fun _ h => (List.mem_cons_of_mem _ (List.mem_append_right _ (List.mem_append_left _ h))))⟩) (by decide +kernel)
set_option maxHeartbeats 4000000 in
set_option maxRecDepth 100000 in
theorem c_X10_left (l : Launch) (D : va_G) (sz : Nat) (h0 : Nat) (ca : Nat → Nat) (cT : ClassId) (tp : Int32) (z1 : Int32)  : Met l yX10_left wp_c_X10_left ({ frames := 2, cells := 0, slots := 0, locals := 41 }) (PcR D [.ref h0, .int z1] sz [(h0, .inr (10, [.ref (ca 0), .ref (ca 1), .int tp, .ref (ca 3), .ref (ca 4), .ref (ca 5), .ref (ca 6)])), (ca 0, .inl (cT, 4, .inr (.inr (.inr (.inr (fun _ => none))))))] [(cT, .object RX9)]) (va_Qi (fun (r : Int32) (_ : Unit) => r = (-1)) (fun (_ : Unit) _ => True) (va_A [] sz)) 0 0 (va_A [] sz) := by
  refine Met.ofW (cc := cX10_left) (maxL := 3) (ret := (some .int)) (by decide) rfl ?_
  intro p e s m args below meth c s₁ B hml hv
  obtain ⟨rfl, hsz, hP, hK⟩ := hv
  have hx := B.exec
  have hb := B.bytes
  have hr := B.returns
  have hts := atoms_spec (ws := wp_c_X10_left) B.pre
  have hown : s.vm.findClass RX10 = some m.cls := findClass_of_methodNamed B.named
  have hlocks := B.notSynchronized
  subst hsz
  generalize hAe : va_A [] s.heap.size = A at ⊢
  have hA : ∀ q : Nat, s.heap.size ≤ q → A q := fun q h => by rw [← hAe]; exact Or.inr h
  have hS : va_S A s.heap s.heap [] := va_S.rf
  have hP : va_P D vwCl [(h0, .inr (10, [.ref (ca 0), .ref (ca 1), .int tp, .ref (ca 3), .ref (ca 4), .ref (ca 5), .ref (ca 6)])), (ca 0, .inl (cT, 4, .inr (.inr (.inr (.inr (fun _ => none))))))] s.heap := hP
  have hl := lv_entry ([.ref h0, .int z1]) (n := 3) (Nat.le_of_ble_eq_true rfl)
  rw [lg_entry_eq]
  generalize (lg_sl ([.ref h0, .int z1]) ++ List.replicate (3 - (lg_sl ([.ref h0, .int z1])).length) Slot.unset).toArray = ls at hl ⊢
  have hl : lv_has ls 3 [(0, .ref h0), (1, .int z1)] := hl
  refine lv_aload_n hx hb dX10_left_0 rfl (lv_at hl 0 rfl) ?_
  refine lv_iload_n hx hb dX10_left_1 rfl (lv_at hl 1 rfl) ?_
  have hPc := hP.sub (ws' := [(h0, .inr (10, [.ref (ca 0), .ref (ca 1), .int tp, .ref (ca 3), .ref (ca 4), .ref (ca 5), .ref (ca 6)])), (ca 0, .inl (cT, 4, .inr (.inr (.inr (.inr (fun _ => none))))))]) [0, 1] rfl
  have hKc := hK.sub (tys' := [(cT, .object RX9)]) [0] rfl
  have hFc := va_free0 hS hA
  refine va_callq (va_runV (As := [.int z1]) (rest := []) ⟨hx, hb, hml, hown, hts⟩ (c_tableAt l D _ h0 ca cT tp z1) (cwV 1 hts g_c_X10_left_c_tableAt_74 rfl rfl rfl (by decide +kernel) ⟨(Nat.le_of_ble_eq_true rfl), (Nat.le_of_ble_eq_true rfl)⟩) (PcR_V (q0 := 0) hPc hKc rfl rfl) rfl rfl hl.1 rfl (lv_room (Nat.le_of_ble_eq_true rfl)) dX10_left_2 ⟨(Nat.le_of_ble_eq_true rfl), (Nat.le_of_ble_eq_true rfl)⟩) hS (fun q _ h => hFc q h) hFc (fun r1 uu tt H locs htt hvm hw hB hz1 hk1 hS => ?_)
  have hP := va_keep hP hk1
  try dsimp only at hw
  clear hB hz1 hk1 hFc hPc hKc
  obtain rfl : r1 = none := hw
  refine W.eq (g2 := F0 m 5 ls [.null]) rfl ?_
  refine lv_astore_nN (lv' := [(2, .null), (0, .ref h0), (1, .int z1)]) hx hb dX10_left_5 rfl hl (by decide) rfl (fun ls hl => ?_)
  refine lv_aload_nN hx hb dX10_left_6 rfl (lv_at hl 0 rfl) ?_
  refine lv_ifnonnullN hx hb dX10_left_7 ?_
  refine lv_iconst (v := (-1)) hx hb dX10_left_10 (by decide) ?_
  refine lv_goto (tgt := 25) hx hb dX10_left_11 (by decide) ?_
  exact W.iret (v := (-1)) hx hb hr (fun t ht hW => ⟨⟨(-1), (), rfl, rfl, trivial⟩, hS.F ht⟩) hS.2.2 dX10_left_25

def own_c_X10_outer : List Cond := [.methodLink RX10 74 yX10_tableAt, .instanceMethod yX10_tableAt, .selects RX10 yX10_tableAt yX10_tableAt, .initialized RX10, .constantLong RX10 91 (-1000000000000000)]
def wp_c_X10_outer : List Cond := .code yX10_outer cX10_outer 7 (some .long) :: (own_c_X10_outer ++ (wp_c_tableAt ++ ([] : List Cond)))
set_option maxRecDepth 20000 in
theorem inown_c_X10_outer : ∀ w ∈ own_c_X10_outer, w ∈ lw_tbl := mem_places [610, 612, 2, 106, 691] (by decide +kernel)
set_option maxRecDepth 20000 in
theorem in_c_X10_outer : ∀ w ∈ wp_c_X10_outer, w ∈ lw_tbl := List.forall_mem_cons.mpr ⟨List.mem_of_getElem? (i := 802) (by decide +kernel), List.forall_mem_append.mpr ⟨inown_c_X10_outer, List.forall_mem_append.mpr ⟨in_c_tableAt, fun _ h => absurd h List.not_mem_nil⟩⟩⟩
set_option maxRecDepth 20000 in
theorem good_c_X10_outer : wp_c_X10_outer.all goodWord = true := by decide +kernel
set_option maxRecDepth 20000 in
theorem g_c_X10_outer_c_tableAt_74 : GoodIn wp_c_X10_outer (wsV RX10 74 RX10 yX10_tableAt wp_c_tableAt) := goodIn_sub (List.forall_mem_append.mpr ⟨List.forall_mem_cons.mpr ⟨(List.mem_of_getElem? (i := 1) rfl), List.forall_mem_cons.mpr ⟨(List.mem_of_getElem? (i := 2) rfl), List.forall_mem_cons.mpr ⟨(List.mem_of_getElem? (i := 3) rfl), List.forall_mem_cons.mpr ⟨(List.mem_of_getElem? (i := 4) rfl), fun _ h => absurd h List.not_mem_nil⟩⟩⟩⟩, (fun _ h => (List.mem_cons_of_mem _ (List.mem_append_right _ (List.mem_append_left _ h))))⟩) (by decide +kernel)
set_option maxHeartbeats 4000000 in
set_option maxRecDepth 100000 in
theorem c_X10_outer (l : Launch) (D : va_G) (sz : Nat) (h0 : Nat) (ca : Nat → Nat) (cT : ClassId) (tp : Int32) (z1 : Int32) (z2 : Int32) (z3 : Int32) (z4 : Int32) (z5 : Int32)  : Met l yX10_outer wp_c_X10_outer ({ frames := 2, cells := 0, slots := 0, locals := 41 }) (PcR D [.ref h0, .int z1, .int z2, .int z3, .int z4, .int z5] sz [(h0, .inr (10, [.ref (ca 0), .ref (ca 1), .int tp, .ref (ca 3), .ref (ca 4), .ref (ca 5), .ref (ca 6)])), (ca 0, .inl (cT, 4, .inr (.inr (.inr (.inr (fun _ => none))))))] [(cT, .object RX9)]) (va_Ql (fun (r : Int64) (_ : Unit) => r = (-1000000000000000)) (fun (_ : Unit) _ => True) (va_A [] sz)) 0 0 (va_A [] sz) := by
  refine Met.ofW (cc := cX10_outer) (maxL := 7) (ret := (some .long)) (by decide) rfl ?_
  intro p e s m args below meth c s₁ B hml hv
  obtain ⟨rfl, hsz, hP, hK⟩ := hv
  have hx := B.exec
  have hb := B.bytes
  have hr := B.returns
  have hts := atoms_spec (ws := wp_c_X10_outer) B.pre
  have hown : s.vm.findClass RX10 = some m.cls := findClass_of_methodNamed B.named
  have hlocks := B.notSynchronized
  subst hsz
  generalize hAe : va_A [] s.heap.size = A at ⊢
  have hA : ∀ q : Nat, s.heap.size ≤ q → A q := fun q h => by rw [← hAe]; exact Or.inr h
  have hS : va_S A s.heap s.heap [] := va_S.rf
  have hP : va_P D vwCl [(h0, .inr (10, [.ref (ca 0), .ref (ca 1), .int tp, .ref (ca 3), .ref (ca 4), .ref (ca 5), .ref (ca 6)])), (ca 0, .inl (cT, 4, .inr (.inr (.inr (.inr (fun _ => none))))))] s.heap := hP
  have hl := lv_entry ([.ref h0, .int z1, .int z2, .int z3, .int z4, .int z5]) (n := 7) (Nat.le_of_ble_eq_true rfl)
  rw [lg_entry_eq]
  generalize (lg_sl ([.ref h0, .int z1, .int z2, .int z3, .int z4, .int z5]) ++ List.replicate (7 - (lg_sl ([.ref h0, .int z1, .int z2, .int z3, .int z4, .int z5])).length) Slot.unset).toArray = ls at hl ⊢
  have hl : lv_has ls 7 [(0, .ref h0), (1, .int z1), (2, .int z2), (3, .int z3), (4, .int z4), (5, .int z5)] := hl
  refine lv_aload_n hx hb dX10_outer_0 rfl (lv_at hl 0 rfl) ?_
  refine lv_iload_n hx hb dX10_outer_1 rfl (lv_at hl 1 rfl) ?_
  have hPc := hP.sub (ws' := [(h0, .inr (10, [.ref (ca 0), .ref (ca 1), .int tp, .ref (ca 3), .ref (ca 4), .ref (ca 5), .ref (ca 6)])), (ca 0, .inl (cT, 4, .inr (.inr (.inr (.inr (fun _ => none))))))]) [0, 1] rfl
  have hKc := hK.sub (tys' := [(cT, .object RX9)]) [0] rfl
  have hFc := va_free0 hS hA
  refine va_callq (va_runV (As := [.int z1]) (rest := []) ⟨hx, hb, hml, hown, hts⟩ (c_tableAt l D _ h0 ca cT tp z1) (cwV 1 hts g_c_X10_outer_c_tableAt_74 rfl rfl rfl (by decide +kernel) ⟨(Nat.le_of_ble_eq_true rfl), (Nat.le_of_ble_eq_true rfl)⟩) (PcR_V (q0 := 0) hPc hKc rfl rfl) rfl rfl hl.1 rfl (lv_room (Nat.le_of_ble_eq_true rfl)) dX10_outer_2 ⟨(Nat.le_of_ble_eq_true rfl), (Nat.le_of_ble_eq_true rfl)⟩) hS (fun q _ h => hFc q h) hFc (fun r1 uu tt H locs htt hvm hw hB hz1 hk1 hS => ?_)
  have hP := va_keep hP hk1
  try dsimp only at hw
  clear hB hz1 hk1 hFc hPc hKc
  obtain rfl : r1 = none := hw
  refine W.eq (g2 := F0 m 5 ls [.null]) rfl ?_
  refine lv_astoreN (lv' := [(6, .null), (0, .ref h0), (1, .int z1), (2, .int z2), (3, .int z3), (4, .int z4), (5, .int z5)]) hx hb dX10_outer_5 hl (by decide) rfl (fun ls hl => ?_)
  refine lv_aloadN hx hb dX10_outer_7 (lv_at hl 0 rfl) ?_
  refine lv_ifnullN (tgt := 45) hx hb dX10_outer_9 (by decide) ?_
  refine lv_ldc2 (v := (-1000000000000000)) hx hb hown (hts (.constantLong RX10 91 (-1000000000000000)) (List.mem_of_getElem? (i := 5) rfl)) dX10_outer_45 ?_
  exact W.lret (v := (-1000000000000000)) hx hb hr (fun t ht hW => ⟨⟨(-1000000000000000), (), rfl, rfl, trivial⟩, hS.F ht⟩) hS.2.2 dX10_outer_48

def own_c_X10_best : List Cond := [.methodLink RX10 74 yX10_tableAt, .instanceMethod yX10_tableAt, .selects RX10 yX10_tableAt yX10_tableAt, .initialized RX10, .constantLong RX10 91 (-1000000000000000)]
def wp_c_X10_best : List Cond := .code yX10_best cX10_best 7 (some .long) :: (own_c_X10_best ++ (wp_c_tableAt ++ ([] : List Cond)))
set_option maxRecDepth 20000 in
theorem inown_c_X10_best : ∀ w ∈ own_c_X10_best, w ∈ lw_tbl := mem_places [610, 612, 2, 106, 691] (by decide +kernel)
set_option maxRecDepth 20000 in
theorem in_c_X10_best : ∀ w ∈ wp_c_X10_best, w ∈ lw_tbl := List.forall_mem_cons.mpr ⟨List.mem_of_getElem? (i := 816) (by decide +kernel), List.forall_mem_append.mpr ⟨inown_c_X10_best, List.forall_mem_append.mpr ⟨in_c_tableAt, fun _ h => absurd h List.not_mem_nil⟩⟩⟩
set_option maxRecDepth 20000 in
theorem good_c_X10_best : wp_c_X10_best.all goodWord = true := by decide +kernel
set_option maxRecDepth 20000 in
theorem g_c_X10_best_c_tableAt_74 : GoodIn wp_c_X10_best (wsV RX10 74 RX10 yX10_tableAt wp_c_tableAt) := goodIn_sub (List.forall_mem_append.mpr ⟨List.forall_mem_cons.mpr ⟨(List.mem_of_getElem? (i := 1) rfl), List.forall_mem_cons.mpr ⟨(List.mem_of_getElem? (i := 2) rfl), List.forall_mem_cons.mpr ⟨(List.mem_of_getElem? (i := 3) rfl), List.forall_mem_cons.mpr ⟨(List.mem_of_getElem? (i := 4) rfl), fun _ h => absurd h List.not_mem_nil⟩⟩⟩⟩, (fun _ h => (List.mem_cons_of_mem _ (List.mem_append_right _ (List.mem_append_left _ h))))⟩) (by decide +kernel)
set_option maxHeartbeats 4000000 in
set_option maxRecDepth 100000 in
theorem c_X10_best (l : Launch) (D : va_G) (sz : Nat) (h0 : Nat) (ca : Nat → Nat) (cT : ClassId) (tp : Int32) (z1 : Int32) (z2 : Int32) (y3 : Int64) (z4 : Int32)  : Met l yX10_best wp_c_X10_best ({ frames := 2, cells := 0, slots := 0, locals := 41 }) (PcR D [.ref h0, .int z1, .int z2, .long y3, .int z4] sz [(h0, .inr (10, [.ref (ca 0), .ref (ca 1), .int tp, .ref (ca 3), .ref (ca 4), .ref (ca 5), .ref (ca 6)])), (ca 0, .inl (cT, 4, .inr (.inr (.inr (.inr (fun _ => none))))))] [(cT, .object RX9)]) (va_Ql (fun (r : Int64) (_ : Unit) => r = (-1000000000000000)) (fun (_ : Unit) _ => True) (va_A [] sz)) 0 0 (va_A [] sz) := by
  refine Met.ofW (cc := cX10_best) (maxL := 7) (ret := (some .long)) (by decide) rfl ?_
  intro p e s m args below meth c s₁ B hml hv
  obtain ⟨rfl, hsz, hP, hK⟩ := hv
  have hx := B.exec
  have hb := B.bytes
  have hr := B.returns
  have hts := atoms_spec (ws := wp_c_X10_best) B.pre
  have hown : s.vm.findClass RX10 = some m.cls := findClass_of_methodNamed B.named
  have hlocks := B.notSynchronized
  subst hsz
  generalize hAe : va_A [] s.heap.size = A at ⊢
  have hA : ∀ q : Nat, s.heap.size ≤ q → A q := fun q h => by rw [← hAe]; exact Or.inr h
  have hS : va_S A s.heap s.heap [] := va_S.rf
  have hP : va_P D vwCl [(h0, .inr (10, [.ref (ca 0), .ref (ca 1), .int tp, .ref (ca 3), .ref (ca 4), .ref (ca 5), .ref (ca 6)])), (ca 0, .inl (cT, 4, .inr (.inr (.inr (.inr (fun _ => none))))))] s.heap := hP
  have hl := lv_entry ([.ref h0, .int z1, .int z2, .long y3, .int z4]) (n := 7) (Nat.le_of_ble_eq_true rfl)
  rw [lg_entry_eq]
  generalize (lg_sl ([.ref h0, .int z1, .int z2, .long y3, .int z4]) ++ List.replicate (7 - (lg_sl ([.ref h0, .int z1, .int z2, .long y3, .int z4])).length) Slot.unset).toArray = ls at hl ⊢
  have hl : lv_has ls 7 [(0, .ref h0), (1, .int z1), (2, .int z2), (3, .long y3), (5, .int z4)] := hl
  refine lv_aload_n hx hb dX10_best_0 rfl (lv_at hl 0 rfl) ?_
  refine lv_iload_n hx hb dX10_best_1 rfl (lv_at hl 1 rfl) ?_
  have hPc := hP.sub (ws' := [(h0, .inr (10, [.ref (ca 0), .ref (ca 1), .int tp, .ref (ca 3), .ref (ca 4), .ref (ca 5), .ref (ca 6)])), (ca 0, .inl (cT, 4, .inr (.inr (.inr (.inr (fun _ => none))))))]) [0, 1] rfl
  have hKc := hK.sub (tys' := [(cT, .object RX9)]) [0] rfl
  have hFc := va_free0 hS hA
  refine va_callq (va_runV (As := [.int z1]) (rest := []) ⟨hx, hb, hml, hown, hts⟩ (c_tableAt l D _ h0 ca cT tp z1) (cwV 1 hts g_c_X10_best_c_tableAt_74 rfl rfl rfl (by decide +kernel) ⟨(Nat.le_of_ble_eq_true rfl), (Nat.le_of_ble_eq_true rfl)⟩) (PcR_V (q0 := 0) hPc hKc rfl rfl) rfl rfl hl.1 rfl (lv_room (Nat.le_of_ble_eq_true rfl)) dX10_best_2 ⟨(Nat.le_of_ble_eq_true rfl), (Nat.le_of_ble_eq_true rfl)⟩) hS (fun q _ h => hFc q h) hFc (fun r1 uu tt H locs htt hvm hw hB hz1 hk1 hS => ?_)
  have hP := va_keep hP hk1
  try dsimp only at hw
  clear hB hz1 hk1 hFc hPc hKc
  obtain rfl : r1 = none := hw
  refine W.eq (g2 := F0 m 5 ls [.null]) rfl ?_
  refine lv_astoreN (lv' := [(6, .null), (0, .ref h0), (1, .int z1), (2, .int z2), (3, .long y3), (5, .int z4)]) hx hb dX10_best_5 hl (by decide) rfl (fun ls hl => ?_)
  refine lv_aloadN hx hb dX10_best_7 (lv_at hl 0 rfl) ?_
  refine lv_ifnullN (tgt := 35) hx hb dX10_best_9 (by decide) ?_
  refine lv_ldc2 (v := (-1000000000000000)) hx hb hown (hts (.constantLong RX10 91 (-1000000000000000)) (List.mem_of_getElem? (i := 5) rfl)) dX10_best_35 ?_
  exact W.lret (v := (-1000000000000000)) hx hb hr (fun t ht hW => ⟨⟨(-1000000000000000), (), rfl, rfl, trivial⟩, hS.F ht⟩) hS.2.2 dX10_best_38

def own_c_X10_inner : List Cond := [.methodLink RX10 74 yX10_tableAt, .instanceMethod yX10_tableAt, .selects RX10 yX10_tableAt yX10_tableAt, .initialized RX10]
def wp_c_X10_inner : List Cond := .code yX10_inner cX10_inner 6 (some .int) :: (own_c_X10_inner ++ (wp_c_tableAt ++ ([] : List Cond)))
set_option maxRecDepth 20000 in
theorem inown_c_X10_inner : ∀ w ∈ own_c_X10_inner, w ∈ lw_tbl := mem_places [610, 612, 2, 106] (by decide +kernel)
set_option maxRecDepth 20000 in
theorem in_c_X10_inner : ∀ w ∈ wp_c_X10_inner, w ∈ lw_tbl := List.forall_mem_cons.mpr ⟨List.mem_of_getElem? (i := 827) (by decide +kernel), List.forall_mem_append.mpr ⟨inown_c_X10_inner, List.forall_mem_append.mpr ⟨in_c_tableAt, fun _ h => absurd h List.not_mem_nil⟩⟩⟩
set_option maxRecDepth 20000 in
theorem good_c_X10_inner : wp_c_X10_inner.all goodWord = true := by decide +kernel
set_option maxRecDepth 20000 in
theorem g_c_X10_inner_c_tableAt_74 : GoodIn wp_c_X10_inner (wsV RX10 74 RX10 yX10_tableAt wp_c_tableAt) := goodIn_sub (List.forall_mem_append.mpr ⟨List.forall_mem_cons.mpr ⟨(List.mem_of_getElem? (i := 1) rfl), List.forall_mem_cons.mpr ⟨(List.mem_of_getElem? (i := 2) rfl), List.forall_mem_cons.mpr ⟨(List.mem_of_getElem? (i := 3) rfl), List.forall_mem_cons.mpr ⟨(List.mem_of_getElem? (i := 4) rfl), fun _ h => absurd h List.not_mem_nil⟩⟩⟩⟩, (fun _ h => (List.mem_cons_of_mem _ (List.mem_append_right _ (List.mem_append_left _ h))))⟩) (by decide +kernel)
set_option maxHeartbeats 4000000 in
set_option maxRecDepth 100000 in
theorem c_X10_inner (l : Launch) (D : va_G) (sz : Nat) (h0 : Nat) (ca : Nat → Nat) (cT : ClassId) (tp : Int32) (z1 : Int32) (z2 : Int32) (z3 : Int32) (z4 : Int32)  : Met l yX10_inner wp_c_X10_inner ({ frames := 2, cells := 0, slots := 0, locals := 41 }) (PcR D [.ref h0, .int z1, .int z2, .int z3, .int z4] sz [(h0, .inr (10, [.ref (ca 0), .ref (ca 1), .int tp, .ref (ca 3), .ref (ca 4), .ref (ca 5), .ref (ca 6)])), (ca 0, .inl (cT, 4, .inr (.inr (.inr (.inr (fun _ => none))))))] [(cT, .object RX9)]) (va_Qi (fun (r : Int32) (_ : Unit) => r = (-1)) (fun (_ : Unit) _ => True) (va_A [] sz)) 0 0 (va_A [] sz) := by
  refine Met.ofW (cc := cX10_inner) (maxL := 6) (ret := (some .int)) (by decide) rfl ?_
  intro p e s m args below meth c s₁ B hml hv
  obtain ⟨rfl, hsz, hP, hK⟩ := hv
  have hx := B.exec
  have hb := B.bytes
  have hr := B.returns
  have hts := atoms_spec (ws := wp_c_X10_inner) B.pre
  have hown : s.vm.findClass RX10 = some m.cls := findClass_of_methodNamed B.named
  have hlocks := B.notSynchronized
  subst hsz
  generalize hAe : va_A [] s.heap.size = A at ⊢
  have hA : ∀ q : Nat, s.heap.size ≤ q → A q := fun q h => by rw [← hAe]; exact Or.inr h
  have hS : va_S A s.heap s.heap [] := va_S.rf
  have hP : va_P D vwCl [(h0, .inr (10, [.ref (ca 0), .ref (ca 1), .int tp, .ref (ca 3), .ref (ca 4), .ref (ca 5), .ref (ca 6)])), (ca 0, .inl (cT, 4, .inr (.inr (.inr (.inr (fun _ => none))))))] s.heap := hP
  have hl := lv_entry ([.ref h0, .int z1, .int z2, .int z3, .int z4]) (n := 6) (Nat.le_of_ble_eq_true rfl)
  rw [lg_entry_eq]
  generalize (lg_sl ([.ref h0, .int z1, .int z2, .int z3, .int z4]) ++ List.replicate (6 - (lg_sl ([.ref h0, .int z1, .int z2, .int z3, .int z4])).length) Slot.unset).toArray = ls at hl ⊢
  have hl : lv_has ls 6 [(0, .ref h0), (1, .int z1), (2, .int z2), (3, .int z3), (4, .int z4)] := hl
  refine lv_aload_n hx hb dX10_inner_0 rfl (lv_at hl 0 rfl) ?_
  refine lv_iload_n hx hb dX10_inner_1 rfl (lv_at hl 1 rfl) ?_
  have hPc := hP.sub (ws' := [(h0, .inr (10, [.ref (ca 0), .ref (ca 1), .int tp, .ref (ca 3), .ref (ca 4), .ref (ca 5), .ref (ca 6)])), (ca 0, .inl (cT, 4, .inr (.inr (.inr (.inr (fun _ => none))))))]) [0, 1] rfl
  have hKc := hK.sub (tys' := [(cT, .object RX9)]) [0] rfl
  have hFc := va_free0 hS hA
  refine va_callq (va_runV (As := [.int z1]) (rest := []) ⟨hx, hb, hml, hown, hts⟩ (c_tableAt l D _ h0 ca cT tp z1) (cwV 1 hts g_c_X10_inner_c_tableAt_74 rfl rfl rfl (by decide +kernel) ⟨(Nat.le_of_ble_eq_true rfl), (Nat.le_of_ble_eq_true rfl)⟩) (PcR_V (q0 := 0) hPc hKc rfl rfl) rfl rfl hl.1 rfl (lv_room (Nat.le_of_ble_eq_true rfl)) dX10_inner_2 ⟨(Nat.le_of_ble_eq_true rfl), (Nat.le_of_ble_eq_true rfl)⟩) hS (fun q _ h => hFc q h) hFc (fun r1 uu tt H locs htt hvm hw hB hz1 hk1 hS => ?_)
  have hP := va_keep hP hk1
  try dsimp only at hw
  clear hB hz1 hk1 hFc hPc hKc
  obtain rfl : r1 = none := hw
  refine W.eq (g2 := F0 m 5 ls [.null]) rfl ?_
  refine lv_astoreN (lv' := [(5, .null), (0, .ref h0), (1, .int z1), (2, .int z2), (3, .int z3), (4, .int z4)]) hx hb dX10_inner_5 hl (by decide) rfl (fun ls hl => ?_)
  refine lv_aloadN hx hb dX10_inner_7 (lv_at hl 0 rfl) ?_
  refine lv_ifnullN (tgt := 33) hx hb dX10_inner_9 (by decide) ?_
  refine lv_iconst (v := (-1)) hx hb dX10_inner_33 (by decide) ?_
  exact W.iret (v := (-1)) hx hb hr (fun t ht hW => ⟨⟨(-1), (), rfl, rfl, trivial⟩, hS.F ht⟩) hS.2.2 dX10_inner_34

def own_c_X10_tries : List Cond := [.methodLink RX10 74 yX10_tableAt, .instanceMethod yX10_tableAt, .selects RX10 yX10_tableAt yX10_tableAt, .initialized RX10]
def wp_c_X10_tries : List Cond := .code yX10_tries cX10_tries 8 (some .int) :: (own_c_X10_tries ++ (wp_c_tableAt ++ ([] : List Cond)))
set_option maxRecDepth 20000 in
theorem inown_c_X10_tries : ∀ w ∈ own_c_X10_tries, w ∈ lw_tbl := mem_places [610, 612, 2, 106] (by decide +kernel)
set_option maxRecDepth 20000 in
theorem in_c_X10_tries : ∀ w ∈ wp_c_X10_tries, w ∈ lw_tbl := List.forall_mem_cons.mpr ⟨List.mem_of_getElem? (i := 843) (by decide +kernel), List.forall_mem_append.mpr ⟨inown_c_X10_tries, List.forall_mem_append.mpr ⟨in_c_tableAt, fun _ h => absurd h List.not_mem_nil⟩⟩⟩
set_option maxRecDepth 20000 in
theorem good_c_X10_tries : wp_c_X10_tries.all goodWord = true := by decide +kernel
set_option maxRecDepth 20000 in
theorem g_c_X10_tries_c_tableAt_74 : GoodIn wp_c_X10_tries (wsV RX10 74 RX10 yX10_tableAt wp_c_tableAt) := goodIn_sub (List.forall_mem_append.mpr ⟨List.forall_mem_cons.mpr ⟨(List.mem_of_getElem? (i := 1) rfl), List.forall_mem_cons.mpr ⟨(List.mem_of_getElem? (i := 2) rfl), List.forall_mem_cons.mpr ⟨(List.mem_of_getElem? (i := 3) rfl), List.forall_mem_cons.mpr ⟨(List.mem_of_getElem? (i := 4) rfl), fun _ h => absurd h List.not_mem_nil⟩⟩⟩⟩, (fun _ h => (List.mem_cons_of_mem _ (List.mem_append_right _ (List.mem_append_left _ h))))⟩) (by decide +kernel)
set_option maxHeartbeats 4000000 in
set_option maxRecDepth 100000 in
theorem c_X10_tries (l : Launch) (D : va_G) (sz : Nat) (h0 : Nat) (ca : Nat → Nat) (cT : ClassId) (tp : Int32) (z1 : Int32) (z2 : Int32) (z3 : Int32) (y4 : Int64) (z5 : Int32)  : Met l yX10_tries wp_c_X10_tries ({ frames := 2, cells := 0, slots := 0, locals := 41 }) (PcR D [.ref h0, .int z1, .int z2, .int z3, .long y4, .int z5] sz [(h0, .inr (10, [.ref (ca 0), .ref (ca 1), .int tp, .ref (ca 3), .ref (ca 4), .ref (ca 5), .ref (ca 6)])), (ca 0, .inl (cT, 4, .inr (.inr (.inr (.inr (fun _ => none))))))] [(cT, .object RX9)]) (va_Qi (fun (r : Int32) (_ : Unit) => r = (-2)) (fun (_ : Unit) _ => True) (va_A [] sz)) 0 0 (va_A [] sz) := by
  refine Met.ofW (cc := cX10_tries) (maxL := 8) (ret := (some .int)) (by decide) rfl ?_
  intro p e s m args below meth c s₁ B hml hv
  obtain ⟨rfl, hsz, hP, hK⟩ := hv
  have hx := B.exec
  have hb := B.bytes
  have hr := B.returns
  have hts := atoms_spec (ws := wp_c_X10_tries) B.pre
  have hown : s.vm.findClass RX10 = some m.cls := findClass_of_methodNamed B.named
  have hlocks := B.notSynchronized
  subst hsz
  generalize hAe : va_A [] s.heap.size = A at ⊢
  have hA : ∀ q : Nat, s.heap.size ≤ q → A q := fun q h => by rw [← hAe]; exact Or.inr h
  have hS : va_S A s.heap s.heap [] := va_S.rf
  have hP : va_P D vwCl [(h0, .inr (10, [.ref (ca 0), .ref (ca 1), .int tp, .ref (ca 3), .ref (ca 4), .ref (ca 5), .ref (ca 6)])), (ca 0, .inl (cT, 4, .inr (.inr (.inr (.inr (fun _ => none))))))] s.heap := hP
  have hl := lv_entry ([.ref h0, .int z1, .int z2, .int z3, .long y4, .int z5]) (n := 8) (Nat.le_of_ble_eq_true rfl)
  rw [lg_entry_eq]
  generalize (lg_sl ([.ref h0, .int z1, .int z2, .int z3, .long y4, .int z5]) ++ List.replicate (8 - (lg_sl ([.ref h0, .int z1, .int z2, .int z3, .long y4, .int z5])).length) Slot.unset).toArray = ls at hl ⊢
  have hl : lv_has ls 8 [(0, .ref h0), (1, .int z1), (2, .int z2), (3, .int z3), (4, .long y4), (6, .int z5)] := hl
  refine lv_aload_n hx hb dX10_tries_0 rfl (lv_at hl 0 rfl) ?_
  refine lv_iload_n hx hb dX10_tries_1 rfl (lv_at hl 1 rfl) ?_
  have hPc := hP.sub (ws' := [(h0, .inr (10, [.ref (ca 0), .ref (ca 1), .int tp, .ref (ca 3), .ref (ca 4), .ref (ca 5), .ref (ca 6)])), (ca 0, .inl (cT, 4, .inr (.inr (.inr (.inr (fun _ => none))))))]) [0, 1] rfl
  have hKc := hK.sub (tys' := [(cT, .object RX9)]) [0] rfl
  have hFc := va_free0 hS hA
  refine va_callq (va_runV (As := [.int z1]) (rest := []) ⟨hx, hb, hml, hown, hts⟩ (c_tableAt l D _ h0 ca cT tp z1) (cwV 1 hts g_c_X10_tries_c_tableAt_74 rfl rfl rfl (by decide +kernel) ⟨(Nat.le_of_ble_eq_true rfl), (Nat.le_of_ble_eq_true rfl)⟩) (PcR_V (q0 := 0) hPc hKc rfl rfl) rfl rfl hl.1 rfl (lv_room (Nat.le_of_ble_eq_true rfl)) dX10_tries_2 ⟨(Nat.le_of_ble_eq_true rfl), (Nat.le_of_ble_eq_true rfl)⟩) hS (fun q _ h => hFc q h) hFc (fun r1 uu tt H locs htt hvm hw hB hz1 hk1 hS => ?_)
  have hP := va_keep hP hk1
  try dsimp only at hw
  clear hB hz1 hk1 hFc hPc hKc
  obtain rfl : r1 = none := hw
  refine W.eq (g2 := F0 m 5 ls [.null]) rfl ?_
  refine lv_astoreN (lv' := [(7, .null), (0, .ref h0), (1, .int z1), (2, .int z2), (3, .int z3), (4, .long y4), (6, .int z5)]) hx hb dX10_tries_5 hl (by decide) rfl (fun ls hl => ?_)
  refine lv_aloadN hx hb dX10_tries_7 (lv_at hl 0 rfl) ?_
  refine lv_ifnullN (tgt := 47) hx hb dX10_tries_9 (by decide) ?_
  refine lv_bipush (v := (-2)) hx hb dX10_tries_47 (by decide) ?_
  exact W.iret (v := (-2)) hx hb hr (fun t ht hW => ⟨⟨(-2), (), rfl, rfl, trivial⟩, hS.F ht⟩) hS.2.2 dX10_tries_49

def own_c_X10_would : List Cond := [.methodLink RX10 74 yX10_tableAt, .instanceMethod yX10_tableAt, .selects RX10 yX10_tableAt yX10_tableAt, .initialized RX10]
def wp_c_X10_would : List Cond := .code yX10_would cX10_would 4 (some .int) :: (own_c_X10_would ++ (wp_c_tableAt ++ ([] : List Cond)))
set_option maxRecDepth 20000 in
theorem inown_c_X10_would : ∀ w ∈ own_c_X10_would, w ∈ lw_tbl := mem_places [610, 612, 2, 106] (by decide +kernel)
set_option maxRecDepth 20000 in
theorem in_c_X10_would : ∀ w ∈ wp_c_X10_would, w ∈ lw_tbl := List.forall_mem_cons.mpr ⟨List.mem_of_getElem? (i := 851) (by decide +kernel), List.forall_mem_append.mpr ⟨inown_c_X10_would, List.forall_mem_append.mpr ⟨in_c_tableAt, fun _ h => absurd h List.not_mem_nil⟩⟩⟩
set_option maxRecDepth 20000 in
theorem good_c_X10_would : wp_c_X10_would.all goodWord = true := by decide +kernel
set_option maxRecDepth 20000 in
theorem g_c_X10_would_c_tableAt_74 : GoodIn wp_c_X10_would (wsV RX10 74 RX10 yX10_tableAt wp_c_tableAt) := goodIn_sub (List.forall_mem_append.mpr ⟨List.forall_mem_cons.mpr ⟨(List.mem_of_getElem? (i := 1) rfl), List.forall_mem_cons.mpr ⟨(List.mem_of_getElem? (i := 2) rfl), List.forall_mem_cons.mpr ⟨(List.mem_of_getElem? (i := 3) rfl), List.forall_mem_cons.mpr ⟨(List.mem_of_getElem? (i := 4) rfl), fun _ h => absurd h List.not_mem_nil⟩⟩⟩⟩, (fun _ h => (List.mem_cons_of_mem _ (List.mem_append_right _ (List.mem_append_left _ h))))⟩) (by decide +kernel)
set_option maxHeartbeats 4000000 in
set_option maxRecDepth 100000 in
theorem c_X10_would (l : Launch) (D : va_G) (sz : Nat) (h0 : Nat) (ca : Nat → Nat) (cT : ClassId) (tp : Int32) (z1 : Int32) (z2 : Int32)  : Met l yX10_would wp_c_X10_would ({ frames := 2, cells := 0, slots := 0, locals := 41 }) (PcR D [.ref h0, .int z1, .int z2] sz [(h0, .inr (10, [.ref (ca 0), .ref (ca 1), .int tp, .ref (ca 3), .ref (ca 4), .ref (ca 5), .ref (ca 6)])), (ca 0, .inl (cT, 4, .inr (.inr (.inr (.inr (fun _ => none))))))] [(cT, .object RX9)]) (va_Qi (fun (r : Int32) (_ : Unit) => r = (-2)) (fun (_ : Unit) _ => True) (va_A [] sz)) 0 0 (va_A [] sz) := by
  refine Met.ofW (cc := cX10_would) (maxL := 4) (ret := (some .int)) (by decide) rfl ?_
  intro p e s m args below meth c s₁ B hml hv
  obtain ⟨rfl, hsz, hP, hK⟩ := hv
  have hx := B.exec
  have hb := B.bytes
  have hr := B.returns
  have hts := atoms_spec (ws := wp_c_X10_would) B.pre
  have hown : s.vm.findClass RX10 = some m.cls := findClass_of_methodNamed B.named
  have hlocks := B.notSynchronized
  subst hsz
  generalize hAe : va_A [] s.heap.size = A at ⊢
  have hA : ∀ q : Nat, s.heap.size ≤ q → A q := fun q h => by rw [← hAe]; exact Or.inr h
  have hS : va_S A s.heap s.heap [] := va_S.rf
  have hP : va_P D vwCl [(h0, .inr (10, [.ref (ca 0), .ref (ca 1), .int tp, .ref (ca 3), .ref (ca 4), .ref (ca 5), .ref (ca 6)])), (ca 0, .inl (cT, 4, .inr (.inr (.inr (.inr (fun _ => none))))))] s.heap := hP
  have hl := lv_entry ([.ref h0, .int z1, .int z2]) (n := 4) (Nat.le_of_ble_eq_true rfl)
  rw [lg_entry_eq]
  generalize (lg_sl ([.ref h0, .int z1, .int z2]) ++ List.replicate (4 - (lg_sl ([.ref h0, .int z1, .int z2])).length) Slot.unset).toArray = ls at hl ⊢
  have hl : lv_has ls 4 [(0, .ref h0), (1, .int z1), (2, .int z2)] := hl
  refine lv_aload_n hx hb dX10_would_0 rfl (lv_at hl 0 rfl) ?_
  refine lv_iload_n hx hb dX10_would_1 rfl (lv_at hl 1 rfl) ?_
  have hPc := hP.sub (ws' := [(h0, .inr (10, [.ref (ca 0), .ref (ca 1), .int tp, .ref (ca 3), .ref (ca 4), .ref (ca 5), .ref (ca 6)])), (ca 0, .inl (cT, 4, .inr (.inr (.inr (.inr (fun _ => none))))))]) [0, 1] rfl
  have hKc := hK.sub (tys' := [(cT, .object RX9)]) [0] rfl
  have hFc := va_free0 hS hA
  refine va_callq (va_runV (As := [.int z1]) (rest := []) ⟨hx, hb, hml, hown, hts⟩ (c_tableAt l D _ h0 ca cT tp z1) (cwV 1 hts g_c_X10_would_c_tableAt_74 rfl rfl rfl (by decide +kernel) ⟨(Nat.le_of_ble_eq_true rfl), (Nat.le_of_ble_eq_true rfl)⟩) (PcR_V (q0 := 0) hPc hKc rfl rfl) rfl rfl hl.1 rfl (lv_room (Nat.le_of_ble_eq_true rfl)) dX10_would_2 ⟨(Nat.le_of_ble_eq_true rfl), (Nat.le_of_ble_eq_true rfl)⟩) hS (fun q _ h => hFc q h) hFc (fun r1 uu tt H locs htt hvm hw hB hz1 hk1 hS => ?_)
  have hP := va_keep hP hk1
  try dsimp only at hw
  clear hB hz1 hk1 hFc hPc hKc
  obtain rfl : r1 = none := hw
  refine W.eq (g2 := F0 m 5 ls [.null]) rfl ?_
  refine lv_astore_nN (lv' := [(3, .null), (0, .ref h0), (1, .int z1), (2, .int z2)]) hx hb dX10_would_5 rfl hl (by decide) rfl (fun ls hl => ?_)
  refine lv_aload_nN hx hb dX10_would_6 rfl (lv_at hl 0 rfl) ?_
  refine lv_ifnullN (tgt := 17) hx hb dX10_would_7 (by decide) ?_
  refine lv_bipush (v := (-2)) hx hb dX10_would_17 (by decide) ?_
  exact W.iret (v := (-2)) hx hb hr (fun t ht hW => ⟨⟨(-2), (), rfl, rfl, trivial⟩, hS.F ht⟩) hS.2.2 dX10_would_19

def own_c_X10_frozen : List Cond := [.methodLink RX10 74 yX10_tableAt, .instanceMethod yX10_tableAt, .selects RX10 yX10_tableAt yX10_tableAt, .initialized RX10, .constantLong RX10 91 (-1000000000000000)]
def wp_c_X10_frozen : List Cond := .code yX10_frozen cX10_frozen 6 (some .long) :: (own_c_X10_frozen ++ (wp_c_tableAt ++ ([] : List Cond)))
set_option maxRecDepth 20000 in
theorem inown_c_X10_frozen : ∀ w ∈ own_c_X10_frozen, w ∈ lw_tbl := mem_places [610, 612, 2, 106, 691] (by decide +kernel)
set_option maxRecDepth 20000 in
theorem in_c_X10_frozen : ∀ w ∈ wp_c_X10_frozen, w ∈ lw_tbl := List.forall_mem_cons.mpr ⟨List.mem_of_getElem? (i := 856) (by decide +kernel), List.forall_mem_append.mpr ⟨inown_c_X10_frozen, List.forall_mem_append.mpr ⟨in_c_tableAt, fun _ h => absurd h List.not_mem_nil⟩⟩⟩
set_option maxRecDepth 20000 in
theorem good_c_X10_frozen : wp_c_X10_frozen.all goodWord = true := by decide +kernel
set_option maxRecDepth 20000 in
theorem g_c_X10_frozen_c_tableAt_74 : GoodIn wp_c_X10_frozen (wsV RX10 74 RX10 yX10_tableAt wp_c_tableAt) := goodIn_sub (List.forall_mem_append.mpr ⟨List.forall_mem_cons.mpr ⟨(List.mem_of_getElem? (i := 1) rfl), List.forall_mem_cons.mpr ⟨(List.mem_of_getElem? (i := 2) rfl), List.forall_mem_cons.mpr ⟨(List.mem_of_getElem? (i := 3) rfl), List.forall_mem_cons.mpr ⟨(List.mem_of_getElem? (i := 4) rfl), fun _ h => absurd h List.not_mem_nil⟩⟩⟩⟩, (fun _ h => (List.mem_cons_of_mem _ (List.mem_append_right _ (List.mem_append_left _ h))))⟩) (by decide +kernel)
set_option maxHeartbeats 4000000 in
set_option maxRecDepth 100000 in
theorem c_X10_frozen (l : Launch) (D : va_G) (sz : Nat) (h0 : Nat) (ca : Nat → Nat) (cT : ClassId) (tp : Int32) (z1 : Int32) (y2 : Int64) (z3 : Int32)  : Met l yX10_frozen wp_c_X10_frozen ({ frames := 2, cells := 0, slots := 0, locals := 41 }) (PcR D [.ref h0, .int z1, .long y2, .int z3] sz [(h0, .inr (10, [.ref (ca 0), .ref (ca 1), .int tp, .ref (ca 3), .ref (ca 4), .ref (ca 5), .ref (ca 6)])), (ca 0, .inl (cT, 4, .inr (.inr (.inr (.inr (fun _ => none))))))] [(cT, .object RX9)]) (va_Ql (fun (r : Int64) (_ : Unit) => r = (-1000000000000000)) (fun (_ : Unit) _ => True) (va_A [] sz)) 0 0 (va_A [] sz) := by
  refine Met.ofW (cc := cX10_frozen) (maxL := 6) (ret := (some .long)) (by decide) rfl ?_
  intro p e s m args below meth c s₁ B hml hv
  obtain ⟨rfl, hsz, hP, hK⟩ := hv
  have hx := B.exec
  have hb := B.bytes
  have hr := B.returns
  have hts := atoms_spec (ws := wp_c_X10_frozen) B.pre
  have hown : s.vm.findClass RX10 = some m.cls := findClass_of_methodNamed B.named
  have hlocks := B.notSynchronized
  subst hsz
  generalize hAe : va_A [] s.heap.size = A at ⊢
  have hA : ∀ q : Nat, s.heap.size ≤ q → A q := fun q h => by rw [← hAe]; exact Or.inr h
  have hS : va_S A s.heap s.heap [] := va_S.rf
  have hP : va_P D vwCl [(h0, .inr (10, [.ref (ca 0), .ref (ca 1), .int tp, .ref (ca 3), .ref (ca 4), .ref (ca 5), .ref (ca 6)])), (ca 0, .inl (cT, 4, .inr (.inr (.inr (.inr (fun _ => none))))))] s.heap := hP
  have hl := lv_entry ([.ref h0, .int z1, .long y2, .int z3]) (n := 6) (Nat.le_of_ble_eq_true rfl)
  rw [lg_entry_eq]
  generalize (lg_sl ([.ref h0, .int z1, .long y2, .int z3]) ++ List.replicate (6 - (lg_sl ([.ref h0, .int z1, .long y2, .int z3])).length) Slot.unset).toArray = ls at hl ⊢
  have hl : lv_has ls 6 [(0, .ref h0), (1, .int z1), (2, .long y2), (4, .int z3)] := hl
  refine lv_aload_n hx hb dX10_frozen_0 rfl (lv_at hl 0 rfl) ?_
  refine lv_iload_n hx hb dX10_frozen_1 rfl (lv_at hl 1 rfl) ?_
  have hPc := hP.sub (ws' := [(h0, .inr (10, [.ref (ca 0), .ref (ca 1), .int tp, .ref (ca 3), .ref (ca 4), .ref (ca 5), .ref (ca 6)])), (ca 0, .inl (cT, 4, .inr (.inr (.inr (.inr (fun _ => none))))))]) [0, 1] rfl
  have hKc := hK.sub (tys' := [(cT, .object RX9)]) [0] rfl
  have hFc := va_free0 hS hA
  refine va_callq (va_runV (As := [.int z1]) (rest := []) ⟨hx, hb, hml, hown, hts⟩ (c_tableAt l D _ h0 ca cT tp z1) (cwV 1 hts g_c_X10_frozen_c_tableAt_74 rfl rfl rfl (by decide +kernel) ⟨(Nat.le_of_ble_eq_true rfl), (Nat.le_of_ble_eq_true rfl)⟩) (PcR_V (q0 := 0) hPc hKc rfl rfl) rfl rfl hl.1 rfl (lv_room (Nat.le_of_ble_eq_true rfl)) dX10_frozen_2 ⟨(Nat.le_of_ble_eq_true rfl), (Nat.le_of_ble_eq_true rfl)⟩) hS (fun q _ h => hFc q h) hFc (fun r1 uu tt H locs htt hvm hw hB hz1 hk1 hS => ?_)
  have hP := va_keep hP hk1
  try dsimp only at hw
  clear hB hz1 hk1 hFc hPc hKc
  obtain rfl : r1 = none := hw
  refine W.eq (g2 := F0 m 5 ls [.null]) rfl ?_
  refine lv_astoreN (lv' := [(5, .null), (0, .ref h0), (1, .int z1), (2, .long y2), (4, .int z3)]) hx hb dX10_frozen_5 hl (by decide) rfl (fun ls hl => ?_)
  refine lv_aloadN hx hb dX10_frozen_7 (lv_at hl 0 rfl) ?_
  refine lv_ifnullN (tgt := 23) hx hb dX10_frozen_9 (by decide) ?_
  refine lv_ldc2 (v := (-1000000000000000)) hx hb hown (hts (.constantLong RX10 91 (-1000000000000000)) (List.mem_of_getElem? (i := 5) rfl)) dX10_frozen_23 ?_
  exact W.lret (v := (-1000000000000000)) hx hb hr (fun t ht hW => ⟨⟨(-1000000000000000), (), rfl, rfl, trivial⟩, hS.F ht⟩) hS.2.2 dX10_frozen_26

def own_c_X10_frozenAt : List Cond := [.methodLink RX10 74 yX10_tableAt, .instanceMethod yX10_tableAt, .selects RX10 yX10_tableAt yX10_tableAt, .initialized RX10]
def wp_c_X10_frozenAt : List Cond := .code yX10_frozenAt cX10_frozenAt 7 (some .int) :: (own_c_X10_frozenAt ++ (wp_c_tableAt ++ ([] : List Cond)))
set_option maxRecDepth 20000 in
theorem inown_c_X10_frozenAt : ∀ w ∈ own_c_X10_frozenAt, w ∈ lw_tbl := mem_places [610, 612, 2, 106] (by decide +kernel)
set_option maxRecDepth 20000 in
theorem in_c_X10_frozenAt : ∀ w ∈ wp_c_X10_frozenAt, w ∈ lw_tbl := List.forall_mem_cons.mpr ⟨List.mem_of_getElem? (i := 876) (by decide +kernel), List.forall_mem_append.mpr ⟨inown_c_X10_frozenAt, List.forall_mem_append.mpr ⟨in_c_tableAt, fun _ h => absurd h List.not_mem_nil⟩⟩⟩
set_option maxRecDepth 20000 in
theorem good_c_X10_frozenAt : wp_c_X10_frozenAt.all goodWord = true := by decide +kernel
set_option maxRecDepth 20000 in
theorem g_c_X10_frozenAt_c_tableAt_74 : GoodIn wp_c_X10_frozenAt (wsV RX10 74 RX10 yX10_tableAt wp_c_tableAt) := goodIn_sub (List.forall_mem_append.mpr ⟨List.forall_mem_cons.mpr ⟨(List.mem_of_getElem? (i := 1) rfl), List.forall_mem_cons.mpr ⟨(List.mem_of_getElem? (i := 2) rfl), List.forall_mem_cons.mpr ⟨(List.mem_of_getElem? (i := 3) rfl), List.forall_mem_cons.mpr ⟨(List.mem_of_getElem? (i := 4) rfl), fun _ h => absurd h List.not_mem_nil⟩⟩⟩⟩, (fun _ h => (List.mem_cons_of_mem _ (List.mem_append_right _ (List.mem_append_left _ h))))⟩) (by decide +kernel)
set_option maxHeartbeats 4000000 in
set_option maxRecDepth 100000 in
theorem c_X10_frozenAt (l : Launch) (D : va_G) (sz : Nat) (h0 : Nat) (ca : Nat → Nat) (cT : ClassId) (tp : Int32) (z1 : Int32) (y2 : Int64) (z3 : Int32)  : Met l yX10_frozenAt wp_c_X10_frozenAt ({ frames := 2, cells := 0, slots := 0, locals := 41 }) (PcR D [.ref h0, .int z1, .long y2, .int z3] sz [(h0, .inr (10, [.ref (ca 0), .ref (ca 1), .int tp, .ref (ca 3), .ref (ca 4), .ref (ca 5), .ref (ca 6)])), (ca 0, .inl (cT, 4, .inr (.inr (.inr (.inr (fun _ => none))))))] [(cT, .object RX9)]) (va_Qi (fun (r : Int32) (_ : Unit) => r = (-1)) (fun (_ : Unit) _ => True) (va_A [] sz)) 0 0 (va_A [] sz) := by
  refine Met.ofW (cc := cX10_frozenAt) (maxL := 7) (ret := (some .int)) (by decide) rfl ?_
  intro p e s m args below meth c s₁ B hml hv
  obtain ⟨rfl, hsz, hP, hK⟩ := hv
  have hx := B.exec
  have hb := B.bytes
  have hr := B.returns
  have hts := atoms_spec (ws := wp_c_X10_frozenAt) B.pre
  have hown : s.vm.findClass RX10 = some m.cls := findClass_of_methodNamed B.named
  have hlocks := B.notSynchronized
  subst hsz
  generalize hAe : va_A [] s.heap.size = A at ⊢
  have hA : ∀ q : Nat, s.heap.size ≤ q → A q := fun q h => by rw [← hAe]; exact Or.inr h
  have hS : va_S A s.heap s.heap [] := va_S.rf
  have hP : va_P D vwCl [(h0, .inr (10, [.ref (ca 0), .ref (ca 1), .int tp, .ref (ca 3), .ref (ca 4), .ref (ca 5), .ref (ca 6)])), (ca 0, .inl (cT, 4, .inr (.inr (.inr (.inr (fun _ => none))))))] s.heap := hP
  have hl := lv_entry ([.ref h0, .int z1, .long y2, .int z3]) (n := 7) (Nat.le_of_ble_eq_true rfl)
  rw [lg_entry_eq]
  generalize (lg_sl ([.ref h0, .int z1, .long y2, .int z3]) ++ List.replicate (7 - (lg_sl ([.ref h0, .int z1, .long y2, .int z3])).length) Slot.unset).toArray = ls at hl ⊢
  have hl : lv_has ls 7 [(0, .ref h0), (1, .int z1), (2, .long y2), (4, .int z3)] := hl
  refine lv_aload_n hx hb dX10_frozenAt_0 rfl (lv_at hl 0 rfl) ?_
  refine lv_iload_n hx hb dX10_frozenAt_1 rfl (lv_at hl 1 rfl) ?_
  have hPc := hP.sub (ws' := [(h0, .inr (10, [.ref (ca 0), .ref (ca 1), .int tp, .ref (ca 3), .ref (ca 4), .ref (ca 5), .ref (ca 6)])), (ca 0, .inl (cT, 4, .inr (.inr (.inr (.inr (fun _ => none))))))]) [0, 1] rfl
  have hKc := hK.sub (tys' := [(cT, .object RX9)]) [0] rfl
  have hFc := va_free0 hS hA
  refine va_callq (va_runV (As := [.int z1]) (rest := []) ⟨hx, hb, hml, hown, hts⟩ (c_tableAt l D _ h0 ca cT tp z1) (cwV 1 hts g_c_X10_frozenAt_c_tableAt_74 rfl rfl rfl (by decide +kernel) ⟨(Nat.le_of_ble_eq_true rfl), (Nat.le_of_ble_eq_true rfl)⟩) (PcR_V (q0 := 0) hPc hKc rfl rfl) rfl rfl hl.1 rfl (lv_room (Nat.le_of_ble_eq_true rfl)) dX10_frozenAt_2 ⟨(Nat.le_of_ble_eq_true rfl), (Nat.le_of_ble_eq_true rfl)⟩) hS (fun q _ h => hFc q h) hFc (fun r1 uu tt H locs htt hvm hw hB hz1 hk1 hS => ?_)
  have hP := va_keep hP hk1
  try dsimp only at hw
  clear hB hz1 hk1 hFc hPc hKc
  obtain rfl : r1 = none := hw
  refine W.eq (g2 := F0 m 5 ls [.null]) rfl ?_
  refine lv_astoreN (lv' := [(5, .null), (0, .ref h0), (1, .int z1), (2, .long y2), (4, .int z3)]) hx hb dX10_frozenAt_5 hl (by decide) rfl (fun ls hl => ?_)
  refine lv_aloadN hx hb dX10_frozenAt_7 (lv_at hl 0 rfl) ?_
  refine lv_ifnonnullN hx hb dX10_frozenAt_9 ?_
  refine lv_iconst (v := (-1)) hx hb dX10_frozenAt_12 (by decide) ?_
  exact W.iret (v := (-1)) hx hb hr (fun t ht hW => ⟨⟨(-1), (), rfl, rfl, trivial⟩, hS.F ht⟩) hS.2.2 dX10_frozenAt_13

def own_c_X10_shared : List Cond := [.methodLink RX10 74 yX10_tableAt, .instanceMethod yX10_tableAt, .selects RX10 yX10_tableAt yX10_tableAt, .initialized RX10]
def wp_c_X10_shared : List Cond := .code yX10_shared cX10_shared 7 (some .int) :: (own_c_X10_shared ++ (wp_c_tableAt ++ ([] : List Cond)))
set_option maxRecDepth 20000 in
theorem inown_c_X10_shared : ∀ w ∈ own_c_X10_shared, w ∈ lw_tbl := mem_places [610, 612, 2, 106] (by decide +kernel)
set_option maxRecDepth 20000 in
theorem in_c_X10_shared : ∀ w ∈ wp_c_X10_shared, w ∈ lw_tbl := List.forall_mem_cons.mpr ⟨List.mem_of_getElem? (i := 881) (by decide +kernel), List.forall_mem_append.mpr ⟨inown_c_X10_shared, List.forall_mem_append.mpr ⟨in_c_tableAt, fun _ h => absurd h List.not_mem_nil⟩⟩⟩
set_option maxRecDepth 20000 in
theorem good_c_X10_shared : wp_c_X10_shared.all goodWord = true := by decide +kernel
set_option maxRecDepth 20000 in
theorem g_c_X10_shared_c_tableAt_74 : GoodIn wp_c_X10_shared (wsV RX10 74 RX10 yX10_tableAt wp_c_tableAt) := goodIn_sub (List.forall_mem_append.mpr ⟨List.forall_mem_cons.mpr ⟨(List.mem_of_getElem? (i := 1) rfl), List.forall_mem_cons.mpr ⟨(List.mem_of_getElem? (i := 2) rfl), List.forall_mem_cons.mpr ⟨(List.mem_of_getElem? (i := 3) rfl), List.forall_mem_cons.mpr ⟨(List.mem_of_getElem? (i := 4) rfl), fun _ h => absurd h List.not_mem_nil⟩⟩⟩⟩, (fun _ h => (List.mem_cons_of_mem _ (List.mem_append_right _ (List.mem_append_left _ h))))⟩) (by decide +kernel)
set_option maxHeartbeats 4000000 in
set_option maxRecDepth 100000 in
theorem c_X10_shared (l : Launch) (D : va_G) (sz : Nat) (h0 : Nat) (ca : Nat → Nat) (cT : ClassId) (tp : Int32) (z1 : Int32) (z2 : Int32) (z3 : Int32)  : Met l yX10_shared wp_c_X10_shared ({ frames := 2, cells := 0, slots := 0, locals := 41 }) (PcR D [.ref h0, .int z1, .int z2, .int z3] sz [(h0, .inr (10, [.ref (ca 0), .ref (ca 1), .int tp, .ref (ca 3), .ref (ca 4), .ref (ca 5), .ref (ca 6)])), (ca 0, .inl (cT, 4, .inr (.inr (.inr (.inr (fun _ => none))))))] [(cT, .object RX9)]) (va_Qi (fun (r : Int32) (_ : Unit) => r = (-1)) (fun (_ : Unit) _ => True) (va_A [] sz)) 0 0 (va_A [] sz) := by
  refine Met.ofW (cc := cX10_shared) (maxL := 7) (ret := (some .int)) (by decide) rfl ?_
  intro p e s m args below meth c s₁ B hml hv
  obtain ⟨rfl, hsz, hP, hK⟩ := hv
  have hx := B.exec
  have hb := B.bytes
  have hr := B.returns
  have hts := atoms_spec (ws := wp_c_X10_shared) B.pre
  have hown : s.vm.findClass RX10 = some m.cls := findClass_of_methodNamed B.named
  have hlocks := B.notSynchronized
  subst hsz
  generalize hAe : va_A [] s.heap.size = A at ⊢
  have hA : ∀ q : Nat, s.heap.size ≤ q → A q := fun q h => by rw [← hAe]; exact Or.inr h
  have hS : va_S A s.heap s.heap [] := va_S.rf
  have hP : va_P D vwCl [(h0, .inr (10, [.ref (ca 0), .ref (ca 1), .int tp, .ref (ca 3), .ref (ca 4), .ref (ca 5), .ref (ca 6)])), (ca 0, .inl (cT, 4, .inr (.inr (.inr (.inr (fun _ => none))))))] s.heap := hP
  have hl := lv_entry ([.ref h0, .int z1, .int z2, .int z3]) (n := 7) (Nat.le_of_ble_eq_true rfl)
  rw [lg_entry_eq]
  generalize (lg_sl ([.ref h0, .int z1, .int z2, .int z3]) ++ List.replicate (7 - (lg_sl ([.ref h0, .int z1, .int z2, .int z3])).length) Slot.unset).toArray = ls at hl ⊢
  have hl : lv_has ls 7 [(0, .ref h0), (1, .int z1), (2, .int z2), (3, .int z3)] := hl
  refine lv_aload_n hx hb dX10_shared_0 rfl (lv_at hl 0 rfl) ?_
  refine lv_iload_n hx hb dX10_shared_1 rfl (lv_at hl 1 rfl) ?_
  have hPc := hP.sub (ws' := [(h0, .inr (10, [.ref (ca 0), .ref (ca 1), .int tp, .ref (ca 3), .ref (ca 4), .ref (ca 5), .ref (ca 6)])), (ca 0, .inl (cT, 4, .inr (.inr (.inr (.inr (fun _ => none))))))]) [0, 1] rfl
  have hKc := hK.sub (tys' := [(cT, .object RX9)]) [0] rfl
  have hFc := va_free0 hS hA
  refine va_callq (va_runV (As := [.int z1]) (rest := []) ⟨hx, hb, hml, hown, hts⟩ (c_tableAt l D _ h0 ca cT tp z1) (cwV 1 hts g_c_X10_shared_c_tableAt_74 rfl rfl rfl (by decide +kernel) ⟨(Nat.le_of_ble_eq_true rfl), (Nat.le_of_ble_eq_true rfl)⟩) (PcR_V (q0 := 0) hPc hKc rfl rfl) rfl rfl hl.1 rfl (lv_room (Nat.le_of_ble_eq_true rfl)) dX10_shared_2 ⟨(Nat.le_of_ble_eq_true rfl), (Nat.le_of_ble_eq_true rfl)⟩) hS (fun q _ h => hFc q h) hFc (fun r1 uu tt H locs htt hvm hw hB hz1 hk1 hS => ?_)
  have hP := va_keep hP hk1
  try dsimp only at hw
  clear hB hz1 hk1 hFc hPc hKc
  obtain rfl : r1 = none := hw
  refine W.eq (g2 := F0 m 5 ls [.null]) rfl ?_
  refine lv_astoreN (lv' := [(4, .null), (0, .ref h0), (1, .int z1), (2, .int z2), (3, .int z3)]) hx hb dX10_shared_5 hl (by decide) rfl (fun ls hl => ?_)
  refine lv_aload_n hx hb dX10_shared_7 rfl (lv_at hl 1 rfl) ?_
  refine lv_iload_n hx hb dX10_shared_8 rfl (lv_at hl 3 rfl) ?_
  have hPc := hP.sub (ws' := [(h0, .inr (10, [.ref (ca 0), .ref (ca 1), .int tp, .ref (ca 3), .ref (ca 4), .ref (ca 5), .ref (ca 6)])), (ca 0, .inl (cT, 4, .inr (.inr (.inr (.inr (fun _ => none))))))]) [0, 1] rfl
  have hKc := hK.sub (tys' := [(cT, .object RX9)]) [0] rfl
  have hFc := va_free0 hS hA
  refine va_callq (va_runV (As := [.int z2]) (rest := []) ⟨hx, hb, hml, hown, hts⟩ (c_tableAt l D _ h0 ca cT tp z2) (cwV 1 hts g_c_X10_shared_c_tableAt_74 rfl rfl rfl (by decide +kernel) ⟨(Nat.le_of_ble_eq_true rfl), (Nat.le_of_ble_eq_true rfl)⟩) (PcR_V (q0 := 0) hPc hKc rfl rfl) rfl rfl hl.1 rfl (lv_room (Nat.le_of_ble_eq_true rfl)) dX10_shared_9 ⟨(Nat.le_of_ble_eq_true rfl), (Nat.le_of_ble_eq_true rfl)⟩) hS (fun q _ h => hFc q h) hFc (fun r2 uu tt H locs htt hvm hw hB hz1 hk1 hS => ?_)
  have hP := va_keep hP hk1
  try dsimp only at hw
  clear hB hz1 hk1 hFc hPc hKc
  obtain rfl : r2 = none := hw
  refine W.eq (g2 := F0 m 12 ls [.null]) rfl ?_
  refine lv_astoreN (lv' := [(5, .null), (4, .null), (0, .ref h0), (1, .int z1), (2, .int z2), (3, .int z3)]) hx hb dX10_shared_12 hl (by decide) rfl (fun ls hl => ?_)
  refine lv_aloadN hx hb dX10_shared_14 (lv_at hl 1 rfl) ?_
  refine lv_ifnullN (tgt := 24) hx hb dX10_shared_16 (by decide) ?_
  refine lv_iconst (v := (-1)) hx hb dX10_shared_24 (by decide) ?_
  exact W.iret (v := (-1)) hx hb hr (fun t ht hW => ⟨⟨(-1), (), rfl, rfl, trivial⟩, hS.F ht⟩) hS.2.2 dX10_shared_25

def own_c_X10_join : List Cond := [.methodLink RX10 74 yX10_tableAt, .instanceMethod yX10_tableAt, .selects RX10 yX10_tableAt yX10_tableAt, .initialized RX10]
def wp_c_X10_join : List Cond := .code yX10_join cX10_join 8 (some .int) :: (own_c_X10_join ++ (wp_c_tableAt ++ ([] : List Cond)))
set_option maxRecDepth 20000 in
theorem inown_c_X10_join : ∀ w ∈ own_c_X10_join, w ∈ lw_tbl := mem_places [610, 612, 2, 106] (by decide +kernel)
set_option maxRecDepth 20000 in
theorem in_c_X10_join : ∀ w ∈ wp_c_X10_join, w ∈ lw_tbl := List.forall_mem_cons.mpr ⟨List.mem_of_getElem? (i := 890) (by decide +kernel), List.forall_mem_append.mpr ⟨inown_c_X10_join, List.forall_mem_append.mpr ⟨in_c_tableAt, fun _ h => absurd h List.not_mem_nil⟩⟩⟩
set_option maxRecDepth 20000 in
theorem good_c_X10_join : wp_c_X10_join.all goodWord = true := by decide +kernel
set_option maxRecDepth 20000 in
theorem g_c_X10_join_c_tableAt_74 : GoodIn wp_c_X10_join (wsV RX10 74 RX10 yX10_tableAt wp_c_tableAt) := goodIn_sub (List.forall_mem_append.mpr ⟨List.forall_mem_cons.mpr ⟨(List.mem_of_getElem? (i := 1) rfl), List.forall_mem_cons.mpr ⟨(List.mem_of_getElem? (i := 2) rfl), List.forall_mem_cons.mpr ⟨(List.mem_of_getElem? (i := 3) rfl), List.forall_mem_cons.mpr ⟨(List.mem_of_getElem? (i := 4) rfl), fun _ h => absurd h List.not_mem_nil⟩⟩⟩⟩, (fun _ h => (List.mem_cons_of_mem _ (List.mem_append_right _ (List.mem_append_left _ h))))⟩) (by decide +kernel)
set_option maxHeartbeats 4000000 in
set_option maxRecDepth 100000 in
theorem c_X10_join (l : Launch) (D : va_G) (sz : Nat) (h0 : Nat) (ca : Nat → Nat) (cT : ClassId) (tp : Int32) (z1 : Int32) (z2 : Int32)  : Met l yX10_join wp_c_X10_join ({ frames := 2, cells := 0, slots := 0, locals := 41 }) (PcR D [.ref h0, .int z1, .int z2] sz [(h0, .inr (10, [.ref (ca 0), .ref (ca 1), .int tp, .ref (ca 3), .ref (ca 4), .ref (ca 5), .ref (ca 6)])), (ca 0, .inl (cT, 4, .inr (.inr (.inr (.inr (fun _ => none))))))] [(cT, .object RX9)]) (va_Qi (fun (r : Int32) (_ : Unit) => r = (-2)) (fun (_ : Unit) _ => True) (va_A [] sz)) 0 0 (va_A [] sz) := by
  refine Met.ofW (cc := cX10_join) (maxL := 8) (ret := (some .int)) (by decide) rfl ?_
  intro p e s m args below meth c s₁ B hml hv
  obtain ⟨rfl, hsz, hP, hK⟩ := hv
  have hx := B.exec
  have hb := B.bytes
  have hr := B.returns
  have hts := atoms_spec (ws := wp_c_X10_join) B.pre
  have hown : s.vm.findClass RX10 = some m.cls := findClass_of_methodNamed B.named
  have hlocks := B.notSynchronized
  subst hsz
  generalize hAe : va_A [] s.heap.size = A at ⊢
  have hA : ∀ q : Nat, s.heap.size ≤ q → A q := fun q h => by rw [← hAe]; exact Or.inr h
  have hS : va_S A s.heap s.heap [] := va_S.rf
  have hP : va_P D vwCl [(h0, .inr (10, [.ref (ca 0), .ref (ca 1), .int tp, .ref (ca 3), .ref (ca 4), .ref (ca 5), .ref (ca 6)])), (ca 0, .inl (cT, 4, .inr (.inr (.inr (.inr (fun _ => none))))))] s.heap := hP
  have hl := lv_entry ([.ref h0, .int z1, .int z2]) (n := 8) (Nat.le_of_ble_eq_true rfl)
  rw [lg_entry_eq]
  generalize (lg_sl ([.ref h0, .int z1, .int z2]) ++ List.replicate (8 - (lg_sl ([.ref h0, .int z1, .int z2])).length) Slot.unset).toArray = ls at hl ⊢
  have hl : lv_has ls 8 [(0, .ref h0), (1, .int z1), (2, .int z2)] := hl
  refine lv_aload_n hx hb dX10_join_0 rfl (lv_at hl 0 rfl) ?_
  refine lv_iload_n hx hb dX10_join_1 rfl (lv_at hl 1 rfl) ?_
  have hPc := hP.sub (ws' := [(h0, .inr (10, [.ref (ca 0), .ref (ca 1), .int tp, .ref (ca 3), .ref (ca 4), .ref (ca 5), .ref (ca 6)])), (ca 0, .inl (cT, 4, .inr (.inr (.inr (.inr (fun _ => none))))))]) [0, 1] rfl
  have hKc := hK.sub (tys' := [(cT, .object RX9)]) [0] rfl
  have hFc := va_free0 hS hA
  refine va_callq (va_runV (As := [.int z1]) (rest := []) ⟨hx, hb, hml, hown, hts⟩ (c_tableAt l D _ h0 ca cT tp z1) (cwV 1 hts g_c_X10_join_c_tableAt_74 rfl rfl rfl (by decide +kernel) ⟨(Nat.le_of_ble_eq_true rfl), (Nat.le_of_ble_eq_true rfl)⟩) (PcR_V (q0 := 0) hPc hKc rfl rfl) rfl rfl hl.1 rfl (lv_room (Nat.le_of_ble_eq_true rfl)) dX10_join_2 ⟨(Nat.le_of_ble_eq_true rfl), (Nat.le_of_ble_eq_true rfl)⟩) hS (fun q _ h => hFc q h) hFc (fun r1 uu tt H locs htt hvm hw hB hz1 hk1 hS => ?_)
  have hP := va_keep hP hk1
  try dsimp only at hw
  clear hB hz1 hk1 hFc hPc hKc
  obtain rfl : r1 = none := hw
  refine W.eq (g2 := F0 m 5 ls [.null]) rfl ?_
  refine lv_astore_nN (lv' := [(3, .null), (0, .ref h0), (1, .int z1), (2, .int z2)]) hx hb dX10_join_5 rfl hl (by decide) rfl (fun ls hl => ?_)
  refine lv_aload_n hx hb dX10_join_6 rfl (lv_at hl 1 rfl) ?_
  refine lv_iload_n hx hb dX10_join_7 rfl (lv_at hl 3 rfl) ?_
  have hPc := hP.sub (ws' := [(h0, .inr (10, [.ref (ca 0), .ref (ca 1), .int tp, .ref (ca 3), .ref (ca 4), .ref (ca 5), .ref (ca 6)])), (ca 0, .inl (cT, 4, .inr (.inr (.inr (.inr (fun _ => none))))))]) [0, 1] rfl
  have hKc := hK.sub (tys' := [(cT, .object RX9)]) [0] rfl
  have hFc := va_free0 hS hA
  refine va_callq (va_runV (As := [.int z2]) (rest := []) ⟨hx, hb, hml, hown, hts⟩ (c_tableAt l D _ h0 ca cT tp z2) (cwV 1 hts g_c_X10_join_c_tableAt_74 rfl rfl rfl (by decide +kernel) ⟨(Nat.le_of_ble_eq_true rfl), (Nat.le_of_ble_eq_true rfl)⟩) (PcR_V (q0 := 0) hPc hKc rfl rfl) rfl rfl hl.1 rfl (lv_room (Nat.le_of_ble_eq_true rfl)) dX10_join_8 ⟨(Nat.le_of_ble_eq_true rfl), (Nat.le_of_ble_eq_true rfl)⟩) hS (fun q _ h => hFc q h) hFc (fun r2 uu tt H locs htt hvm hw hB hz1 hk1 hS => ?_)
  have hP := va_keep hP hk1
  try dsimp only at hw
  clear hB hz1 hk1 hFc hPc hKc
  obtain rfl : r2 = none := hw
  refine W.eq (g2 := F0 m 11 ls [.null]) rfl ?_
  refine lv_astoreN (lv' := [(4, .null), (3, .null), (0, .ref h0), (1, .int z1), (2, .int z2)]) hx hb dX10_join_11 hl (by decide) rfl (fun ls hl => ?_)
  refine lv_aload_nN hx hb dX10_join_13 rfl (lv_at hl 1 rfl) ?_
  refine lv_ifnullN (tgt := 27) hx hb dX10_join_14 (by decide) ?_
  refine lv_bipush (v := (-2)) hx hb dX10_join_27 (by decide) ?_
  exact W.iret (v := (-2)) hx hb hr (fun t ht hW => ⟨⟨(-2), (), rfl, rfl, trivial⟩, hS.F ht⟩) hS.2.2 dX10_join_29

def own_c_X10_cut : List Cond := [.methodLink RX10 74 yX10_tableAt, .instanceMethod yX10_tableAt, .selects RX10 yX10_tableAt yX10_tableAt, .initialized RX10]
def wp_c_X10_cut : List Cond := .code yX10_cut cX10_cut 10 (some .int) :: (own_c_X10_cut ++ (wp_c_tableAt ++ ([] : List Cond)))
set_option maxRecDepth 20000 in
theorem inown_c_X10_cut : ∀ w ∈ own_c_X10_cut, w ∈ lw_tbl := mem_places [610, 612, 2, 106] (by decide +kernel)
set_option maxRecDepth 20000 in
theorem in_c_X10_cut : ∀ w ∈ wp_c_X10_cut, w ∈ lw_tbl := List.forall_mem_cons.mpr ⟨List.mem_of_getElem? (i := 894) (by decide +kernel), List.forall_mem_append.mpr ⟨inown_c_X10_cut, List.forall_mem_append.mpr ⟨in_c_tableAt, fun _ h => absurd h List.not_mem_nil⟩⟩⟩
set_option maxRecDepth 20000 in
theorem good_c_X10_cut : wp_c_X10_cut.all goodWord = true := by decide +kernel
set_option maxRecDepth 20000 in
theorem g_c_X10_cut_c_tableAt_74 : GoodIn wp_c_X10_cut (wsV RX10 74 RX10 yX10_tableAt wp_c_tableAt) := goodIn_sub (List.forall_mem_append.mpr ⟨List.forall_mem_cons.mpr ⟨(List.mem_of_getElem? (i := 1) rfl), List.forall_mem_cons.mpr ⟨(List.mem_of_getElem? (i := 2) rfl), List.forall_mem_cons.mpr ⟨(List.mem_of_getElem? (i := 3) rfl), List.forall_mem_cons.mpr ⟨(List.mem_of_getElem? (i := 4) rfl), fun _ h => absurd h List.not_mem_nil⟩⟩⟩⟩, (fun _ h => (List.mem_cons_of_mem _ (List.mem_append_right _ (List.mem_append_left _ h))))⟩) (by decide +kernel)
set_option maxHeartbeats 4000000 in
set_option maxRecDepth 100000 in
theorem c_X10_cut (l : Launch) (D : va_G) (sz : Nat) (h0 : Nat) (ca : Nat → Nat) (cT : ClassId) (tp : Int32) (z1 : Int32) (z2 : Int32) (z3 : Int32)  : Met l yX10_cut wp_c_X10_cut ({ frames := 2, cells := 0, slots := 0, locals := 41 }) (PcR D [.ref h0, .int z1, .int z2, .int z3] sz [(h0, .inr (10, [.ref (ca 0), .ref (ca 1), .int tp, .ref (ca 3), .ref (ca 4), .ref (ca 5), .ref (ca 6)])), (ca 0, .inl (cT, 4, .inr (.inr (.inr (.inr (fun _ => none))))))] [(cT, .object RX9)]) (va_Qi (fun (r : Int32) (_ : Unit) => r = (-2)) (fun (_ : Unit) _ => True) (va_A [] sz)) 0 0 (va_A [] sz) := by
  refine Met.ofW (cc := cX10_cut) (maxL := 10) (ret := (some .int)) (by decide) rfl ?_
  intro p e s m args below meth c s₁ B hml hv
  obtain ⟨rfl, hsz, hP, hK⟩ := hv
  have hx := B.exec
  have hb := B.bytes
  have hr := B.returns
  have hts := atoms_spec (ws := wp_c_X10_cut) B.pre
  have hown : s.vm.findClass RX10 = some m.cls := findClass_of_methodNamed B.named
  have hlocks := B.notSynchronized
  subst hsz
  generalize hAe : va_A [] s.heap.size = A at ⊢
  have hA : ∀ q : Nat, s.heap.size ≤ q → A q := fun q h => by rw [← hAe]; exact Or.inr h
  have hS : va_S A s.heap s.heap [] := va_S.rf
  have hP : va_P D vwCl [(h0, .inr (10, [.ref (ca 0), .ref (ca 1), .int tp, .ref (ca 3), .ref (ca 4), .ref (ca 5), .ref (ca 6)])), (ca 0, .inl (cT, 4, .inr (.inr (.inr (.inr (fun _ => none))))))] s.heap := hP
  have hl := lv_entry ([.ref h0, .int z1, .int z2, .int z3]) (n := 10) (Nat.le_of_ble_eq_true rfl)
  rw [lg_entry_eq]
  generalize (lg_sl ([.ref h0, .int z1, .int z2, .int z3]) ++ List.replicate (10 - (lg_sl ([.ref h0, .int z1, .int z2, .int z3])).length) Slot.unset).toArray = ls at hl ⊢
  have hl : lv_has ls 10 [(0, .ref h0), (1, .int z1), (2, .int z2), (3, .int z3)] := hl
  refine lv_aload_n hx hb dX10_cut_0 rfl (lv_at hl 0 rfl) ?_
  refine lv_iload_n hx hb dX10_cut_1 rfl (lv_at hl 1 rfl) ?_
  have hPc := hP.sub (ws' := [(h0, .inr (10, [.ref (ca 0), .ref (ca 1), .int tp, .ref (ca 3), .ref (ca 4), .ref (ca 5), .ref (ca 6)])), (ca 0, .inl (cT, 4, .inr (.inr (.inr (.inr (fun _ => none))))))]) [0, 1] rfl
  have hKc := hK.sub (tys' := [(cT, .object RX9)]) [0] rfl
  have hFc := va_free0 hS hA
  refine va_callq (va_runV (As := [.int z1]) (rest := []) ⟨hx, hb, hml, hown, hts⟩ (c_tableAt l D _ h0 ca cT tp z1) (cwV 1 hts g_c_X10_cut_c_tableAt_74 rfl rfl rfl (by decide +kernel) ⟨(Nat.le_of_ble_eq_true rfl), (Nat.le_of_ble_eq_true rfl)⟩) (PcR_V (q0 := 0) hPc hKc rfl rfl) rfl rfl hl.1 rfl (lv_room (Nat.le_of_ble_eq_true rfl)) dX10_cut_2 ⟨(Nat.le_of_ble_eq_true rfl), (Nat.le_of_ble_eq_true rfl)⟩) hS (fun q _ h => hFc q h) hFc (fun r1 uu tt H locs htt hvm hw hB hz1 hk1 hS => ?_)
  have hP := va_keep hP hk1
  try dsimp only at hw
  clear hB hz1 hk1 hFc hPc hKc
  obtain rfl : r1 = none := hw
  refine W.eq (g2 := F0 m 5 ls [.null]) rfl ?_
  refine lv_astoreN (lv' := [(4, .null), (0, .ref h0), (1, .int z1), (2, .int z2), (3, .int z3)]) hx hb dX10_cut_5 hl (by decide) rfl (fun ls hl => ?_)
  refine lv_aload_n hx hb dX10_cut_7 rfl (lv_at hl 1 rfl) ?_
  refine lv_iload_n hx hb dX10_cut_8 rfl (lv_at hl 3 rfl) ?_
  have hPc := hP.sub (ws' := [(h0, .inr (10, [.ref (ca 0), .ref (ca 1), .int tp, .ref (ca 3), .ref (ca 4), .ref (ca 5), .ref (ca 6)])), (ca 0, .inl (cT, 4, .inr (.inr (.inr (.inr (fun _ => none))))))]) [0, 1] rfl
  have hKc := hK.sub (tys' := [(cT, .object RX9)]) [0] rfl
  have hFc := va_free0 hS hA
  refine va_callq (va_runV (As := [.int z2]) (rest := []) ⟨hx, hb, hml, hown, hts⟩ (c_tableAt l D _ h0 ca cT tp z2) (cwV 1 hts g_c_X10_cut_c_tableAt_74 rfl rfl rfl (by decide +kernel) ⟨(Nat.le_of_ble_eq_true rfl), (Nat.le_of_ble_eq_true rfl)⟩) (PcR_V (q0 := 0) hPc hKc rfl rfl) rfl rfl hl.1 rfl (lv_room (Nat.le_of_ble_eq_true rfl)) dX10_cut_9 ⟨(Nat.le_of_ble_eq_true rfl), (Nat.le_of_ble_eq_true rfl)⟩) hS (fun q _ h => hFc q h) hFc (fun r2 uu tt H locs htt hvm hw hB hz1 hk1 hS => ?_)
  have hP := va_keep hP hk1
  try dsimp only at hw
  clear hB hz1 hk1 hFc hPc hKc
  obtain rfl : r2 = none := hw
  refine W.eq (g2 := F0 m 12 ls [.null]) rfl ?_
  refine lv_astoreN (lv' := [(5, .null), (4, .null), (0, .ref h0), (1, .int z1), (2, .int z2), (3, .int z3)]) hx hb dX10_cut_12 hl (by decide) rfl (fun ls hl => ?_)
  refine lv_aloadN hx hb dX10_cut_14 (lv_at hl 1 rfl) ?_
  refine lv_ifnullN (tgt := 29) hx hb dX10_cut_16 (by decide) ?_
  refine lv_bipush (v := (-2)) hx hb dX10_cut_29 (by decide) ?_
  exact W.iret (v := (-2)) hx hb hr (fun t ht hW => ⟨⟨(-2), (), rfl, rfl, trivial⟩, hS.F ht⟩) hS.2.2 dX10_cut_31

def own_c_X10_values : List Cond := [.methodLink RX10 74 yX10_tableAt, .instanceMethod yX10_tableAt, .selects RX10 yX10_tableAt yX10_tableAt, .initialized RX10, .constantLong RX10 91 (-1000000000000000)]
def wp_c_X10_values : List Cond := .code yX10_values cX10_values 5 (some .long) :: (own_c_X10_values ++ (wp_c_tableAt ++ ([] : List Cond)))
set_option maxRecDepth 20000 in
theorem inown_c_X10_values : ∀ w ∈ own_c_X10_values, w ∈ lw_tbl := mem_places [610, 612, 2, 106, 691] (by decide +kernel)
set_option maxRecDepth 20000 in
theorem in_c_X10_values : ∀ w ∈ wp_c_X10_values, w ∈ lw_tbl := List.forall_mem_cons.mpr ⟨List.mem_of_getElem? (i := 898) (by decide +kernel), List.forall_mem_append.mpr ⟨inown_c_X10_values, List.forall_mem_append.mpr ⟨in_c_tableAt, fun _ h => absurd h List.not_mem_nil⟩⟩⟩
set_option maxRecDepth 20000 in
theorem good_c_X10_values : wp_c_X10_values.all goodWord = true := by decide +kernel
set_option maxRecDepth 20000 in
theorem g_c_X10_values_c_tableAt_74 : GoodIn wp_c_X10_values (wsV RX10 74 RX10 yX10_tableAt wp_c_tableAt) := goodIn_sub (List.forall_mem_append.mpr ⟨List.forall_mem_cons.mpr ⟨(List.mem_of_getElem? (i := 1) rfl), List.forall_mem_cons.mpr ⟨(List.mem_of_getElem? (i := 2) rfl), List.forall_mem_cons.mpr ⟨(List.mem_of_getElem? (i := 3) rfl), List.forall_mem_cons.mpr ⟨(List.mem_of_getElem? (i := 4) rfl), fun _ h => absurd h List.not_mem_nil⟩⟩⟩⟩, (fun _ h => (List.mem_cons_of_mem _ (List.mem_append_right _ (List.mem_append_left _ h))))⟩) (by decide +kernel)
set_option maxHeartbeats 4000000 in
set_option maxRecDepth 100000 in
theorem c_X10_values (l : Launch) (D : va_G) (sz : Nat) (h0 : Nat) (ca : Nat → Nat) (cT : ClassId) (tp : Int32) (z1 : Int32) (z2 : Int32)  : Met l yX10_values wp_c_X10_values ({ frames := 2, cells := 0, slots := 0, locals := 41 }) (PcR D [.ref h0, .int z1, .int z2] sz [(h0, .inr (10, [.ref (ca 0), .ref (ca 1), .int tp, .ref (ca 3), .ref (ca 4), .ref (ca 5), .ref (ca 6)])), (ca 0, .inl (cT, 4, .inr (.inr (.inr (.inr (fun _ => none))))))] [(cT, .object RX9)]) (va_Ql (fun (r : Int64) (_ : Unit) => r = (-1000000000000000)) (fun (_ : Unit) _ => True) (va_A [] sz)) 0 0 (va_A [] sz) := by
  refine Met.ofW (cc := cX10_values) (maxL := 5) (ret := (some .long)) (by decide) rfl ?_
  intro p e s m args below meth c s₁ B hml hv
  obtain ⟨rfl, hsz, hP, hK⟩ := hv
  have hx := B.exec
  have hb := B.bytes
  have hr := B.returns
  have hts := atoms_spec (ws := wp_c_X10_values) B.pre
  have hown : s.vm.findClass RX10 = some m.cls := findClass_of_methodNamed B.named
  have hlocks := B.notSynchronized
  subst hsz
  generalize hAe : va_A [] s.heap.size = A at ⊢
  have hA : ∀ q : Nat, s.heap.size ≤ q → A q := fun q h => by rw [← hAe]; exact Or.inr h
  have hS : va_S A s.heap s.heap [] := va_S.rf
  have hP : va_P D vwCl [(h0, .inr (10, [.ref (ca 0), .ref (ca 1), .int tp, .ref (ca 3), .ref (ca 4), .ref (ca 5), .ref (ca 6)])), (ca 0, .inl (cT, 4, .inr (.inr (.inr (.inr (fun _ => none))))))] s.heap := hP
  have hl := lv_entry ([.ref h0, .int z1, .int z2]) (n := 5) (Nat.le_of_ble_eq_true rfl)
  rw [lg_entry_eq]
  generalize (lg_sl ([.ref h0, .int z1, .int z2]) ++ List.replicate (5 - (lg_sl ([.ref h0, .int z1, .int z2])).length) Slot.unset).toArray = ls at hl ⊢
  have hl : lv_has ls 5 [(0, .ref h0), (1, .int z1), (2, .int z2)] := hl
  refine lv_aload_n hx hb dX10_values_0 rfl (lv_at hl 0 rfl) ?_
  refine lv_iload_n hx hb dX10_values_1 rfl (lv_at hl 1 rfl) ?_
  have hPc := hP.sub (ws' := [(h0, .inr (10, [.ref (ca 0), .ref (ca 1), .int tp, .ref (ca 3), .ref (ca 4), .ref (ca 5), .ref (ca 6)])), (ca 0, .inl (cT, 4, .inr (.inr (.inr (.inr (fun _ => none))))))]) [0, 1] rfl
  have hKc := hK.sub (tys' := [(cT, .object RX9)]) [0] rfl
  have hFc := va_free0 hS hA
  refine va_callq (va_runV (As := [.int z1]) (rest := []) ⟨hx, hb, hml, hown, hts⟩ (c_tableAt l D _ h0 ca cT tp z1) (cwV 1 hts g_c_X10_values_c_tableAt_74 rfl rfl rfl (by decide +kernel) ⟨(Nat.le_of_ble_eq_true rfl), (Nat.le_of_ble_eq_true rfl)⟩) (PcR_V (q0 := 0) hPc hKc rfl rfl) rfl rfl hl.1 rfl (lv_room (Nat.le_of_ble_eq_true rfl)) dX10_values_2 ⟨(Nat.le_of_ble_eq_true rfl), (Nat.le_of_ble_eq_true rfl)⟩) hS (fun q _ h => hFc q h) hFc (fun r1 uu tt H locs htt hvm hw hB hz1 hk1 hS => ?_)
  have hP := va_keep hP hk1
  try dsimp only at hw
  clear hB hz1 hk1 hFc hPc hKc
  obtain rfl : r1 = none := hw
  refine W.eq (g2 := F0 m 5 ls [.null]) rfl ?_
  refine lv_astore_nN (lv' := [(3, .null), (0, .ref h0), (1, .int z1), (2, .int z2)]) hx hb dX10_values_5 rfl hl (by decide) rfl (fun ls hl => ?_)
  refine lv_aload_nN hx hb dX10_values_6 rfl (lv_at hl 0 rfl) ?_
  refine lv_ifnonnullN hx hb dX10_values_7 ?_
  refine lv_ldc2 (v := (-1000000000000000)) hx hb hown (hts (.constantLong RX10 91 (-1000000000000000)) (List.mem_of_getElem? (i := 5) rfl)) dX10_values_10 ?_
  exact W.lret (v := (-1000000000000000)) hx hb hr (fun t ht hW => ⟨⟨(-1000000000000000), (), rfl, rfl, trivial⟩, hS.F ht⟩) hS.2.2 dX10_values_13

def own_c_X10_run : List Cond := [.methodLink RX10 74 yX10_tableAt, .instanceMethod yX10_tableAt, .selects RX10 yX10_tableAt yX10_tableAt, .initialized RX10]
def wp_c_X10_run : List Cond := .code yX10_run cX10_run 3 (some .int) :: (own_c_X10_run ++ (wp_c_tableAt ++ ([] : List Cond)))
set_option maxRecDepth 20000 in
theorem inown_c_X10_run : ∀ w ∈ own_c_X10_run, w ∈ lw_tbl := mem_places [610, 612, 2, 106] (by decide +kernel)
set_option maxRecDepth 20000 in
theorem in_c_X10_run : ∀ w ∈ wp_c_X10_run, w ∈ lw_tbl := List.forall_mem_cons.mpr ⟨List.mem_of_getElem? (i := 910) (by decide +kernel), List.forall_mem_append.mpr ⟨inown_c_X10_run, List.forall_mem_append.mpr ⟨in_c_tableAt, fun _ h => absurd h List.not_mem_nil⟩⟩⟩
set_option maxRecDepth 20000 in
theorem good_c_X10_run : wp_c_X10_run.all goodWord = true := by decide +kernel
set_option maxRecDepth 20000 in
theorem g_c_X10_run_c_tableAt_74 : GoodIn wp_c_X10_run (wsV RX10 74 RX10 yX10_tableAt wp_c_tableAt) := goodIn_sub (List.forall_mem_append.mpr ⟨List.forall_mem_cons.mpr ⟨(List.mem_of_getElem? (i := 1) rfl), List.forall_mem_cons.mpr ⟨(List.mem_of_getElem? (i := 2) rfl), List.forall_mem_cons.mpr ⟨(List.mem_of_getElem? (i := 3) rfl), List.forall_mem_cons.mpr ⟨(List.mem_of_getElem? (i := 4) rfl), fun _ h => absurd h List.not_mem_nil⟩⟩⟩⟩, (fun _ h => (List.mem_cons_of_mem _ (List.mem_append_right _ (List.mem_append_left _ h))))⟩) (by decide +kernel)
set_option maxHeartbeats 4000000 in
set_option maxRecDepth 100000 in
theorem c_X10_run (l : Launch) (D : va_G) (sz : Nat) (h0 : Nat) (ca : Nat → Nat) (cT : ClassId) (tp : Int32) (z1 : Int32)  : Met l yX10_run wp_c_X10_run ({ frames := 2, cells := 0, slots := 0, locals := 41 }) (PcR D [.ref h0, .int z1] sz [(h0, .inr (10, [.ref (ca 0), .ref (ca 1), .int tp, .ref (ca 3), .ref (ca 4), .ref (ca 5), .ref (ca 6)])), (ca 0, .inl (cT, 4, .inr (.inr (.inr (.inr (fun _ => none))))))] [(cT, .object RX9)]) (va_Qi (fun (r : Int32) (_ : Unit) => r = (-2)) (fun (_ : Unit) _ => True) (va_A [] sz)) 0 0 (va_A [] sz) := by
  refine Met.ofW (cc := cX10_run) (maxL := 3) (ret := (some .int)) (by decide) rfl ?_
  intro p e s m args below meth c s₁ B hml hv
  obtain ⟨rfl, hsz, hP, hK⟩ := hv
  have hx := B.exec
  have hb := B.bytes
  have hr := B.returns
  have hts := atoms_spec (ws := wp_c_X10_run) B.pre
  have hown : s.vm.findClass RX10 = some m.cls := findClass_of_methodNamed B.named
  have hlocks := B.notSynchronized
  subst hsz
  generalize hAe : va_A [] s.heap.size = A at ⊢
  have hA : ∀ q : Nat, s.heap.size ≤ q → A q := fun q h => by rw [← hAe]; exact Or.inr h
  have hS : va_S A s.heap s.heap [] := va_S.rf
  have hP : va_P D vwCl [(h0, .inr (10, [.ref (ca 0), .ref (ca 1), .int tp, .ref (ca 3), .ref (ca 4), .ref (ca 5), .ref (ca 6)])), (ca 0, .inl (cT, 4, .inr (.inr (.inr (.inr (fun _ => none))))))] s.heap := hP
  have hl := lv_entry ([.ref h0, .int z1]) (n := 3) (Nat.le_of_ble_eq_true rfl)
  rw [lg_entry_eq]
  generalize (lg_sl ([.ref h0, .int z1]) ++ List.replicate (3 - (lg_sl ([.ref h0, .int z1])).length) Slot.unset).toArray = ls at hl ⊢
  have hl : lv_has ls 3 [(0, .ref h0), (1, .int z1)] := hl
  refine lv_aload_n hx hb dX10_run_0 rfl (lv_at hl 0 rfl) ?_
  refine lv_iload_n hx hb dX10_run_1 rfl (lv_at hl 1 rfl) ?_
  have hPc := hP.sub (ws' := [(h0, .inr (10, [.ref (ca 0), .ref (ca 1), .int tp, .ref (ca 3), .ref (ca 4), .ref (ca 5), .ref (ca 6)])), (ca 0, .inl (cT, 4, .inr (.inr (.inr (.inr (fun _ => none))))))]) [0, 1] rfl
  have hKc := hK.sub (tys' := [(cT, .object RX9)]) [0] rfl
  have hFc := va_free0 hS hA
  refine va_callq (va_runV (As := [.int z1]) (rest := []) ⟨hx, hb, hml, hown, hts⟩ (c_tableAt l D _ h0 ca cT tp z1) (cwV 1 hts g_c_X10_run_c_tableAt_74 rfl rfl rfl (by decide +kernel) ⟨(Nat.le_of_ble_eq_true rfl), (Nat.le_of_ble_eq_true rfl)⟩) (PcR_V (q0 := 0) hPc hKc rfl rfl) rfl rfl hl.1 rfl (lv_room (Nat.le_of_ble_eq_true rfl)) dX10_run_2 ⟨(Nat.le_of_ble_eq_true rfl), (Nat.le_of_ble_eq_true rfl)⟩) hS (fun q _ h => hFc q h) hFc (fun r1 uu tt H locs htt hvm hw hB hz1 hk1 hS => ?_)
  have hP := va_keep hP hk1
  try dsimp only at hw
  clear hB hz1 hk1 hFc hPc hKc
  obtain rfl : r1 = none := hw
  refine W.eq (g2 := F0 m 5 ls [.null]) rfl ?_
  refine lv_astore_nN (lv' := [(2, .null), (0, .ref h0), (1, .int z1)]) hx hb dX10_run_5 rfl hl (by decide) rfl (fun ls hl => ?_)
  refine lv_aload_nN hx hb dX10_run_6 rfl (lv_at hl 0 rfl) ?_
  refine lv_ifnonnullN hx hb dX10_run_7 ?_
  refine lv_bipush (v := (-2)) hx hb dX10_run_10 (by decide) ?_
  exact W.iret (v := (-2)) hx hb hr (fun t ht hW => ⟨⟨(-2), (), rfl, rfl, trivial⟩, hS.F ht⟩) hS.2.2 dX10_run_12

def own_c_X10_image : List Cond := [.methodLink RX10 74 yX10_tableAt, .instanceMethod yX10_tableAt, .selects RX10 yX10_tableAt yX10_tableAt, .initialized RX10]
def wp_c_X10_image : List Cond := .code yX10_image cX10_image 3 (some .int) :: (own_c_X10_image ++ (wp_c_tableAt ++ ([] : List Cond)))
set_option maxRecDepth 20000 in
theorem inown_c_X10_image : ∀ w ∈ own_c_X10_image, w ∈ lw_tbl := mem_places [610, 612, 2, 106] (by decide +kernel)
set_option maxRecDepth 20000 in
theorem in_c_X10_image : ∀ w ∈ wp_c_X10_image, w ∈ lw_tbl := List.forall_mem_cons.mpr ⟨List.mem_of_getElem? (i := 1147) (by decide +kernel), List.forall_mem_append.mpr ⟨inown_c_X10_image, List.forall_mem_append.mpr ⟨in_c_tableAt, fun _ h => absurd h List.not_mem_nil⟩⟩⟩
set_option maxRecDepth 20000 in
theorem good_c_X10_image : wp_c_X10_image.all goodWord = true := by decide +kernel
set_option maxRecDepth 20000 in
theorem g_c_X10_image_c_tableAt_74 : GoodIn wp_c_X10_image (wsV RX10 74 RX10 yX10_tableAt wp_c_tableAt) := goodIn_sub (List.forall_mem_append.mpr ⟨List.forall_mem_cons.mpr ⟨(List.mem_of_getElem? (i := 1) rfl), List.forall_mem_cons.mpr ⟨(List.mem_of_getElem? (i := 2) rfl), List.forall_mem_cons.mpr ⟨(List.mem_of_getElem? (i := 3) rfl), List.forall_mem_cons.mpr ⟨(List.mem_of_getElem? (i := 4) rfl), fun _ h => absurd h List.not_mem_nil⟩⟩⟩⟩, (fun _ h => (List.mem_cons_of_mem _ (List.mem_append_right _ (List.mem_append_left _ h))))⟩) (by decide +kernel)
set_option maxHeartbeats 4000000 in
set_option maxRecDepth 100000 in
theorem c_X10_image (l : Launch) (D : va_G) (sz : Nat) (h0 : Nat) (ca : Nat → Nat) (cT : ClassId) (tp : Int32) (z1 : Int32)  : Met l yX10_image wp_c_X10_image ({ frames := 2, cells := 0, slots := 0, locals := 41 }) (PcR D [.ref h0, .int z1] sz [(h0, .inr (10, [.ref (ca 0), .ref (ca 1), .int tp, .ref (ca 3), .ref (ca 4), .ref (ca 5), .ref (ca 6)])), (ca 0, .inl (cT, 4, .inr (.inr (.inr (.inr (fun _ => none))))))] [(cT, .object RX9)]) (va_Qi (fun (r : Int32) (_ : Unit) => r = (-1)) (fun (_ : Unit) _ => True) (va_A [] sz)) 0 0 (va_A [] sz) := by
  refine Met.ofW (cc := cX10_image) (maxL := 3) (ret := (some .int)) (by decide) rfl ?_
  intro p e s m args below meth c s₁ B hml hv
  obtain ⟨rfl, hsz, hP, hK⟩ := hv
  have hx := B.exec
  have hb := B.bytes
  have hr := B.returns
  have hts := atoms_spec (ws := wp_c_X10_image) B.pre
  have hown : s.vm.findClass RX10 = some m.cls := findClass_of_methodNamed B.named
  have hlocks := B.notSynchronized
  subst hsz
  generalize hAe : va_A [] s.heap.size = A at ⊢
  have hA : ∀ q : Nat, s.heap.size ≤ q → A q := fun q h => by rw [← hAe]; exact Or.inr h
  have hS : va_S A s.heap s.heap [] := va_S.rf
  have hP : va_P D vwCl [(h0, .inr (10, [.ref (ca 0), .ref (ca 1), .int tp, .ref (ca 3), .ref (ca 4), .ref (ca 5), .ref (ca 6)])), (ca 0, .inl (cT, 4, .inr (.inr (.inr (.inr (fun _ => none))))))] s.heap := hP
  have hl := lv_entry ([.ref h0, .int z1]) (n := 3) (Nat.le_of_ble_eq_true rfl)
  rw [lg_entry_eq]
  generalize (lg_sl ([.ref h0, .int z1]) ++ List.replicate (3 - (lg_sl ([.ref h0, .int z1])).length) Slot.unset).toArray = ls at hl ⊢
  have hl : lv_has ls 3 [(0, .ref h0), (1, .int z1)] := hl
  refine lv_aload_n hx hb dX10_image_0 rfl (lv_at hl 0 rfl) ?_
  refine lv_iload_n hx hb dX10_image_1 rfl (lv_at hl 1 rfl) ?_
  have hPc := hP.sub (ws' := [(h0, .inr (10, [.ref (ca 0), .ref (ca 1), .int tp, .ref (ca 3), .ref (ca 4), .ref (ca 5), .ref (ca 6)])), (ca 0, .inl (cT, 4, .inr (.inr (.inr (.inr (fun _ => none))))))]) [0, 1] rfl
  have hKc := hK.sub (tys' := [(cT, .object RX9)]) [0] rfl
  have hFc := va_free0 hS hA
  refine va_callq (va_runV (As := [.int z1]) (rest := []) ⟨hx, hb, hml, hown, hts⟩ (c_tableAt l D _ h0 ca cT tp z1) (cwV 1 hts g_c_X10_image_c_tableAt_74 rfl rfl rfl (by decide +kernel) ⟨(Nat.le_of_ble_eq_true rfl), (Nat.le_of_ble_eq_true rfl)⟩) (PcR_V (q0 := 0) hPc hKc rfl rfl) rfl rfl hl.1 rfl (lv_room (Nat.le_of_ble_eq_true rfl)) dX10_image_2 ⟨(Nat.le_of_ble_eq_true rfl), (Nat.le_of_ble_eq_true rfl)⟩) hS (fun q _ h => hFc q h) hFc (fun r1 uu tt H locs htt hvm hw hB hz1 hk1 hS => ?_)
  have hP := va_keep hP hk1
  try dsimp only at hw
  clear hB hz1 hk1 hFc hPc hKc
  obtain rfl : r1 = none := hw
  refine W.eq (g2 := F0 m 5 ls [.null]) rfl ?_
  refine lv_astore_nN (lv' := [(2, .null), (0, .ref h0), (1, .int z1)]) hx hb dX10_image_5 rfl hl (by decide) rfl (fun ls hl => ?_)
  refine lv_aload_nN hx hb dX10_image_6 rfl (lv_at hl 0 rfl) ?_
  refine lv_ifnonnullN hx hb dX10_image_7 ?_
  refine lv_iconst (v := (-1)) hx hb dX10_image_10 (by decide) ?_
  exact W.iret (v := (-1)) hx hb hr (fun t ht hW => ⟨⟨(-1), (), rfl, rfl, trivial⟩, hS.F ht⟩) hS.2.2 dX10_image_11

def own_c_X10_copy : List Cond := [.methodLink RX10 74 yX10_tableAt, .instanceMethod yX10_tableAt, .selects RX10 yX10_tableAt yX10_tableAt, .initialized RX10, .methodLink RX10 55 yX10_isTableNumber, .static yX10_isTableNumber]
def wp_c_X10_copy : List Cond := .code yX10_copy cX10_copy 4 (some .int) :: (own_c_X10_copy ++ (wp_c_tableAt ++ (wp_c_isTN ++ ([] : List Cond))))
set_option maxRecDepth 20000 in
theorem inown_c_X10_copy : ∀ w ∈ own_c_X10_copy, w ∈ lw_tbl := mem_places [610, 612, 2, 106, 449, 450] (by decide +kernel)
set_option maxRecDepth 20000 in
theorem in_c_X10_copy : ∀ w ∈ wp_c_X10_copy, w ∈ lw_tbl := List.forall_mem_cons.mpr ⟨List.mem_of_getElem? (i := 1184) (by decide +kernel), List.forall_mem_append.mpr ⟨inown_c_X10_copy, List.forall_mem_append.mpr ⟨in_c_tableAt, List.forall_mem_append.mpr ⟨in_c_isTN, fun _ h => absurd h List.not_mem_nil⟩⟩⟩⟩
set_option maxRecDepth 20000 in
theorem good_c_X10_copy : wp_c_X10_copy.all goodWord = true := by decide +kernel
set_option maxRecDepth 20000 in
theorem g_c_X10_copy_c_tableAt_74 : GoodIn wp_c_X10_copy (wsV RX10 74 RX10 yX10_tableAt wp_c_tableAt) := goodIn_sub (List.forall_mem_append.mpr ⟨List.forall_mem_cons.mpr ⟨(List.mem_of_getElem? (i := 1) rfl), List.forall_mem_cons.mpr ⟨(List.mem_of_getElem? (i := 2) rfl), List.forall_mem_cons.mpr ⟨(List.mem_of_getElem? (i := 3) rfl), List.forall_mem_cons.mpr ⟨(List.mem_of_getElem? (i := 4) rfl), fun _ h => absurd h List.not_mem_nil⟩⟩⟩⟩, (fun _ h => (List.mem_cons_of_mem _ (List.mem_append_right _ (List.mem_append_left _ h))))⟩) (by decide +kernel)
set_option maxRecDepth 20000 in
theorem g_c_X10_copy_c_isTN_55 : GoodIn wp_c_X10_copy (va_wsS RX10 55 yX10_isTableNumber wp_c_isTN) := goodIn_sub (List.forall_mem_append.mpr ⟨List.forall_mem_cons.mpr ⟨(List.mem_of_getElem? (i := 5) rfl), List.forall_mem_cons.mpr ⟨(List.mem_of_getElem? (i := 6) rfl), List.forall_mem_cons.mpr ⟨(List.mem_of_getElem? (i := 4) rfl), fun _ h => absurd h List.not_mem_nil⟩⟩⟩, (fun _ h => (List.mem_cons_of_mem _ (List.mem_append_right _ (List.mem_append_right _ (List.mem_append_left _ h)))))⟩) (by decide +kernel)
set_option maxHeartbeats 4000000 in
set_option maxRecDepth 100000 in
theorem c_X10_copy (l : Launch) (D : va_G) (sz : Nat) (h0 : Nat) (ca : Nat → Nat) (cT : ClassId) (tp : Int32) (z1 : Int32) (z2 : Int32)  : Met l yX10_copy wp_c_X10_copy ({ frames := 2, cells := 0, slots := 0, locals := 41 }) (PcR D [.ref h0, .int z1, .int z2] sz [(h0, .inr (10, [.ref (ca 0), .ref (ca 1), .int tp, .ref (ca 3), .ref (ca 4), .ref (ca 5), .ref (ca 6)])), (ca 0, .inl (cT, 4, .inr (.inr (.inr (.inr (fun _ => none))))))] [(cT, .object RX9)]) (va_Qi (fun (r : Int32) (_ : Unit) => r = (-2)) (fun (_ : Unit) _ => True) (va_A [] sz)) 0 0 (va_A [] sz) := by
  refine Met.ofW (cc := cX10_copy) (maxL := 4) (ret := (some .int)) (by decide) rfl ?_
  intro p e s m args below meth c s₁ B hml hv
  obtain ⟨rfl, hsz, hP, hK⟩ := hv
  have hx := B.exec
  have hb := B.bytes
  have hr := B.returns
  have hts := atoms_spec (ws := wp_c_X10_copy) B.pre
  have hown : s.vm.findClass RX10 = some m.cls := findClass_of_methodNamed B.named
  have hlocks := B.notSynchronized
  subst hsz
  generalize hAe : va_A [] s.heap.size = A at ⊢
  have hA : ∀ q : Nat, s.heap.size ≤ q → A q := fun q h => by rw [← hAe]; exact Or.inr h
  have hS : va_S A s.heap s.heap [] := va_S.rf
  have hP : va_P D vwCl [(h0, .inr (10, [.ref (ca 0), .ref (ca 1), .int tp, .ref (ca 3), .ref (ca 4), .ref (ca 5), .ref (ca 6)])), (ca 0, .inl (cT, 4, .inr (.inr (.inr (.inr (fun _ => none))))))] s.heap := hP
  have hl := lv_entry ([.ref h0, .int z1, .int z2]) (n := 4) (Nat.le_of_ble_eq_true rfl)
  rw [lg_entry_eq]
  generalize (lg_sl ([.ref h0, .int z1, .int z2]) ++ List.replicate (4 - (lg_sl ([.ref h0, .int z1, .int z2])).length) Slot.unset).toArray = ls at hl ⊢
  have hl : lv_has ls 4 [(0, .ref h0), (1, .int z1), (2, .int z2)] := hl
  refine lv_aload_n hx hb dX10_copy_0 rfl (lv_at hl 0 rfl) ?_
  refine lv_iload_n hx hb dX10_copy_1 rfl (lv_at hl 2 rfl) ?_
  have hPc := hP.sub (ws' := [(h0, .inr (10, [.ref (ca 0), .ref (ca 1), .int tp, .ref (ca 3), .ref (ca 4), .ref (ca 5), .ref (ca 6)])), (ca 0, .inl (cT, 4, .inr (.inr (.inr (.inr (fun _ => none))))))]) [0, 1] rfl
  have hKc := hK.sub (tys' := [(cT, .object RX9)]) [0] rfl
  have hFc := va_free0 hS hA
  refine va_callq (va_runV (As := [.int z2]) (rest := []) ⟨hx, hb, hml, hown, hts⟩ (c_tableAt l D _ h0 ca cT tp z2) (cwV 1 hts g_c_X10_copy_c_tableAt_74 rfl rfl rfl (by decide +kernel) ⟨(Nat.le_of_ble_eq_true rfl), (Nat.le_of_ble_eq_true rfl)⟩) (PcR_V (q0 := 0) hPc hKc rfl rfl) rfl rfl hl.1 rfl (lv_room (Nat.le_of_ble_eq_true rfl)) dX10_copy_2 ⟨(Nat.le_of_ble_eq_true rfl), (Nat.le_of_ble_eq_true rfl)⟩) hS (fun q _ h => hFc q h) hFc (fun r1 uu tt H locs htt hvm hw hB hz1 hk1 hS => ?_)
  have hP := va_keep hP hk1
  try dsimp only at hw
  clear hB hz1 hk1 hFc hPc hKc
  obtain rfl : r1 = none := hw
  refine W.eq (g2 := F0 m 5 ls [.null]) rfl ?_
  refine lv_astore_nN (lv' := [(3, .null), (0, .ref h0), (1, .int z1), (2, .int z2)]) hx hb dX10_copy_5 rfl hl (by decide) rfl (fun ls hl => ?_)
  refine lv_iload_n hx hb dX10_copy_6 rfl (lv_at hl 2 rfl) ?_
  have hPc := hP.sub (ws' := []) [] rfl
  have hKc := hK.sub (tys' := []) [] rfl
  have hFc := va_free0 hS hA
  refine va_calli (va_runS (As := [.int z1]) (rest := []) ⟨hx, hb, hml, hown, hts⟩ (c_isTN l D _ z1) (va_cwS 1 hts g_c_X10_copy_c_isTN_55 rfl rfl rfl (by decide +kernel) ⟨(Nat.le_of_ble_eq_true rfl), (Nat.le_of_ble_eq_true rfl)⟩) (PcR_S hPc hKc) rfl rfl hl.1 rfl (lv_room (Nat.le_of_ble_eq_true rfl)) dX10_copy_7 ⟨(Nat.le_of_ble_eq_true rfl), (Nat.le_of_ble_eq_true rfl)⟩) hS (fun q _ h => hFc q h) hFc (fun r2 uu tt H locs htt hvm hw hB hz1 hk1 hS => ?_)
  have hP := va_keep hP hk1
  try dsimp only at hw
  clear hB hz1 hk1 hFc hPc hKc
  have hw_r2 := hw
  refine lv_if_eq (tgt := 22) hx hb dX10_copy_10 (by decide) (fun hc3 => ?_) (fun hc3 => ?_)
  ·
    refine lv_bipush (v := (-2)) hx hb dX10_copy_22 (by decide) ?_
    exact W.iret (v := (-2)) hx hb hr (fun t ht hW => ⟨⟨(-2), (), rfl, rfl, trivial⟩, hS.F ht⟩) hS.2.2 dX10_copy_24
  ·
    refine lv_aload_nN hx hb dX10_copy_13 rfl (lv_at hl 0 rfl) ?_
    refine lv_ifnullN (tgt := 22) hx hb dX10_copy_14 (by decide) ?_
    refine lv_bipush (v := (-2)) hx hb dX10_copy_22 (by decide) ?_
    exact W.iret (v := (-2)) hx hb hr (fun t ht hW => ⟨⟨(-2), (), rfl, rfl, trivial⟩, hS.F ht⟩) hS.2.2 dX10_copy_24

