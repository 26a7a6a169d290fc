def own_c_X11_put : List Cond := [.fieldLink RX11 73 "ClashFreeModel" "thrown" "I", .methodLink RX11 222 yX11_isThere, .instanceMethod yX11_isThere, .selects RX11 yX11_isThere yX11_isThere, .initialized RX11]
def wp_c_X11_put : List Cond := .code yX11_put cX11_put 4 (some .int) :: (own_c_X11_put ++ (wp_c_isThere ++ (wsX110 ++ ([] : List Cond))))
set_option maxRecDepth 20000 in
theorem inown_c_X11_put : ∀ w ∈ own_c_X11_put, w ∈ lw_tbl := mem_places [1216, 1466, 1468, 54, 115] (by decide +kernel)
set_option maxRecDepth 20000 in
theorem in_c_X11_put : ∀ w ∈ wp_c_X11_put, w ∈ lw_tbl := List.forall_mem_cons.mpr ⟨List.mem_of_getElem? (i := 1465) (by decide +kernel), List.forall_mem_append.mpr ⟨inown_c_X11_put, List.forall_mem_append.mpr ⟨in_c_isThere, List.forall_mem_append.mpr ⟨lwb_X11, fun _ h => absurd h List.not_mem_nil⟩⟩⟩⟩
set_option maxRecDepth 20000 in
theorem good_c_X11_put : wp_c_X11_put.all goodWord = true := by decide +kernel
set_option maxRecDepth 20000 in
theorem g_c_X11_put_c_isThere_222 : GoodIn wp_c_X11_put (wsV RX11 222 RX11 yX11_isThere wp_c_isThere) := goodIn_sub (List.forall_mem_append.mpr ⟨List.forall_mem_cons.mpr ⟨(List.mem_of_getElem? (i := 2) rfl), List.forall_mem_cons.mpr ⟨(List.mem_of_getElem? (i := 3) rfl), List.forall_mem_cons.mpr ⟨(List.mem_of_getElem? (i := 4) rfl), List.forall_mem_cons.mpr ⟨(List.mem_of_getElem? (i := 5) rfl), fun _ h => absurd h List.not_mem_nil⟩⟩⟩⟩, (fun _ h => (List.mem_cons_of_mem _ (List.mem_append_right _ (List.mem_append_left _ h))))⟩) (by decide +kernel)
set_option maxHeartbeats 4000000 in
set_option maxRecDepth 100000 in
theorem c_X11_put (l : Launch) (D : va_G) (sz : Nat) (h0 : Nat) (a : Nat → Nat) (cN : ClassId) (tp : Int32) (sd : Int64) (pa : Int64) (pb : Int64) (dr : Int32) (z1 : Int32) (z2 : Int32) (z3 : Int32)  : Met l yX11_put wp_c_X11_put ({ frames := 2, cells := 0, slots := 0, locals := 46 }) (PcW D [.ref h0, .int z1, .int z2, .int z3] sz [(h0, .inr (11, fM a tp sd pa pb dr)), (a 3, .inl (cN, 85, .inr (.inl (fun _ => 0))))] [(cN, .long)]) (va_Qi (fun (r : Int32) (_ : Unit) => r = (-2)) (fun (_ : Unit) _ => True) (va_A [(h0, .inr (11, fM a tp sd pa pb dr)), (a 3, .inl (cN, 85, .inr (.inl (fun _ => 0))))] sz)) 0 0 (va_A [(h0, .inr (11, fM a tp sd pa pb dr)), (a 3, .inl (cN, 85, .inr (.inl (fun _ => 0))))] sz) := by
  refine Met.ofW (cc := cX11_put) (maxL := 4) (ret := (some .int)) (by decide) rfl ?_
  intro p e s m args below meth c s₁ B hml hv
  obtain ⟨rfl, hsz, hP, hK, hD0⟩ := hv
  have hx := B.exec
  have hb := B.bytes
  have hr := B.returns
  have hts := atoms_spec (ws := wp_c_X11_put) B.pre
  have hin_X11 : ∀ w ∈ wsX110, w ∈ wp_c_X11_put := fun _ h => (List.mem_cons_of_mem _ (List.mem_append_right _ (List.mem_append_right _ (List.mem_append_left _ h))))
  have hown : s.vm.findClass RX11 = some m.cls := findClass_of_methodNamed B.named
  have hlocks := B.notSynchronized
  subst hsz
  have hD := hD0.self (sz := s.heap.size)
  generalize hAe : va_A [(h0, .inr (11, fM a tp sd pa pb dr)), (a 3, .inl (cN, 85, .inr (.inl (fun _ => 0))))] s.heap.size = A at hD ⊢
  have hA : ∀ q : Nat, s.heap.size ≤ q → A q := fun q h => by rw [← hAe]; exact Or.inr h
  have hS : va_S A s.heap s.heap [] := va_S.rf
  have hP : va_P D vwCl [(h0, .inr (11, fM a tp sd pa pb dr)), (a 3, .inl (cN, 85, .inr (.inl (fun _ => 0))))] s.heap := hP
  have hl := lv_entry ([.ref h0, .int z1, .int z2, .int z3]) (n := 4) (Nat.le_of_ble_eq_true rfl)
  rw [lg_entry_eq]
  generalize (lg_sl ([.ref h0, .int z1, .int z2, .int z3]) ++ List.replicate (4 - (lg_sl ([.ref h0, .int z1, .int z2, .int z3])).length) Slot.unset).toArray = ls at hl ⊢
  have hl : lv_has ls 4 [(0, .ref h0), (1, .int z1), (2, .int z2), (3, .int z3)] := hl
  refine lv_aload_n hx hb dX11_put_0 rfl (lv_at hl 0 rfl) ?_
  refine lv_iconst (v := 0) hx hb dX11_put_1 (by decide) ?_
  refine va_put (D := D) (ci := 11) (v := .int 0) (ty := .int) (C := RX11) (T := TX11) (N := 47) hx hb hts hin_X11 tyX11 tyX11_ok nmX11 hown hK hP hD hS 0 rfl rfl 0 (by decide) (hts (.fieldLink RX11 73 "ClashFreeModel" "thrown" "I") (List.mem_of_getElem? (i := 1) rfl)) (fun _ h9 => h9) rfl (by decide +kernel) rfl rfl (Nat.le_of_ble_eq_true rfl) dX11_put_2 (fun H locs hP hD hS => ?_)
  have hP : va_P D vwCl [(h0, .inr (11, fM a tp sd pa pb dr)), (a 3, .inl (cN, 85, .inr (.inl (fun _ => 0))))] H := hP
  have hD : va_D A [(h0, .inr (11, fM a tp sd pa pb dr)), (a 3, .inl (cN, 85, .inr (.inl (fun _ => 0))))] := hD
  refine lv_aload_n hx hb dX11_put_5 rfl (lv_at hl 0 rfl) ?_
  refine lv_iload_n hx hb dX11_put_6 rfl (lv_at hl 1 rfl) ?_
  have hPc := hP.sub (ws' := [(h0, .inr (11, fM a tp sd pa pb dr)), (a 3, .inl (cN, 85, .inr (.inl (fun _ => 0))))]) [0, 1] rfl
  have hKc := hK.sub (tys' := [(cN, .long)]) [0] rfl
  have hFc := va_free0 hS hA
  refine va_calli (va_runV (As := [.int z1]) (rest := []) ⟨hx, hb, hml, hown, hts⟩ (c_isThere l D _ h0 a cN tp sd pa pb dr z1) (cwV 1 hts g_c_X11_put_c_isThere_222 rfl rfl rfl (by decide +kernel) ⟨(Nat.le_of_ble_eq_true rfl), (Nat.le_of_ble_eq_true rfl)⟩) (PcR_V (q0 := 0) hPc hKc rfl rfl) rfl rfl hl.1 rfl (lv_room (Nat.le_of_ble_eq_true rfl)) dX11_put_7 ⟨(Nat.le_of_ble_eq_true rfl), (Nat.le_of_ble_eq_true rfl)⟩) hS (fun q _ h => hFc q h) hFc (fun r1 uu tt H locs htt hvm hw hB hz1 hk1 hS => ?_)
  have hP := va_keep hP hk1
  try dsimp only at hw
  clear hB hz1 hk1 hFc hPc hKc
  obtain rfl : r1 = 0 := hw
  refine lv_if_eq (tgt := 20) hx hb dX11_put_10 (by decide) (fun hc => ?_) (fun hc => absurd (by decide) hc)
  refine lv_bipush (v := (-2)) hx hb dX11_put_20 (by decide) ?_
  exact W.iret (v := (-2)) hx hb hr (fun t ht hW => ⟨⟨(-2), (), rfl, rfl, trivial⟩, hS.F ht⟩) hS.2.2 dX11_put_22

def own_c_X11_get : List Cond := [.fieldLink RX11 73 "ClashFreeModel" "thrown" "I", .methodLink RX11 222 yX11_isThere, .instanceMethod yX11_isThere, .selects RX11 yX11_isThere yX11_isThere, .initialized RX11, .constantLong RX11 235 (-1000000000000000)]
def wp_c_X11_get : List Cond := .code yX11_get cX11_get 3 (some .long) :: (own_c_X11_get ++ (wp_c_isThere ++ (wsX110 ++ ([] : List Cond))))
set_option maxRecDepth 20000 in
theorem inown_c_X11_get : ∀ w ∈ own_c_X11_get, w ∈ lw_tbl := mem_places [1216, 1466, 1468, 54, 115, 1517] (by decide +kernel)
set_option maxRecDepth 20000 in
theorem in_c_X11_get : ∀ w ∈ wp_c_X11_get, w ∈ lw_tbl := List.forall_mem_cons.mpr ⟨List.mem_of_getElem? (i := 1516) (by decide +kernel), List.forall_mem_append.mpr ⟨inown_c_X11_get, List.forall_mem_append.mpr ⟨in_c_isThere, List.forall_mem_append.mpr ⟨lwb_X11, fun _ h => absurd h List.not_mem_nil⟩⟩⟩⟩
set_option maxRecDepth 20000 in
theorem good_c_X11_get : wp_c_X11_get.all goodWord = true := by decide +kernel
set_option maxRecDepth 20000 in
theorem g_c_X11_get_c_isThere_222 : GoodIn wp_c_X11_get (wsV RX11 222 RX11 yX11_isThere wp_c_isThere) := goodIn_sub (List.forall_mem_append.mpr ⟨List.forall_mem_cons.mpr ⟨(List.mem_of_getElem? (i := 2) rfl), List.forall_mem_cons.mpr ⟨(List.mem_of_getElem? (i := 3) rfl), List.forall_mem_cons.mpr ⟨(List.mem_of_getElem? (i := 4) rfl), List.forall_mem_cons.mpr ⟨(List.mem_of_getElem? (i := 5) rfl), fun _ h => absurd h List.not_mem_nil⟩⟩⟩⟩, (fun _ h => (List.mem_cons_of_mem _ (List.mem_append_right _ (List.mem_append_left _ h))))⟩) (by decide +kernel)
set_option maxHeartbeats 4000000 in
set_option maxRecDepth 100000 in
theorem c_X11_get (l : Launch) (D : va_G) (sz : Nat) (h0 : Nat) (a : Nat → Nat) (cN : ClassId) (tp : Int32) (sd : Int64) (pa : Int64) (pb : Int64) (dr : Int32) (z1 : Int32) (z2 : Int32)  : Met l yX11_get wp_c_X11_get ({ frames := 2, cells := 0, slots := 0, locals := 46 }) (PcW D [.ref h0, .int z1, .int z2] sz [(h0, .inr (11, fM a tp sd pa pb dr)), (a 3, .inl (cN, 85, .inr (.inl (fun _ => 0))))] [(cN, .long)]) (va_Ql (fun (r : Int64) (_ : Unit) => r = (-1000000000000000)) (fun (_ : Unit) _ => True) (va_A [(h0, .inr (11, fM a tp sd pa pb dr)), (a 3, .inl (cN, 85, .inr (.inl (fun _ => 0))))] sz)) 0 0 (va_A [(h0, .inr (11, fM a tp sd pa pb dr)), (a 3, .inl (cN, 85, .inr (.inl (fun _ => 0))))] sz) := by
  refine Met.ofW (cc := cX11_get) (maxL := 3) (ret := (some .long)) (by decide) rfl ?_
  intro p e s m args below meth c s₁ B hml hv
  obtain ⟨rfl, hsz, hP, hK, hD0⟩ := hv
  have hx := B.exec
  have hb := B.bytes
  have hr := B.returns
  have hts := atoms_spec (ws := wp_c_X11_get) B.pre
  have hin_X11 : ∀ w ∈ wsX110, w ∈ wp_c_X11_get := fun _ h => (List.mem_cons_of_mem _ (List.mem_append_right _ (List.mem_append_right _ (List.mem_append_left _ h))))
  have hown : s.vm.findClass RX11 = some m.cls := findClass_of_methodNamed B.named
  have hlocks := B.notSynchronized
  subst hsz
  have hD := hD0.self (sz := s.heap.size)
  generalize hAe : va_A [(h0, .inr (11, fM a tp sd pa pb dr)), (a 3, .inl (cN, 85, .inr (.inl (fun _ => 0))))] s.heap.size = A at hD ⊢
  have hA : ∀ q : Nat, s.heap.size ≤ q → A q := fun q h => by rw [← hAe]; exact Or.inr h
  have hS : va_S A s.heap s.heap [] := va_S.rf
  have hP : va_P D vwCl [(h0, .inr (11, fM a tp sd pa pb dr)), (a 3, .inl (cN, 85, .inr (.inl (fun _ => 0))))] s.heap := hP
  have hl := lv_entry ([.ref h0, .int z1, .int z2]) (n := 3) (Nat.le_of_ble_eq_true rfl)
  rw [lg_entry_eq]
  generalize (lg_sl ([.ref h0, .int z1, .int z2]) ++ List.replicate (3 - (lg_sl ([.ref h0, .int z1, .int z2])).length) Slot.unset).toArray = ls at hl ⊢
  have hl : lv_has ls 3 [(0, .ref h0), (1, .int z1), (2, .int z2)] := hl
  refine lv_aload_n hx hb dX11_get_0 rfl (lv_at hl 0 rfl) ?_
  refine lv_iconst (v := 0) hx hb dX11_get_1 (by decide) ?_
  refine va_put (D := D) (ci := 11) (v := .int 0) (ty := .int) (C := RX11) (T := TX11) (N := 47) hx hb hts hin_X11 tyX11 tyX11_ok nmX11 hown hK hP hD hS 0 rfl rfl 0 (by decide) (hts (.fieldLink RX11 73 "ClashFreeModel" "thrown" "I") (List.mem_of_getElem? (i := 1) rfl)) (fun _ h9 => h9) rfl (by decide +kernel) rfl rfl (Nat.le_of_ble_eq_true rfl) dX11_get_2 (fun H locs hP hD hS => ?_)
  have hP : va_P D vwCl [(h0, .inr (11, fM a tp sd pa pb dr)), (a 3, .inl (cN, 85, .inr (.inl (fun _ => 0))))] H := hP
  have hD : va_D A [(h0, .inr (11, fM a tp sd pa pb dr)), (a 3, .inl (cN, 85, .inr (.inl (fun _ => 0))))] := hD
  refine lv_aload_n hx hb dX11_get_5 rfl (lv_at hl 0 rfl) ?_
  refine lv_iload_n hx hb dX11_get_6 rfl (lv_at hl 1 rfl) ?_
  have hPc := hP.sub (ws' := [(h0, .inr (11, fM a tp sd pa pb dr)), (a 3, .inl (cN, 85, .inr (.inl (fun _ => 0))))]) [0, 1] rfl
  have hKc := hK.sub (tys' := [(cN, .long)]) [0] rfl
  have hFc := va_free0 hS hA
  refine va_calli (va_runV (As := [.int z1]) (rest := []) ⟨hx, hb, hml, hown, hts⟩ (c_isThere l D _ h0 a cN tp sd pa pb dr z1) (cwV 1 hts g_c_X11_get_c_isThere_222 rfl rfl rfl (by decide +kernel) ⟨(Nat.le_of_ble_eq_true rfl), (Nat.le_of_ble_eq_true rfl)⟩) (PcR_V (q0 := 0) hPc hKc rfl rfl) rfl rfl hl.1 rfl (lv_room (Nat.le_of_ble_eq_true rfl)) dX11_get_7 ⟨(Nat.le_of_ble_eq_true rfl), (Nat.le_of_ble_eq_true rfl)⟩) hS (fun q _ h => hFc q h) hFc (fun r1 uu tt H locs htt hvm hw hB hz1 hk1 hS => ?_)
  have hP := va_keep hP hk1
  try dsimp only at hw
  clear hB hz1 hk1 hFc hPc hKc
  obtain rfl : r1 = 0 := hw
  refine lv_if_eq (tgt := 20) hx hb dX11_get_10 (by decide) (fun hc => ?_) (fun hc => absurd (by decide) hc)
  refine lv_ldc2 (v := (-1000000000000000)) hx hb hown (hts (.constantLong RX11 235 (-1000000000000000)) (List.mem_of_getElem? (i := 6) rfl)) dX11_get_20 ?_
  exact W.lret (v := (-1000000000000000)) hx hb hr (fun t ht hW => ⟨⟨(-1000000000000000), (), rfl, rfl, trivial⟩, hS.F ht⟩) hS.2.2 dX11_get_23

def own_c_X11_drop : List Cond := [.fieldLink RX11 73 "ClashFreeModel" "thrown" "I", .methodLink RX11 222 yX11_isThere, .instanceMethod yX11_isThere, .selects RX11 yX11_isThere yX11_isThere, .initialized RX11]
def wp_c_X11_drop : List Cond := .code yX11_drop cX11_drop 3 (some .int) :: (own_c_X11_drop ++ (wp_c_isThere ++ (wsX110 ++ ([] : List Cond))))
set_option maxRecDepth 20000 in
theorem inown_c_X11_drop : ∀ w ∈ own_c_X11_drop, w ∈ lw_tbl := mem_places [1216, 1466, 1468, 54, 115] (by decide +kernel)
set_option maxRecDepth 20000 in
theorem in_c_X11_drop : ∀ w ∈ wp_c_X11_drop, w ∈ lw_tbl := List.forall_mem_cons.mpr ⟨List.mem_of_getElem? (i := 1521) (by decide +kernel), List.forall_mem_append.mpr ⟨inown_c_X11_drop, List.forall_mem_append.mpr ⟨in_c_isThere, List.forall_mem_append.mpr ⟨lwb_X11, fun _ h => absurd h List.not_mem_nil⟩⟩⟩⟩
set_option maxRecDepth 20000 in
theorem good_c_X11_drop : wp_c_X11_drop.all goodWord = true := by decide +kernel
set_option maxRecDepth 20000 in
theorem g_c_X11_drop_c_isThere_222 : GoodIn wp_c_X11_drop (wsV RX11 222 RX11 yX11_isThere wp_c_isThere) := goodIn_sub (List.forall_mem_append.mpr ⟨List.forall_mem_cons.mpr ⟨(List.mem_of_getElem? (i := 2) rfl), List.forall_mem_cons.mpr ⟨(List.mem_of_getElem? (i := 3) rfl), List.forall_mem_cons.mpr ⟨(List.mem_of_getElem? (i := 4) rfl), List.forall_mem_cons.mpr ⟨(List.mem_of_getElem? (i := 5) rfl), fun _ h => absurd h List.not_mem_nil⟩⟩⟩⟩, (fun _ h => (List.mem_cons_of_mem _ (List.mem_append_right _ (List.mem_append_left _ h))))⟩) (by decide +kernel)
set_option maxHeartbeats 4000000 in
set_option maxRecDepth 100000 in
theorem c_X11_drop (l : Launch) (D : va_G) (sz : Nat) (h0 : Nat) (a : Nat → Nat) (cN : ClassId) (tp : Int32) (sd : Int64) (pa : Int64) (pb : Int64) (dr : Int32) (z1 : Int32) (z2 : Int32)  : Met l yX11_drop wp_c_X11_drop ({ frames := 2, cells := 0, slots := 0, locals := 46 }) (PcW D [.ref h0, .int z1, .int z2] sz [(h0, .inr (11, fM a tp sd pa pb dr)), (a 3, .inl (cN, 85, .inr (.inl (fun _ => 0))))] [(cN, .long)]) (va_Qi (fun (r : Int32) (_ : Unit) => r = (-2)) (fun (_ : Unit) _ => True) (va_A [(h0, .inr (11, fM a tp sd pa pb dr)), (a 3, .inl (cN, 85, .inr (.inl (fun _ => 0))))] sz)) 0 0 (va_A [(h0, .inr (11, fM a tp sd pa pb dr)), (a 3, .inl (cN, 85, .inr (.inl (fun _ => 0))))] sz) := by
  refine Met.ofW (cc := cX11_drop) (maxL := 3) (ret := (some .int)) (by decide) rfl ?_
  intro p e s m args below meth c s₁ B hml hv
  obtain ⟨rfl, hsz, hP, hK, hD0⟩ := hv
  have hx := B.exec
  have hb := B.bytes
  have hr := B.returns
  have hts := atoms_spec (ws := wp_c_X11_drop) B.pre
  have hin_X11 : ∀ w ∈ wsX110, w ∈ wp_c_X11_drop := fun _ h => (List.mem_cons_of_mem _ (List.mem_append_right _ (List.mem_append_right _ (List.mem_append_left _ h))))
  have hown : s.vm.findClass RX11 = some m.cls := findClass_of_methodNamed B.named
  have hlocks := B.notSynchronized
  subst hsz
  have hD := hD0.self (sz := s.heap.size)
  generalize hAe : va_A [(h0, .inr (11, fM a tp sd pa pb dr)), (a 3, .inl (cN, 85, .inr (.inl (fun _ => 0))))] s.heap.size = A at hD ⊢
  have hA : ∀ q : Nat, s.heap.size ≤ q → A q := fun q h => by rw [← hAe]; exact Or.inr h
  have hS : va_S A s.heap s.heap [] := va_S.rf
  have hP : va_P D vwCl [(h0, .inr (11, fM a tp sd pa pb dr)), (a 3, .inl (cN, 85, .inr (.inl (fun _ => 0))))] s.heap := hP
  have hl := lv_entry ([.ref h0, .int z1, .int z2]) (n := 3) (Nat.le_of_ble_eq_true rfl)
  rw [lg_entry_eq]
  generalize (lg_sl ([.ref h0, .int z1, .int z2]) ++ List.replicate (3 - (lg_sl ([.ref h0, .int z1, .int z2])).length) Slot.unset).toArray = ls at hl ⊢
  have hl : lv_has ls 3 [(0, .ref h0), (1, .int z1), (2, .int z2)] := hl
  refine lv_aload_n hx hb dX11_drop_0 rfl (lv_at hl 0 rfl) ?_
  refine lv_iconst (v := 0) hx hb dX11_drop_1 (by decide) ?_
  refine va_put (D := D) (ci := 11) (v := .int 0) (ty := .int) (C := RX11) (T := TX11) (N := 47) hx hb hts hin_X11 tyX11 tyX11_ok nmX11 hown hK hP hD hS 0 rfl rfl 0 (by decide) (hts (.fieldLink RX11 73 "ClashFreeModel" "thrown" "I") (List.mem_of_getElem? (i := 1) rfl)) (fun _ h9 => h9) rfl (by decide +kernel) rfl rfl (Nat.le_of_ble_eq_true rfl) dX11_drop_2 (fun H locs hP hD hS => ?_)
  have hP : va_P D vwCl [(h0, .inr (11, fM a tp sd pa pb dr)), (a 3, .inl (cN, 85, .inr (.inl (fun _ => 0))))] H := hP
  have hD : va_D A [(h0, .inr (11, fM a tp sd pa pb dr)), (a 3, .inl (cN, 85, .inr (.inl (fun _ => 0))))] := hD
  refine lv_aload_n hx hb dX11_drop_5 rfl (lv_at hl 0 rfl) ?_
  refine lv_iload_n hx hb dX11_drop_6 rfl (lv_at hl 1 rfl) ?_
  have hPc := hP.sub (ws' := [(h0, .inr (11, fM a tp sd pa pb dr)), (a 3, .inl (cN, 85, .inr (.inl (fun _ => 0))))]) [0, 1] rfl
  have hKc := hK.sub (tys' := [(cN, .long)]) [0] rfl
  have hFc := va_free0 hS hA
  refine va_calli (va_runV (As := [.int z1]) (rest := []) ⟨hx, hb, hml, hown, hts⟩ (c_isThere l D _ h0 a cN tp sd pa pb dr z1) (cwV 1 hts g_c_X11_drop_c_isThere_222 rfl rfl rfl (by decide +kernel) ⟨(Nat.le_of_ble_eq_true rfl), (Nat.le_of_ble_eq_true rfl)⟩) (PcR_V (q0 := 0) hPc hKc rfl rfl) rfl rfl hl.1 rfl (lv_room (Nat.le_of_ble_eq_true rfl)) dX11_drop_7 ⟨(Nat.le_of_ble_eq_true rfl), (Nat.le_of_ble_eq_true rfl)⟩) hS (fun q _ h => hFc q h) hFc (fun r1 uu tt H locs htt hvm hw hB hz1 hk1 hS => ?_)
  have hP := va_keep hP hk1
  try dsimp only at hw
  clear hB hz1 hk1 hFc hPc hKc
  obtain rfl : r1 = 0 := hw
  refine lv_if_eq (tgt := 29) hx hb dX11_drop_10 (by decide) (fun hc => ?_) (fun hc => absurd (by decide) hc)
  refine lv_bipush (v := (-2)) hx hb dX11_drop_29 (by decide) ?_
  exact W.iret (v := (-2)) hx hb hr (fun t ht hW => ⟨⟨(-2), (), rfl, rfl, trivial⟩, hS.F ht⟩) hS.2.2 dX11_drop_31

def own_c_X11_build : List Cond := [.fieldLink RX11 73 "ClashFreeModel" "thrown" "I", .methodLink RX11 222 yX11_isThere, .instanceMethod yX11_isThere, .selects RX11 yX11_isThere yX11_isThere, .initialized RX11]
def wp_c_X11_build : List Cond := .code yX11_build cX11_build 2 (some .int) :: (own_c_X11_build ++ (wp_c_isThere ++ (wsX110 ++ ([] : List Cond))))
set_option maxRecDepth 20000 in
theorem inown_c_X11_build : ∀ w ∈ own_c_X11_build, w ∈ lw_tbl := mem_places [1216, 1466, 1468, 54, 115] (by decide +kernel)
set_option maxRecDepth 20000 in
theorem in_c_X11_build : ∀ w ∈ wp_c_X11_build, w ∈ lw_tbl := List.forall_mem_cons.mpr ⟨List.mem_of_getElem? (i := 1530) (by decide +kernel), List.forall_mem_append.mpr ⟨inown_c_X11_build, List.forall_mem_append.mpr ⟨in_c_isThere, List.forall_mem_append.mpr ⟨lwb_X11, fun _ h => absurd h List.not_mem_nil⟩⟩⟩⟩
set_option maxRecDepth 20000 in
theorem good_c_X11_build : wp_c_X11_build.all goodWord = true := by decide +kernel
set_option maxRecDepth 20000 in
theorem g_c_X11_build_c_isThere_222 : GoodIn wp_c_X11_build (wsV RX11 222 RX11 yX11_isThere wp_c_isThere) := goodIn_sub (List.forall_mem_append.mpr ⟨List.forall_mem_cons.mpr ⟨(List.mem_of_getElem? (i := 2) rfl), List.forall_mem_cons.mpr ⟨(List.mem_of_getElem? (i := 3) rfl), List.forall_mem_cons.mpr ⟨(List.mem_of_getElem? (i := 4) rfl), List.forall_mem_cons.mpr ⟨(List.mem_of_getElem? (i := 5) rfl), fun _ h => absurd h List.not_mem_nil⟩⟩⟩⟩, (fun _ h => (List.mem_cons_of_mem _ (List.mem_append_right _ (List.mem_append_left _ h))))⟩) (by decide +kernel)
set_option maxHeartbeats 4000000 in
set_option maxRecDepth 100000 in
theorem c_X11_build (l : Launch) (D : va_G) (sz : Nat) (h0 : Nat) (a : Nat → Nat) (cN : ClassId) (tp : Int32) (sd : Int64) (pa : Int64) (pb : Int64) (dr : Int32) (z1 : Int32)  : Met l yX11_build wp_c_X11_build ({ frames := 2, cells := 0, slots := 0, locals := 46 }) (PcW D [.ref h0, .int z1] sz [(h0, .inr (11, fM a tp sd pa pb dr)), (a 3, .inl (cN, 85, .inr (.inl (fun _ => 0))))] [(cN, .long)]) (va_Qi (fun (r : Int32) (_ : Unit) => r = (-2)) (fun (_ : Unit) _ => True) (va_A [(h0, .inr (11, fM a tp sd pa pb dr)), (a 3, .inl (cN, 85, .inr (.inl (fun _ => 0))))] sz)) 0 0 (va_A [(h0, .inr (11, fM a tp sd pa pb dr)), (a 3, .inl (cN, 85, .inr (.inl (fun _ => 0))))] sz) := by
  refine Met.ofW (cc := cX11_build) (maxL := 2) (ret := (some .int)) (by decide) rfl ?_
  intro p e s m args below meth c s₁ B hml hv
  obtain ⟨rfl, hsz, hP, hK, hD0⟩ := hv
  have hx := B.exec
  have hb := B.bytes
  have hr := B.returns
  have hts := atoms_spec (ws := wp_c_X11_build) B.pre
  have hin_X11 : ∀ w ∈ wsX110, w ∈ wp_c_X11_build := fun _ h => (List.mem_cons_of_mem _ (List.mem_append_right _ (List.mem_append_right _ (List.mem_append_left _ h))))
  have hown : s.vm.findClass RX11 = some m.cls := findClass_of_methodNamed B.named
  have hlocks := B.notSynchronized
  subst hsz
  have hD := hD0.self (sz := s.heap.size)
  generalize hAe : va_A [(h0, .inr (11, fM a tp sd pa pb dr)), (a 3, .inl (cN, 85, .inr (.inl (fun _ => 0))))] s.heap.size = A at hD ⊢
  have hA : ∀ q : Nat, s.heap.size ≤ q → A q := fun q h => by rw [← hAe]; exact Or.inr h
  have hS : va_S A s.heap s.heap [] := va_S.rf
  have hP : va_P D vwCl [(h0, .inr (11, fM a tp sd pa pb dr)), (a 3, .inl (cN, 85, .inr (.inl (fun _ => 0))))] s.heap := hP
  have hl := lv_entry ([.ref h0, .int z1]) (n := 2) (Nat.le_of_ble_eq_true rfl)
  rw [lg_entry_eq]
  generalize (lg_sl ([.ref h0, .int z1]) ++ List.replicate (2 - (lg_sl ([.ref h0, .int z1])).length) Slot.unset).toArray = ls at hl ⊢
  have hl : lv_has ls 2 [(0, .ref h0), (1, .int z1)] := hl
  refine lv_aload_n hx hb dX11_build_0 rfl (lv_at hl 0 rfl) ?_
  refine lv_iconst (v := 0) hx hb dX11_build_1 (by decide) ?_
  refine va_put (D := D) (ci := 11) (v := .int 0) (ty := .int) (C := RX11) (T := TX11) (N := 47) hx hb hts hin_X11 tyX11 tyX11_ok nmX11 hown hK hP hD hS 0 rfl rfl 0 (by decide) (hts (.fieldLink RX11 73 "ClashFreeModel" "thrown" "I") (List.mem_of_getElem? (i := 1) rfl)) (fun _ h9 => h9) rfl (by decide +kernel) rfl rfl (Nat.le_of_ble_eq_true rfl) dX11_build_2 (fun H locs hP hD hS => ?_)
  have hP : va_P D vwCl [(h0, .inr (11, fM a tp sd pa pb dr)), (a 3, .inl (cN, 85, .inr (.inl (fun _ => 0))))] H := hP
  have hD : va_D A [(h0, .inr (11, fM a tp sd pa pb dr)), (a 3, .inl (cN, 85, .inr (.inl (fun _ => 0))))] := hD
  refine lv_aload_n hx hb dX11_build_5 rfl (lv_at hl 0 rfl) ?_
  refine lv_iload_n hx hb dX11_build_6 rfl (lv_at hl 1 rfl) ?_
  have hPc := hP.sub (ws' := [(h0, .inr (11, fM a tp sd pa pb dr)), (a 3, .inl (cN, 85, .inr (.inl (fun _ => 0))))]) [0, 1] rfl
  have hKc := hK.sub (tys' := [(cN, .long)]) [0] rfl
  have hFc := va_free0 hS hA
  refine va_calli (va_runV (As := [.int z1]) (rest := []) ⟨hx, hb, hml, hown, hts⟩ (c_isThere l D _ h0 a cN tp sd pa pb dr z1) (cwV 1 hts g_c_X11_build_c_isThere_222 rfl rfl rfl (by decide +kernel) ⟨(Nat.le_of_ble_eq_true rfl), (Nat.le_of_ble_eq_true rfl)⟩) (PcR_V (q0 := 0) hPc hKc rfl rfl) rfl rfl hl.1 rfl (lv_room (Nat.le_of_ble_eq_true rfl)) dX11_build_7 ⟨(Nat.le_of_ble_eq_true rfl), (Nat.le_of_ble_eq_true rfl)⟩) hS (fun q _ h => hFc q h) hFc (fun r1 uu tt H locs htt hvm hw hB hz1 hk1 hS => ?_)
  have hP := va_keep hP hk1
  try dsimp only at hw
  clear hB hz1 hk1 hFc hPc hKc
  obtain rfl : r1 = 0 := hw
  refine lv_if_ne (tgt := 16) hx hb dX11_build_10 (by decide) (fun hc => absurd (by decide) hc) (fun hc => ?_)
  refine lv_bipush (v := (-2)) hx hb dX11_build_13 (by decide) ?_
  exact W.iret (v := (-2)) hx hb hr (fun t ht hW => ⟨⟨(-2), (), rfl, rfl, trivial⟩, hS.F ht⟩) hS.2.2 dX11_build_15

def own_c_X11_has : List Cond := [.fieldLink RX11 73 "ClashFreeModel" "thrown" "I", .methodLink RX11 222 yX11_isThere, .instanceMethod yX11_isThere, .selects RX11 yX11_isThere yX11_isThere, .initialized RX11, .constantLong RX11 235 (-1000000000000000)]
def wp_c_X11_has : List Cond := .code yX11_has cX11_has 3 (some .long) :: (own_c_X11_has ++ (wp_c_isThere ++ (wsX110 ++ ([] : List Cond))))
set_option maxRecDepth 20000 in
theorem inown_c_X11_has : ∀ w ∈ own_c_X11_has, w ∈ lw_tbl := mem_places [1216, 1466, 1468, 54, 115, 1517] (by decide +kernel)
set_option maxRecDepth 20000 in
theorem in_c_X11_has : ∀ w ∈ wp_c_X11_has, w ∈ lw_tbl := List.forall_mem_cons.mpr ⟨List.mem_of_getElem? (i := 1534) (by decide +kernel), List.forall_mem_append.mpr ⟨inown_c_X11_has, List.forall_mem_append.mpr ⟨in_c_isThere, List.forall_mem_append.mpr ⟨lwb_X11, fun _ h => absurd h List.not_mem_nil⟩⟩⟩⟩
set_option maxRecDepth 20000 in
theorem good_c_X11_has : wp_c_X11_has.all goodWord = true := by decide +kernel
set_option maxRecDepth 20000 in
theorem g_c_X11_has_c_isThere_222 : GoodIn wp_c_X11_has (wsV RX11 222 RX11 yX11_isThere wp_c_isThere) := goodIn_sub (List.forall_mem_append.mpr ⟨List.forall_mem_cons.mpr ⟨(List.mem_of_getElem? (i := 2) rfl), List.forall_mem_cons.mpr ⟨(List.mem_of_getElem? (i := 3) rfl), List.forall_mem_cons.mpr ⟨(List.mem_of_getElem? (i := 4) rfl), List.forall_mem_cons.mpr ⟨(List.mem_of_getElem? (i := 5) rfl), fun _ h => absurd h List.not_mem_nil⟩⟩⟩⟩, (fun _ h => (List.mem_cons_of_mem _ (List.mem_append_right _ (List.mem_append_left _ h))))⟩) (by decide +kernel)
set_option maxHeartbeats 4000000 in
set_option maxRecDepth 100000 in
theorem c_X11_has (l : Launch) (D : va_G) (sz : Nat) (h0 : Nat) (a : Nat → Nat) (cN : ClassId) (tp : Int32) (sd : Int64) (pa : Int64) (pb : Int64) (dr : Int32) (z1 : Int32) (z2 : Int32)  : Met l yX11_has wp_c_X11_has ({ frames := 2, cells := 0, slots := 0, locals := 46 }) (PcW D [.ref h0, .int z1, .int z2] sz [(h0, .inr (11, fM a tp sd pa pb dr)), (a 3, .inl (cN, 85, .inr (.inl (fun _ => 0))))] [(cN, .long)]) (va_Ql (fun (r : Int64) (_ : Unit) => r = (-1000000000000000)) (fun (_ : Unit) _ => True) (va_A [(h0, .inr (11, fM a tp sd pa pb dr)), (a 3, .inl (cN, 85, .inr (.inl (fun _ => 0))))] sz)) 0 0 (va_A [(h0, .inr (11, fM a tp sd pa pb dr)), (a 3, .inl (cN, 85, .inr (.inl (fun _ => 0))))] sz) := by
  refine Met.ofW (cc := cX11_has) (maxL := 3) (ret := (some .long)) (by decide) rfl ?_
  intro p e s m args below meth c s₁ B hml hv
  obtain ⟨rfl, hsz, hP, hK, hD0⟩ := hv
  have hx := B.exec
  have hb := B.bytes
  have hr := B.returns
  have hts := atoms_spec (ws := wp_c_X11_has) B.pre
  have hin_X11 : ∀ w ∈ wsX110, w ∈ wp_c_X11_has := fun _ h => (List.mem_cons_of_mem _ (List.mem_append_right _ (List.mem_append_right _ (List.mem_append_left _ h))))
  have hown : s.vm.findClass RX11 = some m.cls := findClass_of_methodNamed B.named
  have hlocks := B.notSynchronized
  subst hsz
  have hD := hD0.self (sz := s.heap.size)
  generalize hAe : va_A [(h0, .inr (11, fM a tp sd pa pb dr)), (a 3, .inl (cN, 85, .inr (.inl (fun _ => 0))))] s.heap.size = A at hD ⊢
  have hA : ∀ q : Nat, s.heap.size ≤ q → A q := fun q h => by rw [← hAe]; exact Or.inr h
  have hS : va_S A s.heap s.heap [] := va_S.rf
  have hP : va_P D vwCl [(h0, .inr (11, fM a tp sd pa pb dr)), (a 3, .inl (cN, 85, .inr (.inl (fun _ => 0))))] s.heap := hP
  have hl := lv_entry ([.ref h0, .int z1, .int z2]) (n := 3) (Nat.le_of_ble_eq_true rfl)
  rw [lg_entry_eq]
  generalize (lg_sl ([.ref h0, .int z1, .int z2]) ++ List.replicate (3 - (lg_sl ([.ref h0, .int z1, .int z2])).length) Slot.unset).toArray = ls at hl ⊢
  have hl : lv_has ls 3 [(0, .ref h0), (1, .int z1), (2, .int z2)] := hl
  refine lv_aload_n hx hb dX11_has_0 rfl (lv_at hl 0 rfl) ?_
  refine lv_iconst (v := 0) hx hb dX11_has_1 (by decide) ?_
  refine va_put (D := D) (ci := 11) (v := .int 0) (ty := .int) (C := RX11) (T := TX11) (N := 47) hx hb hts hin_X11 tyX11 tyX11_ok nmX11 hown hK hP hD hS 0 rfl rfl 0 (by decide) (hts (.fieldLink RX11 73 "ClashFreeModel" "thrown" "I") (List.mem_of_getElem? (i := 1) rfl)) (fun _ h9 => h9) rfl (by decide +kernel) rfl rfl (Nat.le_of_ble_eq_true rfl) dX11_has_2 (fun H locs hP hD hS => ?_)
  have hP : va_P D vwCl [(h0, .inr (11, fM a tp sd pa pb dr)), (a 3, .inl (cN, 85, .inr (.inl (fun _ => 0))))] H := hP
  have hD : va_D A [(h0, .inr (11, fM a tp sd pa pb dr)), (a 3, .inl (cN, 85, .inr (.inl (fun _ => 0))))] := hD
  refine lv_aload_n hx hb dX11_has_5 rfl (lv_at hl 0 rfl) ?_
  refine lv_iload_n hx hb dX11_has_6 rfl (lv_at hl 1 rfl) ?_
  have hPc := hP.sub (ws' := [(h0, .inr (11, fM a tp sd pa pb dr)), (a 3, .inl (cN, 85, .inr (.inl (fun _ => 0))))]) [0, 1] rfl
  have hKc := hK.sub (tys' := [(cN, .long)]) [0] rfl
  have hFc := va_free0 hS hA
  refine va_calli (va_runV (As := [.int z1]) (rest := []) ⟨hx, hb, hml, hown, hts⟩ (c_isThere l D _ h0 a cN tp sd pa pb dr z1) (cwV 1 hts g_c_X11_has_c_isThere_222 rfl rfl rfl (by decide +kernel) ⟨(Nat.le_of_ble_eq_true rfl), (Nat.le_of_ble_eq_true rfl)⟩) (PcR_V (q0 := 0) hPc hKc rfl rfl) rfl rfl hl.1 rfl (lv_room (Nat.le_of_ble_eq_true rfl)) dX11_has_7 ⟨(Nat.le_of_ble_eq_true rfl), (Nat.le_of_ble_eq_true rfl)⟩) hS (fun q _ h => hFc q h) hFc (fun r1 uu tt H locs htt hvm hw hB hz1 hk1 hS => ?_)
  have hP := va_keep hP hk1
  try dsimp only at hw
  clear hB hz1 hk1 hFc hPc hKc
  obtain rfl : r1 = 0 := hw
  refine lv_if_ne (tgt := 17) hx hb dX11_has_10 (by decide) (fun hc => absurd (by decide) hc) (fun hc => ?_)
  refine lv_ldc2 (v := (-1000000000000000)) hx hb hown (hts (.constantLong RX11 235 (-1000000000000000)) (List.mem_of_getElem? (i := 6) rfl)) dX11_has_13 ?_
  exact W.lret (v := (-1000000000000000)) hx hb hr (fun t ht hW => ⟨⟨(-1000000000000000), (), rfl, rfl, trivial⟩, hS.F ht⟩) hS.2.2 dX11_has_16

def own_c_X11_bucket : List Cond := [.fieldLink RX11 73 "ClashFreeModel" "thrown" "I", .methodLink RX11 246 yX11_isBucket, .instanceMethod yX11_isBucket, .selects RX11 yX11_isBucket yX11_isBucket, .initialized RX11, .constantLong RX11 235 (-1000000000000000)]
def wp_c_X11_bucket : List Cond := .code yX11_bucket cX11_bucket 5 (some .long) :: (own_c_X11_bucket ++ (wp_c_isBucket ++ (wsX110 ++ ([] : List Cond))))
set_option maxRecDepth 20000 in
theorem inown_c_X11_bucket : ∀ w ∈ own_c_X11_bucket, w ∈ lw_tbl := mem_places [1216, 1541, 1543, 65, 115, 1517] (by decide +kernel)
set_option maxRecDepth 20000 in
theorem in_c_X11_bucket : ∀ w ∈ wp_c_X11_bucket, w ∈ lw_tbl := List.forall_mem_cons.mpr ⟨List.mem_of_getElem? (i := 1540) (by decide +kernel), List.forall_mem_append.mpr ⟨inown_c_X11_bucket, List.forall_mem_append.mpr ⟨in_c_isBucket, List.forall_mem_append.mpr ⟨lwb_X11, fun _ h => absurd h List.not_mem_nil⟩⟩⟩⟩
set_option maxRecDepth 20000 in
theorem good_c_X11_bucket : wp_c_X11_bucket.all goodWord = true := by decide +kernel
set_option maxRecDepth 20000 in
theorem g_c_X11_bucket_c_isBucket_246 : GoodIn wp_c_X11_bucket (wsV RX11 246 RX11 yX11_isBucket wp_c_isBucket) := goodIn_sub (List.forall_mem_append.mpr ⟨List.forall_mem_cons.mpr ⟨(List.mem_of_getElem? (i := 2) rfl), List.forall_mem_cons.mpr ⟨(List.mem_of_getElem? (i := 3) rfl), List.forall_mem_cons.mpr ⟨(List.mem_of_getElem? (i := 4) rfl), List.forall_mem_cons.mpr ⟨(List.mem_of_getElem? (i := 5) rfl), fun _ h => absurd h List.not_mem_nil⟩⟩⟩⟩, (fun _ h => (List.mem_cons_of_mem _ (List.mem_append_right _ (List.mem_append_left _ h))))⟩) (by decide +kernel)
set_option maxHeartbeats 4000000 in
set_option maxRecDepth 100000 in
theorem c_X11_bucket (l : Launch) (D : va_G) (sz : Nat) (h0 : Nat) (a : Nat → Nat) (cN : ClassId) (tp : Int32) (sd : Int64) (pa : Int64) (pb : Int64) (dr : Int32) (z1 : Int32) (z2 : Int32) (z3 : Int32)  : Met l yX11_bucket wp_c_X11_bucket ({ frames := 3, cells := 0, slots := 0, locals := 68 }) (PcW D [.ref h0, .int z1, .int z2, .int z3] sz [(h0, .inr (11, fM a tp sd pa pb dr)), (a 3, .inl (cN, 85, .inr (.inl (fun _ => 0))))] [(cN, .long)]) (va_Ql (fun (r : Int64) (_ : Unit) => r = (-1000000000000000)) (fun (_ : Unit) _ => True) (va_A [(h0, .inr (11, fM a tp sd pa pb dr)), (a 3, .inl (cN, 85, .inr (.inl (fun _ => 0))))] sz)) 0 0 (va_A [(h0, .inr (11, fM a tp sd pa pb dr)), (a 3, .inl (cN, 85, .inr (.inl (fun _ => 0))))] sz) := by
  refine Met.ofW (cc := cX11_bucket) (maxL := 5) (ret := (some .long)) (by decide) rfl ?_
  intro p e s m args below meth c s₁ B hml hv
  obtain ⟨rfl, hsz, hP, hK, hD0⟩ := hv
  have hx := B.exec
  have hb := B.bytes
  have hr := B.returns
  have hts := atoms_spec (ws := wp_c_X11_bucket) B.pre
  have hin_X11 : ∀ w ∈ wsX110, w ∈ wp_c_X11_bucket := fun _ h => (List.mem_cons_of_mem _ (List.mem_append_right _ (List.mem_append_right _ (List.mem_append_left _ h))))
  have hown : s.vm.findClass RX11 = some m.cls := findClass_of_methodNamed B.named
  have hlocks := B.notSynchronized
  subst hsz
  have hD := hD0.self (sz := s.heap.size)
  generalize hAe : va_A [(h0, .inr (11, fM a tp sd pa pb dr)), (a 3, .inl (cN, 85, .inr (.inl (fun _ => 0))))] s.heap.size = A at hD ⊢
  have hA : ∀ q : Nat, s.heap.size ≤ q → A q := fun q h => by rw [← hAe]; exact Or.inr h
  have hS : va_S A s.heap s.heap [] := va_S.rf
  have hP : va_P D vwCl [(h0, .inr (11, fM a tp sd pa pb dr)), (a 3, .inl (cN, 85, .inr (.inl (fun _ => 0))))] s.heap := hP
  have hl := lv_entry ([.ref h0, .int z1, .int z2, .int z3]) (n := 5) (Nat.le_of_ble_eq_true rfl)
  rw [lg_entry_eq]
  generalize (lg_sl ([.ref h0, .int z1, .int z2, .int z3]) ++ List.replicate (5 - (lg_sl ([.ref h0, .int z1, .int z2, .int z3])).length) Slot.unset).toArray = ls at hl ⊢
  have hl : lv_has ls 5 [(0, .ref h0), (1, .int z1), (2, .int z2), (3, .int z3)] := hl
  refine lv_aload_n hx hb dX11_bucket_0 rfl (lv_at hl 0 rfl) ?_
  refine lv_iconst (v := 0) hx hb dX11_bucket_1 (by decide) ?_
  refine va_put (D := D) (ci := 11) (v := .int 0) (ty := .int) (C := RX11) (T := TX11) (N := 47) hx hb hts hin_X11 tyX11 tyX11_ok nmX11 hown hK hP hD hS 0 rfl rfl 0 (by decide) (hts (.fieldLink RX11 73 "ClashFreeModel" "thrown" "I") (List.mem_of_getElem? (i := 1) rfl)) (fun _ h9 => h9) rfl (by decide +kernel) rfl rfl (Nat.le_of_ble_eq_true rfl) dX11_bucket_2 (fun H locs hP hD hS => ?_)
  have hP : va_P D vwCl [(h0, .inr (11, fM a tp sd pa pb dr)), (a 3, .inl (cN, 85, .inr (.inl (fun _ => 0))))] H := hP
  have hD : va_D A [(h0, .inr (11, fM a tp sd pa pb dr)), (a 3, .inl (cN, 85, .inr (.inl (fun _ => 0))))] := hD
  refine lv_aload_n hx hb dX11_bucket_5 rfl (lv_at hl 0 rfl) ?_
  refine lv_iload_n hx hb dX11_bucket_6 rfl (lv_at hl 1 rfl) ?_
  refine lv_iload_n hx hb dX11_bucket_7 rfl (lv_at hl 2 rfl) ?_
  have hPc := hP.sub (ws' := [(h0, .inr (11, fM a tp sd pa pb dr)), (a 3, .inl (cN, 85, .inr (.inl (fun _ => 0))))]) [0, 1] rfl
  have hKc := hK.sub (tys' := [(cN, .long)]) [0] rfl
  have hFc := va_free0 hS hA
  refine va_calli (va_runV (As := [.int z1, .int z2]) (rest := []) ⟨hx, hb, hml, hown, hts⟩ (c_isBucket l D _ h0 a cN tp sd pa pb dr z1 z2) (cwV 2 hts g_c_X11_bucket_c_isBucket_246 rfl rfl rfl (by decide +kernel) ⟨(Nat.le_of_ble_eq_true rfl), (Nat.le_of_ble_eq_true rfl)⟩) (PcR_V (q0 := 0) hPc hKc rfl rfl) rfl rfl hl.1 rfl (lv_room (Nat.le_of_ble_eq_true rfl)) dX11_bucket_8 ⟨(Nat.le_of_ble_eq_true rfl), (Nat.le_of_ble_eq_true rfl)⟩) hS (fun q _ h => hFc q h) hFc (fun r1 uu tt H locs htt hvm hw hB hz1 hk1 hS => ?_)
  have hP := va_keep hP hk1
  try dsimp only at hw
  clear hB hz1 hk1 hFc hPc hKc
  obtain rfl : r1 = 0 := hw
  refine lv_if_ne (tgt := 18) hx hb dX11_bucket_11 (by decide) (fun hc => absurd (by decide) hc) (fun hc => ?_)
  refine lv_ldc2 (v := (-1000000000000000)) hx hb hown (hts (.constantLong RX11 235 (-1000000000000000)) (List.mem_of_getElem? (i := 6) rfl)) dX11_bucket_14 ?_
  exact W.lret (v := (-1000000000000000)) hx hb hr (fun t ht hW => ⟨⟨(-1000000000000000), (), rfl, rfl, trivial⟩, hS.F ht⟩) hS.2.2 dX11_bucket_17

def own_c_X11_room : List Cond := [.fieldLink RX11 73 "ClashFreeModel" "thrown" "I", .methodLink RX11 246 yX11_isBucket, .instanceMethod yX11_isBucket, .selects RX11 yX11_isBucket yX11_isBucket, .initialized RX11]
def wp_c_X11_room : List Cond := .code yX11_room cX11_room 5 (some .int) :: (own_c_X11_room ++ (wp_c_isBucket ++ (wsX110 ++ ([] : List Cond))))
set_option maxRecDepth 20000 in
theorem inown_c_X11_room : ∀ w ∈ own_c_X11_room, w ∈ lw_tbl := mem_places [1216, 1541, 1543, 65, 115] (by decide +kernel)
set_option maxRecDepth 20000 in
theorem in_c_X11_room : ∀ w ∈ wp_c_X11_room, w ∈ lw_tbl := List.forall_mem_cons.mpr ⟨List.mem_of_getElem? (i := 1548) (by decide +kernel), List.forall_mem_append.mpr ⟨inown_c_X11_room, List.forall_mem_append.mpr ⟨in_c_isBucket, List.forall_mem_append.mpr ⟨lwb_X11, fun _ h => absurd h List.not_mem_nil⟩⟩⟩⟩
set_option maxRecDepth 20000 in
theorem good_c_X11_room : wp_c_X11_room.all goodWord = true := by decide +kernel
set_option maxRecDepth 20000 in
theorem g_c_X11_room_c_isBucket_246 : GoodIn wp_c_X11_room (wsV RX11 246 RX11 yX11_isBucket wp_c_isBucket) := goodIn_sub (List.forall_mem_append.mpr ⟨List.forall_mem_cons.mpr ⟨(List.mem_of_getElem? (i := 2) rfl), List.forall_mem_cons.mpr ⟨(List.mem_of_getElem? (i := 3) rfl), List.forall_mem_cons.mpr ⟨(List.mem_of_getElem? (i := 4) rfl), List.forall_mem_cons.mpr ⟨(List.mem_of_getElem? (i := 5) rfl), fun _ h => absurd h List.not_mem_nil⟩⟩⟩⟩, (fun _ h => (List.mem_cons_of_mem _ (List.mem_append_right _ (List.mem_append_left _ h))))⟩) (by decide +kernel)
set_option maxHeartbeats 4000000 in
set_option maxRecDepth 100000 in
theorem c_X11_room (l : Launch) (D : va_G) (sz : Nat) (h0 : Nat) (a : Nat → Nat) (cN : ClassId) (tp : Int32) (sd : Int64) (pa : Int64) (pb : Int64) (dr : Int32) (z1 : Int32) (z2 : Int32) (z3 : Int32)  : Met l yX11_room wp_c_X11_room ({ frames := 3, cells := 0, slots := 0, locals := 68 }) (PcW D [.ref h0, .int z1, .int z2, .int z3] sz [(h0, .inr (11, fM a tp sd pa pb dr)), (a 3, .inl (cN, 85, .inr (.inl (fun _ => 0))))] [(cN, .long)]) (va_Qi (fun (r : Int32) (_ : Unit) => r = (-2)) (fun (_ : Unit) _ => True) (va_A [(h0, .inr (11, fM a tp sd pa pb dr)), (a 3, .inl (cN, 85, .inr (.inl (fun _ => 0))))] sz)) 0 0 (va_A [(h0, .inr (11, fM a tp sd pa pb dr)), (a 3, .inl (cN, 85, .inr (.inl (fun _ => 0))))] sz) := by
  refine Met.ofW (cc := cX11_room) (maxL := 5) (ret := (some .int)) (by decide) rfl ?_
  intro p e s m args below meth c s₁ B hml hv
  obtain ⟨rfl, hsz, hP, hK, hD0⟩ := hv
  have hx := B.exec
  have hb := B.bytes
  have hr := B.returns
  have hts := atoms_spec (ws := wp_c_X11_room) B.pre
  have hin_X11 : ∀ w ∈ wsX110, w ∈ wp_c_X11_room := fun _ h => (List.mem_cons_of_mem _ (List.mem_append_right _ (List.mem_append_right _ (List.mem_append_left _ h))))
  have hown : s.vm.findClass RX11 = some m.cls := findClass_of_methodNamed B.named
  have hlocks := B.notSynchronized
  subst hsz
  have hD := hD0.self (sz := s.heap.size)
  generalize hAe : va_A [(h0, .inr (11, fM a tp sd pa pb dr)), (a 3, .inl (cN, 85, .inr (.inl (fun _ => 0))))] s.heap.size = A at hD ⊢
  have hA : ∀ q : Nat, s.heap.size ≤ q → A q := fun q h => by rw [← hAe]; exact Or.inr h
  have hS : va_S A s.heap s.heap [] := va_S.rf
  have hP : va_P D vwCl [(h0, .inr (11, fM a tp sd pa pb dr)), (a 3, .inl (cN, 85, .inr (.inl (fun _ => 0))))] s.heap := hP
  have hl := lv_entry ([.ref h0, .int z1, .int z2, .int z3]) (n := 5) (Nat.le_of_ble_eq_true rfl)
  rw [lg_entry_eq]
  generalize (lg_sl ([.ref h0, .int z1, .int z2, .int z3]) ++ List.replicate (5 - (lg_sl ([.ref h0, .int z1, .int z2, .int z3])).length) Slot.unset).toArray = ls at hl ⊢
  have hl : lv_has ls 5 [(0, .ref h0), (1, .int z1), (2, .int z2), (3, .int z3)] := hl
  refine lv_aload_n hx hb dX11_room_0 rfl (lv_at hl 0 rfl) ?_
  refine lv_iconst (v := 0) hx hb dX11_room_1 (by decide) ?_
  refine va_put (D := D) (ci := 11) (v := .int 0) (ty := .int) (C := RX11) (T := TX11) (N := 47) hx hb hts hin_X11 tyX11 tyX11_ok nmX11 hown hK hP hD hS 0 rfl rfl 0 (by decide) (hts (.fieldLink RX11 73 "ClashFreeModel" "thrown" "I") (List.mem_of_getElem? (i := 1) rfl)) (fun _ h9 => h9) rfl (by decide +kernel) rfl rfl (Nat.le_of_ble_eq_true rfl) dX11_room_2 (fun H locs hP hD hS => ?_)
  have hP : va_P D vwCl [(h0, .inr (11, fM a tp sd pa pb dr)), (a 3, .inl (cN, 85, .inr (.inl (fun _ => 0))))] H := hP
  have hD : va_D A [(h0, .inr (11, fM a tp sd pa pb dr)), (a 3, .inl (cN, 85, .inr (.inl (fun _ => 0))))] := hD
  refine lv_aload_n hx hb dX11_room_5 rfl (lv_at hl 0 rfl) ?_
  refine lv_iload_n hx hb dX11_room_6 rfl (lv_at hl 1 rfl) ?_
  refine lv_iload_n hx hb dX11_room_7 rfl (lv_at hl 2 rfl) ?_
  have hPc := hP.sub (ws' := [(h0, .inr (11, fM a tp sd pa pb dr)), (a 3, .inl (cN, 85, .inr (.inl (fun _ => 0))))]) [0, 1] rfl
  have hKc := hK.sub (tys' := [(cN, .long)]) [0] rfl
  have hFc := va_free0 hS hA
  refine va_calli (va_runV (As := [.int z1, .int z2]) (rest := []) ⟨hx, hb, hml, hown, hts⟩ (c_isBucket l D _ h0 a cN tp sd pa pb dr z1 z2) (cwV 2 hts g_c_X11_room_c_isBucket_246 rfl rfl rfl (by decide +kernel) ⟨(Nat.le_of_ble_eq_true rfl), (Nat.le_of_ble_eq_true rfl)⟩) (PcR_V (q0 := 0) hPc hKc rfl rfl) rfl rfl hl.1 rfl (lv_room (Nat.le_of_ble_eq_true rfl)) dX11_room_8 ⟨(Nat.le_of_ble_eq_true rfl), (Nat.le_of_ble_eq_true rfl)⟩) hS (fun q _ h => hFc q h) hFc (fun r1 uu tt H locs htt hvm hw hB hz1 hk1 hS => ?_)
  have hP := va_keep hP hk1
  try dsimp only at hw
  clear hB hz1 hk1 hFc hPc hKc
  obtain rfl : r1 = 0 := hw
  refine lv_if_eq (tgt := 32) hx hb dX11_room_11 (by decide) (fun hc => ?_) (fun hc => absurd (by decide) hc)
  refine lv_bipush (v := (-2)) hx hb dX11_room_32 (by decide) ?_
  exact W.iret (v := (-2)) hx hb hr (fun t ht hW => ⟨⟨(-2), (), rfl, rfl, trivial⟩, hS.F ht⟩) hS.2.2 dX11_room_34

def own_c_X11_place : List Cond := [.fieldLink RX11 73 "ClashFreeModel" "thrown" "I", .methodLink RX11 222 yX11_isThere, .instanceMethod yX11_isThere, .selects RX11 yX11_isThere yX11_isThere, .initialized RX11]
def wp_c_X11_place : List Cond := .code yX11_place cX11_place 5 (some .int) :: (own_c_X11_place ++ (wp_c_isThere ++ (wsX110 ++ ([] : List Cond))))
set_option maxRecDepth 20000 in
theorem inown_c_X11_place : ∀ w ∈ own_c_X11_place, w ∈ lw_tbl := mem_places [1216, 1466, 1468, 54, 115] (by decide +kernel)
set_option maxRecDepth 20000 in
theorem in_c_X11_place : ∀ w ∈ wp_c_X11_place, w ∈ lw_tbl := List.forall_mem_cons.mpr ⟨List.mem_of_getElem? (i := 1552) (by decide +kernel), List.forall_mem_append.mpr ⟨inown_c_X11_place, List.forall_mem_append.mpr ⟨in_c_isThere, List.forall_mem_append.mpr ⟨lwb_X11, fun _ h => absurd h List.not_mem_nil⟩⟩⟩⟩
set_option maxRecDepth 20000 in
theorem good_c_X11_place : wp_c_X11_place.all goodWord = true := by decide +kernel
set_option maxRecDepth 20000 in
theorem g_c_X11_place_c_isThere_222 : GoodIn wp_c_X11_place (wsV RX11 222 RX11 yX11_isThere wp_c_isThere) := goodIn_sub (List.forall_mem_append.mpr ⟨List.forall_mem_cons.mpr ⟨(List.mem_of_getElem? (i := 2) rfl), List.forall_mem_cons.mpr ⟨(List.mem_of_getElem? (i := 3) rfl), List.forall_mem_cons.mpr ⟨(List.mem_of_getElem? (i := 4) rfl), List.forall_mem_cons.mpr ⟨(List.mem_of_getElem? (i := 5) rfl), fun _ h => absurd h List.not_mem_nil⟩⟩⟩⟩, (fun _ h => (List.mem_cons_of_mem _ (List.mem_append_right _ (List.mem_append_left _ h))))⟩) (by decide +kernel)
set_option maxHeartbeats 4000000 in
set_option maxRecDepth 100000 in
theorem c_X11_place (l : Launch) (D : va_G) (sz : Nat) (h0 : Nat) (a : Nat → Nat) (cN : ClassId) (tp : Int32) (sd : Int64) (pa : Int64) (pb : Int64) (dr : Int32) (z1 : Int32) (z2 : Int32) (z3 : Int32)  : Met l yX11_place wp_c_X11_place ({ frames := 2, cells := 0, slots := 0, locals := 46 }) (PcW D [.ref h0, .int z1, .int z2, .int z3] sz [(h0, .inr (11, fM a tp sd pa pb dr)), (a 3, .inl (cN, 85, .inr (.inl (fun _ => 0))))] [(cN, .long)]) (va_Qi (fun (r : Int32) (_ : Unit) => r = (-2)) (fun (_ : Unit) _ => True) (va_A [(h0, .inr (11, fM a tp sd pa pb dr)), (a 3, .inl (cN, 85, .inr (.inl (fun _ => 0))))] sz)) 0 0 (va_A [(h0, .inr (11, fM a tp sd pa pb dr)), (a 3, .inl (cN, 85, .inr (.inl (fun _ => 0))))] sz) := by
  refine Met.ofW (cc := cX11_place) (maxL := 5) (ret := (some .int)) (by decide) rfl ?_
  intro p e s m args below meth c s₁ B hml hv
  obtain ⟨rfl, hsz, hP, hK, hD0⟩ := hv
  have hx := B.exec
  have hb := B.bytes
  have hr := B.returns
  have hts := atoms_spec (ws := wp_c_X11_place) B.pre
  have hin_X11 : ∀ w ∈ wsX110, w ∈ wp_c_X11_place := fun _ h => (List.mem_cons_of_mem _ (List.mem_append_right _ (List.mem_append_right _ (List.mem_append_left _ h))))
  have hown : s.vm.findClass RX11 = some m.cls := findClass_of_methodNamed B.named
  have hlocks := B.notSynchronized
  subst hsz
  have hD := hD0.self (sz := s.heap.size)
  generalize hAe : va_A [(h0, .inr (11, fM a tp sd pa pb dr)), (a 3, .inl (cN, 85, .inr (.inl (fun _ => 0))))] s.heap.size = A at hD ⊢
  have hA : ∀ q : Nat, s.heap.size ≤ q → A q := fun q h => by rw [← hAe]; exact Or.inr h
  have hS : va_S A s.heap s.heap [] := va_S.rf
  have hP : va_P D vwCl [(h0, .inr (11, fM a tp sd pa pb dr)), (a 3, .inl (cN, 85, .inr (.inl (fun _ => 0))))] s.heap := hP
  have hl := lv_entry ([.ref h0, .int z1, .int z2, .int z3]) (n := 5) (Nat.le_of_ble_eq_true rfl)
  rw [lg_entry_eq]
  generalize (lg_sl ([.ref h0, .int z1, .int z2, .int z3]) ++ List.replicate (5 - (lg_sl ([.ref h0, .int z1, .int z2, .int z3])).length) Slot.unset).toArray = ls at hl ⊢
  have hl : lv_has ls 5 [(0, .ref h0), (1, .int z1), (2, .int z2), (3, .int z3)] := hl
  refine lv_aload_n hx hb dX11_place_0 rfl (lv_at hl 0 rfl) ?_
  refine lv_iconst (v := 0) hx hb dX11_place_1 (by decide) ?_
  refine va_put (D := D) (ci := 11) (v := .int 0) (ty := .int) (C := RX11) (T := TX11) (N := 47) hx hb hts hin_X11 tyX11 tyX11_ok nmX11 hown hK hP hD hS 0 rfl rfl 0 (by decide) (hts (.fieldLink RX11 73 "ClashFreeModel" "thrown" "I") (List.mem_of_getElem? (i := 1) rfl)) (fun _ h9 => h9) rfl (by decide +kernel) rfl rfl (Nat.le_of_ble_eq_true rfl) dX11_place_2 (fun H locs hP hD hS => ?_)
  have hP : va_P D vwCl [(h0, .inr (11, fM a tp sd pa pb dr)), (a 3, .inl (cN, 85, .inr (.inl (fun _ => 0))))] H := hP
  have hD : va_D A [(h0, .inr (11, fM a tp sd pa pb dr)), (a 3, .inl (cN, 85, .inr (.inl (fun _ => 0))))] := hD
  refine lv_aload_n hx hb dX11_place_5 rfl (lv_at hl 0 rfl) ?_
  refine lv_iload_n hx hb dX11_place_6 rfl (lv_at hl 1 rfl) ?_
  have hPc := hP.sub (ws' := [(h0, .inr (11, fM a tp sd pa pb dr)), (a 3, .inl (cN, 85, .inr (.inl (fun _ => 0))))]) [0, 1] rfl
  have hKc := hK.sub (tys' := [(cN, .long)]) [0] rfl
  have hFc := va_free0 hS hA
  refine va_calli (va_runV (As := [.int z1]) (rest := []) ⟨hx, hb, hml, hown, hts⟩ (c_isThere l D _ h0 a cN tp sd pa pb dr z1) (cwV 1 hts g_c_X11_place_c_isThere_222 rfl rfl rfl (by decide +kernel) ⟨(Nat.le_of_ble_eq_true rfl), (Nat.le_of_ble_eq_true rfl)⟩) (PcR_V (q0 := 0) hPc hKc rfl rfl) rfl rfl hl.1 rfl (lv_room (Nat.le_of_ble_eq_true rfl)) dX11_place_7 ⟨(Nat.le_of_ble_eq_true rfl), (Nat.le_of_ble_eq_true rfl)⟩) hS (fun q _ h => hFc q h) hFc (fun r1 uu tt H locs htt hvm hw hB hz1 hk1 hS => ?_)
  have hP := va_keep hP hk1
  try dsimp only at hw
  clear hB hz1 hk1 hFc hPc hKc
  obtain rfl : r1 = 0 := hw
  refine lv_if_eq (tgt := 30) hx hb dX11_place_10 (by decide) (fun hc => ?_) (fun hc => absurd (by decide) hc)
  refine lv_bipush (v := (-2)) hx hb dX11_place_30 (by decide) ?_
  exact W.iret (v := (-2)) hx hb hr (fun t ht hW => ⟨⟨(-2), (), rfl, rfl, trivial⟩, hS.F ht⟩) hS.2.2 dX11_place_32

def own_c_X11_key : List Cond := [.fieldLink RX11 73 "ClashFreeModel" "thrown" "I", .methodLink RX11 222 yX11_isThere, .instanceMethod yX11_isThere, .selects RX11 yX11_isThere yX11_isThere, .initialized RX11]
def wp_c_X11_key : List Cond := .code yX11_key cX11_key 3 (some .int) :: (own_c_X11_key ++ (wp_c_isThere ++ (wsX110 ++ ([] : List Cond))))
set_option maxRecDepth 20000 in
theorem inown_c_X11_key : ∀ w ∈ own_c_X11_key, w ∈ lw_tbl := mem_places [1216, 1466, 1468, 54, 115] (by decide +kernel)
set_option maxRecDepth 20000 in
theorem in_c_X11_key : ∀ w ∈ wp_c_X11_key, w ∈ lw_tbl := List.forall_mem_cons.mpr ⟨List.mem_of_getElem? (i := 1556) (by decide +kernel), List.forall_mem_append.mpr ⟨inown_c_X11_key, List.forall_mem_append.mpr ⟨in_c_isThere, List.forall_mem_append.mpr ⟨lwb_X11, fun _ h => absurd h List.not_mem_nil⟩⟩⟩⟩
set_option maxRecDepth 20000 in
theorem good_c_X11_key : wp_c_X11_key.all goodWord = true := by decide +kernel
set_option maxRecDepth 20000 in
theorem g_c_X11_key_c_isThere_222 : GoodIn wp_c_X11_key (wsV RX11 222 RX11 yX11_isThere wp_c_isThere) := goodIn_sub (List.forall_mem_append.mpr ⟨List.forall_mem_cons.mpr ⟨(List.mem_of_getElem? (i := 2) rfl), List.forall_mem_cons.mpr ⟨(List.mem_of_getElem? (i := 3) rfl), List.forall_mem_cons.mpr ⟨(List.mem_of_getElem? (i := 4) rfl), List.forall_mem_cons.mpr ⟨(List.mem_of_getElem? (i := 5) rfl), fun _ h => absurd h List.not_mem_nil⟩⟩⟩⟩, (fun _ h => (List.mem_cons_of_mem _ (List.mem_append_right _ (List.mem_append_left _ h))))⟩) (by decide +kernel)
set_option maxHeartbeats 4000000 in
set_option maxRecDepth 100000 in
theorem c_X11_key (l : Launch) (D : va_G) (sz : Nat) (h0 : Nat) (a : Nat → Nat) (cN : ClassId) (tp : Int32) (sd : Int64) (pa : Int64) (pb : Int64) (dr : Int32) (z1 : Int32) (z2 : Int32)  : Met l yX11_key wp_c_X11_key ({ frames := 2, cells := 0, slots := 0, locals := 46 }) (PcW D [.ref h0, .int z1, .int z2] sz [(h0, .inr (11, fM a tp sd pa pb dr)), (a 3, .inl (cN, 85, .inr (.inl (fun _ => 0))))] [(cN, .long)]) (va_Qi (fun (r : Int32) (_ : Unit) => r = (-1)) (fun (_ : Unit) _ => True) (va_A [(h0, .inr (11, fM a tp sd pa pb dr)), (a 3, .inl (cN, 85, .inr (.inl (fun _ => 0))))] sz)) 0 0 (va_A [(h0, .inr (11, fM a tp sd pa pb dr)), (a 3, .inl (cN, 85, .inr (.inl (fun _ => 0))))] sz) := by
  refine Met.ofW (cc := cX11_key) (maxL := 3) (ret := (some .int)) (by decide) rfl ?_
  intro p e s m args below meth c s₁ B hml hv
  obtain ⟨rfl, hsz, hP, hK, hD0⟩ := hv
  have hx := B.exec
  have hb := B.bytes
  have hr := B.returns
  have hts := atoms_spec (ws := wp_c_X11_key) B.pre
  have hin_X11 : ∀ w ∈ wsX110, w ∈ wp_c_X11_key := fun _ h => (List.mem_cons_of_mem _ (List.mem_append_right _ (List.mem_append_right _ (List.mem_append_left _ h))))
  have hown : s.vm.findClass RX11 = some m.cls := findClass_of_methodNamed B.named
  have hlocks := B.notSynchronized
  subst hsz
  have hD := hD0.self (sz := s.heap.size)
  generalize hAe : va_A [(h0, .inr (11, fM a tp sd pa pb dr)), (a 3, .inl (cN, 85, .inr (.inl (fun _ => 0))))] s.heap.size = A at hD ⊢
  have hA : ∀ q : Nat, s.heap.size ≤ q → A q := fun q h => by rw [← hAe]; exact Or.inr h
  have hS : va_S A s.heap s.heap [] := va_S.rf
  have hP : va_P D vwCl [(h0, .inr (11, fM a tp sd pa pb dr)), (a 3, .inl (cN, 85, .inr (.inl (fun _ => 0))))] s.heap := hP
  have hl := lv_entry ([.ref h0, .int z1, .int z2]) (n := 3) (Nat.le_of_ble_eq_true rfl)
  rw [lg_entry_eq]
  generalize (lg_sl ([.ref h0, .int z1, .int z2]) ++ List.replicate (3 - (lg_sl ([.ref h0, .int z1, .int z2])).length) Slot.unset).toArray = ls at hl ⊢
  have hl : lv_has ls 3 [(0, .ref h0), (1, .int z1), (2, .int z2)] := hl
  refine lv_aload_n hx hb dX11_key_0 rfl (lv_at hl 0 rfl) ?_
  refine lv_iconst (v := 0) hx hb dX11_key_1 (by decide) ?_
  refine va_put (D := D) (ci := 11) (v := .int 0) (ty := .int) (C := RX11) (T := TX11) (N := 47) hx hb hts hin_X11 tyX11 tyX11_ok nmX11 hown hK hP hD hS 0 rfl rfl 0 (by decide) (hts (.fieldLink RX11 73 "ClashFreeModel" "thrown" "I") (List.mem_of_getElem? (i := 1) rfl)) (fun _ h9 => h9) rfl (by decide +kernel) rfl rfl (Nat.le_of_ble_eq_true rfl) dX11_key_2 (fun H locs hP hD hS => ?_)
  have hP : va_P D vwCl [(h0, .inr (11, fM a tp sd pa pb dr)), (a 3, .inl (cN, 85, .inr (.inl (fun _ => 0))))] H := hP
  have hD : va_D A [(h0, .inr (11, fM a tp sd pa pb dr)), (a 3, .inl (cN, 85, .inr (.inl (fun _ => 0))))] := hD
  refine lv_aload_n hx hb dX11_key_5 rfl (lv_at hl 0 rfl) ?_
  refine lv_iload_n hx hb dX11_key_6 rfl (lv_at hl 1 rfl) ?_
  have hPc := hP.sub (ws' := [(h0, .inr (11, fM a tp sd pa pb dr)), (a 3, .inl (cN, 85, .inr (.inl (fun _ => 0))))]) [0, 1] rfl
  have hKc := hK.sub (tys' := [(cN, .long)]) [0] rfl
  have hFc := va_free0 hS hA
  refine va_calli (va_runV (As := [.int z1]) (rest := []) ⟨hx, hb, hml, hown, hts⟩ (c_isThere l D _ h0 a cN tp sd pa pb dr z1) (cwV 1 hts g_c_X11_key_c_isThere_222 rfl rfl rfl (by decide +kernel) ⟨(Nat.le_of_ble_eq_true rfl), (Nat.le_of_ble_eq_true rfl)⟩) (PcR_V (q0 := 0) hPc hKc rfl rfl) rfl rfl hl.1 rfl (lv_room (Nat.le_of_ble_eq_true rfl)) dX11_key_7 ⟨(Nat.le_of_ble_eq_true rfl), (Nat.le_of_ble_eq_true rfl)⟩) hS (fun q _ h => hFc q h) hFc (fun r1 uu tt H locs htt hvm hw hB hz1 hk1 hS => ?_)
  have hP := va_keep hP hk1
  try dsimp only at hw
  clear hB hz1 hk1 hFc hPc hKc
  obtain rfl : r1 = 0 := hw
  refine lv_if_eq (tgt := 45) hx hb dX11_key_10 (by decide) (fun hc => ?_) (fun hc => absurd (by decide) hc)
  refine lv_iconst (v := (-1)) hx hb dX11_key_45 (by decide) ?_
  exact W.iret (v := (-1)) hx hb hr (fun t ht hW => ⟨⟨(-1), (), rfl, rfl, trivial⟩, hS.F ht⟩) hS.2.2 dX11_key_46

def own_c_X11_walk : List Cond := [.fieldLink RX11 73 "ClashFreeModel" "thrown" "I", .methodLink RX11 222 yX11_isThere, .instanceMethod yX11_isThere, .selects RX11 yX11_isThere yX11_isThere, .initialized RX11]
def wp_c_X11_walk : List Cond := .code yX11_walk cX11_walk 4 (some .int) :: (own_c_X11_walk ++ (wp_c_isThere ++ (wsX110 ++ ([] : List Cond))))
set_option maxRecDepth 20000 in
theorem inown_c_X11_walk : ∀ w ∈ own_c_X11_walk, w ∈ lw_tbl := mem_places [1216, 1466, 1468, 54, 115] (by decide +kernel)
set_option maxRecDepth 20000 in
theorem in_c_X11_walk : ∀ w ∈ wp_c_X11_walk, w ∈ lw_tbl := List.forall_mem_cons.mpr ⟨List.mem_of_getElem? (i := 1560) (by decide +kernel), List.forall_mem_append.mpr ⟨inown_c_X11_walk, List.forall_mem_append.mpr ⟨in_c_isThere, List.forall_mem_append.mpr ⟨lwb_X11, fun _ h => absurd h List.not_mem_nil⟩⟩⟩⟩
set_option maxRecDepth 20000 in
theorem good_c_X11_walk : wp_c_X11_walk.all goodWord = true := by decide +kernel
set_option maxRecDepth 20000 in
theorem g_c_X11_walk_c_isThere_222 : GoodIn wp_c_X11_walk (wsV RX11 222 RX11 yX11_isThere wp_c_isThere) := goodIn_sub (List.forall_mem_append.mpr ⟨List.forall_mem_cons.mpr ⟨(List.mem_of_getElem? (i := 2) rfl), List.forall_mem_cons.mpr ⟨(List.mem_of_getElem? (i := 3) rfl), List.forall_mem_cons.mpr ⟨(List.mem_of_getElem? (i := 4) rfl), List.forall_mem_cons.mpr ⟨(List.mem_of_getElem? (i := 5) rfl), fun _ h => absurd h List.not_mem_nil⟩⟩⟩⟩, (fun _ h => (List.mem_cons_of_mem _ (List.mem_append_right _ (List.mem_append_left _ h))))⟩) (by decide +kernel)
set_option maxHeartbeats 4000000 in
set_option maxRecDepth 100000 in
theorem c_X11_walk (l : Launch) (D : va_G) (sz : Nat) (h0 : Nat) (a : Nat → Nat) (cN : ClassId) (tp : Int32) (sd : Int64) (pa : Int64) (pb : Int64) (dr : Int32) (z1 : Int32) (z2 : Int32)  : Met l yX11_walk wp_c_X11_walk ({ frames := 2, cells := 0, slots := 0, locals := 46 }) (PcW D [.ref h0, .int z1, .int z2] sz [(h0, .inr (11, fM a tp sd pa pb dr)), (a 3, .inl (cN, 85, .inr (.inl (fun _ => 0))))] [(cN, .long)]) (va_Qi (fun (r : Int32) (_ : Unit) => r = (-1)) (fun (_ : Unit) _ => True) (va_A [(h0, .inr (11, fM a tp sd pa pb dr)), (a 3, .inl (cN, 85, .inr (.inl (fun _ => 0))))] sz)) 0 0 (va_A [(h0, .inr (11, fM a tp sd pa pb dr)), (a 3, .inl (cN, 85, .inr (.inl (fun _ => 0))))] sz) := by
  refine Met.ofW (cc := cX11_walk) (maxL := 4) (ret := (some .int)) (by decide) rfl ?_
  intro p e s m args below meth c s₁ B hml hv
  obtain ⟨rfl, hsz, hP, hK, hD0⟩ := hv
  have hx := B.exec
  have hb := B.bytes
  have hr := B.returns
  have hts := atoms_spec (ws := wp_c_X11_walk) B.pre
  have hin_X11 : ∀ w ∈ wsX110, w ∈ wp_c_X11_walk := fun _ h => (List.mem_cons_of_mem _ (List.mem_append_right _ (List.mem_append_right _ (List.mem_append_left _ h))))
  have hown : s.vm.findClass RX11 = some m.cls := findClass_of_methodNamed B.named
  have hlocks := B.notSynchronized
  subst hsz
  have hD := hD0.self (sz := s.heap.size)
  generalize hAe : va_A [(h0, .inr (11, fM a tp sd pa pb dr)), (a 3, .inl (cN, 85, .inr (.inl (fun _ => 0))))] s.heap.size = A at hD ⊢
  have hA : ∀ q : Nat, s.heap.size ≤ q → A q := fun q h => by rw [← hAe]; exact Or.inr h
  have hS : va_S A s.heap s.heap [] := va_S.rf
  have hP : va_P D vwCl [(h0, .inr (11, fM a tp sd pa pb dr)), (a 3, .inl (cN, 85, .inr (.inl (fun _ => 0))))] s.heap := hP
  have hl := lv_entry ([.ref h0, .int z1, .int z2]) (n := 4) (Nat.le_of_ble_eq_true rfl)
  rw [lg_entry_eq]
  generalize (lg_sl ([.ref h0, .int z1, .int z2]) ++ List.replicate (4 - (lg_sl ([.ref h0, .int z1, .int z2])).length) Slot.unset).toArray = ls at hl ⊢
  have hl : lv_has ls 4 [(0, .ref h0), (1, .int z1), (2, .int z2)] := hl
  refine lv_aload_n hx hb dX11_walk_0 rfl (lv_at hl 0 rfl) ?_
  refine lv_iconst (v := 0) hx hb dX11_walk_1 (by decide) ?_
  refine va_put (D := D) (ci := 11) (v := .int 0) (ty := .int) (C := RX11) (T := TX11) (N := 47) hx hb hts hin_X11 tyX11 tyX11_ok nmX11 hown hK hP hD hS 0 rfl rfl 0 (by decide) (hts (.fieldLink RX11 73 "ClashFreeModel" "thrown" "I") (List.mem_of_getElem? (i := 1) rfl)) (fun _ h9 => h9) rfl (by decide +kernel) rfl rfl (Nat.le_of_ble_eq_true rfl) dX11_walk_2 (fun H locs hP hD hS => ?_)
  have hP : va_P D vwCl [(h0, .inr (11, fM a tp sd pa pb dr)), (a 3, .inl (cN, 85, .inr (.inl (fun _ => 0))))] H := hP
  have hD : va_D A [(h0, .inr (11, fM a tp sd pa pb dr)), (a 3, .inl (cN, 85, .inr (.inl (fun _ => 0))))] := hD
  refine lv_aload_n hx hb dX11_walk_5 rfl (lv_at hl 0 rfl) ?_
  refine lv_iload_n hx hb dX11_walk_6 rfl (lv_at hl 1 rfl) ?_
  have hPc := hP.sub (ws' := [(h0, .inr (11, fM a tp sd pa pb dr)), (a 3, .inl (cN, 85, .inr (.inl (fun _ => 0))))]) [0, 1] rfl
  have hKc := hK.sub (tys' := [(cN, .long)]) [0] rfl
  have hFc := va_free0 hS hA
  refine va_calli (va_runV (As := [.int z1]) (rest := []) ⟨hx, hb, hml, hown, hts⟩ (c_isThere l D _ h0 a cN tp sd pa pb dr z1) (cwV 1 hts g_c_X11_walk_c_isThere_222 rfl rfl rfl (by decide +kernel) ⟨(Nat.le_of_ble_eq_true rfl), (Nat.le_of_ble_eq_true rfl)⟩) (PcR_V (q0 := 0) hPc hKc rfl rfl) rfl rfl hl.1 rfl (lv_room (Nat.le_of_ble_eq_true rfl)) dX11_walk_7 ⟨(Nat.le_of_ble_eq_true rfl), (Nat.le_of_ble_eq_true rfl)⟩) hS (fun q _ h => hFc q h) hFc (fun r1 uu tt H locs htt hvm hw hB hz1 hk1 hS => ?_)
  have hP := va_keep hP hk1
  try dsimp only at hw
  clear hB hz1 hk1 hFc hPc hKc
  obtain rfl : r1 = 0 := hw
  refine lv_if_ne (tgt := 15) hx hb dX11_walk_10 (by decide) (fun hc => absurd (by decide) hc) (fun hc => ?_)
  refine lv_iconst (v := (-1)) hx hb dX11_walk_13 (by decide) ?_
  exact W.iret (v := (-1)) hx hb hr (fun t ht hW => ⟨⟨(-1), (), rfl, rfl, trivial⟩, hS.F ht⟩) hS.2.2 dX11_walk_14

def own_c_X11_below : List Cond := [.fieldLink RX11 73 "ClashFreeModel" "thrown" "I", .methodLink RX11 222 yX11_isThere, .instanceMethod yX11_isThere, .selects RX11 yX11_isThere yX11_isThere, .initialized RX11]
def wp_c_X11_below : List Cond := .code yX11_below cX11_below 3 (some .int) :: (own_c_X11_below ++ (wp_c_isThere ++ (wsX110 ++ ([] : List Cond))))
set_option maxRecDepth 20000 in
theorem inown_c_X11_below : ∀ w ∈ own_c_X11_below, w ∈ lw_tbl := mem_places [1216, 1466, 1468, 54, 115] (by decide +kernel)
set_option maxRecDepth 20000 in
theorem in_c_X11_below : ∀ w ∈ wp_c_X11_below, w ∈ lw_tbl := List.forall_mem_cons.mpr ⟨List.mem_of_getElem? (i := 1568) (by decide +kernel), List.forall_mem_append.mpr ⟨inown_c_X11_below, List.forall_mem_append.mpr ⟨in_c_isThere, List.forall_mem_append.mpr ⟨lwb_X11, fun _ h => absurd h List.not_mem_nil⟩⟩⟩⟩
set_option maxRecDepth 20000 in
theorem good_c_X11_below : wp_c_X11_below.all goodWord = true := by decide +kernel
set_option maxRecDepth 20000 in
theorem g_c_X11_below_c_isThere_222 : GoodIn wp_c_X11_below (wsV RX11 222 RX11 yX11_isThere wp_c_isThere) := goodIn_sub (List.forall_mem_append.mpr ⟨List.forall_mem_cons.mpr ⟨(List.mem_of_getElem? (i := 2) rfl), List.forall_mem_cons.mpr ⟨(List.mem_of_getElem? (i := 3) rfl), List.forall_mem_cons.mpr ⟨(List.mem_of_getElem? (i := 4) rfl), List.forall_mem_cons.mpr ⟨(List.mem_of_getElem? (i := 5) rfl), fun _ h => absurd h List.not_mem_nil⟩⟩⟩⟩, (fun _ h => (List.mem_cons_of_mem _ (List.mem_append_right _ (List.mem_append_left _ h))))⟩) (by decide +kernel)
set_option maxHeartbeats 4000000 in
set_option maxRecDepth 100000 in
theorem c_X11_below (l : Launch) (D : va_G) (sz : Nat) (h0 : Nat) (a : Nat → Nat) (cN : ClassId) (tp : Int32) (sd : Int64) (pa : Int64) (pb : Int64) (dr : Int32) (z1 : Int32) (z2 : Int32)  : Met l yX11_below wp_c_X11_below ({ frames := 2, cells := 0, slots := 0, locals := 46 }) (PcW D [.ref h0, .int z1, .int z2] sz [(h0, .inr (11, fM a tp sd pa pb dr)), (a 3, .inl (cN, 85, .inr (.inl (fun _ => 0))))] [(cN, .long)]) (va_Qi (fun (r : Int32) (_ : Unit) => r = (-1)) (fun (_ : Unit) _ => True) (va_A [(h0, .inr (11, fM a tp sd pa pb dr)), (a 3, .inl (cN, 85, .inr (.inl (fun _ => 0))))] sz)) 0 0 (va_A [(h0, .inr (11, fM a tp sd pa pb dr)), (a 3, .inl (cN, 85, .inr (.inl (fun _ => 0))))] sz) := by
  refine Met.ofW (cc := cX11_below) (maxL := 3) (ret := (some .int)) (by decide) rfl ?_
  intro p e s m args below meth c s₁ B hml hv
  obtain ⟨rfl, hsz, hP, hK, hD0⟩ := hv
  have hx := B.exec
  have hb := B.bytes
  have hr := B.returns
  have hts := atoms_spec (ws := wp_c_X11_below) B.pre
  have hin_X11 : ∀ w ∈ wsX110, w ∈ wp_c_X11_below := fun _ h => (List.mem_cons_of_mem _ (List.mem_append_right _ (List.mem_append_right _ (List.mem_append_left _ h))))
  have hown : s.vm.findClass RX11 = some m.cls := findClass_of_methodNamed B.named
  have hlocks := B.notSynchronized
  subst hsz
  have hD := hD0.self (sz := s.heap.size)
  generalize hAe : va_A [(h0, .inr (11, fM a tp sd pa pb dr)), (a 3, .inl (cN, 85, .inr (.inl (fun _ => 0))))] s.heap.size = A at hD ⊢
  have hA : ∀ q : Nat, s.heap.size ≤ q → A q := fun q h => by rw [← hAe]; exact Or.inr h
  have hS : va_S A s.heap s.heap [] := va_S.rf
  have hP : va_P D vwCl [(h0, .inr (11, fM a tp sd pa pb dr)), (a 3, .inl (cN, 85, .inr (.inl (fun _ => 0))))] s.heap := hP
  have hl := lv_entry ([.ref h0, .int z1, .int z2]) (n := 3) (Nat.le_of_ble_eq_true rfl)
  rw [lg_entry_eq]
  generalize (lg_sl ([.ref h0, .int z1, .int z2]) ++ List.replicate (3 - (lg_sl ([.ref h0, .int z1, .int z2])).length) Slot.unset).toArray = ls at hl ⊢
  have hl : lv_has ls 3 [(0, .ref h0), (1, .int z1), (2, .int z2)] := hl
  refine lv_aload_n hx hb dX11_below_0 rfl (lv_at hl 0 rfl) ?_
  refine lv_iconst (v := 0) hx hb dX11_below_1 (by decide) ?_
  refine va_put (D := D) (ci := 11) (v := .int 0) (ty := .int) (C := RX11) (T := TX11) (N := 47) hx hb hts hin_X11 tyX11 tyX11_ok nmX11 hown hK hP hD hS 0 rfl rfl 0 (by decide) (hts (.fieldLink RX11 73 "ClashFreeModel" "thrown" "I") (List.mem_of_getElem? (i := 1) rfl)) (fun _ h9 => h9) rfl (by decide +kernel) rfl rfl (Nat.le_of_ble_eq_true rfl) dX11_below_2 (fun H locs hP hD hS => ?_)
  have hP : va_P D vwCl [(h0, .inr (11, fM a tp sd pa pb dr)), (a 3, .inl (cN, 85, .inr (.inl (fun _ => 0))))] H := hP
  have hD : va_D A [(h0, .inr (11, fM a tp sd pa pb dr)), (a 3, .inl (cN, 85, .inr (.inl (fun _ => 0))))] := hD
  refine lv_aload_n hx hb dX11_below_5 rfl (lv_at hl 0 rfl) ?_
  refine lv_iload_n hx hb dX11_below_6 rfl (lv_at hl 1 rfl) ?_
  have hPc := hP.sub (ws' := [(h0, .inr (11, fM a tp sd pa pb dr)), (a 3, .inl (cN, 85, .inr (.inl (fun _ => 0))))]) [0, 1] rfl
  have hKc := hK.sub (tys' := [(cN, .long)]) [0] rfl
  have hFc := va_free0 hS hA
  refine va_calli (va_runV (As := [.int z1]) (rest := []) ⟨hx, hb, hml, hown, hts⟩ (c_isThere l D _ h0 a cN tp sd pa pb dr z1) (cwV 1 hts g_c_X11_below_c_isThere_222 rfl rfl rfl (by decide +kernel) ⟨(Nat.le_of_ble_eq_true rfl), (Nat.le_of_ble_eq_true rfl)⟩) (PcR_V (q0 := 0) hPc hKc rfl rfl) rfl rfl hl.1 rfl (lv_room (Nat.le_of_ble_eq_true rfl)) dX11_below_7 ⟨(Nat.le_of_ble_eq_true rfl), (Nat.le_of_ble_eq_true rfl)⟩) hS (fun q _ h => hFc q h) hFc (fun r1 uu tt H locs htt hvm hw hB hz1 hk1 hS => ?_)
  have hP := va_keep hP hk1
  try dsimp only at hw
  clear hB hz1 hk1 hFc hPc hKc
  obtain rfl : r1 = 0 := hw
  refine lv_if_eq (tgt := 35) hx hb dX11_below_10 (by decide) (fun hc => ?_) (fun hc => absurd (by decide) hc)
  refine lv_iconst (v := (-1)) hx hb dX11_below_35 (by decide) ?_
  exact W.iret (v := (-1)) hx hb hr (fun t ht hW => ⟨⟨(-1), (), rfl, rfl, trivial⟩, hS.F ht⟩) hS.2.2 dX11_below_36

def own_c_X11_nearest : List Cond := [.fieldLink RX11 73 "ClashFreeModel" "thrown" "I", .methodLink RX11 222 yX11_isThere, .instanceMethod yX11_isThere, .selects RX11 yX11_isThere yX11_isThere, .initialized RX11]
def wp_c_X11_nearest : List Cond := .code yX11_nearest cX11_nearest 6 (some .int) :: (own_c_X11_nearest ++ (wp_c_isThere ++ (wsX110 ++ ([] : List Cond))))
set_option maxRecDepth 20000 in
theorem inown_c_X11_nearest : ∀ w ∈ own_c_X11_nearest, w ∈ lw_tbl := mem_places [1216, 1466, 1468, 54, 115] (by decide +kernel)
set_option maxRecDepth 20000 in
theorem in_c_X11_nearest : ∀ w ∈ wp_c_X11_nearest, w ∈ lw_tbl := List.forall_mem_cons.mpr ⟨List.mem_of_getElem? (i := 1611) (by decide +kernel), List.forall_mem_append.mpr ⟨inown_c_X11_nearest, List.forall_mem_append.mpr ⟨in_c_isThere, List.forall_mem_append.mpr ⟨lwb_X11, fun _ h => absurd h List.not_mem_nil⟩⟩⟩⟩
set_option maxRecDepth 20000 in
theorem good_c_X11_nearest : wp_c_X11_nearest.all goodWord = true := by decide +kernel
set_option maxRecDepth 20000 in
theorem g_c_X11_nearest_c_isThere_222 : GoodIn wp_c_X11_nearest (wsV RX11 222 RX11 yX11_isThere wp_c_isThere) := goodIn_sub (List.forall_mem_append.mpr ⟨List.forall_mem_cons.mpr ⟨(List.mem_of_getElem? (i := 2) rfl), List.forall_mem_cons.mpr ⟨(List.mem_of_getElem? (i := 3) rfl), List.forall_mem_cons.mpr ⟨(List.mem_of_getElem? (i := 4) rfl), List.forall_mem_cons.mpr ⟨(List.mem_of_getElem? (i := 5) rfl), fun _ h => absurd h List.not_mem_nil⟩⟩⟩⟩, (fun _ h => (List.mem_cons_of_mem _ (List.mem_append_right _ (List.mem_append_left _ h))))⟩) (by decide +kernel)
set_option maxHeartbeats 4000000 in
set_option maxRecDepth 100000 in
theorem c_X11_nearest (l : Launch) (D : va_G) (sz : Nat) (h0 : Nat) (a : Nat → Nat) (cN : ClassId) (tp : Int32) (sd : Int64) (pa : Int64) (pb : Int64) (dr : Int32) (z1 : Int32) (z2 : Int32)  : Met l yX11_nearest wp_c_X11_nearest ({ frames := 2, cells := 0, slots := 0, locals := 46 }) (PcW D [.ref h0, .int z1, .int z2] sz [(h0, .inr (11, fM a tp sd pa pb dr)), (a 3, .inl (cN, 85, .inr (.inl (fun _ => 0))))] [(cN, .long)]) (va_Qi (fun (r : Int32) (_ : Unit) => r = (-1)) (fun (_ : Unit) _ => True) (va_A [(h0, .inr (11, fM a tp sd pa pb dr)), (a 3, .inl (cN, 85, .inr (.inl (fun _ => 0))))] sz)) 0 0 (va_A [(h0, .inr (11, fM a tp sd pa pb dr)), (a 3, .inl (cN, 85, .inr (.inl (fun _ => 0))))] sz) := by
  refine Met.ofW (cc := cX11_nearest) (maxL := 6) (ret := (some .int)) (by decide) rfl ?_
  intro p e s m args below meth c s₁ B hml hv
  obtain ⟨rfl, hsz, hP, hK, hD0⟩ := hv
  have hx := B.exec
  have hb := B.bytes
  have hr := B.returns
  have hts := atoms_spec (ws := wp_c_X11_nearest) B.pre
  have hin_X11 : ∀ w ∈ wsX110, w ∈ wp_c_X11_nearest := fun _ h => (List.mem_cons_of_mem _ (List.mem_append_right _ (List.mem_append_right _ (List.mem_append_left _ h))))
  have hown : s.vm.findClass RX11 = some m.cls := findClass_of_methodNamed B.named
  have hlocks := B.notSynchronized
  subst hsz
  have hD := hD0.self (sz := s.heap.size)
  generalize hAe : va_A [(h0, .inr (11, fM a tp sd pa pb dr)), (a 3, .inl (cN, 85, .inr (.inl (fun _ => 0))))] s.heap.size = A at hD ⊢
  have hA : ∀ q : Nat, s.heap.size ≤ q → A q := fun q h => by rw [← hAe]; exact Or.inr h
  have hS : va_S A s.heap s.heap [] := va_S.rf
  have hP : va_P D vwCl [(h0, .inr (11, fM a tp sd pa pb dr)), (a 3, .inl (cN, 85, .inr (.inl (fun _ => 0))))] s.heap := hP
  have hl := lv_entry ([.ref h0, .int z1, .int z2]) (n := 6) (Nat.le_of_ble_eq_true rfl)
  rw [lg_entry_eq]
  generalize (lg_sl ([.ref h0, .int z1, .int z2]) ++ List.replicate (6 - (lg_sl ([.ref h0, .int z1, .int z2])).length) Slot.unset).toArray = ls at hl ⊢
  have hl : lv_has ls 6 [(0, .ref h0), (1, .int z1), (2, .int z2)] := hl
  refine lv_aload_n hx hb dX11_nearest_0 rfl (lv_at hl 0 rfl) ?_
  refine lv_iconst (v := 0) hx hb dX11_nearest_1 (by decide) ?_
  refine va_put (D := D) (ci := 11) (v := .int 0) (ty := .int) (C := RX11) (T := TX11) (N := 47) hx hb hts hin_X11 tyX11 tyX11_ok nmX11 hown hK hP hD hS 0 rfl rfl 0 (by decide) (hts (.fieldLink RX11 73 "ClashFreeModel" "thrown" "I") (List.mem_of_getElem? (i := 1) rfl)) (fun _ h9 => h9) rfl (by decide +kernel) rfl rfl (Nat.le_of_ble_eq_true rfl) dX11_nearest_2 (fun H locs hP hD hS => ?_)
  have hP : va_P D vwCl [(h0, .inr (11, fM a tp sd pa pb dr)), (a 3, .inl (cN, 85, .inr (.inl (fun _ => 0))))] H := hP
  have hD : va_D A [(h0, .inr (11, fM a tp sd pa pb dr)), (a 3, .inl (cN, 85, .inr (.inl (fun _ => 0))))] := hD
  refine lv_aload_n hx hb dX11_nearest_5 rfl (lv_at hl 0 rfl) ?_
  refine lv_iload_n hx hb dX11_nearest_6 rfl (lv_at hl 1 rfl) ?_
  have hPc := hP.sub (ws' := [(h0, .inr (11, fM a tp sd pa pb dr)), (a 3, .inl (cN, 85, .inr (.inl (fun _ => 0))))]) [0, 1] rfl
  have hKc := hK.sub (tys' := [(cN, .long)]) [0] rfl
  have hFc := va_free0 hS hA
  refine va_calli (va_runV (As := [.int z1]) (rest := []) ⟨hx, hb, hml, hown, hts⟩ (c_isThere l D _ h0 a cN tp sd pa pb dr z1) (cwV 1 hts g_c_X11_nearest_c_isThere_222 rfl rfl rfl (by decide +kernel) ⟨(Nat.le_of_ble_eq_true rfl), (Nat.le_of_ble_eq_true rfl)⟩) (PcR_V (q0 := 0) hPc hKc rfl rfl) rfl rfl hl.1 rfl (lv_room (Nat.le_of_ble_eq_true rfl)) dX11_nearest_7 ⟨(Nat.le_of_ble_eq_true rfl), (Nat.le_of_ble_eq_true rfl)⟩) hS (fun q _ h => hFc q h) hFc (fun r1 uu tt H locs htt hvm hw hB hz1 hk1 hS => ?_)
  have hP := va_keep hP hk1
  try dsimp only at hw
  clear hB hz1 hk1 hFc hPc hKc
  obtain rfl : r1 = 0 := hw
  refine lv_if_eq (tgt := 28) hx hb dX11_nearest_10 (by decide) (fun hc => ?_) (fun hc => absurd (by decide) hc)
  refine lv_iconst (v := (-1)) hx hb dX11_nearest_28 (by decide) ?_
  exact W.iret (v := (-1)) hx hb hr (fun t ht hW => ⟨⟨(-1), (), rfl, rfl, trivial⟩, hS.F ht⟩) hS.2.2 dX11_nearest_29

def own_c_X11_many : List Cond := [.fieldLink RX11 73 "ClashFreeModel" "thrown" "I", .methodLink RX11 222 yX11_isThere, .instanceMethod yX11_isThere, .selects RX11 yX11_isThere yX11_isThere, .initialized RX11]
def wp_c_X11_many : List Cond := .code yX11_many cX11_many 5 (some .int) :: (own_c_X11_many ++ (wp_c_isThere ++ (wsX110 ++ ([] : List Cond))))
set_option maxRecDepth 20000 in
theorem inown_c_X11_many : ∀ w ∈ own_c_X11_many, w ∈ lw_tbl := mem_places [1216, 1466, 1468, 54, 115] (by decide +kernel)
set_option maxRecDepth 20000 in
theorem in_c_X11_many : ∀ w ∈ wp_c_X11_many, w ∈ lw_tbl := List.forall_mem_cons.mpr ⟨List.mem_of_getElem? (i := 1572) (by decide +kernel), List.forall_mem_append.mpr ⟨inown_c_X11_many, List.forall_mem_append.mpr ⟨in_c_isThere, List.forall_mem_append.mpr ⟨lwb_X11, fun _ h => absurd h List.not_mem_nil⟩⟩⟩⟩
set_option maxRecDepth 20000 in
theorem good_c_X11_many : wp_c_X11_many.all goodWord = true := by decide +kernel
set_option maxRecDepth 20000 in
theorem g_c_X11_many_c_isThere_222 : GoodIn wp_c_X11_many (wsV RX11 222 RX11 yX11_isThere wp_c_isThere) := goodIn_sub (List.forall_mem_append.mpr ⟨List.forall_mem_cons.mpr ⟨(List.mem_of_getElem? (i := 2) rfl), List.forall_mem_cons.mpr ⟨(List.mem_of_getElem? (i := 3) rfl), List.forall_mem_cons.mpr ⟨(List.mem_of_getElem? (i := 4) rfl), List.forall_mem_cons.mpr ⟨(List.mem_of_getElem? (i := 5) rfl), fun _ h => absurd h List.not_mem_nil⟩⟩⟩⟩, (fun _ h => (List.mem_cons_of_mem _ (List.mem_append_right _ (List.mem_append_left _ h))))⟩) (by decide +kernel)
set_option maxHeartbeats 4000000 in
set_option maxRecDepth 100000 in
theorem c_X11_many (l : Launch) (D : va_G) (sz : Nat) (h0 : Nat) (a : Nat → Nat) (cN : ClassId) (tp : Int32) (sd : Int64) (pa : Int64) (pb : Int64) (dr : Int32) (z1 : Int32) (z2 : Int32)  : Met l yX11_many wp_c_X11_many ({ frames := 2, cells := 0, slots := 0, locals := 46 }) (PcW D [.ref h0, .int z1, .int z2] sz [(h0, .inr (11, fM a tp sd pa pb dr)), (a 3, .inl (cN, 85, .inr (.inl (fun _ => 0))))] [(cN, .long)]) (va_Qi (fun (r : Int32) (_ : Unit) => r = (-1)) (fun (_ : Unit) _ => True) (va_A [(h0, .inr (11, fM a tp sd pa pb dr)), (a 3, .inl (cN, 85, .inr (.inl (fun _ => 0))))] sz)) 0 0 (va_A [(h0, .inr (11, fM a tp sd pa pb dr)), (a 3, .inl (cN, 85, .inr (.inl (fun _ => 0))))] sz) := by
  refine Met.ofW (cc := cX11_many) (maxL := 5) (ret := (some .int)) (by decide) rfl ?_
  intro p e s m args below meth c s₁ B hml hv
  obtain ⟨rfl, hsz, hP, hK, hD0⟩ := hv
  have hx := B.exec
  have hb := B.bytes
  have hr := B.returns
  have hts := atoms_spec (ws := wp_c_X11_many) B.pre
  have hin_X11 : ∀ w ∈ wsX110, w ∈ wp_c_X11_many := fun _ h => (List.mem_cons_of_mem _ (List.mem_append_right _ (List.mem_append_right _ (List.mem_append_left _ h))))
  have hown : s.vm.findClass RX11 = some m.cls := findClass_of_methodNamed B.named
  have hlocks := B.notSynchronized
  subst hsz
  have hD := hD0.self (sz := s.heap.size)
  generalize hAe : va_A [(h0, .inr (11, fM a tp sd pa pb dr)), (a 3, .inl (cN, 85, .inr (.inl (fun _ => 0))))] s.heap.size = A at hD ⊢
  have hA : ∀ q : Nat, s.heap.size ≤ q → A q := fun q h => by rw [← hAe]; exact Or.inr h
  have hS : va_S A s.heap s.heap [] := va_S.rf
  have hP : va_P D vwCl [(h0, .inr (11, fM a tp sd pa pb dr)), (a 3, .inl (cN, 85, .inr (.inl (fun _ => 0))))] s.heap := hP
  have hl := lv_entry ([.ref h0, .int z1, .int z2]) (n := 5) (Nat.le_of_ble_eq_true rfl)
  rw [lg_entry_eq]
  generalize (lg_sl ([.ref h0, .int z1, .int z2]) ++ List.replicate (5 - (lg_sl ([.ref h0, .int z1, .int z2])).length) Slot.unset).toArray = ls at hl ⊢
  have hl : lv_has ls 5 [(0, .ref h0), (1, .int z1), (2, .int z2)] := hl
  refine lv_aload_n hx hb dX11_many_0 rfl (lv_at hl 0 rfl) ?_
  refine lv_iconst (v := 0) hx hb dX11_many_1 (by decide) ?_
  refine va_put (D := D) (ci := 11) (v := .int 0) (ty := .int) (C := RX11) (T := TX11) (N := 47) hx hb hts hin_X11 tyX11 tyX11_ok nmX11 hown hK hP hD hS 0 rfl rfl 0 (by decide) (hts (.fieldLink RX11 73 "ClashFreeModel" "thrown" "I") (List.mem_of_getElem? (i := 1) rfl)) (fun _ h9 => h9) rfl (by decide +kernel) rfl rfl (Nat.le_of_ble_eq_true rfl) dX11_many_2 (fun H locs hP hD hS => ?_)
  have hP : va_P D vwCl [(h0, .inr (11, fM a tp sd pa pb dr)), (a 3, .inl (cN, 85, .inr (.inl (fun _ => 0))))] H := hP
  have hD : va_D A [(h0, .inr (11, fM a tp sd pa pb dr)), (a 3, .inl (cN, 85, .inr (.inl (fun _ => 0))))] := hD
  refine lv_aload_n hx hb dX11_many_5 rfl (lv_at hl 0 rfl) ?_
  refine lv_iload_n hx hb dX11_many_6 rfl (lv_at hl 1 rfl) ?_
  have hPc := hP.sub (ws' := [(h0, .inr (11, fM a tp sd pa pb dr)), (a 3, .inl (cN, 85, .inr (.inl (fun _ => 0))))]) [0, 1] rfl
  have hKc := hK.sub (tys' := [(cN, .long)]) [0] rfl
  have hFc := va_free0 hS hA
  refine va_calli (va_runV (As := [.int z1]) (rest := []) ⟨hx, hb, hml, hown, hts⟩ (c_isThere l D _ h0 a cN tp sd pa pb dr z1) (cwV 1 hts g_c_X11_many_c_isThere_222 rfl rfl rfl (by decide +kernel) ⟨(Nat.le_of_ble_eq_true rfl), (Nat.le_of_ble_eq_true rfl)⟩) (PcR_V (q0 := 0) hPc hKc rfl rfl) rfl rfl hl.1 rfl (lv_room (Nat.le_of_ble_eq_true rfl)) dX11_many_7 ⟨(Nat.le_of_ble_eq_true rfl), (Nat.le_of_ble_eq_true rfl)⟩) hS (fun q _ h => hFc q h) hFc (fun r1 uu tt H locs htt hvm hw hB hz1 hk1 hS => ?_)
  have hP := va_keep hP hk1
  try dsimp only at hw
  clear hB hz1 hk1 hFc hPc hKc
  obtain rfl : r1 = 0 := hw
  refine lv_if_eq (tgt := 17) hx hb dX11_many_10 (by decide) (fun hc => ?_) (fun hc => absurd (by decide) hc)
  refine lv_iconst (v := (-1)) hx hb dX11_many_17 (by decide) ?_
  exact W.iret (v := (-1)) hx hb hr (fun t ht hW => ⟨⟨(-1), (), rfl, rfl, trivial⟩, hS.F ht⟩) hS.2.2 dX11_many_18

def own_c_X11_crowd : List Cond := [.fieldLink RX11 73 "ClashFreeModel" "thrown" "I", .methodLink RX11 222 yX11_isThere, .instanceMethod yX11_isThere, .selects RX11 yX11_isThere yX11_isThere, .initialized RX11]
def wp_c_X11_crowd : List Cond := .code yX11_crowd cX11_crowd 8 (some .int) :: (own_c_X11_crowd ++ (wp_c_isThere ++ (wsX110 ++ ([] : List Cond))))
set_option maxRecDepth 20000 in
theorem inown_c_X11_crowd : ∀ w ∈ own_c_X11_crowd, w ∈ lw_tbl := mem_places [1216, 1466, 1468, 54, 115] (by decide +kernel)
set_option maxRecDepth 20000 in
theorem in_c_X11_crowd : ∀ w ∈ wp_c_X11_crowd, w ∈ lw_tbl := List.forall_mem_cons.mpr ⟨List.mem_of_getElem? (i := 1576) (by decide +kernel), List.forall_mem_append.mpr ⟨inown_c_X11_crowd, List.forall_mem_append.mpr ⟨in_c_isThere, List.forall_mem_append.mpr ⟨lwb_X11, fun _ h => absurd h List.not_mem_nil⟩⟩⟩⟩
set_option maxRecDepth 20000 in
theorem good_c_X11_crowd : wp_c_X11_crowd.all goodWord = true := by decide +kernel
set_option maxRecDepth 20000 in
theorem g_c_X11_crowd_c_isThere_222 : GoodIn wp_c_X11_crowd (wsV RX11 222 RX11 yX11_isThere wp_c_isThere) := goodIn_sub (List.forall_mem_append.mpr ⟨List.forall_mem_cons.mpr ⟨(List.mem_of_getElem? (i := 2) rfl), List.forall_mem_cons.mpr ⟨(List.mem_of_getElem? (i := 3) rfl), List.forall_mem_cons.mpr ⟨(List.mem_of_getElem? (i := 4) rfl), List.forall_mem_cons.mpr ⟨(List.mem_of_getElem? (i := 5) rfl), fun _ h => absurd h List.not_mem_nil⟩⟩⟩⟩, (fun _ h => (List.mem_cons_of_mem _ (List.mem_append_right _ (List.mem_append_left _ h))))⟩) (by decide +kernel)
set_option maxHeartbeats 4000000 in
set_option maxRecDepth 100000 in
theorem c_X11_crowd (l : Launch) (D : va_G) (sz : Nat) (h0 : Nat) (a : Nat → Nat) (cN : ClassId) (tp : Int32) (sd : Int64) (pa : Int64) (pb : Int64) (dr : Int32) (z1 : Int32) (z2 : Int32)  : Met l yX11_crowd wp_c_X11_crowd ({ frames := 2, cells := 0, slots := 0, locals := 46 }) (PcW D [.ref h0, .int z1, .int z2] sz [(h0, .inr (11, fM a tp sd pa pb dr)), (a 3, .inl (cN, 85, .inr (.inl (fun _ => 0))))] [(cN, .long)]) (va_Qi (fun (r : Int32) (_ : Unit) => r = (-1)) (fun (_ : Unit) _ => True) (va_A [(h0, .inr (11, fM a tp sd pa pb dr)), (a 3, .inl (cN, 85, .inr (.inl (fun _ => 0))))] sz)) 0 0 (va_A [(h0, .inr (11, fM a tp sd pa pb dr)), (a 3, .inl (cN, 85, .inr (.inl (fun _ => 0))))] sz) := by
  refine Met.ofW (cc := cX11_crowd) (maxL := 8) (ret := (some .int)) (by decide) rfl ?_
  intro p e s m args below meth c s₁ B hml hv
  obtain ⟨rfl, hsz, hP, hK, hD0⟩ := hv
  have hx := B.exec
  have hb := B.bytes
  have hr := B.returns
  have hts := atoms_spec (ws := wp_c_X11_crowd) B.pre
  have hin_X11 : ∀ w ∈ wsX110, w ∈ wp_c_X11_crowd := fun _ h => (List.mem_cons_of_mem _ (List.mem_append_right _ (List.mem_append_right _ (List.mem_append_left _ h))))
  have hown : s.vm.findClass RX11 = some m.cls := findClass_of_methodNamed B.named
  have hlocks := B.notSynchronized
  subst hsz
  have hD := hD0.self (sz := s.heap.size)
  generalize hAe : va_A [(h0, .inr (11, fM a tp sd pa pb dr)), (a 3, .inl (cN, 85, .inr (.inl (fun _ => 0))))] s.heap.size = A at hD ⊢
  have hA : ∀ q : Nat, s.heap.size ≤ q → A q := fun q h => by rw [← hAe]; exact Or.inr h
  have hS : va_S A s.heap s.heap [] := va_S.rf
  have hP : va_P D vwCl [(h0, .inr (11, fM a tp sd pa pb dr)), (a 3, .inl (cN, 85, .inr (.inl (fun _ => 0))))] s.heap := hP
  have hl := lv_entry ([.ref h0, .int z1, .int z2]) (n := 8) (Nat.le_of_ble_eq_true rfl)
  rw [lg_entry_eq]
  generalize (lg_sl ([.ref h0, .int z1, .int z2]) ++ List.replicate (8 - (lg_sl ([.ref h0, .int z1, .int z2])).length) Slot.unset).toArray = ls at hl ⊢
  have hl : lv_has ls 8 [(0, .ref h0), (1, .int z1), (2, .int z2)] := hl
  refine lv_aload_n hx hb dX11_crowd_0 rfl (lv_at hl 0 rfl) ?_
  refine lv_iconst (v := 0) hx hb dX11_crowd_1 (by decide) ?_
  refine va_put (D := D) (ci := 11) (v := .int 0) (ty := .int) (C := RX11) (T := TX11) (N := 47) hx hb hts hin_X11 tyX11 tyX11_ok nmX11 hown hK hP hD hS 0 rfl rfl 0 (by decide) (hts (.fieldLink RX11 73 "ClashFreeModel" "thrown" "I") (List.mem_of_getElem? (i := 1) rfl)) (fun _ h9 => h9) rfl (by decide +kernel) rfl rfl (Nat.le_of_ble_eq_true rfl) dX11_crowd_2 (fun H locs hP hD hS => ?_)
  have hP : va_P D vwCl [(h0, .inr (11, fM a tp sd pa pb dr)), (a 3, .inl (cN, 85, .inr (.inl (fun _ => 0))))] H := hP
  have hD : va_D A [(h0, .inr (11, fM a tp sd pa pb dr)), (a 3, .inl (cN, 85, .inr (.inl (fun _ => 0))))] := hD
  refine lv_aload_n hx hb dX11_crowd_5 rfl (lv_at hl 0 rfl) ?_
  refine lv_iload_n hx hb dX11_crowd_6 rfl (lv_at hl 1 rfl) ?_
  have hPc := hP.sub (ws' := [(h0, .inr (11, fM a tp sd pa pb dr)), (a 3, .inl (cN, 85, .inr (.inl (fun _ => 0))))]) [0, 1] rfl
  have hKc := hK.sub (tys' := [(cN, .long)]) [0] rfl
  have hFc := va_free0 hS hA
  refine va_calli (va_runV (As := [.int z1]) (rest := []) ⟨hx, hb, hml, hown, hts⟩ (c_isThere l D _ h0 a cN tp sd pa pb dr z1) (cwV 1 hts g_c_X11_crowd_c_isThere_222 rfl rfl rfl (by decide +kernel) ⟨(Nat.le_of_ble_eq_true rfl), (Nat.le_of_ble_eq_true rfl)⟩) (PcR_V (q0 := 0) hPc hKc rfl rfl) rfl rfl hl.1 rfl (lv_room (Nat.le_of_ble_eq_true rfl)) dX11_crowd_7 ⟨(Nat.le_of_ble_eq_true rfl), (Nat.le_of_ble_eq_true rfl)⟩) hS (fun q _ h => hFc q h) hFc (fun r1 uu tt H locs htt hvm hw hB hz1 hk1 hS => ?_)
  have hP := va_keep hP hk1
  try dsimp only at hw
  clear hB hz1 hk1 hFc hPc hKc
  obtain rfl : r1 = 0 := hw
  refine lv_if_eq (tgt := 25) hx hb dX11_crowd_10 (by decide) (fun hc => ?_) (fun hc => absurd (by decide) hc)
  refine lv_iconst (v := (-1)) hx hb dX11_crowd_25 (by decide) ?_
  exact W.iret (v := (-1)) hx hb hr (fun t ht hW => ⟨⟨(-1), (), rfl, rfl, trivial⟩, hS.F ht⟩) hS.2.2 dX11_crowd_26

def own_c_X11_empty : List Cond := [.fieldLink RX11 73 "ClashFreeModel" "thrown" "I", .methodLink RX11 222 yX11_isThere, .instanceMethod yX11_isThere, .selects RX11 yX11_isThere yX11_isThere, .initialized RX11]
def wp_c_X11_empty : List Cond := .code yX11_empty cX11_empty 2 (some .int) :: (own_c_X11_empty ++ (wp_c_isThere ++ (wsX110 ++ ([] : List Cond))))
set_option maxRecDepth 20000 in
theorem inown_c_X11_empty : ∀ w ∈ own_c_X11_empty, w ∈ lw_tbl := mem_places [1216, 1466, 1468, 54, 115] (by decide +kernel)
set_option maxRecDepth 20000 in
theorem in_c_X11_empty : ∀ w ∈ wp_c_X11_empty, w ∈ lw_tbl := List.forall_mem_cons.mpr ⟨List.mem_of_getElem? (i := 1580) (by decide +kernel), List.forall_mem_append.mpr ⟨inown_c_X11_empty, List.forall_mem_append.mpr ⟨in_c_isThere, List.forall_mem_append.mpr ⟨lwb_X11, fun _ h => absurd h List.not_mem_nil⟩⟩⟩⟩
set_option maxRecDepth 20000 in
theorem good_c_X11_empty : wp_c_X11_empty.all goodWord = true := by decide +kernel
set_option maxRecDepth 20000 in
theorem g_c_X11_empty_c_isThere_222 : GoodIn wp_c_X11_empty (wsV RX11 222 RX11 yX11_isThere wp_c_isThere) := goodIn_sub (List.forall_mem_append.mpr ⟨List.forall_mem_cons.mpr ⟨(List.mem_of_getElem? (i := 2) rfl), List.forall_mem_cons.mpr ⟨(List.mem_of_getElem? (i := 3) rfl), List.forall_mem_cons.mpr ⟨(List.mem_of_getElem? (i := 4) rfl), List.forall_mem_cons.mpr ⟨(List.mem_of_getElem? (i := 5) rfl), fun _ h => absurd h List.not_mem_nil⟩⟩⟩⟩, (fun _ h => (List.mem_cons_of_mem _ (List.mem_append_right _ (List.mem_append_left _ h))))⟩) (by decide +kernel)
set_option maxHeartbeats 4000000 in
set_option maxRecDepth 100000 in
theorem c_X11_empty (l : Launch) (D : va_G) (sz : Nat) (h0 : Nat) (a : Nat → Nat) (cN : ClassId) (tp : Int32) (sd : Int64) (pa : Int64) (pb : Int64) (dr : Int32) (z1 : Int32)  : Met l yX11_empty wp_c_X11_empty ({ frames := 2, cells := 0, slots := 0, locals := 46 }) (PcW D [.ref h0, .int z1] sz [(h0, .inr (11, fM a tp sd pa pb dr)), (a 3, .inl (cN, 85, .inr (.inl (fun _ => 0))))] [(cN, .long)]) (va_Qi (fun (r : Int32) (_ : Unit) => r = (-1)) (fun (_ : Unit) _ => True) (va_A [(h0, .inr (11, fM a tp sd pa pb dr)), (a 3, .inl (cN, 85, .inr (.inl (fun _ => 0))))] sz)) 0 0 (va_A [(h0, .inr (11, fM a tp sd pa pb dr)), (a 3, .inl (cN, 85, .inr (.inl (fun _ => 0))))] sz) := by
  refine Met.ofW (cc := cX11_empty) (maxL := 2) (ret := (some .int)) (by decide) rfl ?_
  intro p e s m args below meth c s₁ B hml hv
  obtain ⟨rfl, hsz, hP, hK, hD0⟩ := hv
  have hx := B.exec
  have hb := B.bytes
  have hr := B.returns
  have hts := atoms_spec (ws := wp_c_X11_empty) B.pre
  have hin_X11 : ∀ w ∈ wsX110, w ∈ wp_c_X11_empty := fun _ h => (List.mem_cons_of_mem _ (List.mem_append_right _ (List.mem_append_right _ (List.mem_append_left _ h))))
  have hown : s.vm.findClass RX11 = some m.cls := findClass_of_methodNamed B.named
  have hlocks := B.notSynchronized
  subst hsz
  have hD := hD0.self (sz := s.heap.size)
  generalize hAe : va_A [(h0, .inr (11, fM a tp sd pa pb dr)), (a 3, .inl (cN, 85, .inr (.inl (fun _ => 0))))] s.heap.size = A at hD ⊢
  have hA : ∀ q : Nat, s.heap.size ≤ q → A q := fun q h => by rw [← hAe]; exact Or.inr h
  have hS : va_S A s.heap s.heap [] := va_S.rf
  have hP : va_P D vwCl [(h0, .inr (11, fM a tp sd pa pb dr)), (a 3, .inl (cN, 85, .inr (.inl (fun _ => 0))))] s.heap := hP
  have hl := lv_entry ([.ref h0, .int z1]) (n := 2) (Nat.le_of_ble_eq_true rfl)
  rw [lg_entry_eq]
  generalize (lg_sl ([.ref h0, .int z1]) ++ List.replicate (2 - (lg_sl ([.ref h0, .int z1])).length) Slot.unset).toArray = ls at hl ⊢
  have hl : lv_has ls 2 [(0, .ref h0), (1, .int z1)] := hl
  refine lv_aload_n hx hb dX11_empty_0 rfl (lv_at hl 0 rfl) ?_
  refine lv_iconst (v := 0) hx hb dX11_empty_1 (by decide) ?_
  refine va_put (D := D) (ci := 11) (v := .int 0) (ty := .int) (C := RX11) (T := TX11) (N := 47) hx hb hts hin_X11 tyX11 tyX11_ok nmX11 hown hK hP hD hS 0 rfl rfl 0 (by decide) (hts (.fieldLink RX11 73 "ClashFreeModel" "thrown" "I") (List.mem_of_getElem? (i := 1) rfl)) (fun _ h9 => h9) rfl (by decide +kernel) rfl rfl (Nat.le_of_ble_eq_true rfl) dX11_empty_2 (fun H locs hP hD hS => ?_)
  have hP : va_P D vwCl [(h0, .inr (11, fM a tp sd pa pb dr)), (a 3, .inl (cN, 85, .inr (.inl (fun _ => 0))))] H := hP
  have hD : va_D A [(h0, .inr (11, fM a tp sd pa pb dr)), (a 3, .inl (cN, 85, .inr (.inl (fun _ => 0))))] := hD
  refine lv_aload_n hx hb dX11_empty_5 rfl (lv_at hl 0 rfl) ?_
  refine lv_iload_n hx hb dX11_empty_6 rfl (lv_at hl 1 rfl) ?_
  have hPc := hP.sub (ws' := [(h0, .inr (11, fM a tp sd pa pb dr)), (a 3, .inl (cN, 85, .inr (.inl (fun _ => 0))))]) [0, 1] rfl
  have hKc := hK.sub (tys' := [(cN, .long)]) [0] rfl
  have hFc := va_free0 hS hA
  refine va_calli (va_runV (As := [.int z1]) (rest := []) ⟨hx, hb, hml, hown, hts⟩ (c_isThere l D _ h0 a cN tp sd pa pb dr z1) (cwV 1 hts g_c_X11_empty_c_isThere_222 rfl rfl rfl (by decide +kernel) ⟨(Nat.le_of_ble_eq_true rfl), (Nat.le_of_ble_eq_true rfl)⟩) (PcR_V (q0 := 0) hPc hKc rfl rfl) rfl rfl hl.1 rfl (lv_room (Nat.le_of_ble_eq_true rfl)) dX11_empty_7 ⟨(Nat.le_of_ble_eq_true rfl), (Nat.le_of_ble_eq_true rfl)⟩) hS (fun q _ h => hFc q h) hFc (fun r1 uu tt H locs htt hvm hw hB hz1 hk1 hS => ?_)
  have hP := va_keep hP hk1
  try dsimp only at hw
  clear hB hz1 hk1 hFc hPc hKc
  obtain rfl : r1 = 0 := hw
  refine lv_if_eq (tgt := 29) hx hb dX11_empty_10 (by decide) (fun hc => ?_) (fun hc => absurd (by decide) hc)
  refine lv_iconst (v := (-1)) hx hb dX11_empty_29 (by decide) ?_
  exact W.iret (v := (-1)) hx hb hr (fun t ht hW => ⟨⟨(-1), (), rfl, rfl, trivial⟩, hS.F ht⟩) hS.2.2 dX11_empty_30

def own_c_X11_left : List Cond := [.fieldLink RX11 73 "ClashFreeModel" "thrown" "I", .methodLink RX11 222 yX11_isThere, .instanceMethod yX11_isThere, .selects RX11 yX11_isThere yX11_isThere, .initialized RX11]
def wp_c_X11_left : List Cond := .code yX11_left cX11_left 2 (some .int) :: (own_c_X11_left ++ (wp_c_isThere ++ (wsX110 ++ ([] : List Cond))))
set_option maxRecDepth 20000 in
theorem inown_c_X11_left : ∀ w ∈ own_c_X11_left, w ∈ lw_tbl := mem_places [1216, 1466, 1468, 54, 115] (by decide +kernel)
set_option maxRecDepth 20000 in
theorem in_c_X11_left : ∀ w ∈ wp_c_X11_left, w ∈ lw_tbl := List.forall_mem_cons.mpr ⟨List.mem_of_getElem? (i := 1584) (by decide +kernel), List.forall_mem_append.mpr ⟨inown_c_X11_left, List.forall_mem_append.mpr ⟨in_c_isThere, List.forall_mem_append.mpr ⟨lwb_X11, fun _ h => absurd h List.not_mem_nil⟩⟩⟩⟩
set_option maxRecDepth 20000 in
theorem good_c_X11_left : wp_c_X11_left.all goodWord = true := by decide +kernel
set_option maxRecDepth 20000 in
theorem g_c_X11_left_c_isThere_222 : GoodIn wp_c_X11_left (wsV RX11 222 RX11 yX11_isThere wp_c_isThere) := goodIn_sub (List.forall_mem_append.mpr ⟨List.forall_mem_cons.mpr ⟨(List.mem_of_getElem? (i := 2) rfl), List.forall_mem_cons.mpr ⟨(List.mem_of_getElem? (i := 3) rfl), List.forall_mem_cons.mpr ⟨(List.mem_of_getElem? (i := 4) rfl), List.forall_mem_cons.mpr ⟨(List.mem_of_getElem? (i := 5) rfl), fun _ h => absurd h List.not_mem_nil⟩⟩⟩⟩, (fun _ h => (List.mem_cons_of_mem _ (List.mem_append_right _ (List.mem_append_left _ h))))⟩) (by decide +kernel)
set_option maxHeartbeats 4000000 in
set_option maxRecDepth 100000 in
theorem c_X11_left (l : Launch) (D : va_G) (sz : Nat) (h0 : Nat) (a : Nat → Nat) (cN : ClassId) (tp : Int32) (sd : Int64) (pa : Int64) (pb : Int64) (dr : Int32) (z1 : Int32)  : Met l yX11_left wp_c_X11_left ({ frames := 2, cells := 0, slots := 0, locals := 46 }) (PcW D [.ref h0, .int z1] sz [(h0, .inr (11, fM a tp sd pa pb dr)), (a 3, .inl (cN, 85, .inr (.inl (fun _ => 0))))] [(cN, .long)]) (va_Qi (fun (r : Int32) (_ : Unit) => r = (-1)) (fun (_ : Unit) _ => True) (va_A [(h0, .inr (11, fM a tp sd pa pb dr)), (a 3, .inl (cN, 85, .inr (.inl (fun _ => 0))))] sz)) 0 0 (va_A [(h0, .inr (11, fM a tp sd pa pb dr)), (a 3, .inl (cN, 85, .inr (.inl (fun _ => 0))))] sz) := by
  refine Met.ofW (cc := cX11_left) (maxL := 2) (ret := (some .int)) (by decide) rfl ?_
  intro p e s m args below meth c s₁ B hml hv
  obtain ⟨rfl, hsz, hP, hK, hD0⟩ := hv
  have hx := B.exec
  have hb := B.bytes
  have hr := B.returns
  have hts := atoms_spec (ws := wp_c_X11_left) B.pre
  have hin_X11 : ∀ w ∈ wsX110, w ∈ wp_c_X11_left := fun _ h => (List.mem_cons_of_mem _ (List.mem_append_right _ (List.mem_append_right _ (List.mem_append_left _ h))))
  have hown : s.vm.findClass RX11 = some m.cls := findClass_of_methodNamed B.named
  have hlocks := B.notSynchronized
  subst hsz
  have hD := hD0.self (sz := s.heap.size)
  generalize hAe : va_A [(h0, .inr (11, fM a tp sd pa pb dr)), (a 3, .inl (cN, 85, .inr (.inl (fun _ => 0))))] s.heap.size = A at hD ⊢
  have hA : ∀ q : Nat, s.heap.size ≤ q → A q := fun q h => by rw [← hAe]; exact Or.inr h
  have hS : va_S A s.heap s.heap [] := va_S.rf
  have hP : va_P D vwCl [(h0, .inr (11, fM a tp sd pa pb dr)), (a 3, .inl (cN, 85, .inr (.inl (fun _ => 0))))] s.heap := hP
  have hl := lv_entry ([.ref h0, .int z1]) (n := 2) (Nat.le_of_ble_eq_true rfl)
  rw [lg_entry_eq]
  generalize (lg_sl ([.ref h0, .int z1]) ++ List.replicate (2 - (lg_sl ([.ref h0, .int z1])).length) Slot.unset).toArray = ls at hl ⊢
  have hl : lv_has ls 2 [(0, .ref h0), (1, .int z1)] := hl
  refine lv_aload_n hx hb dX11_left_0 rfl (lv_at hl 0 rfl) ?_
  refine lv_iconst (v := 0) hx hb dX11_left_1 (by decide) ?_
  refine va_put (D := D) (ci := 11) (v := .int 0) (ty := .int) (C := RX11) (T := TX11) (N := 47) hx hb hts hin_X11 tyX11 tyX11_ok nmX11 hown hK hP hD hS 0 rfl rfl 0 (by decide) (hts (.fieldLink RX11 73 "ClashFreeModel" "thrown" "I") (List.mem_of_getElem? (i := 1) rfl)) (fun _ h9 => h9) rfl (by decide +kernel) rfl rfl (Nat.le_of_ble_eq_true rfl) dX11_left_2 (fun H locs hP hD hS => ?_)
  have hP : va_P D vwCl [(h0, .inr (11, fM a tp sd pa pb dr)), (a 3, .inl (cN, 85, .inr (.inl (fun _ => 0))))] H := hP
  have hD : va_D A [(h0, .inr (11, fM a tp sd pa pb dr)), (a 3, .inl (cN, 85, .inr (.inl (fun _ => 0))))] := hD
  refine lv_aload_n hx hb dX11_left_5 rfl (lv_at hl 0 rfl) ?_
  refine lv_iload_n hx hb dX11_left_6 rfl (lv_at hl 1 rfl) ?_
  have hPc := hP.sub (ws' := [(h0, .inr (11, fM a tp sd pa pb dr)), (a 3, .inl (cN, 85, .inr (.inl (fun _ => 0))))]) [0, 1] rfl
  have hKc := hK.sub (tys' := [(cN, .long)]) [0] rfl
  have hFc := va_free0 hS hA
  refine va_calli (va_runV (As := [.int z1]) (rest := []) ⟨hx, hb, hml, hown, hts⟩ (c_isThere l D _ h0 a cN tp sd pa pb dr z1) (cwV 1 hts g_c_X11_left_c_isThere_222 rfl rfl rfl (by decide +kernel) ⟨(Nat.le_of_ble_eq_true rfl), (Nat.le_of_ble_eq_true rfl)⟩) (PcR_V (q0 := 0) hPc hKc rfl rfl) rfl rfl hl.1 rfl (lv_room (Nat.le_of_ble_eq_true rfl)) dX11_left_7 ⟨(Nat.le_of_ble_eq_true rfl), (Nat.le_of_ble_eq_true rfl)⟩) hS (fun q _ h => hFc q h) hFc (fun r1 uu tt H locs htt hvm hw hB hz1 hk1 hS => ?_)
  have hP := va_keep hP hk1
  try dsimp only at hw
  clear hB hz1 hk1 hFc hPc hKc
  obtain rfl : r1 = 0 := hw
  refine lv_if_eq (tgt := 32) hx hb dX11_left_10 (by decide) (fun hc => ?_) (fun hc => absurd (by decide) hc)
  refine lv_iconst (v := (-1)) hx hb dX11_left_32 (by decide) ?_
  exact W.iret (v := (-1)) hx hb hr (fun t ht hW => ⟨⟨(-1), (), rfl, rfl, trivial⟩, hS.F ht⟩) hS.2.2 dX11_left_33

def own_c_X11_outer : List Cond := [.fieldLink RX11 73 "ClashFreeModel" "thrown" "I", .methodLink RX11 222 yX11_isThere, .instanceMethod yX11_isThere, .selects RX11 yX11_isThere yX11_isThere, .initialized RX11, .constantLong RX11 235 (-1000000000000000)]
def wp_c_X11_outer : List Cond := .code yX11_outer cX11_outer 11 (some .long) :: (own_c_X11_outer ++ (wp_c_isThere ++ (wsX110 ++ ([] : List Cond))))
set_option maxRecDepth 20000 in
theorem inown_c_X11_outer : ∀ w ∈ own_c_X11_outer, w ∈ lw_tbl := mem_places [1216, 1466, 1468, 54, 115, 1517] (by decide +kernel)
set_option maxRecDepth 20000 in
theorem in_c_X11_outer : ∀ w ∈ wp_c_X11_outer, w ∈ lw_tbl := List.forall_mem_cons.mpr ⟨List.mem_of_getElem? (i := 1588) (by decide +kernel), List.forall_mem_append.mpr ⟨inown_c_X11_outer, List.forall_mem_append.mpr ⟨in_c_isThere, List.forall_mem_append.mpr ⟨lwb_X11, fun _ h => absurd h List.not_mem_nil⟩⟩⟩⟩
set_option maxRecDepth 20000 in
theorem good_c_X11_outer : wp_c_X11_outer.all goodWord = true := by decide +kernel
set_option maxRecDepth 20000 in
theorem g_c_X11_outer_c_isThere_222 : GoodIn wp_c_X11_outer (wsV RX11 222 RX11 yX11_isThere wp_c_isThere) := goodIn_sub (List.forall_mem_append.mpr ⟨List.forall_mem_cons.mpr ⟨(List.mem_of_getElem? (i := 2) rfl), List.forall_mem_cons.mpr ⟨(List.mem_of_getElem? (i := 3) rfl), List.forall_mem_cons.mpr ⟨(List.mem_of_getElem? (i := 4) rfl), List.forall_mem_cons.mpr ⟨(List.mem_of_getElem? (i := 5) rfl), fun _ h => absurd h List.not_mem_nil⟩⟩⟩⟩, (fun _ h => (List.mem_cons_of_mem _ (List.mem_append_right _ (List.mem_append_left _ h))))⟩) (by decide +kernel)
set_option maxHeartbeats 4000000 in
set_option maxRecDepth 100000 in
theorem c_X11_outer (l : Launch) (D : va_G) (sz : Nat) (h0 : Nat) (a : Nat → Nat) (cN : ClassId) (tp : Int32) (sd : Int64) (pa : Int64) (pb : Int64) (dr : Int32) (z1 : Int32) (z2 : Int32) (z3 : Int32) (z4 : Int32) (z5 : Int32)  : Met l yX11_outer wp_c_X11_outer ({ frames := 2, cells := 0, slots := 0, locals := 46 }) (PcW D [.ref h0, .int z1, .int z2, .int z3, .int z4, .int z5] sz [(h0, .inr (11, fM a tp sd pa pb dr)), (a 3, .inl (cN, 85, .inr (.inl (fun _ => 0))))] [(cN, .long)]) (va_Ql (fun (r : Int64) (_ : Unit) => r = (-1000000000000000)) (fun (_ : Unit) _ => True) (va_A [(h0, .inr (11, fM a tp sd pa pb dr)), (a 3, .inl (cN, 85, .inr (.inl (fun _ => 0))))] sz)) 0 0 (va_A [(h0, .inr (11, fM a tp sd pa pb dr)), (a 3, .inl (cN, 85, .inr (.inl (fun _ => 0))))] sz) := by
  refine Met.ofW (cc := cX11_outer) (maxL := 11) (ret := (some .long)) (by decide) rfl ?_
  intro p e s m args below meth c s₁ B hml hv
  obtain ⟨rfl, hsz, hP, hK, hD0⟩ := hv
  have hx := B.exec
  have hb := B.bytes
  have hr := B.returns
  have hts := atoms_spec (ws := wp_c_X11_outer) B.pre
  have hin_X11 : ∀ w ∈ wsX110, w ∈ wp_c_X11_outer := fun _ h => (List.mem_cons_of_mem _ (List.mem_append_right _ (List.mem_append_right _ (List.mem_append_left _ h))))
  have hown : s.vm.findClass RX11 = some m.cls := findClass_of_methodNamed B.named
  have hlocks := B.notSynchronized
  subst hsz
  have hD := hD0.self (sz := s.heap.size)
  generalize hAe : va_A [(h0, .inr (11, fM a tp sd pa pb dr)), (a 3, .inl (cN, 85, .inr (.inl (fun _ => 0))))] s.heap.size = A at hD ⊢
  have hA : ∀ q : Nat, s.heap.size ≤ q → A q := fun q h => by rw [← hAe]; exact Or.inr h
  have hS : va_S A s.heap s.heap [] := va_S.rf
  have hP : va_P D vwCl [(h0, .inr (11, fM a tp sd pa pb dr)), (a 3, .inl (cN, 85, .inr (.inl (fun _ => 0))))] s.heap := hP
  have hl := lv_entry ([.ref h0, .int z1, .int z2, .int z3, .int z4, .int z5]) (n := 11) (Nat.le_of_ble_eq_true rfl)
  rw [lg_entry_eq]
  generalize (lg_sl ([.ref h0, .int z1, .int z2, .int z3, .int z4, .int z5]) ++ List.replicate (11 - (lg_sl ([.ref h0, .int z1, .int z2, .int z3, .int z4, .int z5])).length) Slot.unset).toArray = ls at hl ⊢
  have hl : lv_has ls 11 [(0, .ref h0), (1, .int z1), (2, .int z2), (3, .int z3), (4, .int z4), (5, .int z5)] := hl
  refine lv_aload_n hx hb dX11_outer_0 rfl (lv_at hl 0 rfl) ?_
  refine lv_iconst (v := 0) hx hb dX11_outer_1 (by decide) ?_
  refine va_put (D := D) (ci := 11) (v := .int 0) (ty := .int) (C := RX11) (T := TX11) (N := 47) hx hb hts hin_X11 tyX11 tyX11_ok nmX11 hown hK hP hD hS 0 rfl rfl 0 (by decide) (hts (.fieldLink RX11 73 "ClashFreeModel" "thrown" "I") (List.mem_of_getElem? (i := 1) rfl)) (fun _ h9 => h9) rfl (by decide +kernel) rfl rfl (Nat.le_of_ble_eq_true rfl) dX11_outer_2 (fun H locs hP hD hS => ?_)
  have hP : va_P D vwCl [(h0, .inr (11, fM a tp sd pa pb dr)), (a 3, .inl (cN, 85, .inr (.inl (fun _ => 0))))] H := hP
  have hD : va_D A [(h0, .inr (11, fM a tp sd pa pb dr)), (a 3, .inl (cN, 85, .inr (.inl (fun _ => 0))))] := hD
  refine lv_aload_n hx hb dX11_outer_5 rfl (lv_at hl 0 rfl) ?_
  refine lv_iload_n hx hb dX11_outer_6 rfl (lv_at hl 1 rfl) ?_
  have hPc := hP.sub (ws' := [(h0, .inr (11, fM a tp sd pa pb dr)), (a 3, .inl (cN, 85, .inr (.inl (fun _ => 0))))]) [0, 1] rfl
  have hKc := hK.sub (tys' := [(cN, .long)]) [0] rfl
  have hFc := va_free0 hS hA
  refine va_calli (va_runV (As := [.int z1]) (rest := []) ⟨hx, hb, hml, hown, hts⟩ (c_isThere l D _ h0 a cN tp sd pa pb dr z1) (cwV 1 hts g_c_X11_outer_c_isThere_222 rfl rfl rfl (by decide +kernel) ⟨(Nat.le_of_ble_eq_true rfl), (Nat.le_of_ble_eq_true rfl)⟩) (PcR_V (q0 := 0) hPc hKc rfl rfl) rfl rfl hl.1 rfl (lv_room (Nat.le_of_ble_eq_true rfl)) dX11_outer_7 ⟨(Nat.le_of_ble_eq_true rfl), (Nat.le_of_ble_eq_true rfl)⟩) hS (fun q _ h => hFc q h) hFc (fun r1 uu tt H locs htt hvm hw hB hz1 hk1 hS => ?_)
  have hP := va_keep hP hk1
  try dsimp only at hw
  clear hB hz1 hk1 hFc hPc hKc
  obtain rfl : r1 = 0 := hw
  refine lv_if_eq (tgt := 47) hx hb dX11_outer_10 (by decide) (fun hc => ?_) (fun hc => absurd (by decide) hc)
  refine lv_ldc2 (v := (-1000000000000000)) hx hb hown (hts (.constantLong RX11 235 (-1000000000000000)) (List.mem_of_getElem? (i := 6) rfl)) dX11_outer_47 ?_
  exact W.lret (v := (-1000000000000000)) hx hb hr (fun t ht hW => ⟨⟨(-1000000000000000), (), rfl, rfl, trivial⟩, hS.F ht⟩) hS.2.2 dX11_outer_50

def own_c_X11_best : List Cond := [.fieldLink RX11 73 "ClashFreeModel" "thrown" "I", .methodLink RX11 222 yX11_isThere, .instanceMethod yX11_isThere, .selects RX11 yX11_isThere yX11_isThere, .initialized RX11, .constantLong RX11 235 (-1000000000000000)]
def wp_c_X11_best : List Cond := .code yX11_best cX11_best 13 (some .long) :: (own_c_X11_best ++ (wp_c_isThere ++ (wsX110 ++ ([] : List Cond))))
set_option maxRecDepth 20000 in
theorem inown_c_X11_best : ∀ w ∈ own_c_X11_best, w ∈ lw_tbl := mem_places [1216, 1466, 1468, 54, 115, 1517] (by decide +kernel)
set_option maxRecDepth 20000 in
theorem in_c_X11_best : ∀ w ∈ wp_c_X11_best, w ∈ lw_tbl := List.forall_mem_cons.mpr ⟨List.mem_of_getElem? (i := 1603) (by decide +kernel), List.forall_mem_append.mpr ⟨inown_c_X11_best, List.forall_mem_append.mpr ⟨in_c_isThere, List.forall_mem_append.mpr ⟨lwb_X11, fun _ h => absurd h List.not_mem_nil⟩⟩⟩⟩
set_option maxRecDepth 20000 in
theorem good_c_X11_best : wp_c_X11_best.all goodWord = true := by decide +kernel
set_option maxRecDepth 20000 in
theorem g_c_X11_best_c_isThere_222 : GoodIn wp_c_X11_best (wsV RX11 222 RX11 yX11_isThere wp_c_isThere) := goodIn_sub (List.forall_mem_append.mpr ⟨List.forall_mem_cons.mpr ⟨(List.mem_of_getElem? (i := 2) rfl), List.forall_mem_cons.mpr ⟨(List.mem_of_getElem? (i := 3) rfl), List.forall_mem_cons.mpr ⟨(List.mem_of_getElem? (i := 4) rfl), List.forall_mem_cons.mpr ⟨(List.mem_of_getElem? (i := 5) rfl), fun _ h => absurd h List.not_mem_nil⟩⟩⟩⟩, (fun _ h => (List.mem_cons_of_mem _ (List.mem_append_right _ (List.mem_append_left _ h))))⟩) (by decide +kernel)
set_option maxHeartbeats 4000000 in
set_option maxRecDepth 100000 in
theorem c_X11_best (l : Launch) (D : va_G) (sz : Nat) (h0 : Nat) (a : Nat → Nat) (cN : ClassId) (tp : Int32) (sd : Int64) (pa : Int64) (pb : Int64) (dr : Int32) (z1 : Int32) (z2 : Int32) (y3 : Int64) (z4 : Int32)  : Met l yX11_best wp_c_X11_best ({ frames := 2, cells := 0, slots := 0, locals := 46 }) (PcW D [.ref h0, .int z1, .int z2, .long y3, .int z4] sz [(h0, .inr (11, fM a tp sd pa pb dr)), (a 3, .inl (cN, 85, .inr (.inl (fun _ => 0))))] [(cN, .long)]) (va_Ql (fun (r : Int64) (_ : Unit) => r = (-1000000000000000)) (fun (_ : Unit) _ => True) (va_A [(h0, .inr (11, fM a tp sd pa pb dr)), (a 3, .inl (cN, 85, .inr (.inl (fun _ => 0))))] sz)) 0 0 (va_A [(h0, .inr (11, fM a tp sd pa pb dr)), (a 3, .inl (cN, 85, .inr (.inl (fun _ => 0))))] sz) := by
  refine Met.ofW (cc := cX11_best) (maxL := 13) (ret := (some .long)) (by decide) rfl ?_
  intro p e s m args below meth c s₁ B hml hv
  obtain ⟨rfl, hsz, hP, hK, hD0⟩ := hv
  have hx := B.exec
  have hb := B.bytes
  have hr := B.returns
  have hts := atoms_spec (ws := wp_c_X11_best) B.pre
  have hin_X11 : ∀ w ∈ wsX110, w ∈ wp_c_X11_best := fun _ h => (List.mem_cons_of_mem _ (List.mem_append_right _ (List.mem_append_right _ (List.mem_append_left _ h))))
  have hown : s.vm.findClass RX11 = some m.cls := findClass_of_methodNamed B.named
  have hlocks := B.notSynchronized
  subst hsz
  have hD := hD0.self (sz := s.heap.size)
  generalize hAe : va_A [(h0, .inr (11, fM a tp sd pa pb dr)), (a 3, .inl (cN, 85, .inr (.inl (fun _ => 0))))] s.heap.size = A at hD ⊢
  have hA : ∀ q : Nat, s.heap.size ≤ q → A q := fun q h => by rw [← hAe]; exact Or.inr h
  have hS : va_S A s.heap s.heap [] := va_S.rf
  have hP : va_P D vwCl [(h0, .inr (11, fM a tp sd pa pb dr)), (a 3, .inl (cN, 85, .inr (.inl (fun _ => 0))))] s.heap := hP
  have hl := lv_entry ([.ref h0, .int z1, .int z2, .long y3, .int z4]) (n := 13) (Nat.le_of_ble_eq_true rfl)
  rw [lg_entry_eq]
  generalize (lg_sl ([.ref h0, .int z1, .int z2, .long y3, .int z4]) ++ List.replicate (13 - (lg_sl ([.ref h0, .int z1, .int z2, .long y3, .int z4])).length) Slot.unset).toArray = ls at hl ⊢
  have hl : lv_has ls 13 [(0, .ref h0), (1, .int z1), (2, .int z2), (3, .long y3), (5, .int z4)] := hl
  refine lv_aload_n hx hb dX11_best_0 rfl (lv_at hl 0 rfl) ?_
  refine lv_iconst (v := 0) hx hb dX11_best_1 (by decide) ?_
  refine va_put (D := D) (ci := 11) (v := .int 0) (ty := .int) (C := RX11) (T := TX11) (N := 47) hx hb hts hin_X11 tyX11 tyX11_ok nmX11 hown hK hP hD hS 0 rfl rfl 0 (by decide) (hts (.fieldLink RX11 73 "ClashFreeModel" "thrown" "I") (List.mem_of_getElem? (i := 1) rfl)) (fun _ h9 => h9) rfl (by decide +kernel) rfl rfl (Nat.le_of_ble_eq_true rfl) dX11_best_2 (fun H locs hP hD hS => ?_)
  have hP : va_P D vwCl [(h0, .inr (11, fM a tp sd pa pb dr)), (a 3, .inl (cN, 85, .inr (.inl (fun _ => 0))))] H := hP
  have hD : va_D A [(h0, .inr (11, fM a tp sd pa pb dr)), (a 3, .inl (cN, 85, .inr (.inl (fun _ => 0))))] := hD
  refine lv_aload_n hx hb dX11_best_5 rfl (lv_at hl 0 rfl) ?_
  refine lv_iload_n hx hb dX11_best_6 rfl (lv_at hl 1 rfl) ?_
  have hPc := hP.sub (ws' := [(h0, .inr (11, fM a tp sd pa pb dr)), (a 3, .inl (cN, 85, .inr (.inl (fun _ => 0))))]) [0, 1] rfl
  have hKc := hK.sub (tys' := [(cN, .long)]) [0] rfl
  have hFc := va_free0 hS hA
  refine va_calli (va_runV (As := [.int z1]) (rest := []) ⟨hx, hb, hml, hown, hts⟩ (c_isThere l D _ h0 a cN tp sd pa pb dr z1) (cwV 1 hts g_c_X11_best_c_isThere_222 rfl rfl rfl (by decide +kernel) ⟨(Nat.le_of_ble_eq_true rfl), (Nat.le_of_ble_eq_true rfl)⟩) (PcR_V (q0 := 0) hPc hKc rfl rfl) rfl rfl hl.1 rfl (lv_room (Nat.le_of_ble_eq_true rfl)) dX11_best_7 ⟨(Nat.le_of_ble_eq_true rfl), (Nat.le_of_ble_eq_true rfl)⟩) hS (fun q _ h => hFc q h) hFc (fun r1 uu tt H locs htt hvm hw hB hz1 hk1 hS => ?_)
  have hP := va_keep hP hk1
  try dsimp only at hw
  clear hB hz1 hk1 hFc hPc hKc
  obtain rfl : r1 = 0 := hw
  refine lv_if_eq (tgt := 38) hx hb dX11_best_10 (by decide) (fun hc => ?_) (fun hc => absurd (by decide) hc)
  refine lv_ldc2 (v := (-1000000000000000)) hx hb hown (hts (.constantLong RX11 235 (-1000000000000000)) (List.mem_of_getElem? (i := 6) rfl)) dX11_best_38 ?_
  exact W.lret (v := (-1000000000000000)) hx hb hr (fun t ht hW => ⟨⟨(-1000000000000000), (), rfl, rfl, trivial⟩, hS.F ht⟩) hS.2.2 dX11_best_41

def own_c_X11_inner : List Cond := [.fieldLink RX11 73 "ClashFreeModel" "thrown" "I", .methodLink RX11 246 yX11_isBucket, .instanceMethod yX11_isBucket, .selects RX11 yX11_isBucket yX11_isBucket, .initialized RX11]
def wp_c_X11_inner : List Cond := .code yX11_inner cX11_inner 5 (some .int) :: (own_c_X11_inner ++ (wp_c_isBucket ++ (wsX110 ++ ([] : List Cond))))
set_option maxRecDepth 20000 in
theorem inown_c_X11_inner : ∀ w ∈ own_c_X11_inner, w ∈ lw_tbl := mem_places [1216, 1541, 1543, 65, 115] (by decide +kernel)
set_option maxRecDepth 20000 in
theorem in_c_X11_inner : ∀ w ∈ wp_c_X11_inner, w ∈ lw_tbl := List.forall_mem_cons.mpr ⟨List.mem_of_getElem? (i := 1595) (by decide +kernel), List.forall_mem_append.mpr ⟨inown_c_X11_inner, List.forall_mem_append.mpr ⟨in_c_isBucket, List.forall_mem_append.mpr ⟨lwb_X11, fun _ h => absurd h List.not_mem_nil⟩⟩⟩⟩
set_option maxRecDepth 20000 in
theorem good_c_X11_inner : wp_c_X11_inner.all goodWord = true := by decide +kernel
set_option maxRecDepth 20000 in
theorem g_c_X11_inner_c_isBucket_246 : GoodIn wp_c_X11_inner (wsV RX11 246 RX11 yX11_isBucket wp_c_isBucket) := goodIn_sub (List.forall_mem_append.mpr ⟨List.forall_mem_cons.mpr ⟨(List.mem_of_getElem? (i := 2) rfl), List.forall_mem_cons.mpr ⟨(List.mem_of_getElem? (i := 3) rfl), List.forall_mem_cons.mpr ⟨(List.mem_of_getElem? (i := 4) rfl), List.forall_mem_cons.mpr ⟨(List.mem_of_getElem? (i := 5) rfl), fun _ h => absurd h List.not_mem_nil⟩⟩⟩⟩, (fun _ h => (List.mem_cons_of_mem _ (List.mem_append_right _ (List.mem_append_left _ h))))⟩) (by decide +kernel)
set_option maxHeartbeats 4000000 in
set_option maxRecDepth 100000 in
theorem c_X11_inner (l : Launch) (D : va_G) (sz : Nat) (h0 : Nat) (a : Nat → Nat) (cN : ClassId) (tp : Int32) (sd : Int64) (pa : Int64) (pb : Int64) (dr : Int32) (z1 : Int32) (z2 : Int32) (z3 : Int32) (z4 : Int32)  : Met l yX11_inner wp_c_X11_inner ({ frames := 3, cells := 0, slots := 0, locals := 68 }) (PcW D [.ref h0, .int z1, .int z2, .int z3, .int z4] sz [(h0, .inr (11, fM a tp sd pa pb dr)), (a 3, .inl (cN, 85, .inr (.inl (fun _ => 0))))] [(cN, .long)]) (va_Qi (fun (r : Int32) (_ : Unit) => r = (-1)) (fun (_ : Unit) _ => True) (va_A [(h0, .inr (11, fM a tp sd pa pb dr)), (a 3, .inl (cN, 85, .inr (.inl (fun _ => 0))))] sz)) 0 0 (va_A [(h0, .inr (11, fM a tp sd pa pb dr)), (a 3, .inl (cN, 85, .inr (.inl (fun _ => 0))))] sz) := by
  refine Met.ofW (cc := cX11_inner) (maxL := 5) (ret := (some .int)) (by decide) rfl ?_
  intro p e s m args below meth c s₁ B hml hv
  obtain ⟨rfl, hsz, hP, hK, hD0⟩ := hv
  have hx := B.exec
  have hb := B.bytes
  have hr := B.returns
  have hts := atoms_spec (ws := wp_c_X11_inner) B.pre
  have hin_X11 : ∀ w ∈ wsX110, w ∈ wp_c_X11_inner := fun _ h => (List.mem_cons_of_mem _ (List.mem_append_right _ (List.mem_append_right _ (List.mem_append_left _ h))))
  have hown : s.vm.findClass RX11 = some m.cls := findClass_of_methodNamed B.named
  have hlocks := B.notSynchronized
  subst hsz
  have hD := hD0.self (sz := s.heap.size)
  generalize hAe : va_A [(h0, .inr (11, fM a tp sd pa pb dr)), (a 3, .inl (cN, 85, .inr (.inl (fun _ => 0))))] s.heap.size = A at hD ⊢
  have hA : ∀ q : Nat, s.heap.size ≤ q → A q := fun q h => by rw [← hAe]; exact Or.inr h
  have hS : va_S A s.heap s.heap [] := va_S.rf
  have hP : va_P D vwCl [(h0, .inr (11, fM a tp sd pa pb dr)), (a 3, .inl (cN, 85, .inr (.inl (fun _ => 0))))] s.heap := hP
  have hl := lv_entry ([.ref h0, .int z1, .int z2, .int z3, .int z4]) (n := 5) (Nat.le_of_ble_eq_true rfl)
  rw [lg_entry_eq]
  generalize (lg_sl ([.ref h0, .int z1, .int z2, .int z3, .int z4]) ++ List.replicate (5 - (lg_sl ([.ref h0, .int z1, .int z2, .int z3, .int z4])).length) Slot.unset).toArray = ls at hl ⊢
  have hl : lv_has ls 5 [(0, .ref h0), (1, .int z1), (2, .int z2), (3, .int z3), (4, .int z4)] := hl
  refine lv_aload_n hx hb dX11_inner_0 rfl (lv_at hl 0 rfl) ?_
  refine lv_iconst (v := 0) hx hb dX11_inner_1 (by decide) ?_
  refine va_put (D := D) (ci := 11) (v := .int 0) (ty := .int) (C := RX11) (T := TX11) (N := 47) hx hb hts hin_X11 tyX11 tyX11_ok nmX11 hown hK hP hD hS 0 rfl rfl 0 (by decide) (hts (.fieldLink RX11 73 "ClashFreeModel" "thrown" "I") (List.mem_of_getElem? (i := 1) rfl)) (fun _ h9 => h9) rfl (by decide +kernel) rfl rfl (Nat.le_of_ble_eq_true rfl) dX11_inner_2 (fun H locs hP hD hS => ?_)
  have hP : va_P D vwCl [(h0, .inr (11, fM a tp sd pa pb dr)), (a 3, .inl (cN, 85, .inr (.inl (fun _ => 0))))] H := hP
  have hD : va_D A [(h0, .inr (11, fM a tp sd pa pb dr)), (a 3, .inl (cN, 85, .inr (.inl (fun _ => 0))))] := hD
  refine lv_aload_n hx hb dX11_inner_5 rfl (lv_at hl 0 rfl) ?_
  refine lv_iload_n hx hb dX11_inner_6 rfl (lv_at hl 1 rfl) ?_
  refine lv_iload_n hx hb dX11_inner_7 rfl (lv_at hl 2 rfl) ?_
  have hPc := hP.sub (ws' := [(h0, .inr (11, fM a tp sd pa pb dr)), (a 3, .inl (cN, 85, .inr (.inl (fun _ => 0))))]) [0, 1] rfl
  have hKc := hK.sub (tys' := [(cN, .long)]) [0] rfl
  have hFc := va_free0 hS hA
  refine va_calli (va_runV (As := [.int z1, .int z2]) (rest := []) ⟨hx, hb, hml, hown, hts⟩ (c_isBucket l D _ h0 a cN tp sd pa pb dr z1 z2) (cwV 2 hts g_c_X11_inner_c_isBucket_246 rfl rfl rfl (by decide +kernel) ⟨(Nat.le_of_ble_eq_true rfl), (Nat.le_of_ble_eq_true rfl)⟩) (PcR_V (q0 := 0) hPc hKc rfl rfl) rfl rfl hl.1 rfl (lv_room (Nat.le_of_ble_eq_true rfl)) dX11_inner_8 ⟨(Nat.le_of_ble_eq_true rfl), (Nat.le_of_ble_eq_true rfl)⟩) hS (fun q _ h => hFc q h) hFc (fun r1 uu tt H locs htt hvm hw hB hz1 hk1 hS => ?_)
  have hP := va_keep hP hk1
  try dsimp only at hw
  clear hB hz1 hk1 hFc hPc hKc
  obtain rfl : r1 = 0 := hw
  refine lv_if_eq (tgt := 46) hx hb dX11_inner_11 (by decide) (fun hc => ?_) (fun hc => absurd (by decide) hc)
  refine lv_iconst (v := (-1)) hx hb dX11_inner_46 (by decide) ?_
  exact W.iret (v := (-1)) hx hb hr (fun t ht hW => ⟨⟨(-1), (), rfl, rfl, trivial⟩, hS.F ht⟩) hS.2.2 dX11_inner_47

def own_c_X11_tries : List Cond := [.fieldLink RX11 73 "ClashFreeModel" "thrown" "I", .methodLink RX11 246 yX11_isBucket, .instanceMethod yX11_isBucket, .selects RX11 yX11_isBucket yX11_isBucket, .initialized RX11]
def wp_c_X11_tries : List Cond := .code yX11_tries cX11_tries 10 (some .int) :: (own_c_X11_tries ++ (wp_c_isBucket ++ (wsX110 ++ ([] : List Cond))))
set_option maxRecDepth 20000 in
theorem inown_c_X11_tries : ∀ w ∈ own_c_X11_tries, w ∈ lw_tbl := mem_places [1216, 1541, 1543, 65, 115] (by decide +kernel)
set_option maxRecDepth 20000 in
theorem in_c_X11_tries : ∀ w ∈ wp_c_X11_tries, w ∈ lw_tbl := List.forall_mem_cons.mpr ⟨List.mem_of_getElem? (i := 1599) (by decide +kernel), List.forall_mem_append.mpr ⟨inown_c_X11_tries, List.forall_mem_append.mpr ⟨in_c_isBucket, List.forall_mem_append.mpr ⟨lwb_X11, fun _ h => absurd h List.not_mem_nil⟩⟩⟩⟩
set_option maxRecDepth 20000 in
theorem good_c_X11_tries : wp_c_X11_tries.all goodWord = true := by decide +kernel
set_option maxRecDepth 20000 in
theorem g_c_X11_tries_c_isBucket_246 : GoodIn wp_c_X11_tries (wsV RX11 246 RX11 yX11_isBucket wp_c_isBucket) := goodIn_sub (List.forall_mem_append.mpr ⟨List.forall_mem_cons.mpr ⟨(List.mem_of_getElem? (i := 2) rfl), List.forall_mem_cons.mpr ⟨(List.mem_of_getElem? (i := 3) rfl), List.forall_mem_cons.mpr ⟨(List.mem_of_getElem? (i := 4) rfl), List.forall_mem_cons.mpr ⟨(List.mem_of_getElem? (i := 5) rfl), fun _ h => absurd h List.not_mem_nil⟩⟩⟩⟩, (fun _ h => (List.mem_cons_of_mem _ (List.mem_append_right _ (List.mem_append_left _ h))))⟩) (by decide +kernel)
set_option maxHeartbeats 4000000 in
set_option maxRecDepth 100000 in
theorem c_X11_tries (l : Launch) (D : va_G) (sz : Nat) (h0 : Nat) (a : Nat → Nat) (cN : ClassId) (tp : Int32) (sd : Int64) (pa : Int64) (pb : Int64) (dr : Int32) (z1 : Int32) (z2 : Int32) (z3 : Int32) (y4 : Int64) (z5 : Int32)  : Met l yX11_tries wp_c_X11_tries ({ frames := 3, cells := 0, slots := 0, locals := 68 }) (PcW D [.ref h0, .int z1, .int z2, .int z3, .long y4, .int z5] sz [(h0, .inr (11, fM a tp sd pa pb dr)), (a 3, .inl (cN, 85, .inr (.inl (fun _ => 0))))] [(cN, .long)]) (va_Qi (fun (r : Int32) (_ : Unit) => r = (-2)) (fun (_ : Unit) _ => True) (va_A [(h0, .inr (11, fM a tp sd pa pb dr)), (a 3, .inl (cN, 85, .inr (.inl (fun _ => 0))))] sz)) 0 0 (va_A [(h0, .inr (11, fM a tp sd pa pb dr)), (a 3, .inl (cN, 85, .inr (.inl (fun _ => 0))))] sz) := by
  refine Met.ofW (cc := cX11_tries) (maxL := 10) (ret := (some .int)) (by decide) rfl ?_
  intro p e s m args below meth c s₁ B hml hv
  obtain ⟨rfl, hsz, hP, hK, hD0⟩ := hv
  have hx := B.exec
  have hb := B.bytes
  have hr := B.returns
  have hts := atoms_spec (ws := wp_c_X11_tries) B.pre
  have hin_X11 : ∀ w ∈ wsX110, w ∈ wp_c_X11_tries := fun _ h => (List.mem_cons_of_mem _ (List.mem_append_right _ (List.mem_append_right _ (List.mem_append_left _ h))))
  have hown : s.vm.findClass RX11 = some m.cls := findClass_of_methodNamed B.named
  have hlocks := B.notSynchronized
  subst hsz
  have hD := hD0.self (sz := s.heap.size)
  generalize hAe : va_A [(h0, .inr (11, fM a tp sd pa pb dr)), (a 3, .inl (cN, 85, .inr (.inl (fun _ => 0))))] s.heap.size = A at hD ⊢
  have hA : ∀ q : Nat, s.heap.size ≤ q → A q := fun q h => by rw [← hAe]; exact Or.inr h
  have hS : va_S A s.heap s.heap [] := va_S.rf
  have hP : va_P D vwCl [(h0, .inr (11, fM a tp sd pa pb dr)), (a 3, .inl (cN, 85, .inr (.inl (fun _ => 0))))] s.heap := hP
  have hl := lv_entry ([.ref h0, .int z1, .int z2, .int z3, .long y4, .int z5]) (n := 10) (Nat.le_of_ble_eq_true rfl)
  rw [lg_entry_eq]
  generalize (lg_sl ([.ref h0, .int z1, .int z2, .int z3, .long y4, .int z5]) ++ List.replicate (10 - (lg_sl ([.ref h0, .int z1, .int z2, .int z3, .long y4, .int z5])).length) Slot.unset).toArray = ls at hl ⊢
  have hl : lv_has ls 10 [(0, .ref h0), (1, .int z1), (2, .int z2), (3, .int z3), (4, .long y4), (6, .int z5)] := hl
  refine lv_aload_n hx hb dX11_tries_0 rfl (lv_at hl 0 rfl) ?_
  refine lv_iconst (v := 0) hx hb dX11_tries_1 (by decide) ?_
  refine va_put (D := D) (ci := 11) (v := .int 0) (ty := .int) (C := RX11) (T := TX11) (N := 47) hx hb hts hin_X11 tyX11 tyX11_ok nmX11 hown hK hP hD hS 0 rfl rfl 0 (by decide) (hts (.fieldLink RX11 73 "ClashFreeModel" "thrown" "I") (List.mem_of_getElem? (i := 1) rfl)) (fun _ h9 => h9) rfl (by decide +kernel) rfl rfl (Nat.le_of_ble_eq_true rfl) dX11_tries_2 (fun H locs hP hD hS => ?_)
  have hP : va_P D vwCl [(h0, .inr (11, fM a tp sd pa pb dr)), (a 3, .inl (cN, 85, .inr (.inl (fun _ => 0))))] H := hP
  have hD : va_D A [(h0, .inr (11, fM a tp sd pa pb dr)), (a 3, .inl (cN, 85, .inr (.inl (fun _ => 0))))] := hD
  refine lv_aload_n hx hb dX11_tries_5 rfl (lv_at hl 0 rfl) ?_
  refine lv_iload_n hx hb dX11_tries_6 rfl (lv_at hl 1 rfl) ?_
  refine lv_iload_n hx hb dX11_tries_7 rfl (lv_at hl 2 rfl) ?_
  have hPc := hP.sub (ws' := [(h0, .inr (11, fM a tp sd pa pb dr)), (a 3, .inl (cN, 85, .inr (.inl (fun _ => 0))))]) [0, 1] rfl
  have hKc := hK.sub (tys' := [(cN, .long)]) [0] rfl
  have hFc := va_free0 hS hA
  refine va_calli (va_runV (As := [.int z1, .int z2]) (rest := []) ⟨hx, hb, hml, hown, hts⟩ (c_isBucket l D _ h0 a cN tp sd pa pb dr z1 z2) (cwV 2 hts g_c_X11_tries_c_isBucket_246 rfl rfl rfl (by decide +kernel) ⟨(Nat.le_of_ble_eq_true rfl), (Nat.le_of_ble_eq_true rfl)⟩) (PcR_V (q0 := 0) hPc hKc rfl rfl) rfl rfl hl.1 rfl (lv_room (Nat.le_of_ble_eq_true rfl)) dX11_tries_8 ⟨(Nat.le_of_ble_eq_true rfl), (Nat.le_of_ble_eq_true rfl)⟩) hS (fun q _ h => hFc q h) hFc (fun r1 uu tt H locs htt hvm hw hB hz1 hk1 hS => ?_)
  have hP := va_keep hP hk1
  try dsimp only at hw
  clear hB hz1 hk1 hFc hPc hKc
  obtain rfl : r1 = 0 := hw
  refine lv_if_eq (tgt := 46) hx hb dX11_tries_11 (by decide) (fun hc => ?_) (fun hc => absurd (by decide) hc)
  refine lv_bipush (v := (-2)) hx hb dX11_tries_46 (by decide) ?_
  exact W.iret (v := (-2)) hx hb hr (fun t ht hW => ⟨⟨(-2), (), rfl, rfl, trivial⟩, hS.F ht⟩) hS.2.2 dX11_tries_48

def own_c_X11_would : List Cond := [.fieldLink RX11 73 "ClashFreeModel" "thrown" "I", .methodLink RX11 222 yX11_isThere, .instanceMethod yX11_isThere, .selects RX11 yX11_isThere yX11_isThere, .initialized RX11]
def wp_c_X11_would : List Cond := .code yX11_would cX11_would 3 (some .int) :: (own_c_X11_would ++ (wp_c_isThere ++ (wsX110 ++ ([] : List Cond))))
set_option maxRecDepth 20000 in
theorem inown_c_X11_would : ∀ w ∈ own_c_X11_would, w ∈ lw_tbl := mem_places [1216, 1466, 1468, 54, 115] (by decide +kernel)
set_option maxRecDepth 20000 in
theorem in_c_X11_would : ∀ w ∈ wp_c_X11_would, w ∈ lw_tbl := List.forall_mem_cons.mpr ⟨List.mem_of_getElem? (i := 1615) (by decide +kernel), List.forall_mem_append.mpr ⟨inown_c_X11_would, List.forall_mem_append.mpr ⟨in_c_isThere, List.forall_mem_append.mpr ⟨lwb_X11, fun _ h => absurd h List.not_mem_nil⟩⟩⟩⟩
set_option maxRecDepth 20000 in
theorem good_c_X11_would : wp_c_X11_would.all goodWord = true := by decide +kernel
set_option maxRecDepth 20000 in
theorem g_c_X11_would_c_isThere_222 : GoodIn wp_c_X11_would (wsV RX11 222 RX11 yX11_isThere wp_c_isThere) := goodIn_sub (List.forall_mem_append.mpr ⟨List.forall_mem_cons.mpr ⟨(List.mem_of_getElem? (i := 2) rfl), List.forall_mem_cons.mpr ⟨(List.mem_of_getElem? (i := 3) rfl), List.forall_mem_cons.mpr ⟨(List.mem_of_getElem? (i := 4) rfl), List.forall_mem_cons.mpr ⟨(List.mem_of_getElem? (i := 5) rfl), fun _ h => absurd h List.not_mem_nil⟩⟩⟩⟩, (fun _ h => (List.mem_cons_of_mem _ (List.mem_append_right _ (List.mem_append_left _ h))))⟩) (by decide +kernel)
set_option maxHeartbeats 4000000 in
set_option maxRecDepth 100000 in
theorem c_X11_would (l : Launch) (D : va_G) (sz : Nat) (h0 : Nat) (a : Nat → Nat) (cN : ClassId) (tp : Int32) (sd : Int64) (pa : Int64) (pb : Int64) (dr : Int32) (z1 : Int32) (z2 : Int32)  : Met l yX11_would wp_c_X11_would ({ frames := 2, cells := 0, slots := 0, locals := 46 }) (PcW D [.ref h0, .int z1, .int z2] sz [(h0, .inr (11, fM a tp sd pa pb dr)), (a 3, .inl (cN, 85, .inr (.inl (fun _ => 0))))] [(cN, .long)]) (va_Qi (fun (r : Int32) (_ : Unit) => r = (-2)) (fun (_ : Unit) _ => True) (va_A [(h0, .inr (11, fM a tp sd pa pb dr)), (a 3, .inl (cN, 85, .inr (.inl (fun _ => 0))))] sz)) 0 0 (va_A [(h0, .inr (11, fM a tp sd pa pb dr)), (a 3, .inl (cN, 85, .inr (.inl (fun _ => 0))))] sz) := by
  refine Met.ofW (cc := cX11_would) (maxL := 3) (ret := (some .int)) (by decide) rfl ?_
  intro p e s m args below meth c s₁ B hml hv
  obtain ⟨rfl, hsz, hP, hK, hD0⟩ := hv
  have hx := B.exec
  have hb := B.bytes
  have hr := B.returns
  have hts := atoms_spec (ws := wp_c_X11_would) B.pre
  have hin_X11 : ∀ w ∈ wsX110, w ∈ wp_c_X11_would := fun _ h => (List.mem_cons_of_mem _ (List.mem_append_right _ (List.mem_append_right _ (List.mem_append_left _ h))))
  have hown : s.vm.findClass RX11 = some m.cls := findClass_of_methodNamed B.named
  have hlocks := B.notSynchronized
  subst hsz
  have hD := hD0.self (sz := s.heap.size)
  generalize hAe : va_A [(h0, .inr (11, fM a tp sd pa pb dr)), (a 3, .inl (cN, 85, .inr (.inl (fun _ => 0))))] s.heap.size = A at hD ⊢
  have hA : ∀ q : Nat, s.heap.size ≤ q → A q := fun q h => by rw [← hAe]; exact Or.inr h
  have hS : va_S A s.heap s.heap [] := va_S.rf
  have hP : va_P D vwCl [(h0, .inr (11, fM a tp sd pa pb dr)), (a 3, .inl (cN, 85, .inr (.inl (fun _ => 0))))] s.heap := hP
  have hl := lv_entry ([.ref h0, .int z1, .int z2]) (n := 3) (Nat.le_of_ble_eq_true rfl)
  rw [lg_entry_eq]
  generalize (lg_sl ([.ref h0, .int z1, .int z2]) ++ List.replicate (3 - (lg_sl ([.ref h0, .int z1, .int z2])).length) Slot.unset).toArray = ls at hl ⊢
  have hl : lv_has ls 3 [(0, .ref h0), (1, .int z1), (2, .int z2)] := hl
  refine lv_aload_n hx hb dX11_would_0 rfl (lv_at hl 0 rfl) ?_
  refine lv_iconst (v := 0) hx hb dX11_would_1 (by decide) ?_
  refine va_put (D := D) (ci := 11) (v := .int 0) (ty := .int) (C := RX11) (T := TX11) (N := 47) hx hb hts hin_X11 tyX11 tyX11_ok nmX11 hown hK hP hD hS 0 rfl rfl 0 (by decide) (hts (.fieldLink RX11 73 "ClashFreeModel" "thrown" "I") (List.mem_of_getElem? (i := 1) rfl)) (fun _ h9 => h9) rfl (by decide +kernel) rfl rfl (Nat.le_of_ble_eq_true rfl) dX11_would_2 (fun H locs hP hD hS => ?_)
  have hP : va_P D vwCl [(h0, .inr (11, fM a tp sd pa pb dr)), (a 3, .inl (cN, 85, .inr (.inl (fun _ => 0))))] H := hP
  have hD : va_D A [(h0, .inr (11, fM a tp sd pa pb dr)), (a 3, .inl (cN, 85, .inr (.inl (fun _ => 0))))] := hD
  refine lv_aload_n hx hb dX11_would_5 rfl (lv_at hl 0 rfl) ?_
  refine lv_iload_n hx hb dX11_would_6 rfl (lv_at hl 1 rfl) ?_
  have hPc := hP.sub (ws' := [(h0, .inr (11, fM a tp sd pa pb dr)), (a 3, .inl (cN, 85, .inr (.inl (fun _ => 0))))]) [0, 1] rfl
  have hKc := hK.sub (tys' := [(cN, .long)]) [0] rfl
  have hFc := va_free0 hS hA
  refine va_calli (va_runV (As := [.int z1]) (rest := []) ⟨hx, hb, hml, hown, hts⟩ (c_isThere l D _ h0 a cN tp sd pa pb dr z1) (cwV 1 hts g_c_X11_would_c_isThere_222 rfl rfl rfl (by decide +kernel) ⟨(Nat.le_of_ble_eq_true rfl), (Nat.le_of_ble_eq_true rfl)⟩) (PcR_V (q0 := 0) hPc hKc rfl rfl) rfl rfl hl.1 rfl (lv_room (Nat.le_of_ble_eq_true rfl)) dX11_would_7 ⟨(Nat.le_of_ble_eq_true rfl), (Nat.le_of_ble_eq_true rfl)⟩) hS (fun q _ h => hFc q h) hFc (fun r1 uu tt H locs htt hvm hw hB hz1 hk1 hS => ?_)
  have hP := va_keep hP hk1
  try dsimp only at hw
  clear hB hz1 hk1 hFc hPc hKc
  obtain rfl : r1 = 0 := hw
  refine lv_if_eq (tgt := 20) hx hb dX11_would_10 (by decide) (fun hc => ?_) (fun hc => absurd (by decide) hc)
  refine lv_bipush (v := (-2)) hx hb dX11_would_20 (by decide) ?_
  exact W.iret (v := (-2)) hx hb hr (fun t ht hW => ⟨⟨(-2), (), rfl, rfl, trivial⟩, hS.F ht⟩) hS.2.2 dX11_would_22

def own_c_X11_frozen : List Cond := [.fieldLink RX11 73 "ClashFreeModel" "thrown" "I", .methodLink RX11 222 yX11_isThere, .instanceMethod yX11_isThere, .selects RX11 yX11_isThere yX11_isThere, .initialized RX11, .constantLong RX11 235 (-1000000000000000)]
def wp_c_X11_frozen : List Cond := .code yX11_frozen cX11_frozen 8 (some .long) :: (own_c_X11_frozen ++ (wp_c_isThere ++ (wsX110 ++ ([] : List Cond))))
set_option maxRecDepth 20000 in
theorem inown_c_X11_frozen : ∀ w ∈ own_c_X11_frozen, w ∈ lw_tbl := mem_places [1216, 1466, 1468, 54, 115, 1517] (by decide +kernel)
set_option maxRecDepth 20000 in
theorem in_c_X11_frozen : ∀ w ∈ wp_c_X11_frozen, w ∈ lw_tbl := List.forall_mem_cons.mpr ⟨List.mem_of_getElem? (i := 1619) (by decide +kernel), List.forall_mem_append.mpr ⟨inown_c_X11_frozen, List.forall_mem_append.mpr ⟨in_c_isThere, List.forall_mem_append.mpr ⟨lwb_X11, fun _ h => absurd h List.not_mem_nil⟩⟩⟩⟩
set_option maxRecDepth 20000 in
theorem good_c_X11_frozen : wp_c_X11_frozen.all goodWord = true := by decide +kernel
set_option maxRecDepth 20000 in
theorem g_c_X11_frozen_c_isThere_222 : GoodIn wp_c_X11_frozen (wsV RX11 222 RX11 yX11_isThere wp_c_isThere) := goodIn_sub (List.forall_mem_append.mpr ⟨List.forall_mem_cons.mpr ⟨(List.mem_of_getElem? (i := 2) rfl), List.forall_mem_cons.mpr ⟨(List.mem_of_getElem? (i := 3) rfl), List.forall_mem_cons.mpr ⟨(List.mem_of_getElem? (i := 4) rfl), List.forall_mem_cons.mpr ⟨(List.mem_of_getElem? (i := 5) rfl), fun _ h => absurd h List.not_mem_nil⟩⟩⟩⟩, (fun _ h => (List.mem_cons_of_mem _ (List.mem_append_right _ (List.mem_append_left _ h))))⟩) (by decide +kernel)
set_option maxHeartbeats 4000000 in
set_option maxRecDepth 100000 in
theorem c_X11_frozen (l : Launch) (D : va_G) (sz : Nat) (h0 : Nat) (a : Nat → Nat) (cN : ClassId) (tp : Int32) (sd : Int64) (pa : Int64) (pb : Int64) (dr : Int32) (z1 : Int32) (y2 : Int64) (z3 : Int32)  : Met l yX11_frozen wp_c_X11_frozen ({ frames := 2, cells := 0, slots := 0, locals := 46 }) (PcW D [.ref h0, .int z1, .long y2, .int z3] sz [(h0, .inr (11, fM a tp sd pa pb dr)), (a 3, .inl (cN, 85, .inr (.inl (fun _ => 0))))] [(cN, .long)]) (va_Ql (fun (r : Int64) (_ : Unit) => r = (-1000000000000000)) (fun (_ : Unit) _ => True) (va_A [(h0, .inr (11, fM a tp sd pa pb dr)), (a 3, .inl (cN, 85, .inr (.inl (fun _ => 0))))] sz)) 0 0 (va_A [(h0, .inr (11, fM a tp sd pa pb dr)), (a 3, .inl (cN, 85, .inr (.inl (fun _ => 0))))] sz) := by
  refine Met.ofW (cc := cX11_frozen) (maxL := 8) (ret := (some .long)) (by decide) rfl ?_
  intro p e s m args below meth c s₁ B hml hv
  obtain ⟨rfl, hsz, hP, hK, hD0⟩ := hv
  have hx := B.exec
  have hb := B.bytes
  have hr := B.returns
  have hts := atoms_spec (ws := wp_c_X11_frozen) B.pre
  have hin_X11 : ∀ w ∈ wsX110, w ∈ wp_c_X11_frozen := fun _ h => (List.mem_cons_of_mem _ (List.mem_append_right _ (List.mem_append_right _ (List.mem_append_left _ h))))
  have hown : s.vm.findClass RX11 = some m.cls := findClass_of_methodNamed B.named
  have hlocks := B.notSynchronized
  subst hsz
  have hD := hD0.self (sz := s.heap.size)
  generalize hAe : va_A [(h0, .inr (11, fM a tp sd pa pb dr)), (a 3, .inl (cN, 85, .inr (.inl (fun _ => 0))))] s.heap.size = A at hD ⊢
  have hA : ∀ q : Nat, s.heap.size ≤ q → A q := fun q h => by rw [← hAe]; exact Or.inr h
  have hS : va_S A s.heap s.heap [] := va_S.rf
  have hP : va_P D vwCl [(h0, .inr (11, fM a tp sd pa pb dr)), (a 3, .inl (cN, 85, .inr (.inl (fun _ => 0))))] s.heap := hP
  have hl := lv_entry ([.ref h0, .int z1, .long y2, .int z3]) (n := 8) (Nat.le_of_ble_eq_true rfl)
  rw [lg_entry_eq]
  generalize (lg_sl ([.ref h0, .int z1, .long y2, .int z3]) ++ List.replicate (8 - (lg_sl ([.ref h0, .int z1, .long y2, .int z3])).length) Slot.unset).toArray = ls at hl ⊢
  have hl : lv_has ls 8 [(0, .ref h0), (1, .int z1), (2, .long y2), (4, .int z3)] := hl
  refine lv_aload_n hx hb dX11_frozen_0 rfl (lv_at hl 0 rfl) ?_
  refine lv_iconst (v := 0) hx hb dX11_frozen_1 (by decide) ?_
  refine va_put (D := D) (ci := 11) (v := .int 0) (ty := .int) (C := RX11) (T := TX11) (N := 47) hx hb hts hin_X11 tyX11 tyX11_ok nmX11 hown hK hP hD hS 0 rfl rfl 0 (by decide) (hts (.fieldLink RX11 73 "ClashFreeModel" "thrown" "I") (List.mem_of_getElem? (i := 1) rfl)) (fun _ h9 => h9) rfl (by decide +kernel) rfl rfl (Nat.le_of_ble_eq_true rfl) dX11_frozen_2 (fun H locs hP hD hS => ?_)
  have hP : va_P D vwCl [(h0, .inr (11, fM a tp sd pa pb dr)), (a 3, .inl (cN, 85, .inr (.inl (fun _ => 0))))] H := hP
  have hD : va_D A [(h0, .inr (11, fM a tp sd pa pb dr)), (a 3, .inl (cN, 85, .inr (.inl (fun _ => 0))))] := hD
  refine lv_aload_n hx hb dX11_frozen_5 rfl (lv_at hl 0 rfl) ?_
  refine lv_iload_n hx hb dX11_frozen_6 rfl (lv_at hl 1 rfl) ?_
  have hPc := hP.sub (ws' := [(h0, .inr (11, fM a tp sd pa pb dr)), (a 3, .inl (cN, 85, .inr (.inl (fun _ => 0))))]) [0, 1] rfl
  have hKc := hK.sub (tys' := [(cN, .long)]) [0] rfl
  have hFc := va_free0 hS hA
  refine va_calli (va_runV (As := [.int z1]) (rest := []) ⟨hx, hb, hml, hown, hts⟩ (c_isThere l D _ h0 a cN tp sd pa pb dr z1) (cwV 1 hts g_c_X11_frozen_c_isThere_222 rfl rfl rfl (by decide +kernel) ⟨(Nat.le_of_ble_eq_true rfl), (Nat.le_of_ble_eq_true rfl)⟩) (PcR_V (q0 := 0) hPc hKc rfl rfl) rfl rfl hl.1 rfl (lv_room (Nat.le_of_ble_eq_true rfl)) dX11_frozen_7 ⟨(Nat.le_of_ble_eq_true rfl), (Nat.le_of_ble_eq_true rfl)⟩) hS (fun q _ h => hFc q h) hFc (fun r1 uu tt H locs htt hvm hw hB hz1 hk1 hS => ?_)
  have hP := va_keep hP hk1
  try dsimp only at hw
  clear hB hz1 hk1 hFc hPc hKc
  obtain rfl : r1 = 0 := hw
  refine lv_if_eq (tgt := 26) hx hb dX11_frozen_10 (by decide) (fun hc => ?_) (fun hc => absurd (by decide) hc)
  refine lv_ldc2 (v := (-1000000000000000)) hx hb hown (hts (.constantLong RX11 235 (-1000000000000000)) (List.mem_of_getElem? (i := 6) rfl)) dX11_frozen_26 ?_
  exact W.lret (v := (-1000000000000000)) hx hb hr (fun t ht hW => ⟨⟨(-1000000000000000), (), rfl, rfl, trivial⟩, hS.F ht⟩) hS.2.2 dX11_frozen_29

def own_c_X11_frozenAt : List Cond := [.fieldLink RX11 73 "ClashFreeModel" "thrown" "I", .methodLink RX11 222 yX11_isThere, .instanceMethod yX11_isThere, .selects RX11 yX11_isThere yX11_isThere, .initialized RX11]
def wp_c_X11_frozenAt : List Cond := .code yX11_frozenAt cX11_frozenAt 5 (some .int) :: (own_c_X11_frozenAt ++ (wp_c_isThere ++ (wsX110 ++ ([] : List Cond))))
set_option maxRecDepth 20000 in
theorem inown_c_X11_frozenAt : ∀ w ∈ own_c_X11_frozenAt, w ∈ lw_tbl := mem_places [1216, 1466, 1468, 54, 115] (by decide +kernel)
set_option maxRecDepth 20000 in
theorem in_c_X11_frozenAt : ∀ w ∈ wp_c_X11_frozenAt, w ∈ lw_tbl := List.forall_mem_cons.mpr ⟨List.mem_of_getElem? (i := 1636) (by decide +kernel), List.forall_mem_append.mpr ⟨inown_c_X11_frozenAt, List.forall_mem_append.mpr ⟨in_c_isThere, List.forall_mem_append.mpr ⟨lwb_X11, fun _ h => absurd h List.not_mem_nil⟩⟩⟩⟩
set_option maxRecDepth 20000 in
theorem good_c_X11_frozenAt : wp_c_X11_frozenAt.all goodWord = true := by decide +kernel
set_option maxRecDepth 20000 in
theorem g_c_X11_frozenAt_c_isThere_222 : GoodIn wp_c_X11_frozenAt (wsV RX11 222 RX11 yX11_isThere wp_c_isThere) := goodIn_sub (List.forall_mem_append.mpr ⟨List.forall_mem_cons.mpr ⟨(List.mem_of_getElem? (i := 2) rfl), List.forall_mem_cons.mpr ⟨(List.mem_of_getElem? (i := 3) rfl), List.forall_mem_cons.mpr ⟨(List.mem_of_getElem? (i := 4) rfl), List.forall_mem_cons.mpr ⟨(List.mem_of_getElem? (i := 5) rfl), fun _ h => absurd h List.not_mem_nil⟩⟩⟩⟩, (fun _ h => (List.mem_cons_of_mem _ (List.mem_append_right _ (List.mem_append_left _ h))))⟩) (by decide +kernel)
set_option maxHeartbeats 4000000 in
set_option maxRecDepth 100000 in
theorem c_X11_frozenAt (l : Launch) (D : va_G) (sz : Nat) (h0 : Nat) (a : Nat → Nat) (cN : ClassId) (tp : Int32) (sd : Int64) (pa : Int64) (pb : Int64) (dr : Int32) (z1 : Int32) (y2 : Int64) (z3 : Int32)  : Met l yX11_frozenAt wp_c_X11_frozenAt ({ frames := 2, cells := 0, slots := 0, locals := 46 }) (PcW D [.ref h0, .int z1, .long y2, .int z3] sz [(h0, .inr (11, fM a tp sd pa pb dr)), (a 3, .inl (cN, 85, .inr (.inl (fun _ => 0))))] [(cN, .long)]) (va_Qi (fun (r : Int32) (_ : Unit) => r = (-1)) (fun (_ : Unit) _ => True) (va_A [(h0, .inr (11, fM a tp sd pa pb dr)), (a 3, .inl (cN, 85, .inr (.inl (fun _ => 0))))] sz)) 0 0 (va_A [(h0, .inr (11, fM a tp sd pa pb dr)), (a 3, .inl (cN, 85, .inr (.inl (fun _ => 0))))] sz) := by
  refine Met.ofW (cc := cX11_frozenAt) (maxL := 5) (ret := (some .int)) (by decide) rfl ?_
  intro p e s m args below meth c s₁ B hml hv
  obtain ⟨rfl, hsz, hP, hK, hD0⟩ := hv
  have hx := B.exec
  have hb := B.bytes
  have hr := B.returns
  have hts := atoms_spec (ws := wp_c_X11_frozenAt) B.pre
  have hin_X11 : ∀ w ∈ wsX110, w ∈ wp_c_X11_frozenAt := fun _ h => (List.mem_cons_of_mem _ (List.mem_append_right _ (List.mem_append_right _ (List.mem_append_left _ h))))
  have hown : s.vm.findClass RX11 = some m.cls := findClass_of_methodNamed B.named
  have hlocks := B.notSynchronized
  subst hsz
  have hD := hD0.self (sz := s.heap.size)
  generalize hAe : va_A [(h0, .inr (11, fM a tp sd pa pb dr)), (a 3, .inl (cN, 85, .inr (.inl (fun _ => 0))))] s.heap.size = A at hD ⊢
  have hA : ∀ q : Nat, s.heap.size ≤ q → A q := fun q h => by rw [← hAe]; exact Or.inr h
  have hS : va_S A s.heap s.heap [] := va_S.rf
  have hP : va_P D vwCl [(h0, .inr (11, fM a tp sd pa pb dr)), (a 3, .inl (cN, 85, .inr (.inl (fun _ => 0))))] s.heap := hP
  have hl := lv_entry ([.ref h0, .int z1, .long y2, .int z3]) (n := 5) (Nat.le_of_ble_eq_true rfl)
  rw [lg_entry_eq]
  generalize (lg_sl ([.ref h0, .int z1, .long y2, .int z3]) ++ List.replicate (5 - (lg_sl ([.ref h0, .int z1, .long y2, .int z3])).length) Slot.unset).toArray = ls at hl ⊢
  have hl : lv_has ls 5 [(0, .ref h0), (1, .int z1), (2, .long y2), (4, .int z3)] := hl
  refine lv_aload_n hx hb dX11_frozenAt_0 rfl (lv_at hl 0 rfl) ?_
  refine lv_iconst (v := 0) hx hb dX11_frozenAt_1 (by decide) ?_
  refine va_put (D := D) (ci := 11) (v := .int 0) (ty := .int) (C := RX11) (T := TX11) (N := 47) hx hb hts hin_X11 tyX11 tyX11_ok nmX11 hown hK hP hD hS 0 rfl rfl 0 (by decide) (hts (.fieldLink RX11 73 "ClashFreeModel" "thrown" "I") (List.mem_of_getElem? (i := 1) rfl)) (fun _ h9 => h9) rfl (by decide +kernel) rfl rfl (Nat.le_of_ble_eq_true rfl) dX11_frozenAt_2 (fun H locs hP hD hS => ?_)
  have hP : va_P D vwCl [(h0, .inr (11, fM a tp sd pa pb dr)), (a 3, .inl (cN, 85, .inr (.inl (fun _ => 0))))] H := hP
  have hD : va_D A [(h0, .inr (11, fM a tp sd pa pb dr)), (a 3, .inl (cN, 85, .inr (.inl (fun _ => 0))))] := hD
  refine lv_aload_n hx hb dX11_frozenAt_5 rfl (lv_at hl 0 rfl) ?_
  refine lv_iload_n hx hb dX11_frozenAt_6 rfl (lv_at hl 1 rfl) ?_
  have hPc := hP.sub (ws' := [(h0, .inr (11, fM a tp sd pa pb dr)), (a 3, .inl (cN, 85, .inr (.inl (fun _ => 0))))]) [0, 1] rfl
  have hKc := hK.sub (tys' := [(cN, .long)]) [0] rfl
  have hFc := va_free0 hS hA
  refine va_calli (va_runV (As := [.int z1]) (rest := []) ⟨hx, hb, hml, hown, hts⟩ (c_isThere l D _ h0 a cN tp sd pa pb dr z1) (cwV 1 hts g_c_X11_frozenAt_c_isThere_222 rfl rfl rfl (by decide +kernel) ⟨(Nat.le_of_ble_eq_true rfl), (Nat.le_of_ble_eq_true rfl)⟩) (PcR_V (q0 := 0) hPc hKc rfl rfl) rfl rfl hl.1 rfl (lv_room (Nat.le_of_ble_eq_true rfl)) dX11_frozenAt_7 ⟨(Nat.le_of_ble_eq_true rfl), (Nat.le_of_ble_eq_true rfl)⟩) hS (fun q _ h => hFc q h) hFc (fun r1 uu tt H locs htt hvm hw hB hz1 hk1 hS => ?_)
  have hP := va_keep hP hk1
  try dsimp only at hw
  clear hB hz1 hk1 hFc hPc hKc
  obtain rfl : r1 = 0 := hw
  refine lv_if_ne (tgt := 15) hx hb dX11_frozenAt_10 (by decide) (fun hc => absurd (by decide) hc) (fun hc => ?_)
  refine lv_iconst (v := (-1)) hx hb dX11_frozenAt_13 (by decide) ?_
  exact W.iret (v := (-1)) hx hb hr (fun t ht hW => ⟨⟨(-1), (), rfl, rfl, trivial⟩, hS.F ht⟩) hS.2.2 dX11_frozenAt_14

def own_c_X11_shared : List Cond := [.fieldLink RX11 73 "ClashFreeModel" "thrown" "I", .methodLink RX11 222 yX11_isThere, .instanceMethod yX11_isThere, .selects RX11 yX11_isThere yX11_isThere, .initialized RX11]
def wp_c_X11_shared : List Cond := .code yX11_shared cX11_shared 7 (some .int) :: (own_c_X11_shared ++ (wp_c_isThere ++ (wsX110 ++ ([] : List Cond))))
set_option maxRecDepth 20000 in
theorem inown_c_X11_shared : ∀ w ∈ own_c_X11_shared, w ∈ lw_tbl := mem_places [1216, 1466, 1468, 54, 115] (by decide +kernel)
set_option maxRecDepth 20000 in
theorem in_c_X11_shared : ∀ w ∈ wp_c_X11_shared, w ∈ lw_tbl := List.forall_mem_cons.mpr ⟨List.mem_of_getElem? (i := 1640) (by decide +kernel), List.forall_mem_append.mpr ⟨inown_c_X11_shared, List.forall_mem_append.mpr ⟨in_c_isThere, List.forall_mem_append.mpr ⟨lwb_X11, fun _ h => absurd h List.not_mem_nil⟩⟩⟩⟩
set_option maxRecDepth 20000 in
theorem good_c_X11_shared : wp_c_X11_shared.all goodWord = true := by decide +kernel
set_option maxRecDepth 20000 in
theorem g_c_X11_shared_c_isThere_222 : GoodIn wp_c_X11_shared (wsV RX11 222 RX11 yX11_isThere wp_c_isThere) := goodIn_sub (List.forall_mem_append.mpr ⟨List.forall_mem_cons.mpr ⟨(List.mem_of_getElem? (i := 2) rfl), List.forall_mem_cons.mpr ⟨(List.mem_of_getElem? (i := 3) rfl), List.forall_mem_cons.mpr ⟨(List.mem_of_getElem? (i := 4) rfl), List.forall_mem_cons.mpr ⟨(List.mem_of_getElem? (i := 5) rfl), fun _ h => absurd h List.not_mem_nil⟩⟩⟩⟩, (fun _ h => (List.mem_cons_of_mem _ (List.mem_append_right _ (List.mem_append_left _ h))))⟩) (by decide +kernel)
set_option maxHeartbeats 4000000 in
set_option maxRecDepth 100000 in
theorem c_X11_shared (l : Launch) (D : va_G) (sz : Nat) (h0 : Nat) (a : Nat → Nat) (cN : ClassId) (tp : Int32) (sd : Int64) (pa : Int64) (pb : Int64) (dr : Int32) (z1 : Int32) (z2 : Int32) (z3 : Int32)  : Met l yX11_shared wp_c_X11_shared ({ frames := 2, cells := 0, slots := 0, locals := 46 }) (PcW D [.ref h0, .int z1, .int z2, .int z3] sz [(h0, .inr (11, fM a tp sd pa pb dr)), (a 3, .inl (cN, 85, .inr (.inl (fun _ => 0))))] [(cN, .long)]) (va_Qi (fun (r : Int32) (_ : Unit) => r = (-1)) (fun (_ : Unit) _ => True) (va_A [(h0, .inr (11, fM a tp sd pa pb dr)), (a 3, .inl (cN, 85, .inr (.inl (fun _ => 0))))] sz)) 0 0 (va_A [(h0, .inr (11, fM a tp sd pa pb dr)), (a 3, .inl (cN, 85, .inr (.inl (fun _ => 0))))] sz) := by
  refine Met.ofW (cc := cX11_shared) (maxL := 7) (ret := (some .int)) (by decide) rfl ?_
  intro p e s m args below meth c s₁ B hml hv
  obtain ⟨rfl, hsz, hP, hK, hD0⟩ := hv
  have hx := B.exec
  have hb := B.bytes
  have hr := B.returns
  have hts := atoms_spec (ws := wp_c_X11_shared) B.pre
  have hin_X11 : ∀ w ∈ wsX110, w ∈ wp_c_X11_shared := fun _ h => (List.mem_cons_of_mem _ (List.mem_append_right _ (List.mem_append_right _ (List.mem_append_left _ h))))
  have hown : s.vm.findClass RX11 = some m.cls := findClass_of_methodNamed B.named
  have hlocks := B.notSynchronized
  subst hsz
  have hD := hD0.self (sz := s.heap.size)
  generalize hAe : va_A [(h0, .inr (11, fM a tp sd pa pb dr)), (a 3, .inl (cN, 85, .inr (.inl (fun _ => 0))))] s.heap.size = A at hD ⊢
  have hA : ∀ q : Nat, s.heap.size ≤ q → A q := fun q h => by rw [← hAe]; exact Or.inr h
  have hS : va_S A s.heap s.heap [] := va_S.rf
  have hP : va_P D vwCl [(h0, .inr (11, fM a tp sd pa pb dr)), (a 3, .inl (cN, 85, .inr (.inl (fun _ => 0))))] s.heap := hP
  have hl := lv_entry ([.ref h0, .int z1, .int z2, .int z3]) (n := 7) (Nat.le_of_ble_eq_true rfl)
  rw [lg_entry_eq]
  generalize (lg_sl ([.ref h0, .int z1, .int z2, .int z3]) ++ List.replicate (7 - (lg_sl ([.ref h0, .int z1, .int z2, .int z3])).length) Slot.unset).toArray = ls at hl ⊢
  have hl : lv_has ls 7 [(0, .ref h0), (1, .int z1), (2, .int z2), (3, .int z3)] := hl
  refine lv_aload_n hx hb dX11_shared_0 rfl (lv_at hl 0 rfl) ?_
  refine lv_iconst (v := 0) hx hb dX11_shared_1 (by decide) ?_
  refine va_put (D := D) (ci := 11) (v := .int 0) (ty := .int) (C := RX11) (T := TX11) (N := 47) hx hb hts hin_X11 tyX11 tyX11_ok nmX11 hown hK hP hD hS 0 rfl rfl 0 (by decide) (hts (.fieldLink RX11 73 "ClashFreeModel" "thrown" "I") (List.mem_of_getElem? (i := 1) rfl)) (fun _ h9 => h9) rfl (by decide +kernel) rfl rfl (Nat.le_of_ble_eq_true rfl) dX11_shared_2 (fun H locs hP hD hS => ?_)
  have hP : va_P D vwCl [(h0, .inr (11, fM a tp sd pa pb dr)), (a 3, .inl (cN, 85, .inr (.inl (fun _ => 0))))] H := hP
  have hD : va_D A [(h0, .inr (11, fM a tp sd pa pb dr)), (a 3, .inl (cN, 85, .inr (.inl (fun _ => 0))))] := hD
  refine lv_aload_n hx hb dX11_shared_5 rfl (lv_at hl 0 rfl) ?_
  refine lv_iload_n hx hb dX11_shared_6 rfl (lv_at hl 1 rfl) ?_
  have hPc := hP.sub (ws' := [(h0, .inr (11, fM a tp sd pa pb dr)), (a 3, .inl (cN, 85, .inr (.inl (fun _ => 0))))]) [0, 1] rfl
  have hKc := hK.sub (tys' := [(cN, .long)]) [0] rfl
  have hFc := va_free0 hS hA
  refine va_calli (va_runV (As := [.int z1]) (rest := []) ⟨hx, hb, hml, hown, hts⟩ (c_isThere l D _ h0 a cN tp sd pa pb dr z1) (cwV 1 hts g_c_X11_shared_c_isThere_222 rfl rfl rfl (by decide +kernel) ⟨(Nat.le_of_ble_eq_true rfl), (Nat.le_of_ble_eq_true rfl)⟩) (PcR_V (q0 := 0) hPc hKc rfl rfl) rfl rfl hl.1 rfl (lv_room (Nat.le_of_ble_eq_true rfl)) dX11_shared_7 ⟨(Nat.le_of_ble_eq_true rfl), (Nat.le_of_ble_eq_true rfl)⟩) hS (fun q _ h => hFc q h) hFc (fun r1 uu tt H locs htt hvm hw hB hz1 hk1 hS => ?_)
  have hP := va_keep hP hk1
  try dsimp only at hw
  clear hB hz1 hk1 hFc hPc hKc
  obtain rfl : r1 = 0 := hw
  refine lv_if_eq (tgt := 33) hx hb dX11_shared_10 (by decide) (fun hc => ?_) (fun hc => absurd (by decide) hc)
  refine lv_iconst (v := (-1)) hx hb dX11_shared_33 (by decide) ?_
  exact W.iret (v := (-1)) hx hb hr (fun t ht hW => ⟨⟨(-1), (), rfl, rfl, trivial⟩, hS.F ht⟩) hS.2.2 dX11_shared_34

def own_c_X11_join : List Cond := [.fieldLink RX11 73 "ClashFreeModel" "thrown" "I", .methodLink RX11 222 yX11_isThere, .instanceMethod yX11_isThere, .selects RX11 yX11_isThere yX11_isThere, .initialized RX11]
def wp_c_X11_join : List Cond := .code yX11_join cX11_join 5 (some .int) :: (own_c_X11_join ++ (wp_c_isThere ++ (wsX110 ++ ([] : List Cond))))
set_option maxRecDepth 20000 in
theorem inown_c_X11_join : ∀ w ∈ own_c_X11_join, w ∈ lw_tbl := mem_places [1216, 1466, 1468, 54, 115] (by decide +kernel)
set_option maxRecDepth 20000 in
theorem in_c_X11_join : ∀ w ∈ wp_c_X11_join, w ∈ lw_tbl := List.forall_mem_cons.mpr ⟨List.mem_of_getElem? (i := 1648) (by decide +kernel), List.forall_mem_append.mpr ⟨inown_c_X11_join, List.forall_mem_append.mpr ⟨in_c_isThere, List.forall_mem_append.mpr ⟨lwb_X11, fun _ h => absurd h List.not_mem_nil⟩⟩⟩⟩
set_option maxRecDepth 20000 in
theorem good_c_X11_join : wp_c_X11_join.all goodWord = true := by decide +kernel
set_option maxRecDepth 20000 in
theorem g_c_X11_join_c_isThere_222 : GoodIn wp_c_X11_join (wsV RX11 222 RX11 yX11_isThere wp_c_isThere) := goodIn_sub (List.forall_mem_append.mpr ⟨List.forall_mem_cons.mpr ⟨(List.mem_of_getElem? (i := 2) rfl), List.forall_mem_cons.mpr ⟨(List.mem_of_getElem? (i := 3) rfl), List.forall_mem_cons.mpr ⟨(List.mem_of_getElem? (i := 4) rfl), List.forall_mem_cons.mpr ⟨(List.mem_of_getElem? (i := 5) rfl), fun _ h => absurd h List.not_mem_nil⟩⟩⟩⟩, (fun _ h => (List.mem_cons_of_mem _ (List.mem_append_right _ (List.mem_append_left _ h))))⟩) (by decide +kernel)
set_option maxHeartbeats 4000000 in
set_option maxRecDepth 100000 in
theorem c_X11_join (l : Launch) (D : va_G) (sz : Nat) (h0 : Nat) (a : Nat → Nat) (cN : ClassId) (tp : Int32) (sd : Int64) (pa : Int64) (pb : Int64) (dr : Int32) (z1 : Int32) (z2 : Int32)  : Met l yX11_join wp_c_X11_join ({ frames := 2, cells := 0, slots := 0, locals := 46 }) (PcW D [.ref h0, .int z1, .int z2] sz [(h0, .inr (11, fM a tp sd pa pb dr)), (a 3, .inl (cN, 85, .inr (.inl (fun _ => 0))))] [(cN, .long)]) (va_Qi (fun (r : Int32) (_ : Unit) => r = (-2)) (fun (_ : Unit) _ => True) (va_A [(h0, .inr (11, fM a tp sd pa pb dr)), (a 3, .inl (cN, 85, .inr (.inl (fun _ => 0))))] sz)) 0 0 (va_A [(h0, .inr (11, fM a tp sd pa pb dr)), (a 3, .inl (cN, 85, .inr (.inl (fun _ => 0))))] sz) := by
  refine Met.ofW (cc := cX11_join) (maxL := 5) (ret := (some .int)) (by decide) rfl ?_
  intro p e s m args below meth c s₁ B hml hv
  obtain ⟨rfl, hsz, hP, hK, hD0⟩ := hv
  have hx := B.exec
  have hb := B.bytes
  have hr := B.returns
  have hts := atoms_spec (ws := wp_c_X11_join) B.pre
  have hin_X11 : ∀ w ∈ wsX110, w ∈ wp_c_X11_join := fun _ h => (List.mem_cons_of_mem _ (List.mem_append_right _ (List.mem_append_right _ (List.mem_append_left _ h))))
  have hown : s.vm.findClass RX11 = some m.cls := findClass_of_methodNamed B.named
  have hlocks := B.notSynchronized
  subst hsz
  have hD := hD0.self (sz := s.heap.size)
  generalize hAe : va_A [(h0, .inr (11, fM a tp sd pa pb dr)), (a 3, .inl (cN, 85, .inr (.inl (fun _ => 0))))] s.heap.size = A at hD ⊢
  have hA : ∀ q : Nat, s.heap.size ≤ q → A q := fun q h => by rw [← hAe]; exact Or.inr h
  have hS : va_S A s.heap s.heap [] := va_S.rf
  have hP : va_P D vwCl [(h0, .inr (11, fM a tp sd pa pb dr)), (a 3, .inl (cN, 85, .inr (.inl (fun _ => 0))))] s.heap := hP
  have hl := lv_entry ([.ref h0, .int z1, .int z2]) (n := 5) (Nat.le_of_ble_eq_true rfl)
  rw [lg_entry_eq]
  generalize (lg_sl ([.ref h0, .int z1, .int z2]) ++ List.replicate (5 - (lg_sl ([.ref h0, .int z1, .int z2])).length) Slot.unset).toArray = ls at hl ⊢
  have hl : lv_has ls 5 [(0, .ref h0), (1, .int z1), (2, .int z2)] := hl
  refine lv_aload_n hx hb dX11_join_0 rfl (lv_at hl 0 rfl) ?_
  refine lv_iconst (v := 0) hx hb dX11_join_1 (by decide) ?_
  refine va_put (D := D) (ci := 11) (v := .int 0) (ty := .int) (C := RX11) (T := TX11) (N := 47) hx hb hts hin_X11 tyX11 tyX11_ok nmX11 hown hK hP hD hS 0 rfl rfl 0 (by decide) (hts (.fieldLink RX11 73 "ClashFreeModel" "thrown" "I") (List.mem_of_getElem? (i := 1) rfl)) (fun _ h9 => h9) rfl (by decide +kernel) rfl rfl (Nat.le_of_ble_eq_true rfl) dX11_join_2 (fun H locs hP hD hS => ?_)
  have hP : va_P D vwCl [(h0, .inr (11, fM a tp sd pa pb dr)), (a 3, .inl (cN, 85, .inr (.inl (fun _ => 0))))] H := hP
  have hD : va_D A [(h0, .inr (11, fM a tp sd pa pb dr)), (a 3, .inl (cN, 85, .inr (.inl (fun _ => 0))))] := hD
  refine lv_aload_n hx hb dX11_join_5 rfl (lv_at hl 0 rfl) ?_
  refine lv_iload_n hx hb dX11_join_6 rfl (lv_at hl 1 rfl) ?_
  have hPc := hP.sub (ws' := [(h0, .inr (11, fM a tp sd pa pb dr)), (a 3, .inl (cN, 85, .inr (.inl (fun _ => 0))))]) [0, 1] rfl
  have hKc := hK.sub (tys' := [(cN, .long)]) [0] rfl
  have hFc := va_free0 hS hA
  refine va_calli (va_runV (As := [.int z1]) (rest := []) ⟨hx, hb, hml, hown, hts⟩ (c_isThere l D _ h0 a cN tp sd pa pb dr z1) (cwV 1 hts g_c_X11_join_c_isThere_222 rfl rfl rfl (by decide +kernel) ⟨(Nat.le_of_ble_eq_true rfl), (Nat.le_of_ble_eq_true rfl)⟩) (PcR_V (q0 := 0) hPc hKc rfl rfl) rfl rfl hl.1 rfl (lv_room (Nat.le_of_ble_eq_true rfl)) dX11_join_7 ⟨(Nat.le_of_ble_eq_true rfl), (Nat.le_of_ble_eq_true rfl)⟩) hS (fun q _ h => hFc q h) hFc (fun r1 uu tt H locs htt hvm hw hB hz1 hk1 hS => ?_)
  have hP := va_keep hP hk1
  try dsimp only at hw
  clear hB hz1 hk1 hFc hPc hKc
  obtain rfl : r1 = 0 := hw
  refine lv_if_eq (tgt := 26) hx hb dX11_join_10 (by decide) (fun hc => ?_) (fun hc => absurd (by decide) hc)
  refine lv_bipush (v := (-2)) hx hb dX11_join_26 (by decide) ?_
  exact W.iret (v := (-2)) hx hb hr (fun t ht hW => ⟨⟨(-2), (), rfl, rfl, trivial⟩, hS.F ht⟩) hS.2.2 dX11_join_28

def own_c_X11_cut : List Cond := [.fieldLink RX11 73 "ClashFreeModel" "thrown" "I", .methodLink RX11 222 yX11_isThere, .instanceMethod yX11_isThere, .selects RX11 yX11_isThere yX11_isThere, .initialized RX11]
def wp_c_X11_cut : List Cond := .code yX11_cut cX11_cut 7 (some .int) :: (own_c_X11_cut ++ (wp_c_isThere ++ (wsX110 ++ ([] : List Cond))))
set_option maxRecDepth 20000 in
theorem inown_c_X11_cut : ∀ w ∈ own_c_X11_cut, w ∈ lw_tbl := mem_places [1216, 1466, 1468, 54, 115] (by decide +kernel)
set_option maxRecDepth 20000 in
theorem in_c_X11_cut : ∀ w ∈ wp_c_X11_cut, w ∈ lw_tbl := List.forall_mem_cons.mpr ⟨List.mem_of_getElem? (i := 1652) (by decide +kernel), List.forall_mem_append.mpr ⟨inown_c_X11_cut, List.forall_mem_append.mpr ⟨in_c_isThere, List.forall_mem_append.mpr ⟨lwb_X11, fun _ h => absurd h List.not_mem_nil⟩⟩⟩⟩
set_option maxRecDepth 20000 in
theorem good_c_X11_cut : wp_c_X11_cut.all goodWord = true := by decide +kernel
set_option maxRecDepth 20000 in
theorem g_c_X11_cut_c_isThere_222 : GoodIn wp_c_X11_cut (wsV RX11 222 RX11 yX11_isThere wp_c_isThere) := goodIn_sub (List.forall_mem_append.mpr ⟨List.forall_mem_cons.mpr ⟨(List.mem_of_getElem? (i := 2) rfl), List.forall_mem_cons.mpr ⟨(List.mem_of_getElem? (i := 3) rfl), List.forall_mem_cons.mpr ⟨(List.mem_of_getElem? (i := 4) rfl), List.forall_mem_cons.mpr ⟨(List.mem_of_getElem? (i := 5) rfl), fun _ h => absurd h List.not_mem_nil⟩⟩⟩⟩, (fun _ h => (List.mem_cons_of_mem _ (List.mem_append_right _ (List.mem_append_left _ h))))⟩) (by decide +kernel)
set_option maxHeartbeats 4000000 in
set_option maxRecDepth 100000 in
theorem c_X11_cut (l : Launch) (D : va_G) (sz : Nat) (h0 : Nat) (a : Nat → Nat) (cN : ClassId) (tp : Int32) (sd : Int64) (pa : Int64) (pb : Int64) (dr : Int32) (z1 : Int32) (z2 : Int32) (z3 : Int32)  : Met l yX11_cut wp_c_X11_cut ({ frames := 2, cells := 0, slots := 0, locals := 46 }) (PcW D [.ref h0, .int z1, .int z2, .int z3] sz [(h0, .inr (11, fM a tp sd pa pb dr)), (a 3, .inl (cN, 85, .inr (.inl (fun _ => 0))))] [(cN, .long)]) (va_Qi (fun (r : Int32) (_ : Unit) => r = (-2)) (fun (_ : Unit) _ => True) (va_A [(h0, .inr (11, fM a tp sd pa pb dr)), (a 3, .inl (cN, 85, .inr (.inl (fun _ => 0))))] sz)) 0 0 (va_A [(h0, .inr (11, fM a tp sd pa pb dr)), (a 3, .inl (cN, 85, .inr (.inl (fun _ => 0))))] sz) := by
  refine Met.ofW (cc := cX11_cut) (maxL := 7) (ret := (some .int)) (by decide) rfl ?_
  intro p e s m args below meth c s₁ B hml hv
  obtain ⟨rfl, hsz, hP, hK, hD0⟩ := hv
  have hx := B.exec
  have hb := B.bytes
  have hr := B.returns
  have hts := atoms_spec (ws := wp_c_X11_cut) B.pre
  have hin_X11 : ∀ w ∈ wsX110, w ∈ wp_c_X11_cut := fun _ h => (List.mem_cons_of_mem _ (List.mem_append_right _ (List.mem_append_right _ (List.mem_append_left _ h))))
  have hown : s.vm.findClass RX11 = some m.cls := findClass_of_methodNamed B.named
  have hlocks := B.notSynchronized
  subst hsz
  have hD := hD0.self (sz := s.heap.size)
  generalize hAe : va_A [(h0, .inr (11, fM a tp sd pa pb dr)), (a 3, .inl (cN, 85, .inr (.inl (fun _ => 0))))] s.heap.size = A at hD ⊢
  have hA : ∀ q : Nat, s.heap.size ≤ q → A q := fun q h => by rw [← hAe]; exact Or.inr h
  have hS : va_S A s.heap s.heap [] := va_S.rf
  have hP : va_P D vwCl [(h0, .inr (11, fM a tp sd pa pb dr)), (a 3, .inl (cN, 85, .inr (.inl (fun _ => 0))))] s.heap := hP
  have hl := lv_entry ([.ref h0, .int z1, .int z2, .int z3]) (n := 7) (Nat.le_of_ble_eq_true rfl)
  rw [lg_entry_eq]
  generalize (lg_sl ([.ref h0, .int z1, .int z2, .int z3]) ++ List.replicate (7 - (lg_sl ([.ref h0, .int z1, .int z2, .int z3])).length) Slot.unset).toArray = ls at hl ⊢
  have hl : lv_has ls 7 [(0, .ref h0), (1, .int z1), (2, .int z2), (3, .int z3)] := hl
  refine lv_aload_n hx hb dX11_cut_0 rfl (lv_at hl 0 rfl) ?_
  refine lv_iconst (v := 0) hx hb dX11_cut_1 (by decide) ?_
  refine va_put (D := D) (ci := 11) (v := .int 0) (ty := .int) (C := RX11) (T := TX11) (N := 47) hx hb hts hin_X11 tyX11 tyX11_ok nmX11 hown hK hP hD hS 0 rfl rfl 0 (by decide) (hts (.fieldLink RX11 73 "ClashFreeModel" "thrown" "I") (List.mem_of_getElem? (i := 1) rfl)) (fun _ h9 => h9) rfl (by decide +kernel) rfl rfl (Nat.le_of_ble_eq_true rfl) dX11_cut_2 (fun H locs hP hD hS => ?_)
  have hP : va_P D vwCl [(h0, .inr (11, fM a tp sd pa pb dr)), (a 3, .inl (cN, 85, .inr (.inl (fun _ => 0))))] H := hP
  have hD : va_D A [(h0, .inr (11, fM a tp sd pa pb dr)), (a 3, .inl (cN, 85, .inr (.inl (fun _ => 0))))] := hD
  refine lv_aload_n hx hb dX11_cut_5 rfl (lv_at hl 0 rfl) ?_
  refine lv_iload_n hx hb dX11_cut_6 rfl (lv_at hl 1 rfl) ?_
  have hPc := hP.sub (ws' := [(h0, .inr (11, fM a tp sd pa pb dr)), (a 3, .inl (cN, 85, .inr (.inl (fun _ => 0))))]) [0, 1] rfl
  have hKc := hK.sub (tys' := [(cN, .long)]) [0] rfl
  have hFc := va_free0 hS hA
  refine va_calli (va_runV (As := [.int z1]) (rest := []) ⟨hx, hb, hml, hown, hts⟩ (c_isThere l D _ h0 a cN tp sd pa pb dr z1) (cwV 1 hts g_c_X11_cut_c_isThere_222 rfl rfl rfl (by decide +kernel) ⟨(Nat.le_of_ble_eq_true rfl), (Nat.le_of_ble_eq_true rfl)⟩) (PcR_V (q0 := 0) hPc hKc rfl rfl) rfl rfl hl.1 rfl (lv_room (Nat.le_of_ble_eq_true rfl)) dX11_cut_7 ⟨(Nat.le_of_ble_eq_true rfl), (Nat.le_of_ble_eq_true rfl)⟩) hS (fun q _ h => hFc q h) hFc (fun r1 uu tt H locs htt hvm hw hB hz1 hk1 hS => ?_)
  have hP := va_keep hP hk1
  try dsimp only at hw
  clear hB hz1 hk1 hFc hPc hKc
  obtain rfl : r1 = 0 := hw
  refine lv_if_eq (tgt := 26) hx hb dX11_cut_10 (by decide) (fun hc => ?_) (fun hc => absurd (by decide) hc)
  refine lv_bipush (v := (-2)) hx hb dX11_cut_26 (by decide) ?_
  exact W.iret (v := (-2)) hx hb hr (fun t ht hW => ⟨⟨(-2), (), rfl, rfl, trivial⟩, hS.F ht⟩) hS.2.2 dX11_cut_28

def own_c_X11_values : List Cond := [.fieldLink RX11 73 "ClashFreeModel" "thrown" "I", .methodLink RX11 222 yX11_isThere, .instanceMethod yX11_isThere, .selects RX11 yX11_isThere yX11_isThere, .initialized RX11, .constantLong RX11 235 (-1000000000000000)]
def wp_c_X11_values : List Cond := .code yX11_values cX11_values 7 (some .long) :: (own_c_X11_values ++ (wp_c_isThere ++ (wsX110 ++ ([] : List Cond))))
set_option maxRecDepth 20000 in
theorem inown_c_X11_values : ∀ w ∈ own_c_X11_values, w ∈ lw_tbl := mem_places [1216, 1466, 1468, 54, 115, 1517] (by decide +kernel)
set_option maxRecDepth 20000 in
theorem in_c_X11_values : ∀ w ∈ wp_c_X11_values, w ∈ lw_tbl := List.forall_mem_cons.mpr ⟨List.mem_of_getElem? (i := 1656) (by decide +kernel), List.forall_mem_append.mpr ⟨inown_c_X11_values, List.forall_mem_append.mpr ⟨in_c_isThere, List.forall_mem_append.mpr ⟨lwb_X11, fun _ h => absurd h List.not_mem_nil⟩⟩⟩⟩
set_option maxRecDepth 20000 in
theorem good_c_X11_values : wp_c_X11_values.all goodWord = true := by decide +kernel
set_option maxRecDepth 20000 in
theorem g_c_X11_values_c_isThere_222 : GoodIn wp_c_X11_values (wsV RX11 222 RX11 yX11_isThere wp_c_isThere) := goodIn_sub (List.forall_mem_append.mpr ⟨List.forall_mem_cons.mpr ⟨(List.mem_of_getElem? (i := 2) rfl), List.forall_mem_cons.mpr ⟨(List.mem_of_getElem? (i := 3) rfl), List.forall_mem_cons.mpr ⟨(List.mem_of_getElem? (i := 4) rfl), List.forall_mem_cons.mpr ⟨(List.mem_of_getElem? (i := 5) rfl), fun _ h => absurd h List.not_mem_nil⟩⟩⟩⟩, (fun _ h => (List.mem_cons_of_mem _ (List.mem_append_right _ (List.mem_append_left _ h))))⟩) (by decide +kernel)
set_option maxHeartbeats 4000000 in
set_option maxRecDepth 100000 in
theorem c_X11_values (l : Launch) (D : va_G) (sz : Nat) (h0 : Nat) (a : Nat → Nat) (cN : ClassId) (tp : Int32) (sd : Int64) (pa : Int64) (pb : Int64) (dr : Int32) (z1 : Int32) (z2 : Int32)  : Met l yX11_values wp_c_X11_values ({ frames := 2, cells := 0, slots := 0, locals := 46 }) (PcW D [.ref h0, .int z1, .int z2] sz [(h0, .inr (11, fM a tp sd pa pb dr)), (a 3, .inl (cN, 85, .inr (.inl (fun _ => 0))))] [(cN, .long)]) (va_Ql (fun (r : Int64) (_ : Unit) => r = (-1000000000000000)) (fun (_ : Unit) _ => True) (va_A [(h0, .inr (11, fM a tp sd pa pb dr)), (a 3, .inl (cN, 85, .inr (.inl (fun _ => 0))))] sz)) 0 0 (va_A [(h0, .inr (11, fM a tp sd pa pb dr)), (a 3, .inl (cN, 85, .inr (.inl (fun _ => 0))))] sz) := by
  refine Met.ofW (cc := cX11_values) (maxL := 7) (ret := (some .long)) (by decide) rfl ?_
  intro p e s m args below meth c s₁ B hml hv
  obtain ⟨rfl, hsz, hP, hK, hD0⟩ := hv
  have hx := B.exec
  have hb := B.bytes
  have hr := B.returns
  have hts := atoms_spec (ws := wp_c_X11_values) B.pre
  have hin_X11 : ∀ w ∈ wsX110, w ∈ wp_c_X11_values := fun _ h => (List.mem_cons_of_mem _ (List.mem_append_right _ (List.mem_append_right _ (List.mem_append_left _ h))))
  have hown : s.vm.findClass RX11 = some m.cls := findClass_of_methodNamed B.named
  have hlocks := B.notSynchronized
  subst hsz
  have hD := hD0.self (sz := s.heap.size)
  generalize hAe : va_A [(h0, .inr (11, fM a tp sd pa pb dr)), (a 3, .inl (cN, 85, .inr (.inl (fun _ => 0))))] s.heap.size = A at hD ⊢
  have hA : ∀ q : Nat, s.heap.size ≤ q → A q := fun q h => by rw [← hAe]; exact Or.inr h
  have hS : va_S A s.heap s.heap [] := va_S.rf
  have hP : va_P D vwCl [(h0, .inr (11, fM a tp sd pa pb dr)), (a 3, .inl (cN, 85, .inr (.inl (fun _ => 0))))] s.heap := hP
  have hl := lv_entry ([.ref h0, .int z1, .int z2]) (n := 7) (Nat.le_of_ble_eq_true rfl)
  rw [lg_entry_eq]
  generalize (lg_sl ([.ref h0, .int z1, .int z2]) ++ List.replicate (7 - (lg_sl ([.ref h0, .int z1, .int z2])).length) Slot.unset).toArray = ls at hl ⊢
  have hl : lv_has ls 7 [(0, .ref h0), (1, .int z1), (2, .int z2)] := hl
  refine lv_aload_n hx hb dX11_values_0 rfl (lv_at hl 0 rfl) ?_
  refine lv_iconst (v := 0) hx hb dX11_values_1 (by decide) ?_
  refine va_put (D := D) (ci := 11) (v := .int 0) (ty := .int) (C := RX11) (T := TX11) (N := 47) hx hb hts hin_X11 tyX11 tyX11_ok nmX11 hown hK hP hD hS 0 rfl rfl 0 (by decide) (hts (.fieldLink RX11 73 "ClashFreeModel" "thrown" "I") (List.mem_of_getElem? (i := 1) rfl)) (fun _ h9 => h9) rfl (by decide +kernel) rfl rfl (Nat.le_of_ble_eq_true rfl) dX11_values_2 (fun H locs hP hD hS => ?_)
  have hP : va_P D vwCl [(h0, .inr (11, fM a tp sd pa pb dr)), (a 3, .inl (cN, 85, .inr (.inl (fun _ => 0))))] H := hP
  have hD : va_D A [(h0, .inr (11, fM a tp sd pa pb dr)), (a 3, .inl (cN, 85, .inr (.inl (fun _ => 0))))] := hD
  refine lv_aload_n hx hb dX11_values_5 rfl (lv_at hl 0 rfl) ?_
  refine lv_iload_n hx hb dX11_values_6 rfl (lv_at hl 1 rfl) ?_
  have hPc := hP.sub (ws' := [(h0, .inr (11, fM a tp sd pa pb dr)), (a 3, .inl (cN, 85, .inr (.inl (fun _ => 0))))]) [0, 1] rfl
  have hKc := hK.sub (tys' := [(cN, .long)]) [0] rfl
  have hFc := va_free0 hS hA
  refine va_calli (va_runV (As := [.int z1]) (rest := []) ⟨hx, hb, hml, hown, hts⟩ (c_isThere l D _ h0 a cN tp sd pa pb dr z1) (cwV 1 hts g_c_X11_values_c_isThere_222 rfl rfl rfl (by decide +kernel) ⟨(Nat.le_of_ble_eq_true rfl), (Nat.le_of_ble_eq_true rfl)⟩) (PcR_V (q0 := 0) hPc hKc rfl rfl) rfl rfl hl.1 rfl (lv_room (Nat.le_of_ble_eq_true rfl)) dX11_values_7 ⟨(Nat.le_of_ble_eq_true rfl), (Nat.le_of_ble_eq_true rfl)⟩) hS (fun q _ h => hFc q h) hFc (fun r1 uu tt H locs htt hvm hw hB hz1 hk1 hS => ?_)
  have hP := va_keep hP hk1
  try dsimp only at hw
  clear hB hz1 hk1 hFc hPc hKc
  obtain rfl : r1 = 0 := hw
  refine lv_if_eq (tgt := 25) hx hb dX11_values_10 (by decide) (fun hc => ?_) (fun hc => absurd (by decide) hc)
  refine lv_ldc2 (v := (-1000000000000000)) hx hb hown (hts (.constantLong RX11 235 (-1000000000000000)) (List.mem_of_getElem? (i := 6) rfl)) dX11_values_25 ?_
  exact W.lret (v := (-1000000000000000)) hx hb hr (fun t ht hW => ⟨⟨(-1000000000000000), (), rfl, rfl, trivial⟩, hS.F ht⟩) hS.2.2 dX11_values_28

def own_c_X11_run : List Cond := [.fieldLink RX11 73 "ClashFreeModel" "thrown" "I", .methodLink RX11 222 yX11_isThere, .instanceMethod yX11_isThere, .selects RX11 yX11_isThere yX11_isThere, .initialized RX11]
def wp_c_X11_run : List Cond := .code yX11_run cX11_run 2 (some .int) :: (own_c_X11_run ++ (wp_c_isThere ++ (wsX110 ++ ([] : List Cond))))
set_option maxRecDepth 20000 in
theorem inown_c_X11_run : ∀ w ∈ own_c_X11_run, w ∈ lw_tbl := mem_places [1216, 1466, 1468, 54, 115] (by decide +kernel)
set_option maxRecDepth 20000 in
theorem in_c_X11_run : ∀ w ∈ wp_c_X11_run, w ∈ lw_tbl := List.forall_mem_cons.mpr ⟨List.mem_of_getElem? (i := 1660) (by decide +kernel), List.forall_mem_append.mpr ⟨inown_c_X11_run, List.forall_mem_append.mpr ⟨in_c_isThere, List.forall_mem_append.mpr ⟨lwb_X11, fun _ h => absurd h List.not_mem_nil⟩⟩⟩⟩
set_option maxRecDepth 20000 in
theorem good_c_X11_run : wp_c_X11_run.all goodWord = true := by decide +kernel
set_option maxRecDepth 20000 in
theorem g_c_X11_run_c_isThere_222 : GoodIn wp_c_X11_run (wsV RX11 222 RX11 yX11_isThere wp_c_isThere) := goodIn_sub (List.forall_mem_append.mpr ⟨List.forall_mem_cons.mpr ⟨(List.mem_of_getElem? (i := 2) rfl), List.forall_mem_cons.mpr ⟨(List.mem_of_getElem? (i := 3) rfl), List.forall_mem_cons.mpr ⟨(List.mem_of_getElem? (i := 4) rfl), List.forall_mem_cons.mpr ⟨(List.mem_of_getElem? (i := 5) rfl), fun _ h => absurd h List.not_mem_nil⟩⟩⟩⟩, (fun _ h => (List.mem_cons_of_mem _ (List.mem_append_right _ (List.mem_append_left _ h))))⟩) (by decide +kernel)
set_option maxHeartbeats 4000000 in
set_option maxRecDepth 100000 in
theorem c_X11_run (l : Launch) (D : va_G) (sz : Nat) (h0 : Nat) (a : Nat → Nat) (cN : ClassId) (tp : Int32) (sd : Int64) (pa : Int64) (pb : Int64) (dr : Int32) (z1 : Int32)  : Met l yX11_run wp_c_X11_run ({ frames := 2, cells := 0, slots := 0, locals := 46 }) (PcW D [.ref h0, .int z1] sz [(h0, .inr (11, fM a tp sd pa pb dr)), (a 3, .inl (cN, 85, .inr (.inl (fun _ => 0))))] [(cN, .long)]) (va_Qi (fun (r : Int32) (_ : Unit) => r = (-2)) (fun (_ : Unit) _ => True) (va_A [(h0, .inr (11, fM a tp sd pa pb dr)), (a 3, .inl (cN, 85, .inr (.inl (fun _ => 0))))] sz)) 0 0 (va_A [(h0, .inr (11, fM a tp sd pa pb dr)), (a 3, .inl (cN, 85, .inr (.inl (fun _ => 0))))] sz) := by
  refine Met.ofW (cc := cX11_run) (maxL := 2) (ret := (some .int)) (by decide) rfl ?_
  intro p e s m args below meth c s₁ B hml hv
  obtain ⟨rfl, hsz, hP, hK, hD0⟩ := hv
  have hx := B.exec
  have hb := B.bytes
  have hr := B.returns
  have hts := atoms_spec (ws := wp_c_X11_run) B.pre
  have hin_X11 : ∀ w ∈ wsX110, w ∈ wp_c_X11_run := fun _ h => (List.mem_cons_of_mem _ (List.mem_append_right _ (List.mem_append_right _ (List.mem_append_left _ h))))
  have hown : s.vm.findClass RX11 = some m.cls := findClass_of_methodNamed B.named
  have hlocks := B.notSynchronized
  subst hsz
  have hD := hD0.self (sz := s.heap.size)
  generalize hAe : va_A [(h0, .inr (11, fM a tp sd pa pb dr)), (a 3, .inl (cN, 85, .inr (.inl (fun _ => 0))))] s.heap.size = A at hD ⊢
  have hA : ∀ q : Nat, s.heap.size ≤ q → A q := fun q h => by rw [← hAe]; exact Or.inr h
  have hS : va_S A s.heap s.heap [] := va_S.rf
  have hP : va_P D vwCl [(h0, .inr (11, fM a tp sd pa pb dr)), (a 3, .inl (cN, 85, .inr (.inl (fun _ => 0))))] s.heap := hP
  have hl := lv_entry ([.ref h0, .int z1]) (n := 2) (Nat.le_of_ble_eq_true rfl)
  rw [lg_entry_eq]
  generalize (lg_sl ([.ref h0, .int z1]) ++ List.replicate (2 - (lg_sl ([.ref h0, .int z1])).length) Slot.unset).toArray = ls at hl ⊢
  have hl : lv_has ls 2 [(0, .ref h0), (1, .int z1)] := hl
  refine lv_aload_n hx hb dX11_run_0 rfl (lv_at hl 0 rfl) ?_
  refine lv_iconst (v := 0) hx hb dX11_run_1 (by decide) ?_
  refine va_put (D := D) (ci := 11) (v := .int 0) (ty := .int) (C := RX11) (T := TX11) (N := 47) hx hb hts hin_X11 tyX11 tyX11_ok nmX11 hown hK hP hD hS 0 rfl rfl 0 (by decide) (hts (.fieldLink RX11 73 "ClashFreeModel" "thrown" "I") (List.mem_of_getElem? (i := 1) rfl)) (fun _ h9 => h9) rfl (by decide +kernel) rfl rfl (Nat.le_of_ble_eq_true rfl) dX11_run_2 (fun H locs hP hD hS => ?_)
  have hP : va_P D vwCl [(h0, .inr (11, fM a tp sd pa pb dr)), (a 3, .inl (cN, 85, .inr (.inl (fun _ => 0))))] H := hP
  have hD : va_D A [(h0, .inr (11, fM a tp sd pa pb dr)), (a 3, .inl (cN, 85, .inr (.inl (fun _ => 0))))] := hD
  refine lv_aload_n hx hb dX11_run_5 rfl (lv_at hl 0 rfl) ?_
  refine lv_iload_n hx hb dX11_run_6 rfl (lv_at hl 1 rfl) ?_
  have hPc := hP.sub (ws' := [(h0, .inr (11, fM a tp sd pa pb dr)), (a 3, .inl (cN, 85, .inr (.inl (fun _ => 0))))]) [0, 1] rfl
  have hKc := hK.sub (tys' := [(cN, .long)]) [0] rfl
  have hFc := va_free0 hS hA
  refine va_calli (va_runV (As := [.int z1]) (rest := []) ⟨hx, hb, hml, hown, hts⟩ (c_isThere l D _ h0 a cN tp sd pa pb dr z1) (cwV 1 hts g_c_X11_run_c_isThere_222 rfl rfl rfl (by decide +kernel) ⟨(Nat.le_of_ble_eq_true rfl), (Nat.le_of_ble_eq_true rfl)⟩) (PcR_V (q0 := 0) hPc hKc rfl rfl) rfl rfl hl.1 rfl (lv_room (Nat.le_of_ble_eq_true rfl)) dX11_run_7 ⟨(Nat.le_of_ble_eq_true rfl), (Nat.le_of_ble_eq_true rfl)⟩) hS (fun q _ h => hFc q h) hFc (fun r1 uu tt H locs htt hvm hw hB hz1 hk1 hS => ?_)
  have hP := va_keep hP hk1
  try dsimp only at hw
  clear hB hz1 hk1 hFc hPc hKc
  obtain rfl : r1 = 0 := hw
  refine lv_if_ne (tgt := 16) hx hb dX11_run_10 (by decide) (fun hc => absurd (by decide) hc) (fun hc => ?_)
  refine lv_bipush (v := (-2)) hx hb dX11_run_13 (by decide) ?_
  exact W.iret (v := (-2)) hx hb hr (fun t ht hW => ⟨⟨(-2), (), rfl, rfl, trivial⟩, hS.F ht⟩) hS.2.2 dX11_run_15

def own_c_X11_image : List Cond := [.fieldLink RX11 73 "ClashFreeModel" "thrown" "I", .methodLink RX11 222 yX11_isThere, .instanceMethod yX11_isThere, .selects RX11 yX11_isThere yX11_isThere, .initialized RX11]
def wp_c_X11_image : List Cond := .code yX11_image cX11_image 4 (some .int) :: (own_c_X11_image ++ (wp_c_isThere ++ (wsX110 ++ ([] : List Cond))))
set_option maxRecDepth 20000 in
theorem inown_c_X11_image : ∀ w ∈ own_c_X11_image, w ∈ lw_tbl := mem_places [1216, 1466, 1468, 54, 115] (by decide +kernel)
set_option maxRecDepth 20000 in
theorem in_c_X11_image : ∀ w ∈ wp_c_X11_image, w ∈ lw_tbl := List.forall_mem_cons.mpr ⟨List.mem_of_getElem? (i := 1793) (by decide +kernel), List.forall_mem_append.mpr ⟨inown_c_X11_image, List.forall_mem_append.mpr ⟨in_c_isThere, List.forall_mem_append.mpr ⟨lwb_X11, fun _ h => absurd h List.not_mem_nil⟩⟩⟩⟩
set_option maxRecDepth 20000 in
theorem good_c_X11_image : wp_c_X11_image.all goodWord = true := by decide +kernel
set_option maxRecDepth 20000 in
theorem g_c_X11_image_c_isThere_222 : GoodIn wp_c_X11_image (wsV RX11 222 RX11 yX11_isThere wp_c_isThere) := goodIn_sub (List.forall_mem_append.mpr ⟨List.forall_mem_cons.mpr ⟨(List.mem_of_getElem? (i := 2) rfl), List.forall_mem_cons.mpr ⟨(List.mem_of_getElem? (i := 3) rfl), List.forall_mem_cons.mpr ⟨(List.mem_of_getElem? (i := 4) rfl), List.forall_mem_cons.mpr ⟨(List.mem_of_getElem? (i := 5) rfl), fun _ h => absurd h List.not_mem_nil⟩⟩⟩⟩, (fun _ h => (List.mem_cons_of_mem _ (List.mem_append_right _ (List.mem_append_left _ h))))⟩) (by decide +kernel)
set_option maxHeartbeats 4000000 in
set_option maxRecDepth 100000 in
theorem c_X11_image (l : Launch) (D : va_G) (sz : Nat) (h0 : Nat) (a : Nat → Nat) (cN : ClassId) (tp : Int32) (sd : Int64) (pa : Int64) (pb : Int64) (dr : Int32) (z1 : Int32)  : Met l yX11_image wp_c_X11_image ({ frames := 2, cells := 0, slots := 0, locals := 46 }) (PcW D [.ref h0, .int z1] sz [(h0, .inr (11, fM a tp sd pa pb dr)), (a 3, .inl (cN, 85, .inr (.inl (fun _ => 0))))] [(cN, .long)]) (va_Qi (fun (r : Int32) (_ : Unit) => r = (-1)) (fun (_ : Unit) _ => True) (va_A [(h0, .inr (11, fM a tp sd pa pb dr)), (a 3, .inl (cN, 85, .inr (.inl (fun _ => 0))))] sz)) 0 0 (va_A [(h0, .inr (11, fM a tp sd pa pb dr)), (a 3, .inl (cN, 85, .inr (.inl (fun _ => 0))))] sz) := by
  refine Met.ofW (cc := cX11_image) (maxL := 4) (ret := (some .int)) (by decide) rfl ?_
  intro p e s m args below meth c s₁ B hml hv
  obtain ⟨rfl, hsz, hP, hK, hD0⟩ := hv
  have hx := B.exec
  have hb := B.bytes
  have hr := B.returns
  have hts := atoms_spec (ws := wp_c_X11_image) B.pre
  have hin_X11 : ∀ w ∈ wsX110, w ∈ wp_c_X11_image := fun _ h => (List.mem_cons_of_mem _ (List.mem_append_right _ (List.mem_append_right _ (List.mem_append_left _ h))))
  have hown : s.vm.findClass RX11 = some m.cls := findClass_of_methodNamed B.named
  have hlocks := B.notSynchronized
  subst hsz
  have hD := hD0.self (sz := s.heap.size)
  generalize hAe : va_A [(h0, .inr (11, fM a tp sd pa pb dr)), (a 3, .inl (cN, 85, .inr (.inl (fun _ => 0))))] s.heap.size = A at hD ⊢
  have hA : ∀ q : Nat, s.heap.size ≤ q → A q := fun q h => by rw [← hAe]; exact Or.inr h
  have hS : va_S A s.heap s.heap [] := va_S.rf
  have hP : va_P D vwCl [(h0, .inr (11, fM a tp sd pa pb dr)), (a 3, .inl (cN, 85, .inr (.inl (fun _ => 0))))] s.heap := hP
  have hl := lv_entry ([.ref h0, .int z1]) (n := 4) (Nat.le_of_ble_eq_true rfl)
  rw [lg_entry_eq]
  generalize (lg_sl ([.ref h0, .int z1]) ++ List.replicate (4 - (lg_sl ([.ref h0, .int z1])).length) Slot.unset).toArray = ls at hl ⊢
  have hl : lv_has ls 4 [(0, .ref h0), (1, .int z1)] := hl
  refine lv_aload_n hx hb dX11_image_0 rfl (lv_at hl 0 rfl) ?_
  refine lv_iconst (v := 0) hx hb dX11_image_1 (by decide) ?_
  refine va_put (D := D) (ci := 11) (v := .int 0) (ty := .int) (C := RX11) (T := TX11) (N := 47) hx hb hts hin_X11 tyX11 tyX11_ok nmX11 hown hK hP hD hS 0 rfl rfl 0 (by decide) (hts (.fieldLink RX11 73 "ClashFreeModel" "thrown" "I") (List.mem_of_getElem? (i := 1) rfl)) (fun _ h9 => h9) rfl (by decide +kernel) rfl rfl (Nat.le_of_ble_eq_true rfl) dX11_image_2 (fun H locs hP hD hS => ?_)
  have hP : va_P D vwCl [(h0, .inr (11, fM a tp sd pa pb dr)), (a 3, .inl (cN, 85, .inr (.inl (fun _ => 0))))] H := hP
  have hD : va_D A [(h0, .inr (11, fM a tp sd pa pb dr)), (a 3, .inl (cN, 85, .inr (.inl (fun _ => 0))))] := hD
  refine lv_aload_n hx hb dX11_image_5 rfl (lv_at hl 0 rfl) ?_
  refine lv_iload_n hx hb dX11_image_6 rfl (lv_at hl 1 rfl) ?_
  have hPc := hP.sub (ws' := [(h0, .inr (11, fM a tp sd pa pb dr)), (a 3, .inl (cN, 85, .inr (.inl (fun _ => 0))))]) [0, 1] rfl
  have hKc := hK.sub (tys' := [(cN, .long)]) [0] rfl
  have hFc := va_free0 hS hA
  refine va_calli (va_runV (As := [.int z1]) (rest := []) ⟨hx, hb, hml, hown, hts⟩ (c_isThere l D _ h0 a cN tp sd pa pb dr z1) (cwV 1 hts g_c_X11_image_c_isThere_222 rfl rfl rfl (by decide +kernel) ⟨(Nat.le_of_ble_eq_true rfl), (Nat.le_of_ble_eq_true rfl)⟩) (PcR_V (q0 := 0) hPc hKc rfl rfl) rfl rfl hl.1 rfl (lv_room (Nat.le_of_ble_eq_true rfl)) dX11_image_7 ⟨(Nat.le_of_ble_eq_true rfl), (Nat.le_of_ble_eq_true rfl)⟩) hS (fun q _ h => hFc q h) hFc (fun r1 uu tt H locs htt hvm hw hB hz1 hk1 hS => ?_)
  have hP := va_keep hP hk1
  try dsimp only at hw
  clear hB hz1 hk1 hFc hPc hKc
  obtain rfl : r1 = 0 := hw
  refine lv_if_ne (tgt := 15) hx hb dX11_image_10 (by decide) (fun hc => absurd (by decide) hc) (fun hc => ?_)
  refine lv_iconst (v := (-1)) hx hb dX11_image_13 (by decide) ?_
  exact W.iret (v := (-1)) hx hb hr (fun t ht hW => ⟨⟨(-1), (), rfl, rfl, trivial⟩, hS.F ht⟩) hS.2.2 dX11_image_14

def own_c_X11_copy : List Cond := [.fieldLink RX11 73 "ClashFreeModel" "thrown" "I", .constantLong RX11 87 (3), .methodLink RX11 83 yX11_isIn, .static yX11_isIn, .initialized RX11, .methodLink RX11 222 yX11_isThere, .instanceMethod yX11_isThere, .selects RX11 yX11_isThere yX11_isThere]
def wp_c_X11_copy : List Cond := .code yX11_copy cX11_copy 4 (some .int) :: (own_c_X11_copy ++ (wp_c_isIn ++ (wp_c_isThere ++ (wsX110 ++ ([] : List Cond)))))
set_option maxRecDepth 20000 in
theorem inown_c_X11_copy : ∀ w ∈ own_c_X11_copy, w ∈ lw_tbl := mem_places [1216, 1378, 1371, 1372, 115, 1466, 1468, 54] (by decide +kernel)
set_option maxRecDepth 20000 in
theorem in_c_X11_copy : ∀ w ∈ wp_c_X11_copy, w ∈ lw_tbl := List.forall_mem_cons.mpr ⟨List.mem_of_getElem? (i := 1822) (by decide +kernel), List.forall_mem_append.mpr ⟨inown_c_X11_copy, List.forall_mem_append.mpr ⟨in_c_isIn, List.forall_mem_append.mpr ⟨in_c_isThere, List.forall_mem_append.mpr ⟨lwb_X11, fun _ h => absurd h List.not_mem_nil⟩⟩⟩⟩⟩
set_option maxRecDepth 20000 in
theorem good_c_X11_copy : wp_c_X11_copy.all goodWord = true := by decide +kernel
set_option maxRecDepth 20000 in
theorem g_c_X11_copy_c_isIn_83 : GoodIn wp_c_X11_copy (va_wsS RX11 83 yX11_isIn wp_c_isIn) := goodIn_sub (List.forall_mem_append.mpr ⟨List.forall_mem_cons.mpr ⟨(List.mem_of_getElem? (i := 3) rfl), List.forall_mem_cons.mpr ⟨(List.mem_of_getElem? (i := 4) rfl), List.forall_mem_cons.mpr ⟨(List.mem_of_getElem? (i := 5) rfl), fun _ h => absurd h List.not_mem_nil⟩⟩⟩, (fun _ h => (List.mem_cons_of_mem _ (List.mem_append_right _ (List.mem_append_left _ h))))⟩) (by decide +kernel)
set_option maxRecDepth 20000 in
theorem g_c_X11_copy_c_isThere_222 : GoodIn wp_c_X11_copy (wsV RX11 222 RX11 yX11_isThere wp_c_isThere) := goodIn_sub (List.forall_mem_append.mpr ⟨List.forall_mem_cons.mpr ⟨(List.mem_of_getElem? (i := 6) rfl), List.forall_mem_cons.mpr ⟨(List.mem_of_getElem? (i := 7) rfl), List.forall_mem_cons.mpr ⟨(List.mem_of_getElem? (i := 8) rfl), List.forall_mem_cons.mpr ⟨(List.mem_of_getElem? (i := 5) rfl), fun _ h => absurd h List.not_mem_nil⟩⟩⟩⟩, (fun _ h => (List.mem_cons_of_mem _ (List.mem_append_right _ (List.mem_append_right _ (List.mem_append_left _ h)))))⟩) (by decide +kernel)
set_option maxHeartbeats 4000000 in
set_option maxRecDepth 100000 in
theorem c_X11_copy (l : Launch) (D : va_G) (sz : Nat) (h0 : Nat) (a : Nat → Nat) (cN : ClassId) (tp : Int32) (sd : Int64) (pa : Int64) (pb : Int64) (dr : Int32) (z1 : Int32) (z2 : Int32)  : Met l yX11_copy wp_c_X11_copy ({ frames := 2, cells := 0, slots := 0, locals := 46 }) (PcW D [.ref h0, .int z1, .int z2] sz [(h0, .inr (11, fM a tp sd pa pb dr)), (a 3, .inl (cN, 85, .inr (.inl (fun _ => 0))))] [(cN, .long)]) (va_Qi (fun (r : Int32) (_ : Unit) => r = (-2)) (fun (_ : Unit) _ => True) (va_A [(h0, .inr (11, fM a tp sd pa pb dr)), (a 3, .inl (cN, 85, .inr (.inl (fun _ => 0))))] sz)) 0 0 (va_A [(h0, .inr (11, fM a tp sd pa pb dr)), (a 3, .inl (cN, 85, .inr (.inl (fun _ => 0))))] sz) := by
  refine Met.ofW (cc := cX11_copy) (maxL := 4) (ret := (some .int)) (by decide) rfl ?_
  intro p e s m args below meth c s₁ B hml hv
  obtain ⟨rfl, hsz, hP, hK, hD0⟩ := hv
  have hx := B.exec
  have hb := B.bytes
  have hr := B.returns
  have hts := atoms_spec (ws := wp_c_X11_copy) B.pre
  have hin_X11 : ∀ w ∈ wsX110, w ∈ wp_c_X11_copy := fun _ h => (List.mem_cons_of_mem _ (List.mem_append_right _ (List.mem_append_right _ (List.mem_append_right _ (List.mem_append_left _ h)))))
  have hown : s.vm.findClass RX11 = some m.cls := findClass_of_methodNamed B.named
  have hlocks := B.notSynchronized
  subst hsz
  have hD := hD0.self (sz := s.heap.size)
  generalize hAe : va_A [(h0, .inr (11, fM a tp sd pa pb dr)), (a 3, .inl (cN, 85, .inr (.inl (fun _ => 0))))] s.heap.size = A at hD ⊢
  have hA : ∀ q : Nat, s.heap.size ≤ q → A q := fun q h => by rw [← hAe]; exact Or.inr h
  have hS : va_S A s.heap s.heap [] := va_S.rf
  have hP : va_P D vwCl [(h0, .inr (11, fM a tp sd pa pb dr)), (a 3, .inl (cN, 85, .inr (.inl (fun _ => 0))))] s.heap := hP
  have hl := lv_entry ([.ref h0, .int z1, .int z2]) (n := 4) (Nat.le_of_ble_eq_true rfl)
  rw [lg_entry_eq]
  generalize (lg_sl ([.ref h0, .int z1, .int z2]) ++ List.replicate (4 - (lg_sl ([.ref h0, .int z1, .int z2])).length) Slot.unset).toArray = ls at hl ⊢
  have hl : lv_has ls 4 [(0, .ref h0), (1, .int z1), (2, .int z2)] := hl
  refine lv_aload_n hx hb dX11_copy_0 rfl (lv_at hl 0 rfl) ?_
  refine lv_iconst (v := 0) hx hb dX11_copy_1 (by decide) ?_
  refine va_put (D := D) (ci := 11) (v := .int 0) (ty := .int) (C := RX11) (T := TX11) (N := 47) hx hb hts hin_X11 tyX11 tyX11_ok nmX11 hown hK hP hD hS 0 rfl rfl 0 (by decide) (hts (.fieldLink RX11 73 "ClashFreeModel" "thrown" "I") (List.mem_of_getElem? (i := 1) rfl)) (fun _ h9 => h9) rfl (by decide +kernel) rfl rfl (Nat.le_of_ble_eq_true rfl) dX11_copy_2 (fun H locs hP hD hS => ?_)
  have hP : va_P D vwCl [(h0, .inr (11, fM a tp sd pa pb dr)), (a 3, .inl (cN, 85, .inr (.inl (fun _ => 0))))] H := hP
  have hD : va_D A [(h0, .inr (11, fM a tp sd pa pb dr)), (a 3, .inl (cN, 85, .inr (.inl (fun _ => 0))))] := hD
  refine lv_iload_n hx hb dX11_copy_5 rfl (lv_at hl 1 rfl) ?_
  refine lv_i2l hx hb dX11_copy_6 rfl ?_
  refine lv_lconst (v := 0) hx hb dX11_copy_7 (by decide) ?_
  refine lv_ldc2 (v := 3) hx hb hown (hts (.constantLong RX11 87 (3)) (List.mem_of_getElem? (i := 2) rfl)) dX11_copy_8 ?_
  have hPc := hP.sub (ws' := []) [] rfl
  have hKc := hK.sub (tys' := []) [] rfl
  have hFc := va_free0 hS hA
  refine va_calli (va_runS (As := [.long (Int32.toInt64 z1), .long 0, .long 3]) (rest := []) ⟨hx, hb, hml, hown, hts⟩ (c_isIn l D _ (Int32.toInt64 z1) 0 3) (va_cwS 3 hts g_c_X11_copy_c_isIn_83 rfl rfl rfl (by decide +kernel) ⟨(Nat.le_of_ble_eq_true rfl), (Nat.le_of_ble_eq_true rfl)⟩) (PcR_S hPc hKc) rfl rfl hl.1 rfl (lv_room (Nat.le_of_ble_eq_true rfl)) dX11_copy_11 ⟨(Nat.le_of_ble_eq_true rfl), (Nat.le_of_ble_eq_true rfl)⟩) hS (fun q _ h => hFc q h) hFc (fun r1 uu tt H locs htt hvm hw hB hz1 hk1 hS => ?_)
  have hP := va_keep hP hk1
  try dsimp only at hw
  clear hB hz1 hk1 hFc hPc hKc
  have hw_r1 := hw
  refine lv_if_eq (tgt := 30) hx hb dX11_copy_14 (by decide) (fun hc2 => ?_) (fun hc2 => ?_)
  ·
    refine lv_bipush (v := (-2)) hx hb dX11_copy_30 (by decide) ?_
    exact W.iret (v := (-2)) hx hb hr (fun t ht hW => ⟨⟨(-2), (), rfl, rfl, trivial⟩, hS.F ht⟩) hS.2.2 dX11_copy_32
  ·
    refine lv_aload_n hx hb dX11_copy_17 rfl (lv_at hl 0 rfl) ?_
    refine lv_iload_n hx hb dX11_copy_18 rfl (lv_at hl 2 rfl) ?_
    have hPc := hP.sub (ws' := [(h0, .inr (11, fM a tp sd pa pb dr)), (a 3, .inl (cN, 85, .inr (.inl (fun _ => 0))))]) [0, 1] rfl
    have hKc := hK.sub (tys' := [(cN, .long)]) [0] rfl
    have hFc := va_free0 hS hA
    refine va_calli (va_runV (As := [.int z2]) (rest := []) ⟨hx, hb, hml, hown, hts⟩ (c_isThere l D _ h0 a cN tp sd pa pb dr z2) (cwV 1 hts g_c_X11_copy_c_isThere_222 rfl rfl rfl (by decide +kernel) ⟨(Nat.le_of_ble_eq_true rfl), (Nat.le_of_ble_eq_true rfl)⟩) (PcR_V (q0 := 0) hPc hKc rfl rfl) rfl rfl hl.1 rfl (lv_room (Nat.le_of_ble_eq_true rfl)) dX11_copy_19 ⟨(Nat.le_of_ble_eq_true rfl), (Nat.le_of_ble_eq_true rfl)⟩) hS (fun q _ h => hFc q h) hFc (fun r3 uu tt H locs htt hvm hw hB hz1 hk1 hS => ?_)
    have hP := va_keep hP hk1
    try dsimp only at hw
    clear hB hz1 hk1 hFc hPc hKc
    obtain rfl : r3 = 0 := hw
    refine lv_if_eq (tgt := 30) hx hb dX11_copy_22 (by decide) (fun hc => ?_) (fun hc => absurd (by decide) hc)
    refine lv_bipush (v := (-2)) hx hb dX11_copy_30 (by decide) ?_
    exact W.iret (v := (-2)) hx hb hr (fun t ht hW => ⟨⟨(-2), (), rfl, rfl, trivial⟩, hS.F ht⟩) hS.2.2 dX11_copy_32

