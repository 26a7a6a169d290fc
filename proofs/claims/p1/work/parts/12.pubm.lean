set_option maxHeartbeats 4000000 in
set_option maxRecDepth 100000 in
theorem c_X11_put (l : Launch) (D : va_G) (sz : Nat) (h0 : Nat) (a : Nat → Nat) (cN : ClassId) (tp : Int32) (sd : Int64) (pa : Int64) (pb : Int64) (dr : Int32) (z1 : Int32) (z2 : Int32) (z3 : Int32)  : Met l yX11_put wsX11_put ({ frames := 2, cells := 0, slots := 0, locals := 46 }) (PcW D [.ref h0, .int z1, .int z2, .int z3] sz [(h0, .inr (11, fM a tp sd pa pb dr)), (a 3, .inl (cN, 85, .inr (.inl (fun _ => 0))))] [(cN, .long)]) (va_Qi (fun (r : Int32) (_ : Unit) => r = (-2)) (fun (_ : Unit) _ => True) (va_A [(h0, .inr (11, fM a tp sd pa pb dr)), (a 3, .inl (cN, 85, .inr (.inl (fun _ => 0))))] sz)) 0 0 (va_A [(h0, .inr (11, fM a tp sd pa pb dr)), (a 3, .inl (cN, 85, .inr (.inl (fun _ => 0))))] sz) := by
  refine Met.ofW (cc := cX11_put) (maxL := 4) (ret := (some .int)) (by decide) rfl ?_
  intro p e s m args below meth c s₁ B hml hv
  obtain ⟨rfl, hsz, hP, hK, hD0⟩ := hv
  have hx := B.exec
  have hb := B.bytes
  have hr := B.returns
  have hts := atoms_spec (ws := wsX11_put) B.pre
  have hown : s.vm.findClass RX11 = some m.cls := findClass_of_methodNamed B.named
  have hlocks := B.notSynchronized
  subst hsz
  have hD := hD0.self (sz := s.heap.size)
  generalize hAe : va_A [(h0, .inr (11, fM a tp sd pa pb dr)), (a 3, .inl (cN, 85, .inr (.inl (fun _ => 0))))] s.heap.size = A at hD ⊢
  have hA : ∀ q : Nat, s.heap.size ≤ q → A q := fun q h => by rw [← hAe]; exact Or.inr h
  have hS : va_S A s.heap s.heap [] := va_S.rf
  have hP : va_P D vwCl [(h0, .inr (11, fM a tp sd pa pb dr)), (a 3, .inl (cN, 85, .inr (.inl (fun _ => 0))))] s.heap := hP
  have hl := lv_entry ([.ref h0, .int z1, .int z2, .int z3]) (n := 4) (Nat.le_of_ble_eq_true rfl)
  rw [lg_entry_eq]
  generalize (lg_sl ([.ref h0, .int z1, .int z2, .int z3]) ++ List.replicate (4 - (lg_sl ([.ref h0, .int z1, .int z2, .int z3])).length) Slot.unset).toArray = ls at hl ⊢
  have hl : lv_has ls 4 [(0, .ref h0), (1, .int z1), (2, .int z2), (3, .int z3)] := hl
  refine lv_aload_n hx hb dX11_put_0 rfl (lv_at hl 0 rfl) ?_
  refine lv_iconst (v := 0) hx hb dX11_put_1 (by decide) ?_
  refine va_put (D := D) (ci := 11) (v := .int 0) (ty := .int) (C := RX11) (T := TX11) (N := 47) hx hb hts (fun _ h => List.mem_cons_of_mem _ (List.mem_append_right _ h)) tyX11 tyX11_ok nmX11 hown hK hP hD hS 0 rfl rfl 0 (by decide) (hts (.fieldLink RX11 73 "ClashFreeModel" "thrown" "I") (List.mem_of_getElem? (i := 1) rfl)) (fun _ h9 => h9) rfl (by decide +kernel) rfl rfl (Nat.le_of_ble_eq_true rfl) dX11_put_2 (fun H locs hP hD hS => ?_)
  have hP : va_P D vwCl [(h0, .inr (11, fM a tp sd pa pb dr)), (a 3, .inl (cN, 85, .inr (.inl (fun _ => 0))))] H := hP
  have hD : va_D A [(h0, .inr (11, fM a tp sd pa pb dr)), (a 3, .inl (cN, 85, .inr (.inl (fun _ => 0))))] := hD
  refine lv_aload_n hx hb dX11_put_5 rfl (lv_at hl 0 rfl) ?_
  refine lv_iload_n hx hb dX11_put_6 rfl (lv_at hl 1 rfl) ?_
  have hPc := hP.sub (ws' := [(h0, .inr (11, fM a tp sd pa pb dr)), (a 3, .inl (cN, 85, .inr (.inl (fun _ => 0))))]) [0, 1] rfl
  have hKc := hK.sub (tys' := [(cN, .long)]) [0] rfl
  have hFc := va_free0 hS hA
  refine va_calli (va_runV (As := [.int z1]) (rest := []) ⟨hx, hb, hml, hown, hts⟩ (c_isThere l D _ h0 a cN tp sd pa pb dr z1) (cwV 1 hts gX11_put_X11_isThere rfl rfl rfl (by decide +kernel) ⟨(Nat.le_of_ble_eq_true rfl), (Nat.le_of_ble_eq_true rfl)⟩) (PcR_V (q0 := 0) hPc hKc rfl rfl) rfl rfl hl.1 rfl (lv_room (Nat.le_of_ble_eq_true rfl)) dX11_put_7 ⟨(Nat.le_of_ble_eq_true rfl), (Nat.le_of_ble_eq_true rfl)⟩) hS (fun q _ h => hFc q h) hFc (fun r1 uu tt H locs htt hvm hw hB hz1 hk1 hS => ?_)
  have hP := va_keep hP hk1
  try dsimp only at hw
  clear hB hz1 hk1 hFc hPc hKc
  obtain rfl : r1 = 0 := hw
  refine lv_if_eq (tgt := 20) hx hb dX11_put_10 (by decide) (fun hc => ?_) (fun hc => absurd (by decide) hc)
  refine lv_bipush (v := (-2)) hx hb dX11_put_20 (by decide) ?_
  exact W.iret (v := (-2)) hx hb hr (fun t ht hW => ⟨⟨(-2), (), rfl, rfl, trivial⟩, hS.F ht⟩) hS.2.2 dX11_put_22

set_option maxHeartbeats 4000000 in
set_option maxRecDepth 100000 in
theorem c_X11_get (l : Launch) (D : va_G) (sz : Nat) (h0 : Nat) (a : Nat → Nat) (cN : ClassId) (tp : Int32) (sd : Int64) (pa : Int64) (pb : Int64) (dr : Int32) (z1 : Int32) (z2 : Int32)  : Met l yX11_get wsX11_get ({ frames := 2, cells := 0, slots := 0, locals := 46 }) (PcW D [.ref h0, .int z1, .int z2] sz [(h0, .inr (11, fM a tp sd pa pb dr)), (a 3, .inl (cN, 85, .inr (.inl (fun _ => 0))))] [(cN, .long)]) (va_Ql (fun (r : Int64) (_ : Unit) => r = (-1000000000000000)) (fun (_ : Unit) _ => True) (va_A [(h0, .inr (11, fM a tp sd pa pb dr)), (a 3, .inl (cN, 85, .inr (.inl (fun _ => 0))))] sz)) 0 0 (va_A [(h0, .inr (11, fM a tp sd pa pb dr)), (a 3, .inl (cN, 85, .inr (.inl (fun _ => 0))))] sz) := by
  refine Met.ofW (cc := cX11_get) (maxL := 3) (ret := (some .long)) (by decide) rfl ?_
  intro p e s m args below meth c s₁ B hml hv
  obtain ⟨rfl, hsz, hP, hK, hD0⟩ := hv
  have hx := B.exec
  have hb := B.bytes
  have hr := B.returns
  have hts := atoms_spec (ws := wsX11_get) B.pre
  have hown : s.vm.findClass RX11 = some m.cls := findClass_of_methodNamed B.named
  have hlocks := B.notSynchronized
  subst hsz
  have hD := hD0.self (sz := s.heap.size)
  generalize hAe : va_A [(h0, .inr (11, fM a tp sd pa pb dr)), (a 3, .inl (cN, 85, .inr (.inl (fun _ => 0))))] s.heap.size = A at hD ⊢
  have hA : ∀ q : Nat, s.heap.size ≤ q → A q := fun q h => by rw [← hAe]; exact Or.inr h
  have hS : va_S A s.heap s.heap [] := va_S.rf
  have hP : va_P D vwCl [(h0, .inr (11, fM a tp sd pa pb dr)), (a 3, .inl (cN, 85, .inr (.inl (fun _ => 0))))] s.heap := hP
  have hl := lv_entry ([.ref h0, .int z1, .int z2]) (n := 3) (Nat.le_of_ble_eq_true rfl)
  rw [lg_entry_eq]
  generalize (lg_sl ([.ref h0, .int z1, .int z2]) ++ List.replicate (3 - (lg_sl ([.ref h0, .int z1, .int z2])).length) Slot.unset).toArray = ls at hl ⊢
  have hl : lv_has ls 3 [(0, .ref h0), (1, .int z1), (2, .int z2)] := hl
  refine lv_aload_n hx hb dX11_get_0 rfl (lv_at hl 0 rfl) ?_
  refine lv_iconst (v := 0) hx hb dX11_get_1 (by decide) ?_
  refine va_put (D := D) (ci := 11) (v := .int 0) (ty := .int) (C := RX11) (T := TX11) (N := 47) hx hb hts (fun _ h => List.mem_cons_of_mem _ (List.mem_append_right _ h)) tyX11 tyX11_ok nmX11 hown hK hP hD hS 0 rfl rfl 0 (by decide) (hts (.fieldLink RX11 73 "ClashFreeModel" "thrown" "I") (List.mem_of_getElem? (i := 1) rfl)) (fun _ h9 => h9) rfl (by decide +kernel) rfl rfl (Nat.le_of_ble_eq_true rfl) dX11_get_2 (fun H locs hP hD hS => ?_)
  have hP : va_P D vwCl [(h0, .inr (11, fM a tp sd pa pb dr)), (a 3, .inl (cN, 85, .inr (.inl (fun _ => 0))))] H := hP
  have hD : va_D A [(h0, .inr (11, fM a tp sd pa pb dr)), (a 3, .inl (cN, 85, .inr (.inl (fun _ => 0))))] := hD
  refine lv_aload_n hx hb dX11_get_5 rfl (lv_at hl 0 rfl) ?_
  refine lv_iload_n hx hb dX11_get_6 rfl (lv_at hl 1 rfl) ?_
  have hPc := hP.sub (ws' := [(h0, .inr (11, fM a tp sd pa pb dr)), (a 3, .inl (cN, 85, .inr (.inl (fun _ => 0))))]) [0, 1] rfl
  have hKc := hK.sub (tys' := [(cN, .long)]) [0] rfl
  have hFc := va_free0 hS hA
  refine va_calli (va_runV (As := [.int z1]) (rest := []) ⟨hx, hb, hml, hown, hts⟩ (c_isThere l D _ h0 a cN tp sd pa pb dr z1) (cwV 1 hts gX11_get_X11_isThere rfl rfl rfl (by decide +kernel) ⟨(Nat.le_of_ble_eq_true rfl), (Nat.le_of_ble_eq_true rfl)⟩) (PcR_V (q0 := 0) hPc hKc rfl rfl) rfl rfl hl.1 rfl (lv_room (Nat.le_of_ble_eq_true rfl)) dX11_get_7 ⟨(Nat.le_of_ble_eq_true rfl), (Nat.le_of_ble_eq_true rfl)⟩) hS (fun q _ h => hFc q h) hFc (fun r1 uu tt H locs htt hvm hw hB hz1 hk1 hS => ?_)
  have hP := va_keep hP hk1
  try dsimp only at hw
  clear hB hz1 hk1 hFc hPc hKc
  obtain rfl : r1 = 0 := hw
  refine lv_if_eq (tgt := 20) hx hb dX11_get_10 (by decide) (fun hc => ?_) (fun hc => absurd (by decide) hc)
  refine lv_ldc2 (v := (-1000000000000000)) hx hb hown (hts (.constantLong RX11 235 (-1000000000000000)) (List.mem_of_getElem? (i := 2) rfl)) dX11_get_20 ?_
  exact W.lret (v := (-1000000000000000)) hx hb hr (fun t ht hW => ⟨⟨(-1000000000000000), (), rfl, rfl, trivial⟩, hS.F ht⟩) hS.2.2 dX11_get_23

set_option maxHeartbeats 4000000 in
set_option maxRecDepth 100000 in
theorem c_X11_drop (l : Launch) (D : va_G) (sz : Nat) (h0 : Nat) (a : Nat → Nat) (cN : ClassId) (tp : Int32) (sd : Int64) (pa : Int64) (pb : Int64) (dr : Int32) (z1 : Int32) (z2 : Int32)  : Met l yX11_drop wsX11_drop ({ frames := 2, cells := 0, slots := 0, locals := 46 }) (PcW D [.ref h0, .int z1, .int z2] sz [(h0, .inr (11, fM a tp sd pa pb dr)), (a 3, .inl (cN, 85, .inr (.inl (fun _ => 0))))] [(cN, .long)]) (va_Qi (fun (r : Int32) (_ : Unit) => r = (-2)) (fun (_ : Unit) _ => True) (va_A [(h0, .inr (11, fM a tp sd pa pb dr)), (a 3, .inl (cN, 85, .inr (.inl (fun _ => 0))))] sz)) 0 0 (va_A [(h0, .inr (11, fM a tp sd pa pb dr)), (a 3, .inl (cN, 85, .inr (.inl (fun _ => 0))))] sz) := by
  refine Met.ofW (cc := cX11_drop) (maxL := 3) (ret := (some .int)) (by decide) rfl ?_
  intro p e s m args below meth c s₁ B hml hv
  obtain ⟨rfl, hsz, hP, hK, hD0⟩ := hv
  have hx := B.exec
  have hb := B.bytes
  have hr := B.returns
  have hts := atoms_spec (ws := wsX11_drop) B.pre
  have hown : s.vm.findClass RX11 = some m.cls := findClass_of_methodNamed B.named
  have hlocks := B.notSynchronized
  subst hsz
  have hD := hD0.self (sz := s.heap.size)
  generalize hAe : va_A [(h0, .inr (11, fM a tp sd pa pb dr)), (a 3, .inl (cN, 85, .inr (.inl (fun _ => 0))))] s.heap.size = A at hD ⊢
  have hA : ∀ q : Nat, s.heap.size ≤ q → A q := fun q h => by rw [← hAe]; exact Or.inr h
  have hS : va_S A s.heap s.heap [] := va_S.rf
  have hP : va_P D vwCl [(h0, .inr (11, fM a tp sd pa pb dr)), (a 3, .inl (cN, 85, .inr (.inl (fun _ => 0))))] s.heap := hP
  have hl := lv_entry ([.ref h0, .int z1, .int z2]) (n := 3) (Nat.le_of_ble_eq_true rfl)
  rw [lg_entry_eq]
  generalize (lg_sl ([.ref h0, .int z1, .int z2]) ++ List.replicate (3 - (lg_sl ([.ref h0, .int z1, .int z2])).length) Slot.unset).toArray = ls at hl ⊢
  have hl : lv_has ls 3 [(0, .ref h0), (1, .int z1), (2, .int z2)] := hl
  refine lv_aload_n hx hb dX11_drop_0 rfl (lv_at hl 0 rfl) ?_
  refine lv_iconst (v := 0) hx hb dX11_drop_1 (by decide) ?_
  refine va_put (D := D) (ci := 11) (v := .int 0) (ty := .int) (C := RX11) (T := TX11) (N := 47) hx hb hts (fun _ h => List.mem_cons_of_mem _ (List.mem_append_right _ h)) tyX11 tyX11_ok nmX11 hown hK hP hD hS 0 rfl rfl 0 (by decide) (hts (.fieldLink RX11 73 "ClashFreeModel" "thrown" "I") (List.mem_of_getElem? (i := 1) rfl)) (fun _ h9 => h9) rfl (by decide +kernel) rfl rfl (Nat.le_of_ble_eq_true rfl) dX11_drop_2 (fun H locs hP hD hS => ?_)
  have hP : va_P D vwCl [(h0, .inr (11, fM a tp sd pa pb dr)), (a 3, .inl (cN, 85, .inr (.inl (fun _ => 0))))] H := hP
  have hD : va_D A [(h0, .inr (11, fM a tp sd pa pb dr)), (a 3, .inl (cN, 85, .inr (.inl (fun _ => 0))))] := hD
  refine lv_aload_n hx hb dX11_drop_5 rfl (lv_at hl 0 rfl) ?_
  refine lv_iload_n hx hb dX11_drop_6 rfl (lv_at hl 1 rfl) ?_
  have hPc := hP.sub (ws' := [(h0, .inr (11, fM a tp sd pa pb dr)), (a 3, .inl (cN, 85, .inr (.inl (fun _ => 0))))]) [0, 1] rfl
  have hKc := hK.sub (tys' := [(cN, .long)]) [0] rfl
  have hFc := va_free0 hS hA
  refine va_calli (va_runV (As := [.int z1]) (rest := []) ⟨hx, hb, hml, hown, hts⟩ (c_isThere l D _ h0 a cN tp sd pa pb dr z1) (cwV 1 hts gX11_drop_X11_isThere rfl rfl rfl (by decide +kernel) ⟨(Nat.le_of_ble_eq_true rfl), (Nat.le_of_ble_eq_true rfl)⟩) (PcR_V (q0 := 0) hPc hKc rfl rfl) rfl rfl hl.1 rfl (lv_room (Nat.le_of_ble_eq_true rfl)) dX11_drop_7 ⟨(Nat.le_of_ble_eq_true rfl), (Nat.le_of_ble_eq_true rfl)⟩) hS (fun q _ h => hFc q h) hFc (fun r1 uu tt H locs htt hvm hw hB hz1 hk1 hS => ?_)
  have hP := va_keep hP hk1
  try dsimp only at hw
  clear hB hz1 hk1 hFc hPc hKc
  obtain rfl : r1 = 0 := hw
  refine lv_if_eq (tgt := 29) hx hb dX11_drop_10 (by decide) (fun hc => ?_) (fun hc => absurd (by decide) hc)
  refine lv_bipush (v := (-2)) hx hb dX11_drop_29 (by decide) ?_
  exact W.iret (v := (-2)) hx hb hr (fun t ht hW => ⟨⟨(-2), (), rfl, rfl, trivial⟩, hS.F ht⟩) hS.2.2 dX11_drop_31

set_option maxHeartbeats 4000000 in
set_option maxRecDepth 100000 in
theorem c_X11_build (l : Launch) (D : va_G) (sz : Nat) (h0 : Nat) (a : Nat → Nat) (cN : ClassId) (tp : Int32) (sd : Int64) (pa : Int64) (pb : Int64) (dr : Int32) (z1 : Int32)  : Met l yX11_build wsX11_build ({ frames := 2, cells := 0, slots := 0, locals := 46 }) (PcW D [.ref h0, .int z1] sz [(h0, .inr (11, fM a tp sd pa pb dr)), (a 3, .inl (cN, 85, .inr (.inl (fun _ => 0))))] [(cN, .long)]) (va_Qi (fun (r : Int32) (_ : Unit) => r = (-2)) (fun (_ : Unit) _ => True) (va_A [(h0, .inr (11, fM a tp sd pa pb dr)), (a 3, .inl (cN, 85, .inr (.inl (fun _ => 0))))] sz)) 0 0 (va_A [(h0, .inr (11, fM a tp sd pa pb dr)), (a 3, .inl (cN, 85, .inr (.inl (fun _ => 0))))] sz) := by
  refine Met.ofW (cc := cX11_build) (maxL := 2) (ret := (some .int)) (by decide) rfl ?_
  intro p e s m args below meth c s₁ B hml hv
  obtain ⟨rfl, hsz, hP, hK, hD0⟩ := hv
  have hx := B.exec
  have hb := B.bytes
  have hr := B.returns
  have hts := atoms_spec (ws := wsX11_build) B.pre
  have hown : s.vm.findClass RX11 = some m.cls := findClass_of_methodNamed B.named
  have hlocks := B.notSynchronized
  subst hsz
  have hD := hD0.self (sz := s.heap.size)
  generalize hAe : va_A [(h0, .inr (11, fM a tp sd pa pb dr)), (a 3, .inl (cN, 85, .inr (.inl (fun _ => 0))))] s.heap.size = A at hD ⊢
  have hA : ∀ q : Nat, s.heap.size ≤ q → A q := fun q h => by rw [← hAe]; exact Or.inr h
  have hS : va_S A s.heap s.heap [] := va_S.rf
  have hP : va_P D vwCl [(h0, .inr (11, fM a tp sd pa pb dr)), (a 3, .inl (cN, 85, .inr (.inl (fun _ => 0))))] s.heap := hP
  have hl := lv_entry ([.ref h0, .int z1]) (n := 2) (Nat.le_of_ble_eq_true rfl)
  rw [lg_entry_eq]
  generalize (lg_sl ([.ref h0, .int z1]) ++ List.replicate (2 - (lg_sl ([.ref h0, .int z1])).length) Slot.unset).toArray = ls at hl ⊢
  have hl : lv_has ls 2 [(0, .ref h0), (1, .int z1)] := hl
  refine lv_aload_n hx hb dX11_build_0 rfl (lv_at hl 0 rfl) ?_
  refine lv_iconst (v := 0) hx hb dX11_build_1 (by decide) ?_
  refine va_put (D := D) (ci := 11) (v := .int 0) (ty := .int) (C := RX11) (T := TX11) (N := 47) hx hb hts (fun _ h => List.mem_cons_of_mem _ (List.mem_append_right _ h)) tyX11 tyX11_ok nmX11 hown hK hP hD hS 0 rfl rfl 0 (by decide) (hts (.fieldLink RX11 73 "ClashFreeModel" "thrown" "I") (List.mem_of_getElem? (i := 1) rfl)) (fun _ h9 => h9) rfl (by decide +kernel) rfl rfl (Nat.le_of_ble_eq_true rfl) dX11_build_2 (fun H locs hP hD hS => ?_)
  have hP : va_P D vwCl [(h0, .inr (11, fM a tp sd pa pb dr)), (a 3, .inl (cN, 85, .inr (.inl (fun _ => 0))))] H := hP
  have hD : va_D A [(h0, .inr (11, fM a tp sd pa pb dr)), (a 3, .inl (cN, 85, .inr (.inl (fun _ => 0))))] := hD
  refine lv_aload_n hx hb dX11_build_5 rfl (lv_at hl 0 rfl) ?_
  refine lv_iload_n hx hb dX11_build_6 rfl (lv_at hl 1 rfl) ?_
  have hPc := hP.sub (ws' := [(h0, .inr (11, fM a tp sd pa pb dr)), (a 3, .inl (cN, 85, .inr (.inl (fun _ => 0))))]) [0, 1] rfl
  have hKc := hK.sub (tys' := [(cN, .long)]) [0] rfl
  have hFc := va_free0 hS hA
  refine va_calli (va_runV (As := [.int z1]) (rest := []) ⟨hx, hb, hml, hown, hts⟩ (c_isThere l D _ h0 a cN tp sd pa pb dr z1) (cwV 1 hts gX11_build_X11_isThere rfl rfl rfl (by decide +kernel) ⟨(Nat.le_of_ble_eq_true rfl), (Nat.le_of_ble_eq_true rfl)⟩) (PcR_V (q0 := 0) hPc hKc rfl rfl) rfl rfl hl.1 rfl (lv_room (Nat.le_of_ble_eq_true rfl)) dX11_build_7 ⟨(Nat.le_of_ble_eq_true rfl), (Nat.le_of_ble_eq_true rfl)⟩) hS (fun q _ h => hFc q h) hFc (fun r1 uu tt H locs htt hvm hw hB hz1 hk1 hS => ?_)
  have hP := va_keep hP hk1
  try dsimp only at hw
  clear hB hz1 hk1 hFc hPc hKc
  obtain rfl : r1 = 0 := hw
  refine lv_if_ne (tgt := 16) hx hb dX11_build_10 (by decide) (fun hc => absurd hc (by decide)) (fun hc => ?_)
  refine lv_bipush (v := (-2)) hx hb dX11_build_13 (by decide) ?_
  exact W.iret (v := (-2)) hx hb hr (fun t ht hW => ⟨⟨(-2), (), rfl, rfl, trivial⟩, hS.F ht⟩) hS.2.2 dX11_build_15

set_option maxHeartbeats 4000000 in
set_option maxRecDepth 100000 in
theorem c_X11_has (l : Launch) (D : va_G) (sz : Nat) (h0 : Nat) (a : Nat → Nat) (cN : ClassId) (tp : Int32) (sd : Int64) (pa : Int64) (pb : Int64) (dr : Int32) (z1 : Int32) (z2 : Int32)  : Met l yX11_has wsX11_has ({ frames := 2, cells := 0, slots := 0, locals := 46 }) (PcW D [.ref h0, .int z1, .int z2] sz [(h0, .inr (11, fM a tp sd pa pb dr)), (a 3, .inl (cN, 85, .inr (.inl (fun _ => 0))))] [(cN, .long)]) (va_Ql (fun (r : Int64) (_ : Unit) => r = (-1000000000000000)) (fun (_ : Unit) _ => True) (va_A [(h0, .inr (11, fM a tp sd pa pb dr)), (a 3, .inl (cN, 85, .inr (.inl (fun _ => 0))))] sz)) 0 0 (va_A [(h0, .inr (11, fM a tp sd pa pb dr)), (a 3, .inl (cN, 85, .inr (.inl (fun _ => 0))))] sz) := by
  refine Met.ofW (cc := cX11_has) (maxL := 3) (ret := (some .long)) (by decide) rfl ?_
  intro p e s m args below meth c s₁ B hml hv
  obtain ⟨rfl, hsz, hP, hK, hD0⟩ := hv
  have hx := B.exec
  have hb := B.bytes
  have hr := B.returns
  have hts := atoms_spec (ws := wsX11_has) B.pre
  have hown : s.vm.findClass RX11 = some m.cls := findClass_of_methodNamed B.named
  have hlocks := B.notSynchronized
  subst hsz
  have hD := hD0.self (sz := s.heap.size)
  generalize hAe : va_A [(h0, .inr (11, fM a tp sd pa pb dr)), (a 3, .inl (cN, 85, .inr (.inl (fun _ => 0))))] s.heap.size = A at hD ⊢
  have hA : ∀ q : Nat, s.heap.size ≤ q → A q := fun q h => by rw [← hAe]; exact Or.inr h
  have hS : va_S A s.heap s.heap [] := va_S.rf
  have hP : va_P D vwCl [(h0, .inr (11, fM a tp sd pa pb dr)), (a 3, .inl (cN, 85, .inr (.inl (fun _ => 0))))] s.heap := hP
  have hl := lv_entry ([.ref h0, .int z1, .int z2]) (n := 3) (Nat.le_of_ble_eq_true rfl)
  rw [lg_entry_eq]
  generalize (lg_sl ([.ref h0, .int z1, .int z2]) ++ List.replicate (3 - (lg_sl ([.ref h0, .int z1, .int z2])).length) Slot.unset).toArray = ls at hl ⊢
  have hl : lv_has ls 3 [(0, .ref h0), (1, .int z1), (2, .int z2)] := hl
  refine lv_aload_n hx hb dX11_has_0 rfl (lv_at hl 0 rfl) ?_
  refine lv_iconst (v := 0) hx hb dX11_has_1 (by decide) ?_
  refine va_put (D := D) (ci := 11) (v := .int 0) (ty := .int) (C := RX11) (T := TX11) (N := 47) hx hb hts (fun _ h => List.mem_cons_of_mem _ (List.mem_append_right _ h)) tyX11 tyX11_ok nmX11 hown hK hP hD hS 0 rfl rfl 0 (by decide) (hts (.fieldLink RX11 73 "ClashFreeModel" "thrown" "I") (List.mem_of_getElem? (i := 1) rfl)) (fun _ h9 => h9) rfl (by decide +kernel) rfl rfl (Nat.le_of_ble_eq_true rfl) dX11_has_2 (fun H locs hP hD hS => ?_)
  have hP : va_P D vwCl [(h0, .inr (11, fM a tp sd pa pb dr)), (a 3, .inl (cN, 85, .inr (.inl (fun _ => 0))))] H := hP
  have hD : va_D A [(h0, .inr (11, fM a tp sd pa pb dr)), (a 3, .inl (cN, 85, .inr (.inl (fun _ => 0))))] := hD
  refine lv_aload_n hx hb dX11_has_5 rfl (lv_at hl 0 rfl) ?_
  refine lv_iload_n hx hb dX11_has_6 rfl (lv_at hl 1 rfl) ?_
  have hPc := hP.sub (ws' := [(h0, .inr (11, fM a tp sd pa pb dr)), (a 3, .inl (cN, 85, .inr (.inl (fun _ => 0))))]) [0, 1] rfl
  have hKc := hK.sub (tys' := [(cN, .long)]) [0] rfl
  have hFc := va_free0 hS hA
  refine va_calli (va_runV (As := [.int z1]) (rest := []) ⟨hx, hb, hml, hown, hts⟩ (c_isThere l D _ h0 a cN tp sd pa pb dr z1) (cwV 1 hts gX11_has_X11_isThere rfl rfl rfl (by decide +kernel) ⟨(Nat.le_of_ble_eq_true rfl), (Nat.le_of_ble_eq_true rfl)⟩) (PcR_V (q0 := 0) hPc hKc rfl rfl) rfl rfl hl.1 rfl (lv_room (Nat.le_of_ble_eq_true rfl)) dX11_has_7 ⟨(Nat.le_of_ble_eq_true rfl), (Nat.le_of_ble_eq_true rfl)⟩) hS (fun q _ h => hFc q h) hFc (fun r1 uu tt H locs htt hvm hw hB hz1 hk1 hS => ?_)
  have hP := va_keep hP hk1
  try dsimp only at hw
  clear hB hz1 hk1 hFc hPc hKc
  obtain rfl : r1 = 0 := hw
  refine lv_if_ne (tgt := 17) hx hb dX11_has_10 (by decide) (fun hc => absurd hc (by decide)) (fun hc => ?_)
  refine lv_ldc2 (v := (-1000000000000000)) hx hb hown (hts (.constantLong RX11 235 (-1000000000000000)) (List.mem_of_getElem? (i := 2) rfl)) dX11_has_13 ?_
  exact W.lret (v := (-1000000000000000)) hx hb hr (fun t ht hW => ⟨⟨(-1000000000000000), (), rfl, rfl, trivial⟩, hS.F ht⟩) hS.2.2 dX11_has_16

set_option maxHeartbeats 4000000 in
set_option maxRecDepth 100000 in
theorem c_X11_bucket (l : Launch) (D : va_G) (sz : Nat) (h0 : Nat) (a : Nat → Nat) (cN : ClassId) (tp : Int32) (sd : Int64) (pa : Int64) (pb : Int64) (dr : Int32) (z1 : Int32) (z2 : Int32) (z3 : Int32)  : Met l yX11_bucket wsX11_bucket ({ frames := 3, cells := 0, slots := 0, locals := 68 }) (PcW D [.ref h0, .int z1, .int z2, .int z3] sz [(h0, .inr (11, fM a tp sd pa pb dr)), (a 3, .inl (cN, 85, .inr (.inl (fun _ => 0))))] [(cN, .long)]) (va_Ql (fun (r : Int64) (_ : Unit) => r = (-1000000000000000)) (fun (_ : Unit) _ => True) (va_A [(h0, .inr (11, fM a tp sd pa pb dr)), (a 3, .inl (cN, 85, .inr (.inl (fun _ => 0))))] sz)) 0 0 (va_A [(h0, .inr (11, fM a tp sd pa pb dr)), (a 3, .inl (cN, 85, .inr (.inl (fun _ => 0))))] sz) := by
  refine Met.ofW (cc := cX11_bucket) (maxL := 5) (ret := (some .long)) (by decide) rfl ?_
  intro p e s m args below meth c s₁ B hml hv
  obtain ⟨rfl, hsz, hP, hK, hD0⟩ := hv
  have hx := B.exec
  have hb := B.bytes
  have hr := B.returns
  have hts := atoms_spec (ws := wsX11_bucket) B.pre
  have hown : s.vm.findClass RX11 = some m.cls := findClass_of_methodNamed B.named
  have hlocks := B.notSynchronized
  subst hsz
  have hD := hD0.self (sz := s.heap.size)
  generalize hAe : va_A [(h0, .inr (11, fM a tp sd pa pb dr)), (a 3, .inl (cN, 85, .inr (.inl (fun _ => 0))))] s.heap.size = A at hD ⊢
  have hA : ∀ q : Nat, s.heap.size ≤ q → A q := fun q h => by rw [← hAe]; exact Or.inr h
  have hS : va_S A s.heap s.heap [] := va_S.rf
  have hP : va_P D vwCl [(h0, .inr (11, fM a tp sd pa pb dr)), (a 3, .inl (cN, 85, .inr (.inl (fun _ => 0))))] s.heap := hP
  have hl := lv_entry ([.ref h0, .int z1, .int z2, .int z3]) (n := 5) (Nat.le_of_ble_eq_true rfl)
  rw [lg_entry_eq]
  generalize (lg_sl ([.ref h0, .int z1, .int z2, .int z3]) ++ List.replicate (5 - (lg_sl ([.ref h0, .int z1, .int z2, .int z3])).length) Slot.unset).toArray = ls at hl ⊢
  have hl : lv_has ls 5 [(0, .ref h0), (1, .int z1), (2, .int z2), (3, .int z3)] := hl
  refine lv_aload_n hx hb dX11_bucket_0 rfl (lv_at hl 0 rfl) ?_
  refine lv_iconst (v := 0) hx hb dX11_bucket_1 (by decide) ?_
  refine va_put (D := D) (ci := 11) (v := .int 0) (ty := .int) (C := RX11) (T := TX11) (N := 47) hx hb hts (fun _ h => List.mem_cons_of_mem _ (List.mem_append_right _ h)) tyX11 tyX11_ok nmX11 hown hK hP hD hS 0 rfl rfl 0 (by decide) (hts (.fieldLink RX11 73 "ClashFreeModel" "thrown" "I") (List.mem_of_getElem? (i := 1) rfl)) (fun _ h9 => h9) rfl (by decide +kernel) rfl rfl (Nat.le_of_ble_eq_true rfl) dX11_bucket_2 (fun H locs hP hD hS => ?_)
  have hP : va_P D vwCl [(h0, .inr (11, fM a tp sd pa pb dr)), (a 3, .inl (cN, 85, .inr (.inl (fun _ => 0))))] H := hP
  have hD : va_D A [(h0, .inr (11, fM a tp sd pa pb dr)), (a 3, .inl (cN, 85, .inr (.inl (fun _ => 0))))] := hD
  refine lv_aload_n hx hb dX11_bucket_5 rfl (lv_at hl 0 rfl) ?_
  refine lv_iload_n hx hb dX11_bucket_6 rfl (lv_at hl 1 rfl) ?_
  refine lv_iload_n hx hb dX11_bucket_7 rfl (lv_at hl 2 rfl) ?_
  have hPc := hP.sub (ws' := [(h0, .inr (11, fM a tp sd pa pb dr)), (a 3, .inl (cN, 85, .inr (.inl (fun _ => 0))))]) [0, 1] rfl
  have hKc := hK.sub (tys' := [(cN, .long)]) [0] rfl
  have hFc := va_free0 hS hA
  refine va_calli (va_runV (As := [.int z1, .int z2]) (rest := []) ⟨hx, hb, hml, hown, hts⟩ (c_isBucket l D _ h0 a cN tp sd pa pb dr z1 z2) (cwV 2 hts gX11_bucket_X11_isBucket rfl rfl rfl (by decide +kernel) ⟨(Nat.le_of_ble_eq_true rfl), (Nat.le_of_ble_eq_true rfl)⟩) (PcR_V (q0 := 0) hPc hKc rfl rfl) rfl rfl hl.1 rfl (lv_room (Nat.le_of_ble_eq_true rfl)) dX11_bucket_8 ⟨(Nat.le_of_ble_eq_true rfl), (Nat.le_of_ble_eq_true rfl)⟩) hS (fun q _ h => hFc q h) hFc (fun r1 uu tt H locs htt hvm hw hB hz1 hk1 hS => ?_)
  have hP := va_keep hP hk1
  try dsimp only at hw
  clear hB hz1 hk1 hFc hPc hKc
  obtain rfl : r1 = 0 := hw
  refine lv_if_ne (tgt := 18) hx hb dX11_bucket_11 (by decide) (fun hc => absurd hc (by decide)) (fun hc => ?_)
  refine lv_ldc2 (v := (-1000000000000000)) hx hb hown (hts (.constantLong RX11 235 (-1000000000000000)) (List.mem_of_getElem? (i := 2) rfl)) dX11_bucket_14 ?_
  exact W.lret (v := (-1000000000000000)) hx hb hr (fun t ht hW => ⟨⟨(-1000000000000000), (), rfl, rfl, trivial⟩, hS.F ht⟩) hS.2.2 dX11_bucket_17

set_option maxHeartbeats 4000000 in
set_option maxRecDepth 100000 in
theorem c_X11_room (l : Launch) (D : va_G) (sz : Nat) (h0 : Nat) (a : Nat → Nat) (cN : ClassId) (tp : Int32) (sd : Int64) (pa : Int64) (pb : Int64) (dr : Int32) (z1 : Int32) (z2 : Int32) (z3 : Int32)  : Met l yX11_room wsX11_room ({ frames := 3, cells := 0, slots := 0, locals := 68 }) (PcW D [.ref h0, .int z1, .int z2, .int z3] sz [(h0, .inr (11, fM a tp sd pa pb dr)), (a 3, .inl (cN, 85, .inr (.inl (fun _ => 0))))] [(cN, .long)]) (va_Qi (fun (r : Int32) (_ : Unit) => r = (-2)) (fun (_ : Unit) _ => True) (va_A [(h0, .inr (11, fM a tp sd pa pb dr)), (a 3, .inl (cN, 85, .inr (.inl (fun _ => 0))))] sz)) 0 0 (va_A [(h0, .inr (11, fM a tp sd pa pb dr)), (a 3, .inl (cN, 85, .inr (.inl (fun _ => 0))))] sz) := by
  refine Met.ofW (cc := cX11_room) (maxL := 5) (ret := (some .int)) (by decide) rfl ?_
  intro p e s m args below meth c s₁ B hml hv
  obtain ⟨rfl, hsz, hP, hK, hD0⟩ := hv
  have hx := B.exec
  have hb := B.bytes
  have hr := B.returns
  have hts := atoms_spec (ws := wsX11_room) B.pre
  have hown : s.vm.findClass RX11 = some m.cls := findClass_of_methodNamed B.named
  have hlocks := B.notSynchronized
  subst hsz
  have hD := hD0.self (sz := s.heap.size)
  generalize hAe : va_A [(h0, .inr (11, fM a tp sd pa pb dr)), (a 3, .inl (cN, 85, .inr (.inl (fun _ => 0))))] s.heap.size = A at hD ⊢
  have hA : ∀ q : Nat, s.heap.size ≤ q → A q := fun q h => by rw [← hAe]; exact Or.inr h
  have hS : va_S A s.heap s.heap [] := va_S.rf
  have hP : va_P D vwCl [(h0, .inr (11, fM a tp sd pa pb dr)), (a 3, .inl (cN, 85, .inr (.inl (fun _ => 0))))] s.heap := hP
  have hl := lv_entry ([.ref h0, .int z1, .int z2, .int z3]) (n := 5) (Nat.le_of_ble_eq_true rfl)
  rw [lg_entry_eq]
  generalize (lg_sl ([.ref h0, .int z1, .int z2, .int z3]) ++ List.replicate (5 - (lg_sl ([.ref h0, .int z1, .int z2, .int z3])).length) Slot.unset).toArray = ls at hl ⊢
  have hl : lv_has ls 5 [(0, .ref h0), (1, .int z1), (2, .int z2), (3, .int z3)] := hl
  refine lv_aload_n hx hb dX11_room_0 rfl (lv_at hl 0 rfl) ?_
  refine lv_iconst (v := 0) hx hb dX11_room_1 (by decide) ?_
  refine va_put (D := D) (ci := 11) (v := .int 0) (ty := .int) (C := RX11) (T := TX11) (N := 47) hx hb hts (fun _ h => List.mem_cons_of_mem _ (List.mem_append_right _ h)) tyX11 tyX11_ok nmX11 hown hK hP hD hS 0 rfl rfl 0 (by decide) (hts (.fieldLink RX11 73 "ClashFreeModel" "thrown" "I") (List.mem_of_getElem? (i := 1) rfl)) (fun _ h9 => h9) rfl (by decide +kernel) rfl rfl (Nat.le_of_ble_eq_true rfl) dX11_room_2 (fun H locs hP hD hS => ?_)
  have hP : va_P D vwCl [(h0, .inr (11, fM a tp sd pa pb dr)), (a 3, .inl (cN, 85, .inr (.inl (fun _ => 0))))] H := hP
  have hD : va_D A [(h0, .inr (11, fM a tp sd pa pb dr)), (a 3, .inl (cN, 85, .inr (.inl (fun _ => 0))))] := hD
  refine lv_aload_n hx hb dX11_room_5 rfl (lv_at hl 0 rfl) ?_
  refine lv_iload_n hx hb dX11_room_6 rfl (lv_at hl 1 rfl) ?_
  refine lv_iload_n hx hb dX11_room_7 rfl (lv_at hl 2 rfl) ?_
  have hPc := hP.sub (ws' := [(h0, .inr (11, fM a tp sd pa pb dr)), (a 3, .inl (cN, 85, .inr (.inl (fun _ => 0))))]) [0, 1] rfl
  have hKc := hK.sub (tys' := [(cN, .long)]) [0] rfl
  have hFc := va_free0 hS hA
  refine va_calli (va_runV (As := [.int z1, .int z2]) (rest := []) ⟨hx, hb, hml, hown, hts⟩ (c_isBucket l D _ h0 a cN tp sd pa pb dr z1 z2) (cwV 2 hts gX11_room_X11_isBucket rfl rfl rfl (by decide +kernel) ⟨(Nat.le_of_ble_eq_true rfl), (Nat.le_of_ble_eq_true rfl)⟩) (PcR_V (q0 := 0) hPc hKc rfl rfl) rfl rfl hl.1 rfl (lv_room (Nat.le_of_ble_eq_true rfl)) dX11_room_8 ⟨(Nat.le_of_ble_eq_true rfl), (Nat.le_of_ble_eq_true rfl)⟩) hS (fun q _ h => hFc q h) hFc (fun r1 uu tt H locs htt hvm hw hB hz1 hk1 hS => ?_)
  have hP := va_keep hP hk1
  try dsimp only at hw
  clear hB hz1 hk1 hFc hPc hKc
  obtain rfl : r1 = 0 := hw
  refine lv_if_eq (tgt := 32) hx hb dX11_room_11 (by decide) (fun hc => ?_) (fun hc => absurd (by decide) hc)
  refine lv_bipush (v := (-2)) hx hb dX11_room_32 (by decide) ?_
  exact W.iret (v := (-2)) hx hb hr (fun t ht hW => ⟨⟨(-2), (), rfl, rfl, trivial⟩, hS.F ht⟩) hS.2.2 dX11_room_34

set_option maxHeartbeats 4000000 in
set_option maxRecDepth 100000 in
theorem c_X11_place (l : Launch) (D : va_G) (sz : Nat) (h0 : Nat) (a : Nat → Nat) (cN : ClassId) (tp : Int32) (sd : Int64) (pa : Int64) (pb : Int64) (dr : Int32) (z1 : Int32) (z2 : Int32) (z3 : Int32)  : Met l yX11_place wsX11_place ({ frames := 2, cells := 0, slots := 0, locals := 46 }) (PcW D [.ref h0, .int z1, .int z2, .int z3] sz [(h0, .inr (11, fM a tp sd pa pb dr)), (a 3, .inl (cN, 85, .inr (.inl (fun _ => 0))))] [(cN, .long)]) (va_Qi (fun (r : Int32) (_ : Unit) => r = (-2)) (fun (_ : Unit) _ => True) (va_A [(h0, .inr (11, fM a tp sd pa pb dr)), (a 3, .inl (cN, 85, .inr (.inl (fun _ => 0))))] sz)) 0 0 (va_A [(h0, .inr (11, fM a tp sd pa pb dr)), (a 3, .inl (cN, 85, .inr (.inl (fun _ => 0))))] sz) := by
  refine Met.ofW (cc := cX11_place) (maxL := 5) (ret := (some .int)) (by decide) rfl ?_
  intro p e s m args below meth c s₁ B hml hv
  obtain ⟨rfl, hsz, hP, hK, hD0⟩ := hv
  have hx := B.exec
  have hb := B.bytes
  have hr := B.returns
  have hts := atoms_spec (ws := wsX11_place) B.pre
  have hown : s.vm.findClass RX11 = some m.cls := findClass_of_methodNamed B.named
  have hlocks := B.notSynchronized
  subst hsz
  have hD := hD0.self (sz := s.heap.size)
  generalize hAe : va_A [(h0, .inr (11, fM a tp sd pa pb dr)), (a 3, .inl (cN, 85, .inr (.inl (fun _ => 0))))] s.heap.size = A at hD ⊢
  have hA : ∀ q : Nat, s.heap.size ≤ q → A q := fun q h => by rw [← hAe]; exact Or.inr h
  have hS : va_S A s.heap s.heap [] := va_S.rf
  have hP : va_P D vwCl [(h0, .inr (11, fM a tp sd pa pb dr)), (a 3, .inl (cN, 85, .inr (.inl (fun _ => 0))))] s.heap := hP
  have hl := lv_entry ([.ref h0, .int z1, .int z2, .int z3]) (n := 5) (Nat.le_of_ble_eq_true rfl)
  rw [lg_entry_eq]
  generalize (lg_sl ([.ref h0, .int z1, .int z2, .int z3]) ++ List.replicate (5 - (lg_sl ([.ref h0, .int z1, .int z2, .int z3])).length) Slot.unset).toArray = ls at hl ⊢
  have hl : lv_has ls 5 [(0, .ref h0), (1, .int z1), (2, .int z2), (3, .int z3)] := hl
  refine lv_aload_n hx hb dX11_place_0 rfl (lv_at hl 0 rfl) ?_
  refine lv_iconst (v := 0) hx hb dX11_place_1 (by decide) ?_
  refine va_put (D := D) (ci := 11) (v := .int 0) (ty := .int) (C := RX11) (T := TX11) (N := 47) hx hb hts (fun _ h => List.mem_cons_of_mem _ (List.mem_append_right _ h)) tyX11 tyX11_ok nmX11 hown hK hP hD hS 0 rfl rfl 0 (by decide) (hts (.fieldLink RX11 73 "ClashFreeModel" "thrown" "I") (List.mem_of_getElem? (i := 1) rfl)) (fun _ h9 => h9) rfl (by decide +kernel) rfl rfl (Nat.le_of_ble_eq_true rfl) dX11_place_2 (fun H locs hP hD hS => ?_)
  have hP : va_P D vwCl [(h0, .inr (11, fM a tp sd pa pb dr)), (a 3, .inl (cN, 85, .inr (.inl (fun _ => 0))))] H := hP
  have hD : va_D A [(h0, .inr (11, fM a tp sd pa pb dr)), (a 3, .inl (cN, 85, .inr (.inl (fun _ => 0))))] := hD
  refine lv_aload_n hx hb dX11_place_5 rfl (lv_at hl 0 rfl) ?_
  refine lv_iload_n hx hb dX11_place_6 rfl (lv_at hl 1 rfl) ?_
  have hPc := hP.sub (ws' := [(h0, .inr (11, fM a tp sd pa pb dr)), (a 3, .inl (cN, 85, .inr (.inl (fun _ => 0))))]) [0, 1] rfl
  have hKc := hK.sub (tys' := [(cN, .long)]) [0] rfl
  have hFc := va_free0 hS hA
  refine va_calli (va_runV (As := [.int z1]) (rest := []) ⟨hx, hb, hml, hown, hts⟩ (c_isThere l D _ h0 a cN tp sd pa pb dr z1) (cwV 1 hts gX11_place_X11_isThere rfl rfl rfl (by decide +kernel) ⟨(Nat.le_of_ble_eq_true rfl), (Nat.le_of_ble_eq_true rfl)⟩) (PcR_V (q0 := 0) hPc hKc rfl rfl) rfl rfl hl.1 rfl (lv_room (Nat.le_of_ble_eq_true rfl)) dX11_place_7 ⟨(Nat.le_of_ble_eq_true rfl), (Nat.le_of_ble_eq_true rfl)⟩) hS (fun q _ h => hFc q h) hFc (fun r1 uu tt H locs htt hvm hw hB hz1 hk1 hS => ?_)
  have hP := va_keep hP hk1
  try dsimp only at hw
  clear hB hz1 hk1 hFc hPc hKc
  obtain rfl : r1 = 0 := hw
  refine lv_if_eq (tgt := 30) hx hb dX11_place_10 (by decide) (fun hc => ?_) (fun hc => absurd (by decide) hc)
  refine lv_bipush (v := (-2)) hx hb dX11_place_30 (by decide) ?_
  exact W.iret (v := (-2)) hx hb hr (fun t ht hW => ⟨⟨(-2), (), rfl, rfl, trivial⟩, hS.F ht⟩) hS.2.2 dX11_place_32

set_option maxHeartbeats 4000000 in
set_option maxRecDepth 100000 in
theorem c_X11_key (l : Launch) (D : va_G) (sz : Nat) (h0 : Nat) (a : Nat → Nat) (cN : ClassId) (tp : Int32) (sd : Int64) (pa : Int64) (pb : Int64) (dr : Int32) (z1 : Int32) (z2 : Int32)  : Met l yX11_key wsX11_key ({ frames := 2, cells := 0, slots := 0, locals := 46 }) (PcW D [.ref h0, .int z1, .int z2] sz [(h0, .inr (11, fM a tp sd pa pb dr)), (a 3, .inl (cN, 85, .inr (.inl (fun _ => 0))))] [(cN, .long)]) (va_Qi (fun (r : Int32) (_ : Unit) => r = (-1)) (fun (_ : Unit) _ => True) (va_A [(h0, .inr (11, fM a tp sd pa pb dr)), (a 3, .inl (cN, 85, .inr (.inl (fun _ => 0))))] sz)) 0 0 (va_A [(h0, .inr (11, fM a tp sd pa pb dr)), (a 3, .inl (cN, 85, .inr (.inl (fun _ => 0))))] sz) := by
  refine Met.ofW (cc := cX11_key) (maxL := 3) (ret := (some .int)) (by decide) rfl ?_
  intro p e s m args below meth c s₁ B hml hv
  obtain ⟨rfl, hsz, hP, hK, hD0⟩ := hv
  have hx := B.exec
  have hb := B.bytes
  have hr := B.returns
  have hts := atoms_spec (ws := wsX11_key) B.pre
  have hown : s.vm.findClass RX11 = some m.cls := findClass_of_methodNamed B.named
  have hlocks := B.notSynchronized
  subst hsz
  have hD := hD0.self (sz := s.heap.size)
  generalize hAe : va_A [(h0, .inr (11, fM a tp sd pa pb dr)), (a 3, .inl (cN, 85, .inr (.inl (fun _ => 0))))] s.heap.size = A at hD ⊢
  have hA : ∀ q : Nat, s.heap.size ≤ q → A q := fun q h => by rw [← hAe]; exact Or.inr h
  have hS : va_S A s.heap s.heap [] := va_S.rf
  have hP : va_P D vwCl [(h0, .inr (11, fM a tp sd pa pb dr)), (a 3, .inl (cN, 85, .inr (.inl (fun _ => 0))))] s.heap := hP
  have hl := lv_entry ([.ref h0, .int z1, .int z2]) (n := 3) (Nat.le_of_ble_eq_true rfl)
  rw [lg_entry_eq]
  generalize (lg_sl ([.ref h0, .int z1, .int z2]) ++ List.replicate (3 - (lg_sl ([.ref h0, .int z1, .int z2])).length) Slot.unset).toArray = ls at hl ⊢
  have hl : lv_has ls 3 [(0, .ref h0), (1, .int z1), (2, .int z2)] := hl
  refine lv_aload_n hx hb dX11_key_0 rfl (lv_at hl 0 rfl) ?_
  refine lv_iconst (v := 0) hx hb dX11_key_1 (by decide) ?_
  refine va_put (D := D) (ci := 11) (v := .int 0) (ty := .int) (C := RX11) (T := TX11) (N := 47) hx hb hts (fun _ h => List.mem_cons_of_mem _ (List.mem_append_right _ h)) tyX11 tyX11_ok nmX11 hown hK hP hD hS 0 rfl rfl 0 (by decide) (hts (.fieldLink RX11 73 "ClashFreeModel" "thrown" "I") (List.mem_of_getElem? (i := 1) rfl)) (fun _ h9 => h9) rfl (by decide +kernel) rfl rfl (Nat.le_of_ble_eq_true rfl) dX11_key_2 (fun H locs hP hD hS => ?_)
  have hP : va_P D vwCl [(h0, .inr (11, fM a tp sd pa pb dr)), (a 3, .inl (cN, 85, .inr (.inl (fun _ => 0))))] H := hP
  have hD : va_D A [(h0, .inr (11, fM a tp sd pa pb dr)), (a 3, .inl (cN, 85, .inr (.inl (fun _ => 0))))] := hD
  refine lv_aload_n hx hb dX11_key_5 rfl (lv_at hl 0 rfl) ?_
  refine lv_iload_n hx hb dX11_key_6 rfl (lv_at hl 1 rfl) ?_
  have hPc := hP.sub (ws' := [(h0, .inr (11, fM a tp sd pa pb dr)), (a 3, .inl (cN, 85, .inr (.inl (fun _ => 0))))]) [0, 1] rfl
  have hKc := hK.sub (tys' := [(cN, .long)]) [0] rfl
  have hFc := va_free0 hS hA
  refine va_calli (va_runV (As := [.int z1]) (rest := []) ⟨hx, hb, hml, hown, hts⟩ (c_isThere l D _ h0 a cN tp sd pa pb dr z1) (cwV 1 hts gX11_key_X11_isThere rfl rfl rfl (by decide +kernel) ⟨(Nat.le_of_ble_eq_true rfl), (Nat.le_of_ble_eq_true rfl)⟩) (PcR_V (q0 := 0) hPc hKc rfl rfl) rfl rfl hl.1 rfl (lv_room (Nat.le_of_ble_eq_true rfl)) dX11_key_7 ⟨(Nat.le_of_ble_eq_true rfl), (Nat.le_of_ble_eq_true rfl)⟩) hS (fun q _ h => hFc q h) hFc (fun r1 uu tt H locs htt hvm hw hB hz1 hk1 hS => ?_)
  have hP := va_keep hP hk1
  try dsimp only at hw
  clear hB hz1 hk1 hFc hPc hKc
  obtain rfl : r1 = 0 := hw
  refine lv_if_eq (tgt := 45) hx hb dX11_key_10 (by decide) (fun hc => ?_) (fun hc => absurd (by decide) hc)
  refine lv_iconst (v := (-1)) hx hb dX11_key_45 (by decide) ?_
  exact W.iret (v := (-1)) hx hb hr (fun t ht hW => ⟨⟨(-1), (), rfl, rfl, trivial⟩, hS.F ht⟩) hS.2.2 dX11_key_46

set_option maxHeartbeats 4000000 in
set_option maxRecDepth 100000 in
theorem c_X11_walk (l : Launch) (D : va_G) (sz : Nat) (h0 : Nat) (a : Nat → Nat) (cN : ClassId) (tp : Int32) (sd : Int64) (pa : Int64) (pb : Int64) (dr : Int32) (z1 : Int32) (z2 : Int32)  : Met l yX11_walk wsX11_walk ({ frames := 2, cells := 0, slots := 0, locals := 46 }) (PcW D [.ref h0, .int z1, .int z2] sz [(h0, .inr (11, fM a tp sd pa pb dr)), (a 3, .inl (cN, 85, .inr (.inl (fun _ => 0))))] [(cN, .long)]) (va_Qi (fun (r : Int32) (_ : Unit) => r = (-1)) (fun (_ : Unit) _ => True) (va_A [(h0, .inr (11, fM a tp sd pa pb dr)), (a 3, .inl (cN, 85, .inr (.inl (fun _ => 0))))] sz)) 0 0 (va_A [(h0, .inr (11, fM a tp sd pa pb dr)), (a 3, .inl (cN, 85, .inr (.inl (fun _ => 0))))] sz) := by
  refine Met.ofW (cc := cX11_walk) (maxL := 4) (ret := (some .int)) (by decide) rfl ?_
  intro p e s m args below meth c s₁ B hml hv
  obtain ⟨rfl, hsz, hP, hK, hD0⟩ := hv
  have hx := B.exec
  have hb := B.bytes
  have hr := B.returns
  have hts := atoms_spec (ws := wsX11_walk) B.pre
  have hown : s.vm.findClass RX11 = some m.cls := findClass_of_methodNamed B.named
  have hlocks := B.notSynchronized
  subst hsz
  have hD := hD0.self (sz := s.heap.size)
  generalize hAe : va_A [(h0, .inr (11, fM a tp sd pa pb dr)), (a 3, .inl (cN, 85, .inr (.inl (fun _ => 0))))] s.heap.size = A at hD ⊢
  have hA : ∀ q : Nat, s.heap.size ≤ q → A q := fun q h => by rw [← hAe]; exact Or.inr h
  have hS : va_S A s.heap s.heap [] := va_S.rf
  have hP : va_P D vwCl [(h0, .inr (11, fM a tp sd pa pb dr)), (a 3, .inl (cN, 85, .inr (.inl (fun _ => 0))))] s.heap := hP
  have hl := lv_entry ([.ref h0, .int z1, .int z2]) (n := 4) (Nat.le_of_ble_eq_true rfl)
  rw [lg_entry_eq]
  generalize (lg_sl ([.ref h0, .int z1, .int z2]) ++ List.replicate (4 - (lg_sl ([.ref h0, .int z1, .int z2])).length) Slot.unset).toArray = ls at hl ⊢
  have hl : lv_has ls 4 [(0, .ref h0), (1, .int z1), (2, .int z2)] := hl
  refine lv_aload_n hx hb dX11_walk_0 rfl (lv_at hl 0 rfl) ?_
  refine lv_iconst (v := 0) hx hb dX11_walk_1 (by decide) ?_
  refine va_put (D := D) (ci := 11) (v := .int 0) (ty := .int) (C := RX11) (T := TX11) (N := 47) hx hb hts (fun _ h => List.mem_cons_of_mem _ (List.mem_append_right _ h)) tyX11 tyX11_ok nmX11 hown hK hP hD hS 0 rfl rfl 0 (by decide) (hts (.fieldLink RX11 73 "ClashFreeModel" "thrown" "I") (List.mem_of_getElem? (i := 1) rfl)) (fun _ h9 => h9) rfl (by decide +kernel) rfl rfl (Nat.le_of_ble_eq_true rfl) dX11_walk_2 (fun H locs hP hD hS => ?_)
  have hP : va_P D vwCl [(h0, .inr (11, fM a tp sd pa pb dr)), (a 3, .inl (cN, 85, .inr (.inl (fun _ => 0))))] H := hP
  have hD : va_D A [(h0, .inr (11, fM a tp sd pa pb dr)), (a 3, .inl (cN, 85, .inr (.inl (fun _ => 0))))] := hD
  refine lv_aload_n hx hb dX11_walk_5 rfl (lv_at hl 0 rfl) ?_
  refine lv_iload_n hx hb dX11_walk_6 rfl (lv_at hl 1 rfl) ?_
  have hPc := hP.sub (ws' := [(h0, .inr (11, fM a tp sd pa pb dr)), (a 3, .inl (cN, 85, .inr (.inl (fun _ => 0))))]) [0, 1] rfl
  have hKc := hK.sub (tys' := [(cN, .long)]) [0] rfl
  have hFc := va_free0 hS hA
  refine va_calli (va_runV (As := [.int z1]) (rest := []) ⟨hx, hb, hml, hown, hts⟩ (c_isThere l D _ h0 a cN tp sd pa pb dr z1) (cwV 1 hts gX11_walk_X11_isThere rfl rfl rfl (by decide +kernel) ⟨(Nat.le_of_ble_eq_true rfl), (Nat.le_of_ble_eq_true rfl)⟩) (PcR_V (q0 := 0) hPc hKc rfl rfl) rfl rfl hl.1 rfl (lv_room (Nat.le_of_ble_eq_true rfl)) dX11_walk_7 ⟨(Nat.le_of_ble_eq_true rfl), (Nat.le_of_ble_eq_true rfl)⟩) hS (fun q _ h => hFc q h) hFc (fun r1 uu tt H locs htt hvm hw hB hz1 hk1 hS => ?_)
  have hP := va_keep hP hk1
  try dsimp only at hw
  clear hB hz1 hk1 hFc hPc hKc
  obtain rfl : r1 = 0 := hw
  refine lv_if_ne (tgt := 15) hx hb dX11_walk_10 (by decide) (fun hc => absurd hc (by decide)) (fun hc => ?_)
  refine lv_iconst (v := (-1)) hx hb dX11_walk_13 (by decide) ?_
  exact W.iret (v := (-1)) hx hb hr (fun t ht hW => ⟨⟨(-1), (), rfl, rfl, trivial⟩, hS.F ht⟩) hS.2.2 dX11_walk_14

set_option maxHeartbeats 4000000 in
set_option maxRecDepth 100000 in
theorem c_X11_below (l : Launch) (D : va_G) (sz : Nat) (h0 : Nat) (a : Nat → Nat) (cN : ClassId) (tp : Int32) (sd : Int64) (pa : Int64) (pb : Int64) (dr : Int32) (z1 : Int32) (z2 : Int32)  : Met l yX11_below wsX11_below ({ frames := 2, cells := 0, slots := 0, locals := 46 }) (PcW D [.ref h0, .int z1, .int z2] sz [(h0, .inr (11, fM a tp sd pa pb dr)), (a 3, .inl (cN, 85, .inr (.inl (fun _ => 0))))] [(cN, .long)]) (va_Qi (fun (r : Int32) (_ : Unit) => r = (-1)) (fun (_ : Unit) _ => True) (va_A [(h0, .inr (11, fM a tp sd pa pb dr)), (a 3, .inl (cN, 85, .inr (.inl (fun _ => 0))))] sz)) 0 0 (va_A [(h0, .inr (11, fM a tp sd pa pb dr)), (a 3, .inl (cN, 85, .inr (.inl (fun _ => 0))))] sz) := by
  refine Met.ofW (cc := cX11_below) (maxL := 3) (ret := (some .int)) (by decide) rfl ?_
  intro p e s m args below meth c s₁ B hml hv
  obtain ⟨rfl, hsz, hP, hK, hD0⟩ := hv
  have hx := B.exec
  have hb := B.bytes
  have hr := B.returns
  have hts := atoms_spec (ws := wsX11_below) B.pre
  have hown : s.vm.findClass RX11 = some m.cls := findClass_of_methodNamed B.named
  have hlocks := B.notSynchronized
  subst hsz
  have hD := hD0.self (sz := s.heap.size)
  generalize hAe : va_A [(h0, .inr (11, fM a tp sd pa pb dr)), (a 3, .inl (cN, 85, .inr (.inl (fun _ => 0))))] s.heap.size = A at hD ⊢
  have hA : ∀ q : Nat, s.heap.size ≤ q → A q := fun q h => by rw [← hAe]; exact Or.inr h
  have hS : va_S A s.heap s.heap [] := va_S.rf
  have hP : va_P D vwCl [(h0, .inr (11, fM a tp sd pa pb dr)), (a 3, .inl (cN, 85, .inr (.inl (fun _ => 0))))] s.heap := hP
  have hl := lv_entry ([.ref h0, .int z1, .int z2]) (n := 3) (Nat.le_of_ble_eq_true rfl)
  rw [lg_entry_eq]
  generalize (lg_sl ([.ref h0, .int z1, .int z2]) ++ List.replicate (3 - (lg_sl ([.ref h0, .int z1, .int z2])).length) Slot.unset).toArray = ls at hl ⊢
  have hl : lv_has ls 3 [(0, .ref h0), (1, .int z1), (2, .int z2)] := hl
  refine lv_aload_n hx hb dX11_below_0 rfl (lv_at hl 0 rfl) ?_
  refine lv_iconst (v := 0) hx hb dX11_below_1 (by decide) ?_
  refine va_put (D := D) (ci := 11) (v := .int 0) (ty := .int) (C := RX11) (T := TX11) (N := 47) hx hb hts (fun _ h => List.mem_cons_of_mem _ (List.mem_append_right _ h)) tyX11 tyX11_ok nmX11 hown hK hP hD hS 0 rfl rfl 0 (by decide) (hts (.fieldLink RX11 73 "ClashFreeModel" "thrown" "I") (List.mem_of_getElem? (i := 1) rfl)) (fun _ h9 => h9) rfl (by decide +kernel) rfl rfl (Nat.le_of_ble_eq_true rfl) dX11_below_2 (fun H locs hP hD hS => ?_)
  have hP : va_P D vwCl [(h0, .inr (11, fM a tp sd pa pb dr)), (a 3, .inl (cN, 85, .inr (.inl (fun _ => 0))))] H := hP
  have hD : va_D A [(h0, .inr (11, fM a tp sd pa pb dr)), (a 3, .inl (cN, 85, .inr (.inl (fun _ => 0))))] := hD
  refine lv_aload_n hx hb dX11_below_5 rfl (lv_at hl 0 rfl) ?_
  refine lv_iload_n hx hb dX11_below_6 rfl (lv_at hl 1 rfl) ?_
  have hPc := hP.sub (ws' := [(h0, .inr (11, fM a tp sd pa pb dr)), (a 3, .inl (cN, 85, .inr (.inl (fun _ => 0))))]) [0, 1] rfl
  have hKc := hK.sub (tys' := [(cN, .long)]) [0] rfl
  have hFc := va_free0 hS hA
  refine va_calli (va_runV (As := [.int z1]) (rest := []) ⟨hx, hb, hml, hown, hts⟩ (c_isThere l D _ h0 a cN tp sd pa pb dr z1) (cwV 1 hts gX11_below_X11_isThere rfl rfl rfl (by decide +kernel) ⟨(Nat.le_of_ble_eq_true rfl), (Nat.le_of_ble_eq_true rfl)⟩) (PcR_V (q0 := 0) hPc hKc rfl rfl) rfl rfl hl.1 rfl (lv_room (Nat.le_of_ble_eq_true rfl)) dX11_below_7 ⟨(Nat.le_of_ble_eq_true rfl), (Nat.le_of_ble_eq_true rfl)⟩) hS (fun q _ h => hFc q h) hFc (fun r1 uu tt H locs htt hvm hw hB hz1 hk1 hS => ?_)
  have hP := va_keep hP hk1
  try dsimp only at hw
  clear hB hz1 hk1 hFc hPc hKc
  obtain rfl : r1 = 0 := hw
  refine lv_if_eq (tgt := 35) hx hb dX11_below_10 (by decide) (fun hc => ?_) (fun hc => absurd (by decide) hc)
  refine lv_iconst (v := (-1)) hx hb dX11_below_35 (by decide) ?_
  exact W.iret (v := (-1)) hx hb hr (fun t ht hW => ⟨⟨(-1), (), rfl, rfl, trivial⟩, hS.F ht⟩) hS.2.2 dX11_below_36

set_option maxHeartbeats 4000000 in
set_option maxRecDepth 100000 in
theorem c_X11_nearest (l : Launch) (D : va_G) (sz : Nat) (h0 : Nat) (a : Nat → Nat) (cN : ClassId) (tp : Int32) (sd : Int64) (pa : Int64) (pb : Int64) (dr : Int32) (z1 : Int32) (z2 : Int32)  : Met l yX11_nearest wsX11_nearest ({ frames := 2, cells := 0, slots := 0, locals := 46 }) (PcW D [.ref h0, .int z1, .int z2] sz [(h0, .inr (11, fM a tp sd pa pb dr)), (a 3, .inl (cN, 85, .inr (.inl (fun _ => 0))))] [(cN, .long)]) (va_Qi (fun (r : Int32) (_ : Unit) => r = (-1)) (fun (_ : Unit) _ => True) (va_A [(h0, .inr (11, fM a tp sd pa pb dr)), (a 3, .inl (cN, 85, .inr (.inl (fun _ => 0))))] sz)) 0 0 (va_A [(h0, .inr (11, fM a tp sd pa pb dr)), (a 3, .inl (cN, 85, .inr (.inl (fun _ => 0))))] sz) := by
  refine Met.ofW (cc := cX11_nearest) (maxL := 6) (ret := (some .int)) (by decide) rfl ?_
  intro p e s m args below meth c s₁ B hml hv
  obtain ⟨rfl, hsz, hP, hK, hD0⟩ := hv
  have hx := B.exec
  have hb := B.bytes
  have hr := B.returns
  have hts := atoms_spec (ws := wsX11_nearest) B.pre
  have hown : s.vm.findClass RX11 = some m.cls := findClass_of_methodNamed B.named
  have hlocks := B.notSynchronized
  subst hsz
  have hD := hD0.self (sz := s.heap.size)
  generalize hAe : va_A [(h0, .inr (11, fM a tp sd pa pb dr)), (a 3, .inl (cN, 85, .inr (.inl (fun _ => 0))))] s.heap.size = A at hD ⊢
  have hA : ∀ q : Nat, s.heap.size ≤ q → A q := fun q h => by rw [← hAe]; exact Or.inr h
  have hS : va_S A s.heap s.heap [] := va_S.rf
  have hP : va_P D vwCl [(h0, .inr (11, fM a tp sd pa pb dr)), (a 3, .inl (cN, 85, .inr (.inl (fun _ => 0))))] s.heap := hP
  have hl := lv_entry ([.ref h0, .int z1, .int z2]) (n := 6) (Nat.le_of_ble_eq_true rfl)
  rw [lg_entry_eq]
  generalize (lg_sl ([.ref h0, .int z1, .int z2]) ++ List.replicate (6 - (lg_sl ([.ref h0, .int z1, .int z2])).length) Slot.unset).toArray = ls at hl ⊢
  have hl : lv_has ls 6 [(0, .ref h0), (1, .int z1), (2, .int z2)] := hl
  refine lv_aload_n hx hb dX11_nearest_0 rfl (lv_at hl 0 rfl) ?_
  refine lv_iconst (v := 0) hx hb dX11_nearest_1 (by decide) ?_
  refine va_put (D := D) (ci := 11) (v := .int 0) (ty := .int) (C := RX11) (T := TX11) (N := 47) hx hb hts (fun _ h => List.mem_cons_of_mem _ (List.mem_append_right _ h)) tyX11 tyX11_ok nmX11 hown hK hP hD hS 0 rfl rfl 0 (by decide) (hts (.fieldLink RX11 73 "ClashFreeModel" "thrown" "I") (List.mem_of_getElem? (i := 1) rfl)) (fun _ h9 => h9) rfl (by decide +kernel) rfl rfl (Nat.le_of_ble_eq_true rfl) dX11_nearest_2 (fun H locs hP hD hS => ?_)
  have hP : va_P D vwCl [(h0, .inr (11, fM a tp sd pa pb dr)), (a 3, .inl (cN, 85, .inr (.inl (fun _ => 0))))] H := hP
  have hD : va_D A [(h0, .inr (11, fM a tp sd pa pb dr)), (a 3, .inl (cN, 85, .inr (.inl (fun _ => 0))))] := hD
  refine lv_aload_n hx hb dX11_nearest_5 rfl (lv_at hl 0 rfl) ?_
  refine lv_iload_n hx hb dX11_nearest_6 rfl (lv_at hl 1 rfl) ?_
  have hPc := hP.sub (ws' := [(h0, .inr (11, fM a tp sd pa pb dr)), (a 3, .inl (cN, 85, .inr (.inl (fun _ => 0))))]) [0, 1] rfl
  have hKc := hK.sub (tys' := [(cN, .long)]) [0] rfl
  have hFc := va_free0 hS hA
  refine va_calli (va_runV (As := [.int z1]) (rest := []) ⟨hx, hb, hml, hown, hts⟩ (c_isThere l D _ h0 a cN tp sd pa pb dr z1) (cwV 1 hts gX11_nearest_X11_isThere rfl rfl rfl (by decide +kernel) ⟨(Nat.le_of_ble_eq_true rfl), (Nat.le_of_ble_eq_true rfl)⟩) (PcR_V (q0 := 0) hPc hKc rfl rfl) rfl rfl hl.1 rfl (lv_room (Nat.le_of_ble_eq_true rfl)) dX11_nearest_7 ⟨(Nat.le_of_ble_eq_true rfl), (Nat.le_of_ble_eq_true rfl)⟩) hS (fun q _ h => hFc q h) hFc (fun r1 uu tt H locs htt hvm hw hB hz1 hk1 hS => ?_)
  have hP := va_keep hP hk1
  try dsimp only at hw
  clear hB hz1 hk1 hFc hPc hKc
  obtain rfl : r1 = 0 := hw
  refine lv_if_eq (tgt := 28) hx hb dX11_nearest_10 (by decide) (fun hc => ?_) (fun hc => absurd (by decide) hc)
  refine lv_iconst (v := (-1)) hx hb dX11_nearest_28 (by decide) ?_
  exact W.iret (v := (-1)) hx hb hr (fun t ht hW => ⟨⟨(-1), (), rfl, rfl, trivial⟩, hS.F ht⟩) hS.2.2 dX11_nearest_29

set_option maxHeartbeats 4000000 in
set_option maxRecDepth 100000 in
theorem c_X11_many (l : Launch) (D : va_G) (sz : Nat) (h0 : Nat) (a : Nat → Nat) (cN : ClassId) (tp : Int32) (sd : Int64) (pa : Int64) (pb : Int64) (dr : Int32) (z1 : Int32) (z2 : Int32)  : Met l yX11_many wsX11_many ({ frames := 2, cells := 0, slots := 0, locals := 46 }) (PcW D [.ref h0, .int z1, .int z2] sz [(h0, .inr (11, fM a tp sd pa pb dr)), (a 3, .inl (cN, 85, .inr (.inl (fun _ => 0))))] [(cN, .long)]) (va_Qi (fun (r : Int32) (_ : Unit) => r = (-1)) (fun (_ : Unit) _ => True) (va_A [(h0, .inr (11, fM a tp sd pa pb dr)), (a 3, .inl (cN, 85, .inr (.inl (fun _ => 0))))] sz)) 0 0 (va_A [(h0, .inr (11, fM a tp sd pa pb dr)), (a 3, .inl (cN, 85, .inr (.inl (fun _ => 0))))] sz) := by
  refine Met.ofW (cc := cX11_many) (maxL := 5) (ret := (some .int)) (by decide) rfl ?_
  intro p e s m args below meth c s₁ B hml hv
  obtain ⟨rfl, hsz, hP, hK, hD0⟩ := hv
  have hx := B.exec
  have hb := B.bytes
  have hr := B.returns
  have hts := atoms_spec (ws := wsX11_many) B.pre
  have hown : s.vm.findClass RX11 = some m.cls := findClass_of_methodNamed B.named
  have hlocks := B.notSynchronized
  subst hsz
  have hD := hD0.self (sz := s.heap.size)
  generalize hAe : va_A [(h0, .inr (11, fM a tp sd pa pb dr)), (a 3, .inl (cN, 85, .inr (.inl (fun _ => 0))))] s.heap.size = A at hD ⊢
  have hA : ∀ q : Nat, s.heap.size ≤ q → A q := fun q h => by rw [← hAe]; exact Or.inr h
  have hS : va_S A s.heap s.heap [] := va_S.rf
  have hP : va_P D vwCl [(h0, .inr (11, fM a tp sd pa pb dr)), (a 3, .inl (cN, 85, .inr (.inl (fun _ => 0))))] s.heap := hP
  have hl := lv_entry ([.ref h0, .int z1, .int z2]) (n := 5) (Nat.le_of_ble_eq_true rfl)
  rw [lg_entry_eq]
  generalize (lg_sl ([.ref h0, .int z1, .int z2]) ++ List.replicate (5 - (lg_sl ([.ref h0, .int z1, .int z2])).length) Slot.unset).toArray = ls at hl ⊢
  have hl : lv_has ls 5 [(0, .ref h0), (1, .int z1), (2, .int z2)] := hl
  refine lv_aload_n hx hb dX11_many_0 rfl (lv_at hl 0 rfl) ?_
  refine lv_iconst (v := 0) hx hb dX11_many_1 (by decide) ?_
  refine va_put (D := D) (ci := 11) (v := .int 0) (ty := .int) (C := RX11) (T := TX11) (N := 47) hx hb hts (fun _ h => List.mem_cons_of_mem _ (List.mem_append_right _ h)) tyX11 tyX11_ok nmX11 hown hK hP hD hS 0 rfl rfl 0 (by decide) (hts (.fieldLink RX11 73 "ClashFreeModel" "thrown" "I") (List.mem_of_getElem? (i := 1) rfl)) (fun _ h9 => h9) rfl (by decide +kernel) rfl rfl (Nat.le_of_ble_eq_true rfl) dX11_many_2 (fun H locs hP hD hS => ?_)
  have hP : va_P D vwCl [(h0, .inr (11, fM a tp sd pa pb dr)), (a 3, .inl (cN, 85, .inr (.inl (fun _ => 0))))] H := hP
  have hD : va_D A [(h0, .inr (11, fM a tp sd pa pb dr)), (a 3, .inl (cN, 85, .inr (.inl (fun _ => 0))))] := hD
  refine lv_aload_n hx hb dX11_many_5 rfl (lv_at hl 0 rfl) ?_
  refine lv_iload_n hx hb dX11_many_6 rfl (lv_at hl 1 rfl) ?_
  have hPc := hP.sub (ws' := [(h0, .inr (11, fM a tp sd pa pb dr)), (a 3, .inl (cN, 85, .inr (.inl (fun _ => 0))))]) [0, 1] rfl
  have hKc := hK.sub (tys' := [(cN, .long)]) [0] rfl
  have hFc := va_free0 hS hA
  refine va_calli (va_runV (As := [.int z1]) (rest := []) ⟨hx, hb, hml, hown, hts⟩ (c_isThere l D _ h0 a cN tp sd pa pb dr z1) (cwV 1 hts gX11_many_X11_isThere rfl rfl rfl (by decide +kernel) ⟨(Nat.le_of_ble_eq_true rfl), (Nat.le_of_ble_eq_true rfl)⟩) (PcR_V (q0 := 0) hPc hKc rfl rfl) rfl rfl hl.1 rfl (lv_room (Nat.le_of_ble_eq_true rfl)) dX11_many_7 ⟨(Nat.le_of_ble_eq_true rfl), (Nat.le_of_ble_eq_true rfl)⟩) hS (fun q _ h => hFc q h) hFc (fun r1 uu tt H locs htt hvm hw hB hz1 hk1 hS => ?_)
  have hP := va_keep hP hk1
  try dsimp only at hw
  clear hB hz1 hk1 hFc hPc hKc
  obtain rfl : r1 = 0 := hw
  refine lv_if_eq (tgt := 17) hx hb dX11_many_10 (by decide) (fun hc => ?_) (fun hc => absurd (by decide) hc)
  refine lv_iconst (v := (-1)) hx hb dX11_many_17 (by decide) ?_
  exact W.iret (v := (-1)) hx hb hr (fun t ht hW => ⟨⟨(-1), (), rfl, rfl, trivial⟩, hS.F ht⟩) hS.2.2 dX11_many_18

set_option maxHeartbeats 4000000 in
set_option maxRecDepth 100000 in
theorem c_X11_crowd (l : Launch) (D : va_G) (sz : Nat) (h0 : Nat) (a : Nat → Nat) (cN : ClassId) (tp : Int32) (sd : Int64) (pa : Int64) (pb : Int64) (dr : Int32) (z1 : Int32) (z2 : Int32)  : Met l yX11_crowd wsX11_crowd ({ frames := 2, cells := 0, slots := 0, locals := 46 }) (PcW D [.ref h0, .int z1, .int z2] sz [(h0, .inr (11, fM a tp sd pa pb dr)), (a 3, .inl (cN, 85, .inr (.inl (fun _ => 0))))] [(cN, .long)]) (va_Qi (fun (r : Int32) (_ : Unit) => r = (-1)) (fun (_ : Unit) _ => True) (va_A [(h0, .inr (11, fM a tp sd pa pb dr)), (a 3, .inl (cN, 85, .inr (.inl (fun _ => 0))))] sz)) 0 0 (va_A [(h0, .inr (11, fM a tp sd pa pb dr)), (a 3, .inl (cN, 85, .inr (.inl (fun _ => 0))))] sz) := by
  refine Met.ofW (cc := cX11_crowd) (maxL := 8) (ret := (some .int)) (by decide) rfl ?_
  intro p e s m args below meth c s₁ B hml hv
  obtain ⟨rfl, hsz, hP, hK, hD0⟩ := hv
  have hx := B.exec
  have hb := B.bytes
  have hr := B.returns
  have hts := atoms_spec (ws := wsX11_crowd) B.pre
  have hown : s.vm.findClass RX11 = some m.cls := findClass_of_methodNamed B.named
  have hlocks := B.notSynchronized
  subst hsz
  have hD := hD0.self (sz := s.heap.size)
  generalize hAe : va_A [(h0, .inr (11, fM a tp sd pa pb dr)), (a 3, .inl (cN, 85, .inr (.inl (fun _ => 0))))] s.heap.size = A at hD ⊢
  have hA : ∀ q : Nat, s.heap.size ≤ q → A q := fun q h => by rw [← hAe]; exact Or.inr h
  have hS : va_S A s.heap s.heap [] := va_S.rf
  have hP : va_P D vwCl [(h0, .inr (11, fM a tp sd pa pb dr)), (a 3, .inl (cN, 85, .inr (.inl (fun _ => 0))))] s.heap := hP
  have hl := lv_entry ([.ref h0, .int z1, .int z2]) (n := 8) (Nat.le_of_ble_eq_true rfl)
  rw [lg_entry_eq]
  generalize (lg_sl ([.ref h0, .int z1, .int z2]) ++ List.replicate (8 - (lg_sl ([.ref h0, .int z1, .int z2])).length) Slot.unset).toArray = ls at hl ⊢
  have hl : lv_has ls 8 [(0, .ref h0), (1, .int z1), (2, .int z2)] := hl
  refine lv_aload_n hx hb dX11_crowd_0 rfl (lv_at hl 0 rfl) ?_
  refine lv_iconst (v := 0) hx hb dX11_crowd_1 (by decide) ?_
  refine va_put (D := D) (ci := 11) (v := .int 0) (ty := .int) (C := RX11) (T := TX11) (N := 47) hx hb hts (fun _ h => List.mem_cons_of_mem _ (List.mem_append_right _ h)) tyX11 tyX11_ok nmX11 hown hK hP hD hS 0 rfl rfl 0 (by decide) (hts (.fieldLink RX11 73 "ClashFreeModel" "thrown" "I") (List.mem_of_getElem? (i := 1) rfl)) (fun _ h9 => h9) rfl (by decide +kernel) rfl rfl (Nat.le_of_ble_eq_true rfl) dX11_crowd_2 (fun H locs hP hD hS => ?_)
  have hP : va_P D vwCl [(h0, .inr (11, fM a tp sd pa pb dr)), (a 3, .inl (cN, 85, .inr (.inl (fun _ => 0))))] H := hP
  have hD : va_D A [(h0, .inr (11, fM a tp sd pa pb dr)), (a 3, .inl (cN, 85, .inr (.inl (fun _ => 0))))] := hD
  refine lv_aload_n hx hb dX11_crowd_5 rfl (lv_at hl 0 rfl) ?_
  refine lv_iload_n hx hb dX11_crowd_6 rfl (lv_at hl 1 rfl) ?_
  have hPc := hP.sub (ws' := [(h0, .inr (11, fM a tp sd pa pb dr)), (a 3, .inl (cN, 85, .inr (.inl (fun _ => 0))))]) [0, 1] rfl
  have hKc := hK.sub (tys' := [(cN, .long)]) [0] rfl
  have hFc := va_free0 hS hA
  refine va_calli (va_runV (As := [.int z1]) (rest := []) ⟨hx, hb, hml, hown, hts⟩ (c_isThere l D _ h0 a cN tp sd pa pb dr z1) (cwV 1 hts gX11_crowd_X11_isThere rfl rfl rfl (by decide +kernel) ⟨(Nat.le_of_ble_eq_true rfl), (Nat.le_of_ble_eq_true rfl)⟩) (PcR_V (q0 := 0) hPc hKc rfl rfl) rfl rfl hl.1 rfl (lv_room (Nat.le_of_ble_eq_true rfl)) dX11_crowd_7 ⟨(Nat.le_of_ble_eq_true rfl), (Nat.le_of_ble_eq_true rfl)⟩) hS (fun q _ h => hFc q h) hFc (fun r1 uu tt H locs htt hvm hw hB hz1 hk1 hS => ?_)
  have hP := va_keep hP hk1
  try dsimp only at hw
  clear hB hz1 hk1 hFc hPc hKc
  obtain rfl : r1 = 0 := hw
  refine lv_if_eq (tgt := 25) hx hb dX11_crowd_10 (by decide) (fun hc => ?_) (fun hc => absurd (by decide) hc)
  refine lv_iconst (v := (-1)) hx hb dX11_crowd_25 (by decide) ?_
  exact W.iret (v := (-1)) hx hb hr (fun t ht hW => ⟨⟨(-1), (), rfl, rfl, trivial⟩, hS.F ht⟩) hS.2.2 dX11_crowd_26

set_option maxHeartbeats 4000000 in
set_option maxRecDepth 100000 in
theorem c_X11_empty (l : Launch) (D : va_G) (sz : Nat) (h0 : Nat) (a : Nat → Nat) (cN : ClassId) (tp : Int32) (sd : Int64) (pa : Int64) (pb : Int64) (dr : Int32) (z1 : Int32)  : Met l yX11_empty wsX11_empty ({ frames := 2, cells := 0, slots := 0, locals := 46 }) (PcW D [.ref h0, .int z1] sz [(h0, .inr (11, fM a tp sd pa pb dr)), (a 3, .inl (cN, 85, .inr (.inl (fun _ => 0))))] [(cN, .long)]) (va_Qi (fun (r : Int32) (_ : Unit) => r = (-1)) (fun (_ : Unit) _ => True) (va_A [(h0, .inr (11, fM a tp sd pa pb dr)), (a 3, .inl (cN, 85, .inr (.inl (fun _ => 0))))] sz)) 0 0 (va_A [(h0, .inr (11, fM a tp sd pa pb dr)), (a 3, .inl (cN, 85, .inr (.inl (fun _ => 0))))] sz) := by
  refine Met.ofW (cc := cX11_empty) (maxL := 2) (ret := (some .int)) (by decide) rfl ?_
  intro p e s m args below meth c s₁ B hml hv
  obtain ⟨rfl, hsz, hP, hK, hD0⟩ := hv
  have hx := B.exec
  have hb := B.bytes
  have hr := B.returns
  have hts := atoms_spec (ws := wsX11_empty) B.pre
  have hown : s.vm.findClass RX11 = some m.cls := findClass_of_methodNamed B.named
  have hlocks := B.notSynchronized
  subst hsz
  have hD := hD0.self (sz := s.heap.size)
  generalize hAe : va_A [(h0, .inr (11, fM a tp sd pa pb dr)), (a 3, .inl (cN, 85, .inr (.inl (fun _ => 0))))] s.heap.size = A at hD ⊢
  have hA : ∀ q : Nat, s.heap.size ≤ q → A q := fun q h => by rw [← hAe]; exact Or.inr h
  have hS : va_S A s.heap s.heap [] := va_S.rf
  have hP : va_P D vwCl [(h0, .inr (11, fM a tp sd pa pb dr)), (a 3, .inl (cN, 85, .inr (.inl (fun _ => 0))))] s.heap := hP
  have hl := lv_entry ([.ref h0, .int z1]) (n := 2) (Nat.le_of_ble_eq_true rfl)
  rw [lg_entry_eq]
  generalize (lg_sl ([.ref h0, .int z1]) ++ List.replicate (2 - (lg_sl ([.ref h0, .int z1])).length) Slot.unset).toArray = ls at hl ⊢
  have hl : lv_has ls 2 [(0, .ref h0), (1, .int z1)] := hl
  refine lv_aload_n hx hb dX11_empty_0 rfl (lv_at hl 0 rfl) ?_
  refine lv_iconst (v := 0) hx hb dX11_empty_1 (by decide) ?_
  refine va_put (D := D) (ci := 11) (v := .int 0) (ty := .int) (C := RX11) (T := TX11) (N := 47) hx hb hts (fun _ h => List.mem_cons_of_mem _ (List.mem_append_right _ h)) tyX11 tyX11_ok nmX11 hown hK hP hD hS 0 rfl rfl 0 (by decide) (hts (.fieldLink RX11 73 "ClashFreeModel" "thrown" "I") (List.mem_of_getElem? (i := 1) rfl)) (fun _ h9 => h9) rfl (by decide +kernel) rfl rfl (Nat.le_of_ble_eq_true rfl) dX11_empty_2 (fun H locs hP hD hS => ?_)
  have hP : va_P D vwCl [(h0, .inr (11, fM a tp sd pa pb dr)), (a 3, .inl (cN, 85, .inr (.inl (fun _ => 0))))] H := hP
  have hD : va_D A [(h0, .inr (11, fM a tp sd pa pb dr)), (a 3, .inl (cN, 85, .inr (.inl (fun _ => 0))))] := hD
  refine lv_aload_n hx hb dX11_empty_5 rfl (lv_at hl 0 rfl) ?_
  refine lv_iload_n hx hb dX11_empty_6 rfl (lv_at hl 1 rfl) ?_
  have hPc := hP.sub (ws' := [(h0, .inr (11, fM a tp sd pa pb dr)), (a 3, .inl (cN, 85, .inr (.inl (fun _ => 0))))]) [0, 1] rfl
  have hKc := hK.sub (tys' := [(cN, .long)]) [0] rfl
  have hFc := va_free0 hS hA
  refine va_calli (va_runV (As := [.int z1]) (rest := []) ⟨hx, hb, hml, hown, hts⟩ (c_isThere l D _ h0 a cN tp sd pa pb dr z1) (cwV 1 hts gX11_empty_X11_isThere rfl rfl rfl (by decide +kernel) ⟨(Nat.le_of_ble_eq_true rfl), (Nat.le_of_ble_eq_true rfl)⟩) (PcR_V (q0 := 0) hPc hKc rfl rfl) rfl rfl hl.1 rfl (lv_room (Nat.le_of_ble_eq_true rfl)) dX11_empty_7 ⟨(Nat.le_of_ble_eq_true rfl), (Nat.le_of_ble_eq_true rfl)⟩) hS (fun q _ h => hFc q h) hFc (fun r1 uu tt H locs htt hvm hw hB hz1 hk1 hS => ?_)
  have hP := va_keep hP hk1
  try dsimp only at hw
  clear hB hz1 hk1 hFc hPc hKc
  obtain rfl : r1 = 0 := hw
  refine lv_if_eq (tgt := 29) hx hb dX11_empty_10 (by decide) (fun hc => ?_) (fun hc => absurd (by decide) hc)
  refine lv_iconst (v := (-1)) hx hb dX11_empty_29 (by decide) ?_
  exact W.iret (v := (-1)) hx hb hr (fun t ht hW => ⟨⟨(-1), (), rfl, rfl, trivial⟩, hS.F ht⟩) hS.2.2 dX11_empty_30

set_option maxHeartbeats 4000000 in
set_option maxRecDepth 100000 in
theorem c_X11_left (l : Launch) (D : va_G) (sz : Nat) (h0 : Nat) (a : Nat → Nat) (cN : ClassId) (tp : Int32) (sd : Int64) (pa : Int64) (pb : Int64) (dr : Int32) (z1 : Int32)  : Met l yX11_left wsX11_left ({ frames := 2, cells := 0, slots := 0, locals := 46 }) (PcW D [.ref h0, .int z1] sz [(h0, .inr (11, fM a tp sd pa pb dr)), (a 3, .inl (cN, 85, .inr (.inl (fun _ => 0))))] [(cN, .long)]) (va_Qi (fun (r : Int32) (_ : Unit) => r = (-1)) (fun (_ : Unit) _ => True) (va_A [(h0, .inr (11, fM a tp sd pa pb dr)), (a 3, .inl (cN, 85, .inr (.inl (fun _ => 0))))] sz)) 0 0 (va_A [(h0, .inr (11, fM a tp sd pa pb dr)), (a 3, .inl (cN, 85, .inr (.inl (fun _ => 0))))] sz) := by
  refine Met.ofW (cc := cX11_left) (maxL := 2) (ret := (some .int)) (by decide) rfl ?_
  intro p e s m args below meth c s₁ B hml hv
  obtain ⟨rfl, hsz, hP, hK, hD0⟩ := hv
  have hx := B.exec
  have hb := B.bytes
  have hr := B.returns
  have hts := atoms_spec (ws := wsX11_left) B.pre
  have hown : s.vm.findClass RX11 = some m.cls := findClass_of_methodNamed B.named
  have hlocks := B.notSynchronized
  subst hsz
  have hD := hD0.self (sz := s.heap.size)
  generalize hAe : va_A [(h0, .inr (11, fM a tp sd pa pb dr)), (a 3, .inl (cN, 85, .inr (.inl (fun _ => 0))))] s.heap.size = A at hD ⊢
  have hA : ∀ q : Nat, s.heap.size ≤ q → A q := fun q h => by rw [← hAe]; exact Or.inr h
  have hS : va_S A s.heap s.heap [] := va_S.rf
  have hP : va_P D vwCl [(h0, .inr (11, fM a tp sd pa pb dr)), (a 3, .inl (cN, 85, .inr (.inl (fun _ => 0))))] s.heap := hP
  have hl := lv_entry ([.ref h0, .int z1]) (n := 2) (Nat.le_of_ble_eq_true rfl)
  rw [lg_entry_eq]
  generalize (lg_sl ([.ref h0, .int z1]) ++ List.replicate (2 - (lg_sl ([.ref h0, .int z1])).length) Slot.unset).toArray = ls at hl ⊢
  have hl : lv_has ls 2 [(0, .ref h0), (1, .int z1)] := hl
  refine lv_aload_n hx hb dX11_left_0 rfl (lv_at hl 0 rfl) ?_
  refine lv_iconst (v := 0) hx hb dX11_left_1 (by decide) ?_
  refine va_put (D := D) (ci := 11) (v := .int 0) (ty := .int) (C := RX11) (T := TX11) (N := 47) hx hb hts (fun _ h => List.mem_cons_of_mem _ (List.mem_append_right _ h)) tyX11 tyX11_ok nmX11 hown hK hP hD hS 0 rfl rfl 0 (by decide) (hts (.fieldLink RX11 73 "ClashFreeModel" "thrown" "I") (List.mem_of_getElem? (i := 1) rfl)) (fun _ h9 => h9) rfl (by decide +kernel) rfl rfl (Nat.le_of_ble_eq_true rfl) dX11_left_2 (fun H locs hP hD hS => ?_)
  have hP : va_P D vwCl [(h0, .inr (11, fM a tp sd pa pb dr)), (a 3, .inl (cN, 85, .inr (.inl (fun _ => 0))))] H := hP
  have hD : va_D A [(h0, .inr (11, fM a tp sd pa pb dr)), (a 3, .inl (cN, 85, .inr (.inl (fun _ => 0))))] := hD
  refine lv_aload_n hx hb dX11_left_5 rfl (lv_at hl 0 rfl) ?_
  refine lv_iload_n hx hb dX11_left_6 rfl (lv_at hl 1 rfl) ?_
  have hPc := hP.sub (ws' := [(h0, .inr (11, fM a tp sd pa pb dr)), (a 3, .inl (cN, 85, .inr (.inl (fun _ => 0))))]) [0, 1] rfl
  have hKc := hK.sub (tys' := [(cN, .long)]) [0] rfl
  have hFc := va_free0 hS hA
  refine va_calli (va_runV (As := [.int z1]) (rest := []) ⟨hx, hb, hml, hown, hts⟩ (c_isThere l D _ h0 a cN tp sd pa pb dr z1) (cwV 1 hts gX11_left_X11_isThere rfl rfl rfl (by decide +kernel) ⟨(Nat.le_of_ble_eq_true rfl), (Nat.le_of_ble_eq_true rfl)⟩) (PcR_V (q0 := 0) hPc hKc rfl rfl) rfl rfl hl.1 rfl (lv_room (Nat.le_of_ble_eq_true rfl)) dX11_left_7 ⟨(Nat.le_of_ble_eq_true rfl), (Nat.le_of_ble_eq_true rfl)⟩) hS (fun q _ h => hFc q h) hFc (fun r1 uu tt H locs htt hvm hw hB hz1 hk1 hS => ?_)
  have hP := va_keep hP hk1
  try dsimp only at hw
  clear hB hz1 hk1 hFc hPc hKc
  obtain rfl : r1 = 0 := hw
  refine lv_if_eq (tgt := 32) hx hb dX11_left_10 (by decide) (fun hc => ?_) (fun hc => absurd (by decide) hc)
  refine lv_iconst (v := (-1)) hx hb dX11_left_32 (by decide) ?_
  exact W.iret (v := (-1)) hx hb hr (fun t ht hW => ⟨⟨(-1), (), rfl, rfl, trivial⟩, hS.F ht⟩) hS.2.2 dX11_left_33

set_option maxHeartbeats 4000000 in
set_option maxRecDepth 100000 in
theorem c_X11_outer (l : Launch) (D : va_G) (sz : Nat) (h0 : Nat) (a : Nat → Nat) (cN : ClassId) (tp : Int32) (sd : Int64) (pa : Int64) (pb : Int64) (dr : Int32) (z1 : Int32) (z2 : Int32) (z3 : Int32) (z4 : Int32) (z5 : Int32)  : Met l yX11_outer wsX11_outer ({ frames := 2, cells := 0, slots := 0, locals := 46 }) (PcW D [.ref h0, .int z1, .int z2, .int z3, .int z4, .int z5] sz [(h0, .inr (11, fM a tp sd pa pb dr)), (a 3, .inl (cN, 85, .inr (.inl (fun _ => 0))))] [(cN, .long)]) (va_Ql (fun (r : Int64) (_ : Unit) => r = (-1000000000000000)) (fun (_ : Unit) _ => True) (va_A [(h0, .inr (11, fM a tp sd pa pb dr)), (a 3, .inl (cN, 85, .inr (.inl (fun _ => 0))))] sz)) 0 0 (va_A [(h0, .inr (11, fM a tp sd pa pb dr)), (a 3, .inl (cN, 85, .inr (.inl (fun _ => 0))))] sz) := by
  refine Met.ofW (cc := cX11_outer) (maxL := 11) (ret := (some .long)) (by decide) rfl ?_
  intro p e s m args below meth c s₁ B hml hv
  obtain ⟨rfl, hsz, hP, hK, hD0⟩ := hv
  have hx := B.exec
  have hb := B.bytes
  have hr := B.returns
  have hts := atoms_spec (ws := wsX11_outer) B.pre
  have hown : s.vm.findClass RX11 = some m.cls := findClass_of_methodNamed B.named
  have hlocks := B.notSynchronized
  subst hsz
  have hD := hD0.self (sz := s.heap.size)
  generalize hAe : va_A [(h0, .inr (11, fM a tp sd pa pb dr)), (a 3, .inl (cN, 85, .inr (.inl (fun _ => 0))))] s.heap.size = A at hD ⊢
  have hA : ∀ q : Nat, s.heap.size ≤ q → A q := fun q h => by rw [← hAe]; exact Or.inr h
  have hS : va_S A s.heap s.heap [] := va_S.rf
  have hP : va_P D vwCl [(h0, .inr (11, fM a tp sd pa pb dr)), (a 3, .inl (cN, 85, .inr (.inl (fun _ => 0))))] s.heap := hP
  have hl := lv_entry ([.ref h0, .int z1, .int z2, .int z3, .int z4, .int z5]) (n := 11) (Nat.le_of_ble_eq_true rfl)
  rw [lg_entry_eq]
  generalize (lg_sl ([.ref h0, .int z1, .int z2, .int z3, .int z4, .int z5]) ++ List.replicate (11 - (lg_sl ([.ref h0, .int z1, .int z2, .int z3, .int z4, .int z5])).length) Slot.unset).toArray = ls at hl ⊢
  have hl : lv_has ls 11 [(0, .ref h0), (1, .int z1), (2, .int z2), (3, .int z3), (4, .int z4), (5, .int z5)] := hl
  refine lv_aload_n hx hb dX11_outer_0 rfl (lv_at hl 0 rfl) ?_
  refine lv_iconst (v := 0) hx hb dX11_outer_1 (by decide) ?_
  refine va_put (D := D) (ci := 11) (v := .int 0) (ty := .int) (C := RX11) (T := TX11) (N := 47) hx hb hts (fun _ h => List.mem_cons_of_mem _ (List.mem_append_right _ h)) tyX11 tyX11_ok nmX11 hown hK hP hD hS 0 rfl rfl 0 (by decide) (hts (.fieldLink RX11 73 "ClashFreeModel" "thrown" "I") (List.mem_of_getElem? (i := 1) rfl)) (fun _ h9 => h9) rfl (by decide +kernel) rfl rfl (Nat.le_of_ble_eq_true rfl) dX11_outer_2 (fun H locs hP hD hS => ?_)
  have hP : va_P D vwCl [(h0, .inr (11, fM a tp sd pa pb dr)), (a 3, .inl (cN, 85, .inr (.inl (fun _ => 0))))] H := hP
  have hD : va_D A [(h0, .inr (11, fM a tp sd pa pb dr)), (a 3, .inl (cN, 85, .inr (.inl (fun _ => 0))))] := hD
  refine lv_aload_n hx hb dX11_outer_5 rfl (lv_at hl 0 rfl) ?_
  refine lv_iload_n hx hb dX11_outer_6 rfl (lv_at hl 1 rfl) ?_
  have hPc := hP.sub (ws' := [(h0, .inr (11, fM a tp sd pa pb dr)), (a 3, .inl (cN, 85, .inr (.inl (fun _ => 0))))]) [0, 1] rfl
  have hKc := hK.sub (tys' := [(cN, .long)]) [0] rfl
  have hFc := va_free0 hS hA
  refine va_calli (va_runV (As := [.int z1]) (rest := []) ⟨hx, hb, hml, hown, hts⟩ (c_isThere l D _ h0 a cN tp sd pa pb dr z1) (cwV 1 hts gX11_outer_X11_isThere rfl rfl rfl (by decide +kernel) ⟨(Nat.le_of_ble_eq_true rfl), (Nat.le_of_ble_eq_true rfl)⟩) (PcR_V (q0 := 0) hPc hKc rfl rfl) rfl rfl hl.1 rfl (lv_room (Nat.le_of_ble_eq_true rfl)) dX11_outer_7 ⟨(Nat.le_of_ble_eq_true rfl), (Nat.le_of_ble_eq_true rfl)⟩) hS (fun q _ h => hFc q h) hFc (fun r1 uu tt H locs htt hvm hw hB hz1 hk1 hS => ?_)
  have hP := va_keep hP hk1
  try dsimp only at hw
  clear hB hz1 hk1 hFc hPc hKc
  obtain rfl : r1 = 0 := hw
  refine lv_if_eq (tgt := 47) hx hb dX11_outer_10 (by decide) (fun hc => ?_) (fun hc => absurd (by decide) hc)
  refine lv_ldc2 (v := (-1000000000000000)) hx hb hown (hts (.constantLong RX11 235 (-1000000000000000)) (List.mem_of_getElem? (i := 4) rfl)) dX11_outer_47 ?_
  exact W.lret (v := (-1000000000000000)) hx hb hr (fun t ht hW => ⟨⟨(-1000000000000000), (), rfl, rfl, trivial⟩, hS.F ht⟩) hS.2.2 dX11_outer_50

set_option maxHeartbeats 4000000 in
set_option maxRecDepth 100000 in
theorem c_X11_best (l : Launch) (D : va_G) (sz : Nat) (h0 : Nat) (a : Nat → Nat) (cN : ClassId) (tp : Int32) (sd : Int64) (pa : Int64) (pb : Int64) (dr : Int32) (z1 : Int32) (z2 : Int32) (y3 : Int64) (z4 : Int32)  : Met l yX11_best wsX11_best ({ frames := 2, cells := 0, slots := 0, locals := 46 }) (PcW D [.ref h0, .int z1, .int z2, .long y3, .int z4] sz [(h0, .inr (11, fM a tp sd pa pb dr)), (a 3, .inl (cN, 85, .inr (.inl (fun _ => 0))))] [(cN, .long)]) (va_Ql (fun (r : Int64) (_ : Unit) => r = (-1000000000000000)) (fun (_ : Unit) _ => True) (va_A [(h0, .inr (11, fM a tp sd pa pb dr)), (a 3, .inl (cN, 85, .inr (.inl (fun _ => 0))))] sz)) 0 0 (va_A [(h0, .inr (11, fM a tp sd pa pb dr)), (a 3, .inl (cN, 85, .inr (.inl (fun _ => 0))))] sz) := by
  refine Met.ofW (cc := cX11_best) (maxL := 13) (ret := (some .long)) (by decide) rfl ?_
  intro p e s m args below meth c s₁ B hml hv
  obtain ⟨rfl, hsz, hP, hK, hD0⟩ := hv
  have hx := B.exec
  have hb := B.bytes
  have hr := B.returns
  have hts := atoms_spec (ws := wsX11_best) B.pre
  have hown : s.vm.findClass RX11 = some m.cls := findClass_of_methodNamed B.named
  have hlocks := B.notSynchronized
  subst hsz
  have hD := hD0.self (sz := s.heap.size)
  generalize hAe : va_A [(h0, .inr (11, fM a tp sd pa pb dr)), (a 3, .inl (cN, 85, .inr (.inl (fun _ => 0))))] s.heap.size = A at hD ⊢
  have hA : ∀ q : Nat, s.heap.size ≤ q → A q := fun q h => by rw [← hAe]; exact Or.inr h
  have hS : va_S A s.heap s.heap [] := va_S.rf
  have hP : va_P D vwCl [(h0, .inr (11, fM a tp sd pa pb dr)), (a 3, .inl (cN, 85, .inr (.inl (fun _ => 0))))] s.heap := hP
  have hl := lv_entry ([.ref h0, .int z1, .int z2, .long y3, .int z4]) (n := 13) (Nat.le_of_ble_eq_true rfl)
  rw [lg_entry_eq]
  generalize (lg_sl ([.ref h0, .int z1, .int z2, .long y3, .int z4]) ++ List.replicate (13 - (lg_sl ([.ref h0, .int z1, .int z2, .long y3, .int z4])).length) Slot.unset).toArray = ls at hl ⊢
  have hl : lv_has ls 13 [(0, .ref h0), (1, .int z1), (2, .int z2), (3, .long y3), (5, .int z4)] := hl
  refine lv_aload_n hx hb dX11_best_0 rfl (lv_at hl 0 rfl) ?_
  refine lv_iconst (v := 0) hx hb dX11_best_1 (by decide) ?_
  refine va_put (D := D) (ci := 11) (v := .int 0) (ty := .int) (C := RX11) (T := TX11) (N := 47) hx hb hts (fun _ h => List.mem_cons_of_mem _ (List.mem_append_right _ h)) tyX11 tyX11_ok nmX11 hown hK hP hD hS 0 rfl rfl 0 (by decide) (hts (.fieldLink RX11 73 "ClashFreeModel" "thrown" "I") (List.mem_of_getElem? (i := 1) rfl)) (fun _ h9 => h9) rfl (by decide +kernel) rfl rfl (Nat.le_of_ble_eq_true rfl) dX11_best_2 (fun H locs hP hD hS => ?_)
  have hP : va_P D vwCl [(h0, .inr (11, fM a tp sd pa pb dr)), (a 3, .inl (cN, 85, .inr (.inl (fun _ => 0))))] H := hP
  have hD : va_D A [(h0, .inr (11, fM a tp sd pa pb dr)), (a 3, .inl (cN, 85, .inr (.inl (fun _ => 0))))] := hD
  refine lv_aload_n hx hb dX11_best_5 rfl (lv_at hl 0 rfl) ?_
  refine lv_iload_n hx hb dX11_best_6 rfl (lv_at hl 1 rfl) ?_
  have hPc := hP.sub (ws' := [(h0, .inr (11, fM a tp sd pa pb dr)), (a 3, .inl (cN, 85, .inr (.inl (fun _ => 0))))]) [0, 1] rfl
  have hKc := hK.sub (tys' := [(cN, .long)]) [0] rfl
  have hFc := va_free0 hS hA
  refine va_calli (va_runV (As := [.int z1]) (rest := []) ⟨hx, hb, hml, hown, hts⟩ (c_isThere l D _ h0 a cN tp sd pa pb dr z1) (cwV 1 hts gX11_best_X11_isThere rfl rfl rfl (by decide +kernel) ⟨(Nat.le_of_ble_eq_true rfl), (Nat.le_of_ble_eq_true rfl)⟩) (PcR_V (q0 := 0) hPc hKc rfl rfl) rfl rfl hl.1 rfl (lv_room (Nat.le_of_ble_eq_true rfl)) dX11_best_7 ⟨(Nat.le_of_ble_eq_true rfl), (Nat.le_of_ble_eq_true rfl)⟩) hS (fun q _ h => hFc q h) hFc (fun r1 uu tt H locs htt hvm hw hB hz1 hk1 hS => ?_)
  have hP := va_keep hP hk1
  try dsimp only at hw
  clear hB hz1 hk1 hFc hPc hKc
  obtain rfl : r1 = 0 := hw
  refine lv_if_eq (tgt := 38) hx hb dX11_best_10 (by decide) (fun hc => ?_) (fun hc => absurd (by decide) hc)
  refine lv_ldc2 (v := (-1000000000000000)) hx hb hown (hts (.constantLong RX11 235 (-1000000000000000)) (List.mem_of_getElem? (i := 4) rfl)) dX11_best_38 ?_
  exact W.lret (v := (-1000000000000000)) hx hb hr (fun t ht hW => ⟨⟨(-1000000000000000), (), rfl, rfl, trivial⟩, hS.F ht⟩) hS.2.2 dX11_best_41

set_option maxHeartbeats 4000000 in
set_option maxRecDepth 100000 in
theorem c_X11_inner (l : Launch) (D : va_G) (sz : Nat) (h0 : Nat) (a : Nat → Nat) (cN : ClassId) (tp : Int32) (sd : Int64) (pa : Int64) (pb : Int64) (dr : Int32) (z1 : Int32) (z2 : Int32) (z3 : Int32) (z4 : Int32)  : Met l yX11_inner wsX11_inner ({ frames := 3, cells := 0, slots := 0, locals := 68 }) (PcW D [.ref h0, .int z1, .int z2, .int z3, .int z4] sz [(h0, .inr (11, fM a tp sd pa pb dr)), (a 3, .inl (cN, 85, .inr (.inl (fun _ => 0))))] [(cN, .long)]) (va_Qi (fun (r : Int32) (_ : Unit) => r = (-1)) (fun (_ : Unit) _ => True) (va_A [(h0, .inr (11, fM a tp sd pa pb dr)), (a 3, .inl (cN, 85, .inr (.inl (fun _ => 0))))] sz)) 0 0 (va_A [(h0, .inr (11, fM a tp sd pa pb dr)), (a 3, .inl (cN, 85, .inr (.inl (fun _ => 0))))] sz) := by
  refine Met.ofW (cc := cX11_inner) (maxL := 5) (ret := (some .int)) (by decide) rfl ?_
  intro p e s m args below meth c s₁ B hml hv
  obtain ⟨rfl, hsz, hP, hK, hD0⟩ := hv
  have hx := B.exec
  have hb := B.bytes
  have hr := B.returns
  have hts := atoms_spec (ws := wsX11_inner) B.pre
  have hown : s.vm.findClass RX11 = some m.cls := findClass_of_methodNamed B.named
  have hlocks := B.notSynchronized
  subst hsz
  have hD := hD0.self (sz := s.heap.size)
  generalize hAe : va_A [(h0, .inr (11, fM a tp sd pa pb dr)), (a 3, .inl (cN, 85, .inr (.inl (fun _ => 0))))] s.heap.size = A at hD ⊢
  have hA : ∀ q : Nat, s.heap.size ≤ q → A q := fun q h => by rw [← hAe]; exact Or.inr h
  have hS : va_S A s.heap s.heap [] := va_S.rf
  have hP : va_P D vwCl [(h0, .inr (11, fM a tp sd pa pb dr)), (a 3, .inl (cN, 85, .inr (.inl (fun _ => 0))))] s.heap := hP
  have hl := lv_entry ([.ref h0, .int z1, .int z2, .int z3, .int z4]) (n := 5) (Nat.le_of_ble_eq_true rfl)
  rw [lg_entry_eq]
  generalize (lg_sl ([.ref h0, .int z1, .int z2, .int z3, .int z4]) ++ List.replicate (5 - (lg_sl ([.ref h0, .int z1, .int z2, .int z3, .int z4])).length) Slot.unset).toArray = ls at hl ⊢
  have hl : lv_has ls 5 [(0, .ref h0), (1, .int z1), (2, .int z2), (3, .int z3), (4, .int z4)] := hl
  refine lv_aload_n hx hb dX11_inner_0 rfl (lv_at hl 0 rfl) ?_
  refine lv_iconst (v := 0) hx hb dX11_inner_1 (by decide) ?_
  refine va_put (D := D) (ci := 11) (v := .int 0) (ty := .int) (C := RX11) (T := TX11) (N := 47) hx hb hts (fun _ h => List.mem_cons_of_mem _ (List.mem_append_right _ h)) tyX11 tyX11_ok nmX11 hown hK hP hD hS 0 rfl rfl 0 (by decide) (hts (.fieldLink RX11 73 "ClashFreeModel" "thrown" "I") (List.mem_of_getElem? (i := 1) rfl)) (fun _ h9 => h9) rfl (by decide +kernel) rfl rfl (Nat.le_of_ble_eq_true rfl) dX11_inner_2 (fun H locs hP hD hS => ?_)
  have hP : va_P D vwCl [(h0, .inr (11, fM a tp sd pa pb dr)), (a 3, .inl (cN, 85, .inr (.inl (fun _ => 0))))] H := hP
  have hD : va_D A [(h0, .inr (11, fM a tp sd pa pb dr)), (a 3, .inl (cN, 85, .inr (.inl (fun _ => 0))))] := hD
  refine lv_aload_n hx hb dX11_inner_5 rfl (lv_at hl 0 rfl) ?_
  refine lv_iload_n hx hb dX11_inner_6 rfl (lv_at hl 1 rfl) ?_
  refine lv_iload_n hx hb dX11_inner_7 rfl (lv_at hl 2 rfl) ?_
  have hPc := hP.sub (ws' := [(h0, .inr (11, fM a tp sd pa pb dr)), (a 3, .inl (cN, 85, .inr (.inl (fun _ => 0))))]) [0, 1] rfl
  have hKc := hK.sub (tys' := [(cN, .long)]) [0] rfl
  have hFc := va_free0 hS hA
  refine va_calli (va_runV (As := [.int z1, .int z2]) (rest := []) ⟨hx, hb, hml, hown, hts⟩ (c_isBucket l D _ h0 a cN tp sd pa pb dr z1 z2) (cwV 2 hts gX11_inner_X11_isBucket rfl rfl rfl (by decide +kernel) ⟨(Nat.le_of_ble_eq_true rfl), (Nat.le_of_ble_eq_true rfl)⟩) (PcR_V (q0 := 0) hPc hKc rfl rfl) rfl rfl hl.1 rfl (lv_room (Nat.le_of_ble_eq_true rfl)) dX11_inner_8 ⟨(Nat.le_of_ble_eq_true rfl), (Nat.le_of_ble_eq_true rfl)⟩) hS (fun q _ h => hFc q h) hFc (fun r1 uu tt H locs htt hvm hw hB hz1 hk1 hS => ?_)
  have hP := va_keep hP hk1
  try dsimp only at hw
  clear hB hz1 hk1 hFc hPc hKc
  obtain rfl : r1 = 0 := hw
  refine lv_if_eq (tgt := 46) hx hb dX11_inner_11 (by decide) (fun hc => ?_) (fun hc => absurd (by decide) hc)
  refine lv_iconst (v := (-1)) hx hb dX11_inner_46 (by decide) ?_
  exact W.iret (v := (-1)) hx hb hr (fun t ht hW => ⟨⟨(-1), (), rfl, rfl, trivial⟩, hS.F ht⟩) hS.2.2 dX11_inner_47

set_option maxHeartbeats 4000000 in
set_option maxRecDepth 100000 in
theorem c_X11_tries (l : Launch) (D : va_G) (sz : Nat) (h0 : Nat) (a : Nat → Nat) (cN : ClassId) (tp : Int32) (sd : Int64) (pa : Int64) (pb : Int64) (dr : Int32) (z1 : Int32) (z2 : Int32) (z3 : Int32) (y4 : Int64) (z5 : Int32)  : Met l yX11_tries wsX11_tries ({ frames := 3, cells := 0, slots := 0, locals := 68 }) (PcW D [.ref h0, .int z1, .int z2, .int z3, .long y4, .int z5] sz [(h0, .inr (11, fM a tp sd pa pb dr)), (a 3, .inl (cN, 85, .inr (.inl (fun _ => 0))))] [(cN, .long)]) (va_Qi (fun (r : Int32) (_ : Unit) => r = (-2)) (fun (_ : Unit) _ => True) (va_A [(h0, .inr (11, fM a tp sd pa pb dr)), (a 3, .inl (cN, 85, .inr (.inl (fun _ => 0))))] sz)) 0 0 (va_A [(h0, .inr (11, fM a tp sd pa pb dr)), (a 3, .inl (cN, 85, .inr (.inl (fun _ => 0))))] sz) := by
  refine Met.ofW (cc := cX11_tries) (maxL := 10) (ret := (some .int)) (by decide) rfl ?_
  intro p e s m args below meth c s₁ B hml hv
  obtain ⟨rfl, hsz, hP, hK, hD0⟩ := hv
  have hx := B.exec
  have hb := B.bytes
  have hr := B.returns
  have hts := atoms_spec (ws := wsX11_tries) B.pre
  have hown : s.vm.findClass RX11 = some m.cls := findClass_of_methodNamed B.named
  have hlocks := B.notSynchronized
  subst hsz
  have hD := hD0.self (sz := s.heap.size)
  generalize hAe : va_A [(h0, .inr (11, fM a tp sd pa pb dr)), (a 3, .inl (cN, 85, .inr (.inl (fun _ => 0))))] s.heap.size = A at hD ⊢
  have hA : ∀ q : Nat, s.heap.size ≤ q → A q := fun q h => by rw [← hAe]; exact Or.inr h
  have hS : va_S A s.heap s.heap [] := va_S.rf
  have hP : va_P D vwCl [(h0, .inr (11, fM a tp sd pa pb dr)), (a 3, .inl (cN, 85, .inr (.inl (fun _ => 0))))] s.heap := hP
  have hl := lv_entry ([.ref h0, .int z1, .int z2, .int z3, .long y4, .int z5]) (n := 10) (Nat.le_of_ble_eq_true rfl)
  rw [lg_entry_eq]
  generalize (lg_sl ([.ref h0, .int z1, .int z2, .int z3, .long y4, .int z5]) ++ List.replicate (10 - (lg_sl ([.ref h0, .int z1, .int z2, .int z3, .long y4, .int z5])).length) Slot.unset).toArray = ls at hl ⊢
  have hl : lv_has ls 10 [(0, .ref h0), (1, .int z1), (2, .int z2), (3, .int z3), (4, .long y4), (6, .int z5)] := hl
  refine lv_aload_n hx hb dX11_tries_0 rfl (lv_at hl 0 rfl) ?_
  refine lv_iconst (v := 0) hx hb dX11_tries_1 (by decide) ?_
  refine va_put (D := D) (ci := 11) (v := .int 0) (ty := .int) (C := RX11) (T := TX11) (N := 47) hx hb hts (fun _ h => List.mem_cons_of_mem _ (List.mem_append_right _ h)) tyX11 tyX11_ok nmX11 hown hK hP hD hS 0 rfl rfl 0 (by decide) (hts (.fieldLink RX11 73 "ClashFreeModel" "thrown" "I") (List.mem_of_getElem? (i := 1) rfl)) (fun _ h9 => h9) rfl (by decide +kernel) rfl rfl (Nat.le_of_ble_eq_true rfl) dX11_tries_2 (fun H locs hP hD hS => ?_)
  have hP : va_P D vwCl [(h0, .inr (11, fM a tp sd pa pb dr)), (a 3, .inl (cN, 85, .inr (.inl (fun _ => 0))))] H := hP
  have hD : va_D A [(h0, .inr (11, fM a tp sd pa pb dr)), (a 3, .inl (cN, 85, .inr (.inl (fun _ => 0))))] := hD
  refine lv_aload_n hx hb dX11_tries_5 rfl (lv_at hl 0 rfl) ?_
  refine lv_iload_n hx hb dX11_tries_6 rfl (lv_at hl 1 rfl) ?_
  refine lv_iload_n hx hb dX11_tries_7 rfl (lv_at hl 2 rfl) ?_
  have hPc := hP.sub (ws' := [(h0, .inr (11, fM a tp sd pa pb dr)), (a 3, .inl (cN, 85, .inr (.inl (fun _ => 0))))]) [0, 1] rfl
  have hKc := hK.sub (tys' := [(cN, .long)]) [0] rfl
  have hFc := va_free0 hS hA
  refine va_calli (va_runV (As := [.int z1, .int z2]) (rest := []) ⟨hx, hb, hml, hown, hts⟩ (c_isBucket l D _ h0 a cN tp sd pa pb dr z1 z2) (cwV 2 hts gX11_tries_X11_isBucket rfl rfl rfl (by decide +kernel) ⟨(Nat.le_of_ble_eq_true rfl), (Nat.le_of_ble_eq_true rfl)⟩) (PcR_V (q0 := 0) hPc hKc rfl rfl) rfl rfl hl.1 rfl (lv_room (Nat.le_of_ble_eq_true rfl)) dX11_tries_8 ⟨(Nat.le_of_ble_eq_true rfl), (Nat.le_of_ble_eq_true rfl)⟩) hS (fun q _ h => hFc q h) hFc (fun r1 uu tt H locs htt hvm hw hB hz1 hk1 hS => ?_)
  have hP := va_keep hP hk1
  try dsimp only at hw
  clear hB hz1 hk1 hFc hPc hKc
  obtain rfl : r1 = 0 := hw
  refine lv_if_eq (tgt := 46) hx hb dX11_tries_11 (by decide) (fun hc => ?_) (fun hc => absurd (by decide) hc)
  refine lv_bipush (v := (-2)) hx hb dX11_tries_46 (by decide) ?_
  exact W.iret (v := (-2)) hx hb hr (fun t ht hW => ⟨⟨(-2), (), rfl, rfl, trivial⟩, hS.F ht⟩) hS.2.2 dX11_tries_48

set_option maxHeartbeats 4000000 in
set_option maxRecDepth 100000 in
theorem c_X11_would (l : Launch) (D : va_G) (sz : Nat) (h0 : Nat) (a : Nat → Nat) (cN : ClassId) (tp : Int32) (sd : Int64) (pa : Int64) (pb : Int64) (dr : Int32) (z1 : Int32) (z2 : Int32)  : Met l yX11_would wsX11_would ({ frames := 2, cells := 0, slots := 0, locals := 46 }) (PcW D [.ref h0, .int z1, .int z2] sz [(h0, .inr (11, fM a tp sd pa pb dr)), (a 3, .inl (cN, 85, .inr (.inl (fun _ => 0))))] [(cN, .long)]) (va_Qi (fun (r : Int32) (_ : Unit) => r = (-2)) (fun (_ : Unit) _ => True) (va_A [(h0, .inr (11, fM a tp sd pa pb dr)), (a 3, .inl (cN, 85, .inr (.inl (fun _ => 0))))] sz)) 0 0 (va_A [(h0, .inr (11, fM a tp sd pa pb dr)), (a 3, .inl (cN, 85, .inr (.inl (fun _ => 0))))] sz) := by
  refine Met.ofW (cc := cX11_would) (maxL := 3) (ret := (some .int)) (by decide) rfl ?_
  intro p e s m args below meth c s₁ B hml hv
  obtain ⟨rfl, hsz, hP, hK, hD0⟩ := hv
  have hx := B.exec
  have hb := B.bytes
  have hr := B.returns
  have hts := atoms_spec (ws := wsX11_would) B.pre
  have hown : s.vm.findClass RX11 = some m.cls := findClass_of_methodNamed B.named
  have hlocks := B.notSynchronized
  subst hsz
  have hD := hD0.self (sz := s.heap.size)
  generalize hAe : va_A [(h0, .inr (11, fM a tp sd pa pb dr)), (a 3, .inl (cN, 85, .inr (.inl (fun _ => 0))))] s.heap.size = A at hD ⊢
  have hA : ∀ q : Nat, s.heap.size ≤ q → A q := fun q h => by rw [← hAe]; exact Or.inr h
  have hS : va_S A s.heap s.heap [] := va_S.rf
  have hP : va_P D vwCl [(h0, .inr (11, fM a tp sd pa pb dr)), (a 3, .inl (cN, 85, .inr (.inl (fun _ => 0))))] s.heap := hP
  have hl := lv_entry ([.ref h0, .int z1, .int z2]) (n := 3) (Nat.le_of_ble_eq_true rfl)
  rw [lg_entry_eq]
  generalize (lg_sl ([.ref h0, .int z1, .int z2]) ++ List.replicate (3 - (lg_sl ([.ref h0, .int z1, .int z2])).length) Slot.unset).toArray = ls at hl ⊢
  have hl : lv_has ls 3 [(0, .ref h0), (1, .int z1), (2, .int z2)] := hl
  refine lv_aload_n hx hb dX11_would_0 rfl (lv_at hl 0 rfl) ?_
  refine lv_iconst (v := 0) hx hb dX11_would_1 (by decide) ?_
  refine va_put (D := D) (ci := 11) (v := .int 0) (ty := .int) (C := RX11) (T := TX11) (N := 47) hx hb hts (fun _ h => List.mem_cons_of_mem _ (List.mem_append_right _ h)) tyX11 tyX11_ok nmX11 hown hK hP hD hS 0 rfl rfl 0 (by decide) (hts (.fieldLink RX11 73 "ClashFreeModel" "thrown" "I") (List.mem_of_getElem? (i := 1) rfl)) (fun _ h9 => h9) rfl (by decide +kernel) rfl rfl (Nat.le_of_ble_eq_true rfl) dX11_would_2 (fun H locs hP hD hS => ?_)
  have hP : va_P D vwCl [(h0, .inr (11, fM a tp sd pa pb dr)), (a 3, .inl (cN, 85, .inr (.inl (fun _ => 0))))] H := hP
  have hD : va_D A [(h0, .inr (11, fM a tp sd pa pb dr)), (a 3, .inl (cN, 85, .inr (.inl (fun _ => 0))))] := hD
  refine lv_aload_n hx hb dX11_would_5 rfl (lv_at hl 0 rfl) ?_
  refine lv_iload_n hx hb dX11_would_6 rfl (lv_at hl 1 rfl) ?_
  have hPc := hP.sub (ws' := [(h0, .inr (11, fM a tp sd pa pb dr)), (a 3, .inl (cN, 85, .inr (.inl (fun _ => 0))))]) [0, 1] rfl
  have hKc := hK.sub (tys' := [(cN, .long)]) [0] rfl
  have hFc := va_free0 hS hA
  refine va_calli (va_runV (As := [.int z1]) (rest := []) ⟨hx, hb, hml, hown, hts⟩ (c_isThere l D _ h0 a cN tp sd pa pb dr z1) (cwV 1 hts gX11_would_X11_isThere rfl rfl rfl (by decide +kernel) ⟨(Nat.le_of_ble_eq_true rfl), (Nat.le_of_ble_eq_true rfl)⟩) (PcR_V (q0 := 0) hPc hKc rfl rfl) rfl rfl hl.1 rfl (lv_room (Nat.le_of_ble_eq_true rfl)) dX11_would_7 ⟨(Nat.le_of_ble_eq_true rfl), (Nat.le_of_ble_eq_true rfl)⟩) hS (fun q _ h => hFc q h) hFc (fun r1 uu tt H locs htt hvm hw hB hz1 hk1 hS => ?_)
  have hP := va_keep hP hk1
  try dsimp only at hw
  clear hB hz1 hk1 hFc hPc hKc
  obtain rfl : r1 = 0 := hw
  refine lv_if_eq (tgt := 20) hx hb dX11_would_10 (by decide) (fun hc => ?_) (fun hc => absurd (by decide) hc)
  refine lv_bipush (v := (-2)) hx hb dX11_would_20 (by decide) ?_
  exact W.iret (v := (-2)) hx hb hr (fun t ht hW => ⟨⟨(-2), (), rfl, rfl, trivial⟩, hS.F ht⟩) hS.2.2 dX11_would_22

set_option maxHeartbeats 4000000 in
set_option maxRecDepth 100000 in
theorem c_X11_frozen (l : Launch) (D : va_G) (sz : Nat) (h0 : Nat) (a : Nat → Nat) (cN : ClassId) (tp : Int32) (sd : Int64) (pa : Int64) (pb : Int64) (dr : Int32) (z1 : Int32) (y2 : Int64) (z3 : Int32)  : Met l yX11_frozen wsX11_frozen ({ frames := 2, cells := 0, slots := 0, locals := 46 }) (PcW D [.ref h0, .int z1, .long y2, .int z3] sz [(h0, .inr (11, fM a tp sd pa pb dr)), (a 3, .inl (cN, 85, .inr (.inl (fun _ => 0))))] [(cN, .long)]) (va_Ql (fun (r : Int64) (_ : Unit) => r = (-1000000000000000)) (fun (_ : Unit) _ => True) (va_A [(h0, .inr (11, fM a tp sd pa pb dr)), (a 3, .inl (cN, 85, .inr (.inl (fun _ => 0))))] sz)) 0 0 (va_A [(h0, .inr (11, fM a tp sd pa pb dr)), (a 3, .inl (cN, 85, .inr (.inl (fun _ => 0))))] sz) := by
  refine Met.ofW (cc := cX11_frozen) (maxL := 8) (ret := (some .long)) (by decide) rfl ?_
  intro p e s m args below meth c s₁ B hml hv
  obtain ⟨rfl, hsz, hP, hK, hD0⟩ := hv
  have hx := B.exec
  have hb := B.bytes
  have hr := B.returns
  have hts := atoms_spec (ws := wsX11_frozen) B.pre
  have hown : s.vm.findClass RX11 = some m.cls := findClass_of_methodNamed B.named
  have hlocks := B.notSynchronized
  subst hsz
  have hD := hD0.self (sz := s.heap.size)
  generalize hAe : va_A [(h0, .inr (11, fM a tp sd pa pb dr)), (a 3, .inl (cN, 85, .inr (.inl (fun _ => 0))))] s.heap.size = A at hD ⊢
  have hA : ∀ q : Nat, s.heap.size ≤ q → A q := fun q h => by rw [← hAe]; exact Or.inr h
  have hS : va_S A s.heap s.heap [] := va_S.rf
  have hP : va_P D vwCl [(h0, .inr (11, fM a tp sd pa pb dr)), (a 3, .inl (cN, 85, .inr (.inl (fun _ => 0))))] s.heap := hP
  have hl := lv_entry ([.ref h0, .int z1, .long y2, .int z3]) (n := 8) (Nat.le_of_ble_eq_true rfl)
  rw [lg_entry_eq]
  generalize (lg_sl ([.ref h0, .int z1, .long y2, .int z3]) ++ List.replicate (8 - (lg_sl ([.ref h0, .int z1, .long y2, .int z3])).length) Slot.unset).toArray = ls at hl ⊢
  have hl : lv_has ls 8 [(0, .ref h0), (1, .int z1), (2, .long y2), (4, .int z3)] := hl
  refine lv_aload_n hx hb dX11_frozen_0 rfl (lv_at hl 0 rfl) ?_
  refine lv_iconst (v := 0) hx hb dX11_frozen_1 (by decide) ?_
  refine va_put (D := D) (ci := 11) (v := .int 0) (ty := .int) (C := RX11) (T := TX11) (N := 47) hx hb hts (fun _ h => List.mem_cons_of_mem _ (List.mem_append_right _ h)) tyX11 tyX11_ok nmX11 hown hK hP hD hS 0 rfl rfl 0 (by decide) (hts (.fieldLink RX11 73 "ClashFreeModel" "thrown" "I") (List.mem_of_getElem? (i := 1) rfl)) (fun _ h9 => h9) rfl (by decide +kernel) rfl rfl (Nat.le_of_ble_eq_true rfl) dX11_frozen_2 (fun H locs hP hD hS => ?_)
  have hP : va_P D vwCl [(h0, .inr (11, fM a tp sd pa pb dr)), (a 3, .inl (cN, 85, .inr (.inl (fun _ => 0))))] H := hP
  have hD : va_D A [(h0, .inr (11, fM a tp sd pa pb dr)), (a 3, .inl (cN, 85, .inr (.inl (fun _ => 0))))] := hD
  refine lv_aload_n hx hb dX11_frozen_5 rfl (lv_at hl 0 rfl) ?_
  refine lv_iload_n hx hb dX11_frozen_6 rfl (lv_at hl 1 rfl) ?_
  have hPc := hP.sub (ws' := [(h0, .inr (11, fM a tp sd pa pb dr)), (a 3, .inl (cN, 85, .inr (.inl (fun _ => 0))))]) [0, 1] rfl
  have hKc := hK.sub (tys' := [(cN, .long)]) [0] rfl
  have hFc := va_free0 hS hA
  refine va_calli (va_runV (As := [.int z1]) (rest := []) ⟨hx, hb, hml, hown, hts⟩ (c_isThere l D _ h0 a cN tp sd pa pb dr z1) (cwV 1 hts gX11_frozen_X11_isThere rfl rfl rfl (by decide +kernel) ⟨(Nat.le_of_ble_eq_true rfl), (Nat.le_of_ble_eq_true rfl)⟩) (PcR_V (q0 := 0) hPc hKc rfl rfl) rfl rfl hl.1 rfl (lv_room (Nat.le_of_ble_eq_true rfl)) dX11_frozen_7 ⟨(Nat.le_of_ble_eq_true rfl), (Nat.le_of_ble_eq_true rfl)⟩) hS (fun q _ h => hFc q h) hFc (fun r1 uu tt H locs htt hvm hw hB hz1 hk1 hS => ?_)
  have hP := va_keep hP hk1
  try dsimp only at hw
  clear hB hz1 hk1 hFc hPc hKc
  obtain rfl : r1 = 0 := hw
  refine lv_if_eq (tgt := 26) hx hb dX11_frozen_10 (by decide) (fun hc => ?_) (fun hc => absurd (by decide) hc)
  refine lv_ldc2 (v := (-1000000000000000)) hx hb hown (hts (.constantLong RX11 235 (-1000000000000000)) (List.mem_of_getElem? (i := 3) rfl)) dX11_frozen_26 ?_
  exact W.lret (v := (-1000000000000000)) hx hb hr (fun t ht hW => ⟨⟨(-1000000000000000), (), rfl, rfl, trivial⟩, hS.F ht⟩) hS.2.2 dX11_frozen_29

set_option maxHeartbeats 4000000 in
set_option maxRecDepth 100000 in
theorem c_X11_frozenAt (l : Launch) (D : va_G) (sz : Nat) (h0 : Nat) (a : Nat → Nat) (cN : ClassId) (tp : Int32) (sd : Int64) (pa : Int64) (pb : Int64) (dr : Int32) (z1 : Int32) (y2 : Int64) (z3 : Int32)  : Met l yX11_frozenAt wsX11_frozenAt ({ frames := 2, cells := 0, slots := 0, locals := 46 }) (PcW D [.ref h0, .int z1, .long y2, .int z3] sz [(h0, .inr (11, fM a tp sd pa pb dr)), (a 3, .inl (cN, 85, .inr (.inl (fun _ => 0))))] [(cN, .long)]) (va_Qi (fun (r : Int32) (_ : Unit) => r = (-1)) (fun (_ : Unit) _ => True) (va_A [(h0, .inr (11, fM a tp sd pa pb dr)), (a 3, .inl (cN, 85, .inr (.inl (fun _ => 0))))] sz)) 0 0 (va_A [(h0, .inr (11, fM a tp sd pa pb dr)), (a 3, .inl (cN, 85, .inr (.inl (fun _ => 0))))] sz) := by
  refine Met.ofW (cc := cX11_frozenAt) (maxL := 5) (ret := (some .int)) (by decide) rfl ?_
  intro p e s m args below meth c s₁ B hml hv
  obtain ⟨rfl, hsz, hP, hK, hD0⟩ := hv
  have hx := B.exec
  have hb := B.bytes
  have hr := B.returns
  have hts := atoms_spec (ws := wsX11_frozenAt) B.pre
  have hown : s.vm.findClass RX11 = some m.cls := findClass_of_methodNamed B.named
  have hlocks := B.notSynchronized
  subst hsz
  have hD := hD0.self (sz := s.heap.size)
  generalize hAe : va_A [(h0, .inr (11, fM a tp sd pa pb dr)), (a 3, .inl (cN, 85, .inr (.inl (fun _ => 0))))] s.heap.size = A at hD ⊢
  have hA : ∀ q : Nat, s.heap.size ≤ q → A q := fun q h => by rw [← hAe]; exact Or.inr h
  have hS : va_S A s.heap s.heap [] := va_S.rf
  have hP : va_P D vwCl [(h0, .inr (11, fM a tp sd pa pb dr)), (a 3, .inl (cN, 85, .inr (.inl (fun _ => 0))))] s.heap := hP
  have hl := lv_entry ([.ref h0, .int z1, .long y2, .int z3]) (n := 5) (Nat.le_of_ble_eq_true rfl)
  rw [lg_entry_eq]
  generalize (lg_sl ([.ref h0, .int z1, .long y2, .int z3]) ++ List.replicate (5 - (lg_sl ([.ref h0, .int z1, .long y2, .int z3])).length) Slot.unset).toArray = ls at hl ⊢
  have hl : lv_has ls 5 [(0, .ref h0), (1, .int z1), (2, .long y2), (4, .int z3)] := hl
  refine lv_aload_n hx hb dX11_frozenAt_0 rfl (lv_at hl 0 rfl) ?_
  refine lv_iconst (v := 0) hx hb dX11_frozenAt_1 (by decide) ?_
  refine va_put (D := D) (ci := 11) (v := .int 0) (ty := .int) (C := RX11) (T := TX11) (N := 47) hx hb hts (fun _ h => List.mem_cons_of_mem _ (List.mem_append_right _ h)) tyX11 tyX11_ok nmX11 hown hK hP hD hS 0 rfl rfl 0 (by decide) (hts (.fieldLink RX11 73 "ClashFreeModel" "thrown" "I") (List.mem_of_getElem? (i := 1) rfl)) (fun _ h9 => h9) rfl (by decide +kernel) rfl rfl (Nat.le_of_ble_eq_true rfl) dX11_frozenAt_2 (fun H locs hP hD hS => ?_)
  have hP : va_P D vwCl [(h0, .inr (11, fM a tp sd pa pb dr)), (a 3, .inl (cN, 85, .inr (.inl (fun _ => 0))))] H := hP
  have hD : va_D A [(h0, .inr (11, fM a tp sd pa pb dr)), (a 3, .inl (cN, 85, .inr (.inl (fun _ => 0))))] := hD
  refine lv_aload_n hx hb dX11_frozenAt_5 rfl (lv_at hl 0 rfl) ?_
  refine lv_iload_n hx hb dX11_frozenAt_6 rfl (lv_at hl 1 rfl) ?_
  have hPc := hP.sub (ws' := [(h0, .inr (11, fM a tp sd pa pb dr)), (a 3, .inl (cN, 85, .inr (.inl (fun _ => 0))))]) [0, 1] rfl
  have hKc := hK.sub (tys' := [(cN, .long)]) [0] rfl
  have hFc := va_free0 hS hA
  refine va_calli (va_runV (As := [.int z1]) (rest := []) ⟨hx, hb, hml, hown, hts⟩ (c_isThere l D _ h0 a cN tp sd pa pb dr z1) (cwV 1 hts gX11_frozenAt_X11_isThere rfl rfl rfl (by decide +kernel) ⟨(Nat.le_of_ble_eq_true rfl), (Nat.le_of_ble_eq_true rfl)⟩) (PcR_V (q0 := 0) hPc hKc rfl rfl) rfl rfl hl.1 rfl (lv_room (Nat.le_of_ble_eq_true rfl)) dX11_frozenAt_7 ⟨(Nat.le_of_ble_eq_true rfl), (Nat.le_of_ble_eq_true rfl)⟩) hS (fun q _ h => hFc q h) hFc (fun r1 uu tt H locs htt hvm hw hB hz1 hk1 hS => ?_)
  have hP := va_keep hP hk1
  try dsimp only at hw
  clear hB hz1 hk1 hFc hPc hKc
  obtain rfl : r1 = 0 := hw
  refine lv_if_ne (tgt := 15) hx hb dX11_frozenAt_10 (by decide) (fun hc => absurd hc (by decide)) (fun hc => ?_)
  refine lv_iconst (v := (-1)) hx hb dX11_frozenAt_13 (by decide) ?_
  exact W.iret (v := (-1)) hx hb hr (fun t ht hW => ⟨⟨(-1), (), rfl, rfl, trivial⟩, hS.F ht⟩) hS.2.2 dX11_frozenAt_14

set_option maxHeartbeats 4000000 in
set_option maxRecDepth 100000 in
theorem c_X11_shared (l : Launch) (D : va_G) (sz : Nat) (h0 : Nat) (a : Nat → Nat) (cN : ClassId) (tp : Int32) (sd : Int64) (pa : Int64) (pb : Int64) (dr : Int32) (z1 : Int32) (z2 : Int32) (z3 : Int32)  : Met l yX11_shared wsX11_shared ({ frames := 2, cells := 0, slots := 0, locals := 46 }) (PcW D [.ref h0, .int z1, .int z2, .int z3] sz [(h0, .inr (11, fM a tp sd pa pb dr)), (a 3, .inl (cN, 85, .inr (.inl (fun _ => 0))))] [(cN, .long)]) (va_Qi (fun (r : Int32) (_ : Unit) => r = (-1)) (fun (_ : Unit) _ => True) (va_A [(h0, .inr (11, fM a tp sd pa pb dr)), (a 3, .inl (cN, 85, .inr (.inl (fun _ => 0))))] sz)) 0 0 (va_A [(h0, .inr (11, fM a tp sd pa pb dr)), (a 3, .inl (cN, 85, .inr (.inl (fun _ => 0))))] sz) := by
  refine Met.ofW (cc := cX11_shared) (maxL := 7) (ret := (some .int)) (by decide) rfl ?_
  intro p e s m args below meth c s₁ B hml hv
  obtain ⟨rfl, hsz, hP, hK, hD0⟩ := hv
  have hx := B.exec
  have hb := B.bytes
  have hr := B.returns
  have hts := atoms_spec (ws := wsX11_shared) B.pre
  have hown : s.vm.findClass RX11 = some m.cls := findClass_of_methodNamed B.named
  have hlocks := B.notSynchronized
  subst hsz
  have hD := hD0.self (sz := s.heap.size)
  generalize hAe : va_A [(h0, .inr (11, fM a tp sd pa pb dr)), (a 3, .inl (cN, 85, .inr (.inl (fun _ => 0))))] s.heap.size = A at hD ⊢
  have hA : ∀ q : Nat, s.heap.size ≤ q → A q := fun q h => by rw [← hAe]; exact Or.inr h
  have hS : va_S A s.heap s.heap [] := va_S.rf
  have hP : va_P D vwCl [(h0, .inr (11, fM a tp sd pa pb dr)), (a 3, .inl (cN, 85, .inr (.inl (fun _ => 0))))] s.heap := hP
  have hl := lv_entry ([.ref h0, .int z1, .int z2, .int z3]) (n := 7) (Nat.le_of_ble_eq_true rfl)
  rw [lg_entry_eq]
  generalize (lg_sl ([.ref h0, .int z1, .int z2, .int z3]) ++ List.replicate (7 - (lg_sl ([.ref h0, .int z1, .int z2, .int z3])).length) Slot.unset).toArray = ls at hl ⊢
  have hl : lv_has ls 7 [(0, .ref h0), (1, .int z1), (2, .int z2), (3, .int z3)] := hl
  refine lv_aload_n hx hb dX11_shared_0 rfl (lv_at hl 0 rfl) ?_
  refine lv_iconst (v := 0) hx hb dX11_shared_1 (by decide) ?_
  refine va_put (D := D) (ci := 11) (v := .int 0) (ty := .int) (C := RX11) (T := TX11) (N := 47) hx hb hts (fun _ h => List.mem_cons_of_mem _ (List.mem_append_right _ h)) tyX11 tyX11_ok nmX11 hown hK hP hD hS 0 rfl rfl 0 (by decide) (hts (.fieldLink RX11 73 "ClashFreeModel" "thrown" "I") (List.mem_of_getElem? (i := 1) rfl)) (fun _ h9 => h9) rfl (by decide +kernel) rfl rfl (Nat.le_of_ble_eq_true rfl) dX11_shared_2 (fun H locs hP hD hS => ?_)
  have hP : va_P D vwCl [(h0, .inr (11, fM a tp sd pa pb dr)), (a 3, .inl (cN, 85, .inr (.inl (fun _ => 0))))] H := hP
  have hD : va_D A [(h0, .inr (11, fM a tp sd pa pb dr)), (a 3, .inl (cN, 85, .inr (.inl (fun _ => 0))))] := hD
  refine lv_aload_n hx hb dX11_shared_5 rfl (lv_at hl 0 rfl) ?_
  refine lv_iload_n hx hb dX11_shared_6 rfl (lv_at hl 1 rfl) ?_
  have hPc := hP.sub (ws' := [(h0, .inr (11, fM a tp sd pa pb dr)), (a 3, .inl (cN, 85, .inr (.inl (fun _ => 0))))]) [0, 1] rfl
  have hKc := hK.sub (tys' := [(cN, .long)]) [0] rfl
  have hFc := va_free0 hS hA
  refine va_calli (va_runV (As := [.int z1]) (rest := []) ⟨hx, hb, hml, hown, hts⟩ (c_isThere l D _ h0 a cN tp sd pa pb dr z1) (cwV 1 hts gX11_shared_X11_isThere rfl rfl rfl (by decide +kernel) ⟨(Nat.le_of_ble_eq_true rfl), (Nat.le_of_ble_eq_true rfl)⟩) (PcR_V (q0 := 0) hPc hKc rfl rfl) rfl rfl hl.1 rfl (lv_room (Nat.le_of_ble_eq_true rfl)) dX11_shared_7 ⟨(Nat.le_of_ble_eq_true rfl), (Nat.le_of_ble_eq_true rfl)⟩) hS (fun q _ h => hFc q h) hFc (fun r1 uu tt H locs htt hvm hw hB hz1 hk1 hS => ?_)
  have hP := va_keep hP hk1
  try dsimp only at hw
  clear hB hz1 hk1 hFc hPc hKc
  obtain rfl : r1 = 0 := hw
  refine lv_if_eq (tgt := 33) hx hb dX11_shared_10 (by decide) (fun hc => ?_) (fun hc => absurd (by decide) hc)
  refine lv_iconst (v := (-1)) hx hb dX11_shared_33 (by decide) ?_
  exact W.iret (v := (-1)) hx hb hr (fun t ht hW => ⟨⟨(-1), (), rfl, rfl, trivial⟩, hS.F ht⟩) hS.2.2 dX11_shared_34

set_option maxHeartbeats 4000000 in
set_option maxRecDepth 100000 in
theorem c_X11_join (l : Launch) (D : va_G) (sz : Nat) (h0 : Nat) (a : Nat → Nat) (cN : ClassId) (tp : Int32) (sd : Int64) (pa : Int64) (pb : Int64) (dr : Int32) (z1 : Int32) (z2 : Int32)  : Met l yX11_join wsX11_join ({ frames := 2, cells := 0, slots := 0, locals := 46 }) (PcW D [.ref h0, .int z1, .int z2] sz [(h0, .inr (11, fM a tp sd pa pb dr)), (a 3, .inl (cN, 85, .inr (.inl (fun _ => 0))))] [(cN, .long)]) (va_Qi (fun (r : Int32) (_ : Unit) => r = (-2)) (fun (_ : Unit) _ => True) (va_A [(h0, .inr (11, fM a tp sd pa pb dr)), (a 3, .inl (cN, 85, .inr (.inl (fun _ => 0))))] sz)) 0 0 (va_A [(h0, .inr (11, fM a tp sd pa pb dr)), (a 3, .inl (cN, 85, .inr (.inl (fun _ => 0))))] sz) := by
  refine Met.ofW (cc := cX11_join) (maxL := 5) (ret := (some .int)) (by decide) rfl ?_
  intro p e s m args below meth c s₁ B hml hv
  obtain ⟨rfl, hsz, hP, hK, hD0⟩ := hv
  have hx := B.exec
  have hb := B.bytes
  have hr := B.returns
  have hts := atoms_spec (ws := wsX11_join) B.pre
  have hown : s.vm.findClass RX11 = some m.cls := findClass_of_methodNamed B.named
  have hlocks := B.notSynchronized
  subst hsz
  have hD := hD0.self (sz := s.heap.size)
  generalize hAe : va_A [(h0, .inr (11, fM a tp sd pa pb dr)), (a 3, .inl (cN, 85, .inr (.inl (fun _ => 0))))] s.heap.size = A at hD ⊢
  have hA : ∀ q : Nat, s.heap.size ≤ q → A q := fun q h => by rw [← hAe]; exact Or.inr h
  have hS : va_S A s.heap s.heap [] := va_S.rf
  have hP : va_P D vwCl [(h0, .inr (11, fM a tp sd pa pb dr)), (a 3, .inl (cN, 85, .inr (.inl (fun _ => 0))))] s.heap := hP
  have hl := lv_entry ([.ref h0, .int z1, .int z2]) (n := 5) (Nat.le_of_ble_eq_true rfl)
  rw [lg_entry_eq]
  generalize (lg_sl ([.ref h0, .int z1, .int z2]) ++ List.replicate (5 - (lg_sl ([.ref h0, .int z1, .int z2])).length) Slot.unset).toArray = ls at hl ⊢
  have hl : lv_has ls 5 [(0, .ref h0), (1, .int z1), (2, .int z2)] := hl
  refine lv_aload_n hx hb dX11_join_0 rfl (lv_at hl 0 rfl) ?_
  refine lv_iconst (v := 0) hx hb dX11_join_1 (by decide) ?_
  refine va_put (D := D) (ci := 11) (v := .int 0) (ty := .int) (C := RX11) (T := TX11) (N := 47) hx hb hts (fun _ h => List.mem_cons_of_mem _ (List.mem_append_right _ h)) tyX11 tyX11_ok nmX11 hown hK hP hD hS 0 rfl rfl 0 (by decide) (hts (.fieldLink RX11 73 "ClashFreeModel" "thrown" "I") (List.mem_of_getElem? (i := 1) rfl)) (fun _ h9 => h9) rfl (by decide +kernel) rfl rfl (Nat.le_of_ble_eq_true rfl) dX11_join_2 (fun H locs hP hD hS => ?_)
  have hP : va_P D vwCl [(h0, .inr (11, fM a tp sd pa pb dr)), (a 3, .inl (cN, 85, .inr (.inl (fun _ => 0))))] H := hP
  have hD : va_D A [(h0, .inr (11, fM a tp sd pa pb dr)), (a 3, .inl (cN, 85, .inr (.inl (fun _ => 0))))] := hD
  refine lv_aload_n hx hb dX11_join_5 rfl (lv_at hl 0 rfl) ?_
  refine lv_iload_n hx hb dX11_join_6 rfl (lv_at hl 1 rfl) ?_
  have hPc := hP.sub (ws' := [(h0, .inr (11, fM a tp sd pa pb dr)), (a 3, .inl (cN, 85, .inr (.inl (fun _ => 0))))]) [0, 1] rfl
  have hKc := hK.sub (tys' := [(cN, .long)]) [0] rfl
  have hFc := va_free0 hS hA
  refine va_calli (va_runV (As := [.int z1]) (rest := []) ⟨hx, hb, hml, hown, hts⟩ (c_isThere l D _ h0 a cN tp sd pa pb dr z1) (cwV 1 hts gX11_join_X11_isThere rfl rfl rfl (by decide +kernel) ⟨(Nat.le_of_ble_eq_true rfl), (Nat.le_of_ble_eq_true rfl)⟩) (PcR_V (q0 := 0) hPc hKc rfl rfl) rfl rfl hl.1 rfl (lv_room (Nat.le_of_ble_eq_true rfl)) dX11_join_7 ⟨(Nat.le_of_ble_eq_true rfl), (Nat.le_of_ble_eq_true rfl)⟩) hS (fun q _ h => hFc q h) hFc (fun r1 uu tt H locs htt hvm hw hB hz1 hk1 hS => ?_)
  have hP := va_keep hP hk1
  try dsimp only at hw
  clear hB hz1 hk1 hFc hPc hKc
  obtain rfl : r1 = 0 := hw
  refine lv_if_eq (tgt := 26) hx hb dX11_join_10 (by decide) (fun hc => ?_) (fun hc => absurd (by decide) hc)
  refine lv_bipush (v := (-2)) hx hb dX11_join_26 (by decide) ?_
  exact W.iret (v := (-2)) hx hb hr (fun t ht hW => ⟨⟨(-2), (), rfl, rfl, trivial⟩, hS.F ht⟩) hS.2.2 dX11_join_28

set_option maxHeartbeats 4000000 in
set_option maxRecDepth 100000 in
theorem c_X11_cut (l : Launch) (D : va_G) (sz : Nat) (h0 : Nat) (a : Nat → Nat) (cN : ClassId) (tp : Int32) (sd : Int64) (pa : Int64) (pb : Int64) (dr : Int32) (z1 : Int32) (z2 : Int32) (z3 : Int32)  : Met l yX11_cut wsX11_cut ({ frames := 2, cells := 0, slots := 0, locals := 46 }) (PcW D [.ref h0, .int z1, .int z2, .int z3] sz [(h0, .inr (11, fM a tp sd pa pb dr)), (a 3, .inl (cN, 85, .inr (.inl (fun _ => 0))))] [(cN, .long)]) (va_Qi (fun (r : Int32) (_ : Unit) => r = (-2)) (fun (_ : Unit) _ => True) (va_A [(h0, .inr (11, fM a tp sd pa pb dr)), (a 3, .inl (cN, 85, .inr (.inl (fun _ => 0))))] sz)) 0 0 (va_A [(h0, .inr (11, fM a tp sd pa pb dr)), (a 3, .inl (cN, 85, .inr (.inl (fun _ => 0))))] sz) := by
  refine Met.ofW (cc := cX11_cut) (maxL := 7) (ret := (some .int)) (by decide) rfl ?_
  intro p e s m args below meth c s₁ B hml hv
  obtain ⟨rfl, hsz, hP, hK, hD0⟩ := hv
  have hx := B.exec
  have hb := B.bytes
  have hr := B.returns
  have hts := atoms_spec (ws := wsX11_cut) B.pre
  have hown : s.vm.findClass RX11 = some m.cls := findClass_of_methodNamed B.named
  have hlocks := B.notSynchronized
  subst hsz
  have hD := hD0.self (sz := s.heap.size)
  generalize hAe : va_A [(h0, .inr (11, fM a tp sd pa pb dr)), (a 3, .inl (cN, 85, .inr (.inl (fun _ => 0))))] s.heap.size = A at hD ⊢
  have hA : ∀ q : Nat, s.heap.size ≤ q → A q := fun q h => by rw [← hAe]; exact Or.inr h
  have hS : va_S A s.heap s.heap [] := va_S.rf
  have hP : va_P D vwCl [(h0, .inr (11, fM a tp sd pa pb dr)), (a 3, .inl (cN, 85, .inr (.inl (fun _ => 0))))] s.heap := hP
  have hl := lv_entry ([.ref h0, .int z1, .int z2, .int z3]) (n := 7) (Nat.le_of_ble_eq_true rfl)
  rw [lg_entry_eq]
  generalize (lg_sl ([.ref h0, .int z1, .int z2, .int z3]) ++ List.replicate (7 - (lg_sl ([.ref h0, .int z1, .int z2, .int z3])).length) Slot.unset).toArray = ls at hl ⊢
  have hl : lv_has ls 7 [(0, .ref h0), (1, .int z1), (2, .int z2), (3, .int z3)] := hl
  refine lv_aload_n hx hb dX11_cut_0 rfl (lv_at hl 0 rfl) ?_
  refine lv_iconst (v := 0) hx hb dX11_cut_1 (by decide) ?_
  refine va_put (D := D) (ci := 11) (v := .int 0) (ty := .int) (C := RX11) (T := TX11) (N := 47) hx hb hts (fun _ h => List.mem_cons_of_mem _ (List.mem_append_right _ h)) tyX11 tyX11_ok nmX11 hown hK hP hD hS 0 rfl rfl 0 (by decide) (hts (.fieldLink RX11 73 "ClashFreeModel" "thrown" "I") (List.mem_of_getElem? (i := 1) rfl)) (fun _ h9 => h9) rfl (by decide +kernel) rfl rfl (Nat.le_of_ble_eq_true rfl) dX11_cut_2 (fun H locs hP hD hS => ?_)
  have hP : va_P D vwCl [(h0, .inr (11, fM a tp sd pa pb dr)), (a 3, .inl (cN, 85, .inr (.inl (fun _ => 0))))] H := hP
  have hD : va_D A [(h0, .inr (11, fM a tp sd pa pb dr)), (a 3, .inl (cN, 85, .inr (.inl (fun _ => 0))))] := hD
  refine lv_aload_n hx hb dX11_cut_5 rfl (lv_at hl 0 rfl) ?_
  refine lv_iload_n hx hb dX11_cut_6 rfl (lv_at hl 1 rfl) ?_
  have hPc := hP.sub (ws' := [(h0, .inr (11, fM a tp sd pa pb dr)), (a 3, .inl (cN, 85, .inr (.inl (fun _ => 0))))]) [0, 1] rfl
  have hKc := hK.sub (tys' := [(cN, .long)]) [0] rfl
  have hFc := va_free0 hS hA
  refine va_calli (va_runV (As := [.int z1]) (rest := []) ⟨hx, hb, hml, hown, hts⟩ (c_isThere l D _ h0 a cN tp sd pa pb dr z1) (cwV 1 hts gX11_cut_X11_isThere rfl rfl rfl (by decide +kernel) ⟨(Nat.le_of_ble_eq_true rfl), (Nat.le_of_ble_eq_true rfl)⟩) (PcR_V (q0 := 0) hPc hKc rfl rfl) rfl rfl hl.1 rfl (lv_room (Nat.le_of_ble_eq_true rfl)) dX11_cut_7 ⟨(Nat.le_of_ble_eq_true rfl), (Nat.le_of_ble_eq_true rfl)⟩) hS (fun q _ h => hFc q h) hFc (fun r1 uu tt H locs htt hvm hw hB hz1 hk1 hS => ?_)
  have hP := va_keep hP hk1
  try dsimp only at hw
  clear hB hz1 hk1 hFc hPc hKc
  obtain rfl : r1 = 0 := hw
  refine lv_if_eq (tgt := 26) hx hb dX11_cut_10 (by decide) (fun hc => ?_) (fun hc => absurd (by decide) hc)
  refine lv_bipush (v := (-2)) hx hb dX11_cut_26 (by decide) ?_
  exact W.iret (v := (-2)) hx hb hr (fun t ht hW => ⟨⟨(-2), (), rfl, rfl, trivial⟩, hS.F ht⟩) hS.2.2 dX11_cut_28

set_option maxHeartbeats 4000000 in
set_option maxRecDepth 100000 in
theorem c_X11_values (l : Launch) (D : va_G) (sz : Nat) (h0 : Nat) (a : Nat → Nat) (cN : ClassId) (tp : Int32) (sd : Int64) (pa : Int64) (pb : Int64) (dr : Int32) (z1 : Int32) (z2 : Int32)  : Met l yX11_values wsX11_values ({ frames := 2, cells := 0, slots := 0, locals := 46 }) (PcW D [.ref h0, .int z1, .int z2] sz [(h0, .inr (11, fM a tp sd pa pb dr)), (a 3, .inl (cN, 85, .inr (.inl (fun _ => 0))))] [(cN, .long)]) (va_Ql (fun (r : Int64) (_ : Unit) => r = (-1000000000000000)) (fun (_ : Unit) _ => True) (va_A [(h0, .inr (11, fM a tp sd pa pb dr)), (a 3, .inl (cN, 85, .inr (.inl (fun _ => 0))))] sz)) 0 0 (va_A [(h0, .inr (11, fM a tp sd pa pb dr)), (a 3, .inl (cN, 85, .inr (.inl (fun _ => 0))))] sz) := by
  refine Met.ofW (cc := cX11_values) (maxL := 7) (ret := (some .long)) (by decide) rfl ?_
  intro p e s m args below meth c s₁ B hml hv
  obtain ⟨rfl, hsz, hP, hK, hD0⟩ := hv
  have hx := B.exec
  have hb := B.bytes
  have hr := B.returns
  have hts := atoms_spec (ws := wsX11_values) B.pre
  have hown : s.vm.findClass RX11 = some m.cls := findClass_of_methodNamed B.named
  have hlocks := B.notSynchronized
  subst hsz
  have hD := hD0.self (sz := s.heap.size)
  generalize hAe : va_A [(h0, .inr (11, fM a tp sd pa pb dr)), (a 3, .inl (cN, 85, .inr (.inl (fun _ => 0))))] s.heap.size = A at hD ⊢
  have hA : ∀ q : Nat, s.heap.size ≤ q → A q := fun q h => by rw [← hAe]; exact Or.inr h
  have hS : va_S A s.heap s.heap [] := va_S.rf
  have hP : va_P D vwCl [(h0, .inr (11, fM a tp sd pa pb dr)), (a 3, .inl (cN, 85, .inr (.inl (fun _ => 0))))] s.heap := hP
  have hl := lv_entry ([.ref h0, .int z1, .int z2]) (n := 7) (Nat.le_of_ble_eq_true rfl)
  rw [lg_entry_eq]
  generalize (lg_sl ([.ref h0, .int z1, .int z2]) ++ List.replicate (7 - (lg_sl ([.ref h0, .int z1, .int z2])).length) Slot.unset).toArray = ls at hl ⊢
  have hl : lv_has ls 7 [(0, .ref h0), (1, .int z1), (2, .int z2)] := hl
  refine lv_aload_n hx hb dX11_values_0 rfl (lv_at hl 0 rfl) ?_
  refine lv_iconst (v := 0) hx hb dX11_values_1 (by decide) ?_
  refine va_put (D := D) (ci := 11) (v := .int 0) (ty := .int) (C := RX11) (T := TX11) (N := 47) hx hb hts (fun _ h => List.mem_cons_of_mem _ (List.mem_append_right _ h)) tyX11 tyX11_ok nmX11 hown hK hP hD hS 0 rfl rfl 0 (by decide) (hts (.fieldLink RX11 73 "ClashFreeModel" "thrown" "I") (List.mem_of_getElem? (i := 1) rfl)) (fun _ h9 => h9) rfl (by decide +kernel) rfl rfl (Nat.le_of_ble_eq_true rfl) dX11_values_2 (fun H locs hP hD hS => ?_)
  have hP : va_P D vwCl [(h0, .inr (11, fM a tp sd pa pb dr)), (a 3, .inl (cN, 85, .inr (.inl (fun _ => 0))))] H := hP
  have hD : va_D A [(h0, .inr (11, fM a tp sd pa pb dr)), (a 3, .inl (cN, 85, .inr (.inl (fun _ => 0))))] := hD
  refine lv_aload_n hx hb dX11_values_5 rfl (lv_at hl 0 rfl) ?_
  refine lv_iload_n hx hb dX11_values_6 rfl (lv_at hl 1 rfl) ?_
  have hPc := hP.sub (ws' := [(h0, .inr (11, fM a tp sd pa pb dr)), (a 3, .inl (cN, 85, .inr (.inl (fun _ => 0))))]) [0, 1] rfl
  have hKc := hK.sub (tys' := [(cN, .long)]) [0] rfl
  have hFc := va_free0 hS hA
  refine va_calli (va_runV (As := [.int z1]) (rest := []) ⟨hx, hb, hml, hown, hts⟩ (c_isThere l D _ h0 a cN tp sd pa pb dr z1) (cwV 1 hts gX11_values_X11_isThere rfl rfl rfl (by decide +kernel) ⟨(Nat.le_of_ble_eq_true rfl), (Nat.le_of_ble_eq_true rfl)⟩) (PcR_V (q0 := 0) hPc hKc rfl rfl) rfl rfl hl.1 rfl (lv_room (Nat.le_of_ble_eq_true rfl)) dX11_values_7 ⟨(Nat.le_of_ble_eq_true rfl), (Nat.le_of_ble_eq_true rfl)⟩) hS (fun q _ h => hFc q h) hFc (fun r1 uu tt H locs htt hvm hw hB hz1 hk1 hS => ?_)
  have hP := va_keep hP hk1
  try dsimp only at hw
  clear hB hz1 hk1 hFc hPc hKc
  obtain rfl : r1 = 0 := hw
  refine lv_if_eq (tgt := 25) hx hb dX11_values_10 (by decide) (fun hc => ?_) (fun hc => absurd (by decide) hc)
  refine lv_ldc2 (v := (-1000000000000000)) hx hb hown (hts (.constantLong RX11 235 (-1000000000000000)) (List.mem_of_getElem? (i := 3) rfl)) dX11_values_25 ?_
  exact W.lret (v := (-1000000000000000)) hx hb hr (fun t ht hW => ⟨⟨(-1000000000000000), (), rfl, rfl, trivial⟩, hS.F ht⟩) hS.2.2 dX11_values_28

set_option maxHeartbeats 4000000 in
set_option maxRecDepth 100000 in
theorem c_X11_run (l : Launch) (D : va_G) (sz : Nat) (h0 : Nat) (a : Nat → Nat) (cN : ClassId) (tp : Int32) (sd : Int64) (pa : Int64) (pb : Int64) (dr : Int32) (z1 : Int32)  : Met l yX11_run wsX11_run ({ frames := 2, cells := 0, slots := 0, locals := 46 }) (PcW D [.ref h0, .int z1] sz [(h0, .inr (11, fM a tp sd pa pb dr)), (a 3, .inl (cN, 85, .inr (.inl (fun _ => 0))))] [(cN, .long)]) (va_Qi (fun (r : Int32) (_ : Unit) => r = (-2)) (fun (_ : Unit) _ => True) (va_A [(h0, .inr (11, fM a tp sd pa pb dr)), (a 3, .inl (cN, 85, .inr (.inl (fun _ => 0))))] sz)) 0 0 (va_A [(h0, .inr (11, fM a tp sd pa pb dr)), (a 3, .inl (cN, 85, .inr (.inl (fun _ => 0))))] sz) := by
  refine Met.ofW (cc := cX11_run) (maxL := 2) (ret := (some .int)) (by decide) rfl ?_
  intro p e s m args below meth c s₁ B hml hv
  obtain ⟨rfl, hsz, hP, hK, hD0⟩ := hv
  have hx := B.exec
  have hb := B.bytes
  have hr := B.returns
  have hts := atoms_spec (ws := wsX11_run) B.pre
  have hown : s.vm.findClass RX11 = some m.cls := findClass_of_methodNamed B.named
  have hlocks := B.notSynchronized
  subst hsz
  have hD := hD0.self (sz := s.heap.size)
  generalize hAe : va_A [(h0, .inr (11, fM a tp sd pa pb dr)), (a 3, .inl (cN, 85, .inr (.inl (fun _ => 0))))] s.heap.size = A at hD ⊢
  have hA : ∀ q : Nat, s.heap.size ≤ q → A q := fun q h => by rw [← hAe]; exact Or.inr h
  have hS : va_S A s.heap s.heap [] := va_S.rf
  have hP : va_P D vwCl [(h0, .inr (11, fM a tp sd pa pb dr)), (a 3, .inl (cN, 85, .inr (.inl (fun _ => 0))))] s.heap := hP
  have hl := lv_entry ([.ref h0, .int z1]) (n := 2) (Nat.le_of_ble_eq_true rfl)
  rw [lg_entry_eq]
  generalize (lg_sl ([.ref h0, .int z1]) ++ List.replicate (2 - (lg_sl ([.ref h0, .int z1])).length) Slot.unset).toArray = ls at hl ⊢
  have hl : lv_has ls 2 [(0, .ref h0), (1, .int z1)] := hl
  refine lv_aload_n hx hb dX11_run_0 rfl (lv_at hl 0 rfl) ?_
  refine lv_iconst (v := 0) hx hb dX11_run_1 (by decide) ?_
  refine va_put (D := D) (ci := 11) (v := .int 0) (ty := .int) (C := RX11) (T := TX11) (N := 47) hx hb hts (fun _ h => List.mem_cons_of_mem _ (List.mem_append_right _ h)) tyX11 tyX11_ok nmX11 hown hK hP hD hS 0 rfl rfl 0 (by decide) (hts (.fieldLink RX11 73 "ClashFreeModel" "thrown" "I") (List.mem_of_getElem? (i := 1) rfl)) (fun _ h9 => h9) rfl (by decide +kernel) rfl rfl (Nat.le_of_ble_eq_true rfl) dX11_run_2 (fun H locs hP hD hS => ?_)
  have hP : va_P D vwCl [(h0, .inr (11, fM a tp sd pa pb dr)), (a 3, .inl (cN, 85, .inr (.inl (fun _ => 0))))] H := hP
  have hD : va_D A [(h0, .inr (11, fM a tp sd pa pb dr)), (a 3, .inl (cN, 85, .inr (.inl (fun _ => 0))))] := hD
  refine lv_aload_n hx hb dX11_run_5 rfl (lv_at hl 0 rfl) ?_
  refine lv_iload_n hx hb dX11_run_6 rfl (lv_at hl 1 rfl) ?_
  have hPc := hP.sub (ws' := [(h0, .inr (11, fM a tp sd pa pb dr)), (a 3, .inl (cN, 85, .inr (.inl (fun _ => 0))))]) [0, 1] rfl
  have hKc := hK.sub (tys' := [(cN, .long)]) [0] rfl
  have hFc := va_free0 hS hA
  refine va_calli (va_runV (As := [.int z1]) (rest := []) ⟨hx, hb, hml, hown, hts⟩ (c_isThere l D _ h0 a cN tp sd pa pb dr z1) (cwV 1 hts gX11_run_X11_isThere rfl rfl rfl (by decide +kernel) ⟨(Nat.le_of_ble_eq_true rfl), (Nat.le_of_ble_eq_true rfl)⟩) (PcR_V (q0 := 0) hPc hKc rfl rfl) rfl rfl hl.1 rfl (lv_room (Nat.le_of_ble_eq_true rfl)) dX11_run_7 ⟨(Nat.le_of_ble_eq_true rfl), (Nat.le_of_ble_eq_true rfl)⟩) hS (fun q _ h => hFc q h) hFc (fun r1 uu tt H locs htt hvm hw hB hz1 hk1 hS => ?_)
  have hP := va_keep hP hk1
  try dsimp only at hw
  clear hB hz1 hk1 hFc hPc hKc
  obtain rfl : r1 = 0 := hw
  refine lv_if_ne (tgt := 16) hx hb dX11_run_10 (by decide) (fun hc => absurd hc (by decide)) (fun hc => ?_)
  refine lv_bipush (v := (-2)) hx hb dX11_run_13 (by decide) ?_
  exact W.iret (v := (-2)) hx hb hr (fun t ht hW => ⟨⟨(-2), (), rfl, rfl, trivial⟩, hS.F ht⟩) hS.2.2 dX11_run_15

set_option maxHeartbeats 4000000 in
set_option maxRecDepth 100000 in
theorem c_X11_image (l : Launch) (D : va_G) (sz : Nat) (h0 : Nat) (a : Nat → Nat) (cN : ClassId) (tp : Int32) (sd : Int64) (pa : Int64) (pb : Int64) (dr : Int32) (z1 : Int32)  : Met l yX11_image wsX11_image ({ frames := 2, cells := 0, slots := 0, locals := 46 }) (PcW D [.ref h0, .int z1] sz [(h0, .inr (11, fM a tp sd pa pb dr)), (a 3, .inl (cN, 85, .inr (.inl (fun _ => 0))))] [(cN, .long)]) (va_Qi (fun (r : Int32) (_ : Unit) => r = (-1)) (fun (_ : Unit) _ => True) (va_A [(h0, .inr (11, fM a tp sd pa pb dr)), (a 3, .inl (cN, 85, .inr (.inl (fun _ => 0))))] sz)) 0 0 (va_A [(h0, .inr (11, fM a tp sd pa pb dr)), (a 3, .inl (cN, 85, .inr (.inl (fun _ => 0))))] sz) := by
  refine Met.ofW (cc := cX11_image) (maxL := 4) (ret := (some .int)) (by decide) rfl ?_
  intro p e s m args below meth c s₁ B hml hv
  obtain ⟨rfl, hsz, hP, hK, hD0⟩ := hv
  have hx := B.exec
  have hb := B.bytes
  have hr := B.returns
  have hts := atoms_spec (ws := wsX11_image) B.pre
  have hown : s.vm.findClass RX11 = some m.cls := findClass_of_methodNamed B.named
  have hlocks := B.notSynchronized
  subst hsz
  have hD := hD0.self (sz := s.heap.size)
  generalize hAe : va_A [(h0, .inr (11, fM a tp sd pa pb dr)), (a 3, .inl (cN, 85, .inr (.inl (fun _ => 0))))] s.heap.size = A at hD ⊢
  have hA : ∀ q : Nat, s.heap.size ≤ q → A q := fun q h => by rw [← hAe]; exact Or.inr h
  have hS : va_S A s.heap s.heap [] := va_S.rf
  have hP : va_P D vwCl [(h0, .inr (11, fM a tp sd pa pb dr)), (a 3, .inl (cN, 85, .inr (.inl (fun _ => 0))))] s.heap := hP
  have hl := lv_entry ([.ref h0, .int z1]) (n := 4) (Nat.le_of_ble_eq_true rfl)
  rw [lg_entry_eq]
  generalize (lg_sl ([.ref h0, .int z1]) ++ List.replicate (4 - (lg_sl ([.ref h0, .int z1])).length) Slot.unset).toArray = ls at hl ⊢
  have hl : lv_has ls 4 [(0, .ref h0), (1, .int z1)] := hl
  refine lv_aload_n hx hb dX11_image_0 rfl (lv_at hl 0 rfl) ?_
  refine lv_iconst (v := 0) hx hb dX11_image_1 (by decide) ?_
  refine va_put (D := D) (ci := 11) (v := .int 0) (ty := .int) (C := RX11) (T := TX11) (N := 47) hx hb hts (fun _ h => List.mem_cons_of_mem _ (List.mem_append_right _ h)) tyX11 tyX11_ok nmX11 hown hK hP hD hS 0 rfl rfl 0 (by decide) (hts (.fieldLink RX11 73 "ClashFreeModel" "thrown" "I") (List.mem_of_getElem? (i := 1) rfl)) (fun _ h9 => h9) rfl (by decide +kernel) rfl rfl (Nat.le_of_ble_eq_true rfl) dX11_image_2 (fun H locs hP hD hS => ?_)
  have hP : va_P D vwCl [(h0, .inr (11, fM a tp sd pa pb dr)), (a 3, .inl (cN, 85, .inr (.inl (fun _ => 0))))] H := hP
  have hD : va_D A [(h0, .inr (11, fM a tp sd pa pb dr)), (a 3, .inl (cN, 85, .inr (.inl (fun _ => 0))))] := hD
  refine lv_aload_n hx hb dX11_image_5 rfl (lv_at hl 0 rfl) ?_
  refine lv_iload_n hx hb dX11_image_6 rfl (lv_at hl 1 rfl) ?_
  have hPc := hP.sub (ws' := [(h0, .inr (11, fM a tp sd pa pb dr)), (a 3, .inl (cN, 85, .inr (.inl (fun _ => 0))))]) [0, 1] rfl
  have hKc := hK.sub (tys' := [(cN, .long)]) [0] rfl
  have hFc := va_free0 hS hA
  refine va_calli (va_runV (As := [.int z1]) (rest := []) ⟨hx, hb, hml, hown, hts⟩ (c_isThere l D _ h0 a cN tp sd pa pb dr z1) (cwV 1 hts gX11_image_X11_isThere rfl rfl rfl (by decide +kernel) ⟨(Nat.le_of_ble_eq_true rfl), (Nat.le_of_ble_eq_true rfl)⟩) (PcR_V (q0 := 0) hPc hKc rfl rfl) rfl rfl hl.1 rfl (lv_room (Nat.le_of_ble_eq_true rfl)) dX11_image_7 ⟨(Nat.le_of_ble_eq_true rfl), (Nat.le_of_ble_eq_true rfl)⟩) hS (fun q _ h => hFc q h) hFc (fun r1 uu tt H locs htt hvm hw hB hz1 hk1 hS => ?_)
  have hP := va_keep hP hk1
  try dsimp only at hw
  clear hB hz1 hk1 hFc hPc hKc
  obtain rfl : r1 = 0 := hw
  refine lv_if_ne (tgt := 15) hx hb dX11_image_10 (by decide) (fun hc => absurd hc (by decide)) (fun hc => ?_)
  refine lv_iconst (v := (-1)) hx hb dX11_image_13 (by decide) ?_
  exact W.iret (v := (-1)) hx hb hr (fun t ht hW => ⟨⟨(-1), (), rfl, rfl, trivial⟩, hS.F ht⟩) hS.2.2 dX11_image_14

set_option maxHeartbeats 4000000 in
set_option maxRecDepth 100000 in
theorem c_X11_copy (l : Launch) (D : va_G) (sz : Nat) (h0 : Nat) (a : Nat → Nat) (cN : ClassId) (tp : Int32) (sd : Int64) (pa : Int64) (pb : Int64) (dr : Int32) (z1 : Int32) (z2 : Int32)  : Met l yX11_copy wsX11_copy ({ frames := 2, cells := 0, slots := 0, locals := 46 }) (PcW D [.ref h0, .int z1, .int z2] sz [(h0, .inr (11, fM a tp sd pa pb dr)), (a 3, .inl (cN, 85, .inr (.inl (fun _ => 0))))] [(cN, .long)]) (va_Qi (fun (r : Int32) (_ : Unit) => r = (-2)) (fun (_ : Unit) _ => True) (va_A [(h0, .inr (11, fM a tp sd pa pb dr)), (a 3, .inl (cN, 85, .inr (.inl (fun _ => 0))))] sz)) 0 0 (va_A [(h0, .inr (11, fM a tp sd pa pb dr)), (a 3, .inl (cN, 85, .inr (.inl (fun _ => 0))))] sz) := by
  refine Met.ofW (cc := cX11_copy) (maxL := 4) (ret := (some .int)) (by decide) rfl ?_
  intro p e s m args below meth c s₁ B hml hv
  obtain ⟨rfl, hsz, hP, hK, hD0⟩ := hv
  have hx := B.exec
  have hb := B.bytes
  have hr := B.returns
  have hts := atoms_spec (ws := wsX11_copy) B.pre
  have hown : s.vm.findClass RX11 = some m.cls := findClass_of_methodNamed B.named
  have hlocks := B.notSynchronized
  subst hsz
  have hD := hD0.self (sz := s.heap.size)
  generalize hAe : va_A [(h0, .inr (11, fM a tp sd pa pb dr)), (a 3, .inl (cN, 85, .inr (.inl (fun _ => 0))))] s.heap.size = A at hD ⊢
  have hA : ∀ q : Nat, s.heap.size ≤ q → A q := fun q h => by rw [← hAe]; exact Or.inr h
  have hS : va_S A s.heap s.heap [] := va_S.rf
  have hP : va_P D vwCl [(h0, .inr (11, fM a tp sd pa pb dr)), (a 3, .inl (cN, 85, .inr (.inl (fun _ => 0))))] s.heap := hP
  have hl := lv_entry ([.ref h0, .int z1, .int z2]) (n := 4) (Nat.le_of_ble_eq_true rfl)
  rw [lg_entry_eq]
  generalize (lg_sl ([.ref h0, .int z1, .int z2]) ++ List.replicate (4 - (lg_sl ([.ref h0, .int z1, .int z2])).length) Slot.unset).toArray = ls at hl ⊢
  have hl : lv_has ls 4 [(0, .ref h0), (1, .int z1), (2, .int z2)] := hl
  refine lv_aload_n hx hb dX11_copy_0 rfl (lv_at hl 0 rfl) ?_
  refine lv_iconst (v := 0) hx hb dX11_copy_1 (by decide) ?_
  refine va_put (D := D) (ci := 11) (v := .int 0) (ty := .int) (C := RX11) (T := TX11) (N := 47) hx hb hts (fun _ h => List.mem_cons_of_mem _ (List.mem_append_right _ h)) tyX11 tyX11_ok nmX11 hown hK hP hD hS 0 rfl rfl 0 (by decide) (hts (.fieldLink RX11 73 "ClashFreeModel" "thrown" "I") (List.mem_of_getElem? (i := 1) rfl)) (fun _ h9 => h9) rfl (by decide +kernel) rfl rfl (Nat.le_of_ble_eq_true rfl) dX11_copy_2 (fun H locs hP hD hS => ?_)
  have hP : va_P D vwCl [(h0, .inr (11, fM a tp sd pa pb dr)), (a 3, .inl (cN, 85, .inr (.inl (fun _ => 0))))] H := hP
  have hD : va_D A [(h0, .inr (11, fM a tp sd pa pb dr)), (a 3, .inl (cN, 85, .inr (.inl (fun _ => 0))))] := hD
  refine lv_iload_n hx hb dX11_copy_5 rfl (lv_at hl 1 rfl) ?_
  refine lv_i2l hx hb dX11_copy_6 rfl ?_
  refine lv_lconst (v := 0) hx hb dX11_copy_7 (by decide) ?_
  refine lv_ldc2 (v := 3) hx hb hown (hts (.constantLong RX11 87 (3)) (List.mem_of_getElem? (i := 2) rfl)) dX11_copy_8 ?_
  have hPc := hP.sub (ws' := []) [] rfl
  have hKc := hK.sub (tys' := []) [] rfl
  have hFc := va_free0 hS hA
  refine va_calli (va_runS (As := [.long (Int32.toInt64 z1), .long 0, .long 3]) (rest := []) ⟨hx, hb, hml, hown, hts⟩ (c_isIn l D _ (Int32.toInt64 z1) 0 3) (va_cwS 3 hts gX11_copy_X11_isIn rfl rfl rfl (by decide +kernel) ⟨(Nat.le_of_ble_eq_true rfl), (Nat.le_of_ble_eq_true rfl)⟩) (PcR_S hPc hKc) rfl rfl hl.1 rfl (lv_room (Nat.le_of_ble_eq_true rfl)) dX11_copy_11 ⟨(Nat.le_of_ble_eq_true rfl), (Nat.le_of_ble_eq_true rfl)⟩) hS (fun q _ h => hFc q h) hFc (fun r1 uu tt H locs htt hvm hw hB hz1 hk1 hS => ?_)
  have hP := va_keep hP hk1
  try dsimp only at hw
  clear hB hz1 hk1 hFc hPc hKc
  have hw_r1 := hw
  refine lv_if_eq (tgt := 30) hx hb dX11_copy_14 (by decide) (fun hc2 => ?_) (fun hc2 => ?_)
  ·
    refine lv_bipush (v := (-2)) hx hb dX11_copy_30 (by decide) ?_
    exact W.iret (v := (-2)) hx hb hr (fun t ht hW => ⟨⟨(-2), (), rfl, rfl, trivial⟩, hS.F ht⟩) hS.2.2 dX11_copy_32
  ·
    refine lv_aload_n hx hb dX11_copy_17 rfl (lv_at hl 0 rfl) ?_
    refine lv_iload_n hx hb dX11_copy_18 rfl (lv_at hl 2 rfl) ?_
    have hPc := hP.sub (ws' := [(h0, .inr (11, fM a tp sd pa pb dr)), (a 3, .inl (cN, 85, .inr (.inl (fun _ => 0))))]) [0, 1] rfl
    have hKc := hK.sub (tys' := [(cN, .long)]) [0] rfl
    have hFc := va_free0 hS hA
    refine va_calli (va_runV (As := [.int z2]) (rest := []) ⟨hx, hb, hml, hown, hts⟩ (c_isThere l D _ h0 a cN tp sd pa pb dr z2) (cwV 1 hts gX11_copy_X11_isThere rfl rfl rfl (by decide +kernel) ⟨(Nat.le_of_ble_eq_true rfl), (Nat.le_of_ble_eq_true rfl)⟩) (PcR_V (q0 := 0) hPc hKc rfl rfl) rfl rfl hl.1 rfl (lv_room (Nat.le_of_ble_eq_true rfl)) dX11_copy_19 ⟨(Nat.le_of_ble_eq_true rfl), (Nat.le_of_ble_eq_true rfl)⟩) hS (fun q _ h => hFc q h) hFc (fun r3 uu tt H locs htt hvm hw hB hz1 hk1 hS => ?_)
    have hP := va_keep hP hk1
    try dsimp only at hw
    clear hB hz1 hk1 hFc hPc hKc
    obtain rfl : r3 = 0 := hw
    refine lv_if_eq (tgt := 30) hx hb dX11_copy_22 (by decide) (fun hc => ?_) (fun hc => absurd (by decide) hc)
    refine lv_bipush (v := (-2)) hx hb dX11_copy_30 (by decide) ?_
    exact W.iret (v := (-2)) hx hb hr (fun t ht hW => ⟨⟨(-2), (), rfl, rfl, trivial⟩, hS.F ht⟩) hS.2.2 dX11_copy_32
