def NN (U : State) : Prop := va_Nw (.methodLinkNest RX5 11 yX0_init "ClashFree") U ∧ va_Nw (.methodLinkNest RX6 20 yX8_init "ClashFree") U ∧ va_Nw (.methodLinkNest RX9 11 yX0_init "ClashFree") U ∧ va_AO RX9 U
theorem NN.warm {s U : State} (hW : s.WarmedH U.vm) (h : NN s) : NN U := ⟨va_Nw.warmM hW h.1, va_Nw.warmM hW h.2.1, va_Nw.warmM hW h.2.2.1, va_AO.moved hW.alike h.2.2.2⟩
theorem NN.blind {U : State} {g : JFrame} {mk : MethodId} {a : Array Value} (h : NN U) : NN (U.calling g mk a) := ⟨va_Nw.same rfl rfl h.1, va_Nw.same rfl rfl h.2.1, va_Nw.same rfl rfl h.2.2.1, va_AO.moved (u := U) (U := U.calling g mk a) (Vm.Alike.refl U.vm) h.2.2.2⟩
def PcWN (D : va_G) (av : List Value) (sz : Nat) (ws : va_W) (tys : List (ClassId × FieldType)) : Array Value → State → Prop := va_Pc av (fun U => U.heap.size = sz ∧ va_P D vwCl ws U.heap ∧ va_K D vwCl tys U ∧ va_D (fun _ => True) ws ∧ NN U)
theorem PcWN_b {D : va_G} {av : List Value} {sz : Nat} {ws : va_W} {tys : List (ClassId × FieldType)} : FrameBlind (PcWN D av sz ws tys) := fun a U g mk q => by
  obtain ⟨q0, q1, qP, qK, qD, qN⟩ := q
  exact ⟨q0, q1, qP, va_K.moved (u := U) (U := U.calling g mk a) (Vm.Alike.refl U.vm) qK, qD, qN.blind⟩
theorem PcWN_S {D : va_G} {s : State} {H : Heap} {A : Nat → Prop} {av : List Value} {ws : va_W} {tys : List (ClassId × FieldType)} (hP : va_P D vwCl ws H) (hK : va_K D vwCl tys s) (hD : va_D A ws) (hN : NN s) : PreS s H (PcWN D av H.size ws tys) av := ⟨PcWN_b, fun U hU hW => ⟨rfl, by rw [hU], by rw [hU]; exact hP, va_K.moved hW.alike hK, hD.weaken (fun _ _ _ _ => trivial), hN.warm hW⟩⟩
theorem PcWN_V {D : va_G} {s : State} {H : Heap} {A : Nat → Prop} {C : String} {T : u_T} {N ci q0 b : Nat} {fs As : List Value} {ws : va_W} {tys : List (ClassId × FieldType)} (hP : va_P D vwCl ws H) (hK : va_K D vwCl tys s) (hD : va_D A ws) (hN : NN s) (he : ws[q0]? = some (b, .inr (ci, fs))) (hc : vwCl[ci]? = some (C, T, N)) : PreV s H C b (PcWN D (.ref b :: As) H.size ws tys) As := ⟨PcWN_b, va_recv hK hP hc he, fun U hU hW => ⟨rfl, by rw [hU], by rw [hU]; exact hP, va_K.moved hW.alike hK, hD.weaken (fun _ _ _ _ => trivial), hN.warm hW⟩⟩
def own_c_X0_init : List Cond := [.methodLink RX0 3 objectInit, .instanceMethod objectInit, .code objectInit ⟨#[0xb1]⟩ 1 none]
def wp_c_X0_init : List Cond := .code yX0_init cX0_init 1 none :: (own_c_X0_init ++ ([] : List Cond))
set_option maxRecDepth 20000 in
theorem inown_c_X0_init : ∀ w ∈ own_c_X0_init, w ∈ lw_tbl := mem_places [145, 130, 131] (by decide +kernel)
set_option maxRecDepth 20000 in
theorem in_c_X0_init : ∀ w ∈ wp_c_X0_init, w ∈ lw_tbl := List.forall_mem_cons.mpr ⟨List.mem_of_getElem? (i := 144) (by decide +kernel), List.forall_mem_append.mpr ⟨inown_c_X0_init, fun _ h => absurd h List.not_mem_nil⟩⟩
set_option maxRecDepth 20000 in
theorem good_c_X0_init : wp_c_X0_init.all goodWord = true := by decide +kernel
set_option maxHeartbeats 4000000 in
set_option maxRecDepth 100000 in
theorem c_X0_init (l : Launch) (D : va_G) (sz : Nat) (h0 : Nat)  : Met l yX0_init wp_c_X0_init ({ frames := 1, cells := 0, slots := 0, locals := 12 }) (PcW D [.ref h0] sz [(h0, .inr (0, [.long 0, .int 0, .int 0, .int 0]))] []) (va_Qv (fun (_ : (Nat → Nat) × (Nat → ClassId)) => True) (fun (u : (Nat → Nat) × (Nat → ClassId)) t => va_P D vwCl [(h0, .inr (0, [.long 0, .int 0, .int 0, .int 0]))] t.heap ∧ va_K D vwCl [] t ∧ va_D (va_A [(h0, .inr (0, [.long 0, .int 0, .int 0, .int 0]))] sz) [(h0, .inr (0, [.long 0, .int 0, .int 0, .int 0]))]) (va_A [(h0, .inr (0, [.long 0, .int 0, .int 0, .int 0]))] sz)) 0 0 (va_A [(h0, .inr (0, [.long 0, .int 0, .int 0, .int 0]))] sz) := by
  refine Met.ofW (cc := cX0_init) (maxL := 1) (ret := none) (by decide) rfl ?_
  intro p e s m args below meth c s₁ B hml hv
  obtain ⟨rfl, hsz, hP, hK, hD0⟩ := hv
  have hx := B.exec
  have hb := B.bytes
  have hr := B.returns
  have hts := atoms_spec (ws := wp_c_X0_init) B.pre
  have hown : s.vm.findClass RX0 = some m.cls := findClass_of_methodNamed B.named
  have hlocks := B.notSynchronized
  have hin : meth.name = "<init>" := (name_of_methodNamed B.named B.method).1
  subst hsz
  have hD := hD0.self (sz := s.heap.size)
  generalize hAe : va_A [(h0, .inr (0, [.long 0, .int 0, .int 0, .int 0]))] s.heap.size = A at hD ⊢
  have hA : ∀ q : Nat, s.heap.size ≤ q → A q := fun q h => by rw [← hAe]; exact Or.inr h
  have hS : va_S A s.heap s.heap [] := va_S.rf
  have hP : va_P D vwCl [(h0, .inr (0, [.long 0, .int 0, .int 0, .int 0]))] s.heap := hP
  have hl := lv_entry ([.ref h0]) (n := 1) (Nat.le_of_ble_eq_true rfl)
  rw [lg_entry_eq]
  generalize (lg_sl ([.ref h0]) ++ List.replicate (1 - (lg_sl ([.ref h0])).length) Slot.unset).toArray = ls at hl ⊢
  have hl : lv_has ls 1 [(0, .ref h0)] := hl
  refine lv_aload_n hx hb dX0_init_0 rfl (lv_at hl 0 rfl) ?_
  refine W.objInit hx hb hown (hts (.methodLink RX0 3 objectInit) (List.mem_of_getElem? (i := 1) rfl)) (hts (.instanceMethod objectInit) (List.mem_of_getElem? (i := 2) rfl)) (hts (.code objectInit ⟨#[0xb1]⟩ 1 none) (List.mem_of_getElem? (i := 3) rfl)) rfl (by rw [hml]; exact hl.1) rfl dX0_init_1 (Nat.le_of_ble_eq_true rfl) (Nat.le_of_ble_eq_true rfl) ?_
  refine W.eq (g2 := F0 m 4 ls []) rfl ?_
  exact W.vret hx hb hr (fun t ht hW => ⟨⟨((fun i => [0, 0, 0, 0].getD i 0), (fun i => D.1 0)), rfl, trivial, by rw [ht]; exact hP.sub [0] rfl, va_K.moved hW.alike (hK.sub [] rfl), hD.sub [0] (by decide) rfl⟩, hS.F ht⟩) hS.2.2 dX0_init_4

def own_c_X8_init : List Cond := [.methodLink RX8 3 objectInit, .instanceMethod objectInit, .code objectInit ⟨#[0xb1]⟩ 1 none]
def wp_c_X8_init : List Cond := .code yX8_init cX8_init 1 none :: (own_c_X8_init ++ ([] : List Cond))
set_option maxRecDepth 20000 in
theorem inown_c_X8_init : ∀ w ∈ own_c_X8_init, w ∈ lw_tbl := mem_places [301, 130, 131] (by decide +kernel)
set_option maxRecDepth 20000 in
theorem in_c_X8_init : ∀ w ∈ wp_c_X8_init, w ∈ lw_tbl := List.forall_mem_cons.mpr ⟨List.mem_of_getElem? (i := 300) (by decide +kernel), List.forall_mem_append.mpr ⟨inown_c_X8_init, fun _ h => absurd h List.not_mem_nil⟩⟩
set_option maxRecDepth 20000 in
theorem good_c_X8_init : wp_c_X8_init.all goodWord = true := by decide +kernel
set_option maxHeartbeats 4000000 in
set_option maxRecDepth 100000 in
theorem c_X8_init (l : Launch) (D : va_G) (sz : Nat) (h0 : Nat)  : Met l yX8_init wp_c_X8_init ({ frames := 1, cells := 0, slots := 0, locals := 12 }) (PcW D [.ref h0] sz [(h0, .inr (8, [.null, .int 0, .int 0, .int 0, .int 0, .int 0, .int 0]))] []) (va_Qv (fun (_ : (Nat → Nat) × (Nat → ClassId)) => True) (fun (u : (Nat → Nat) × (Nat → ClassId)) t => va_P D vwCl [(h0, .inr (8, [.null, .int 0, .int 0, .int 0, .int 0, .int 0, .int 0]))] t.heap ∧ va_K D vwCl [] t ∧ va_D (va_A [(h0, .inr (8, [.null, .int 0, .int 0, .int 0, .int 0, .int 0, .int 0]))] sz) [(h0, .inr (8, [.null, .int 0, .int 0, .int 0, .int 0, .int 0, .int 0]))]) (va_A [(h0, .inr (8, [.null, .int 0, .int 0, .int 0, .int 0, .int 0, .int 0]))] sz)) 0 0 (va_A [(h0, .inr (8, [.null, .int 0, .int 0, .int 0, .int 0, .int 0, .int 0]))] sz) := by
  refine Met.ofW (cc := cX8_init) (maxL := 1) (ret := none) (by decide) rfl ?_
  intro p e s m args below meth c s₁ B hml hv
  obtain ⟨rfl, hsz, hP, hK, hD0⟩ := hv
  have hx := B.exec
  have hb := B.bytes
  have hr := B.returns
  have hts := atoms_spec (ws := wp_c_X8_init) B.pre
  have hown : s.vm.findClass RX8 = some m.cls := findClass_of_methodNamed B.named
  have hlocks := B.notSynchronized
  have hin : meth.name = "<init>" := (name_of_methodNamed B.named B.method).1
  subst hsz
  have hD := hD0.self (sz := s.heap.size)
  generalize hAe : va_A [(h0, .inr (8, [.null, .int 0, .int 0, .int 0, .int 0, .int 0, .int 0]))] s.heap.size = A at hD ⊢
  have hA : ∀ q : Nat, s.heap.size ≤ q → A q := fun q h => by rw [← hAe]; exact Or.inr h
  have hS : va_S A s.heap s.heap [] := va_S.rf
  have hP : va_P D vwCl [(h0, .inr (8, [.null, .int 0, .int 0, .int 0, .int 0, .int 0, .int 0]))] s.heap := hP
  have hl := lv_entry ([.ref h0]) (n := 1) (Nat.le_of_ble_eq_true rfl)
  rw [lg_entry_eq]
  generalize (lg_sl ([.ref h0]) ++ List.replicate (1 - (lg_sl ([.ref h0])).length) Slot.unset).toArray = ls at hl ⊢
  have hl : lv_has ls 1 [(0, .ref h0)] := hl
  refine lv_aload_n hx hb dX8_init_0 rfl (lv_at hl 0 rfl) ?_
  refine W.objInit hx hb hown (hts (.methodLink RX8 3 objectInit) (List.mem_of_getElem? (i := 1) rfl)) (hts (.instanceMethod objectInit) (List.mem_of_getElem? (i := 2) rfl)) (hts (.code objectInit ⟨#[0xb1]⟩ 1 none) (List.mem_of_getElem? (i := 3) rfl)) rfl (by rw [hml]; exact hl.1) rfl dX8_init_1 (Nat.le_of_ble_eq_true rfl) (Nat.le_of_ble_eq_true rfl) ?_
  refine W.eq (g2 := F0 m 4 ls []) rfl ?_
  exact W.vret hx hb hr (fun t ht hW => ⟨⟨((fun i => [0, 0, 0, 0, 0, 0, 0].getD i 0), (fun i => D.1 0)), rfl, trivial, by rw [ht]; exact hP.sub [0] rfl, va_K.moved hW.alike (hK.sub [] rfl), hD.sub [0] (by decide) rfl⟩, hS.F ht⟩) hS.2.2 dX8_init_4

def own_c_X1_init : List Cond := [.methodLink RX1 3 objectInit, .instanceMethod objectInit, .code objectInit ⟨#[0xb1]⟩ 1 none, .arrayClass .int, .fieldLink RX1 9 "ClashFree$Image" "bytes" "[I"]
def wp_c_X1_init : List Cond := .code yX1_init cX1_init 1 none :: (own_c_X1_init ++ (wsX10 ++ ([] : List Cond)))
set_option maxRecDepth 20000 in
theorem inown_c_X1_init : ∀ w ∈ own_c_X1_init, w ∈ lw_tbl := mem_places [256, 130, 131, 171, 259] (by decide +kernel)
set_option maxRecDepth 20000 in
theorem in_c_X1_init : ∀ w ∈ wp_c_X1_init, w ∈ lw_tbl := List.forall_mem_cons.mpr ⟨List.mem_of_getElem? (i := 255) (by decide +kernel), List.forall_mem_append.mpr ⟨inown_c_X1_init, List.forall_mem_append.mpr ⟨lwb_X1, fun _ h => absurd h List.not_mem_nil⟩⟩⟩
set_option maxRecDepth 20000 in
theorem good_c_X1_init : wp_c_X1_init.all goodWord = true := by decide +kernel
set_option maxHeartbeats 4000000 in
set_option maxRecDepth 100000 in
theorem c_X1_init (l : Launch) (D : va_G) (sz : Nat) (h0 : Nat)  : Met l yX1_init wp_c_X1_init ({ frames := 1, cells := 1, slots := 1294, locals := 12 }) (PcW D [.ref h0] sz [(h0, .inr (1, [.int 0, .null]))] []) (va_Qv (fun (_ : (Nat → Nat) × (Nat → ClassId)) => True) (fun (u : (Nat → Nat) × (Nat → ClassId)) t => va_P D vwCl [(h0, .inr (1, [.int 0, .ref (u.1 1)]))] t.heap ∧ va_K D vwCl [] t ∧ va_D (va_A [(h0, .inr (1, [.int 0, .null]))] sz) [(h0, .inr (1, [.int 0, .ref (u.1 1)]))]) (va_A [(h0, .inr (1, [.int 0, .null]))] sz)) 1 1294 (va_A [(h0, .inr (1, [.int 0, .null]))] sz) := by
  refine Met.ofW (cc := cX1_init) (maxL := 1) (ret := none) (by decide) rfl ?_
  intro p e s m args below meth c s₁ B hml hv
  obtain ⟨rfl, hsz, hP, hK, hD0⟩ := hv
  have hx := B.exec
  have hb := B.bytes
  have hr := B.returns
  have hts := atoms_spec (ws := wp_c_X1_init) B.pre
  have hin_X1 : ∀ w ∈ wsX10, w ∈ wp_c_X1_init := fun _ h => (List.mem_cons_of_mem _ (List.mem_append_right _ (List.mem_append_left _ h)))
  have hown : s.vm.findClass RX1 = some m.cls := findClass_of_methodNamed B.named
  have hlocks := B.notSynchronized
  have hin : meth.name = "<init>" := (name_of_methodNamed B.named B.method).1
  subst hsz
  have hD := hD0.self (sz := s.heap.size)
  generalize hAe : va_A [(h0, .inr (1, [.int 0, .null]))] s.heap.size = A at hD ⊢
  have hA : ∀ q : Nat, s.heap.size ≤ q → A q := fun q h => by rw [← hAe]; exact Or.inr h
  have hS : va_S A s.heap s.heap [] := va_S.rf
  have hP : va_P D vwCl [(h0, .inr (1, [.int 0, .null]))] s.heap := hP
  have hl := lv_entry ([.ref h0]) (n := 1) (Nat.le_of_ble_eq_true rfl)
  rw [lg_entry_eq]
  generalize (lg_sl ([.ref h0]) ++ List.replicate (1 - (lg_sl ([.ref h0])).length) Slot.unset).toArray = ls at hl ⊢
  have hl : lv_has ls 1 [(0, .ref h0)] := hl
  refine lv_aload_n hx hb dX1_init_0 rfl (lv_at hl 0 rfl) ?_
  refine W.objInit hx hb hown (hts (.methodLink RX1 3 objectInit) (List.mem_of_getElem? (i := 1) rfl)) (hts (.instanceMethod objectInit) (List.mem_of_getElem? (i := 2) rfl)) (hts (.code objectInit ⟨#[0xb1]⟩ 1 none) (List.mem_of_getElem? (i := 3) rfl)) rfl (by rw [hml]; exact hl.1) rfl dX1_init_1 (Nat.le_of_ble_eq_true rfl) (Nat.le_of_ble_eq_true rfl) ?_
  refine W.eq (g2 := F0 m 4 ls []) rfl ?_
  refine lv_aload_n hx hb dX1_init_4 rfl (lv_at hl 0 rfl) ?_
  refine lv_sipush (v := 1294) hx hb dX1_init_5 (by decide) ?_
  refine va_newa (atype := .int) (ty := .int) (N' := 1294) (a0 := (1294, .inl (fun _ => 0))) hx hb (hts (.arrayClass .int) (List.mem_of_getElem? (i := 4) rfl)) rfl hK hP hD hS hA (fun _ => rfl) (by decide) (by decide) (Nat.le_of_ble_eq_true rfl) (Nat.le_of_ble_eq_true rfl) (Nat.le_of_ble_eq_true rfl) dX1_init_8 (fun q1 cq1 H hK hP hD hS => ?_)
  refine W.widen (k := 1) (n := 1294) (Nat.le_of_ble_eq_true rfl) (Nat.le_of_ble_eq_true rfl) ?_
  have hK : va_K D vwCl [(cq1, .int)] s := hK
  have hP : va_P D vwCl [(h0, .inr (1, [.int 0, .null])), (q1, .inl (cq1, 1294, .inl (fun _ => 0)))] H := hP
  have hD : va_D A [(h0, .inr (1, [.int 0, .null])), (q1, .inl (cq1, 1294, .inl (fun _ => 0)))] := hD
  refine va_putF (D := D) (ci := 1) (v := .ref q1) (ty := (.array .int)) (C := RX1) (T := TX1) (N := 2) hx hb hts hin_X1 tyX1 tyX1_ok nmX1 hown hK hP hD hS 0 rfl rfl 1 (by decide) (hts (.fieldLink RX1 9 "ClashFree$Image" "bytes" "[I") (List.mem_of_getElem? (i := 5) rfl)) (fun _ h9 => h9) rfl hin rfl (by decide +kernel) rfl rfl (Nat.le_of_ble_eq_true rfl) dX1_init_10 (fun H locs hP hD hS => ?_)
  have hP : va_P D vwCl [(h0, .inr (1, [.int 0, .ref q1])), (q1, .inl (cq1, 1294, .inl (fun _ => 0)))] H := hP
  have hD : va_D A [(h0, .inr (1, [.int 0, .ref q1])), (q1, .inl (cq1, 1294, .inl (fun _ => 0)))] := hD
  have hP := hP.sub (ws' := [(h0, .inr (1, [.int 0, .ref q1]))]) [0] rfl
  have hD := hD.sub (ws' := [(h0, .inr (1, [.int 0, .ref q1]))]) [0] (by decide) rfl
  have hK := hK.sub (tys' := []) [] rfl
  exact W.vret hx hb hr (fun t ht hW => ⟨⟨((fun i => [0, q1].getD i 0), (fun i => D.1 0)), rfl, trivial, by rw [ht]; exact hP.sub [0] rfl, va_K.moved hW.alike (hK.sub [] rfl), hD.sub [0] (by decide) rfl⟩, hS.F ht⟩) hS.2.2 dX1_init_13

def own_c_X2_init : List Cond := [.methodLink RX2 3 objectInit, .instanceMethod objectInit, .code objectInit ⟨#[0xb1]⟩ 1 none, .arrayClass .int, .fieldLink RX2 9 "ClashFree$Keys" "keys" "[I", .fieldLink RX2 15 "ClashFree$Keys" "values" "[I"]
def wp_c_X2_init : List Cond := .code yX2_init cX2_init 1 none :: (own_c_X2_init ++ (wsX20 ++ ([] : List Cond)))
set_option maxRecDepth 20000 in
theorem inown_c_X2_init : ∀ w ∈ own_c_X2_init, w ∈ lw_tbl := mem_places [471, 130, 131, 171, 478, 480] (by decide +kernel)
set_option maxRecDepth 20000 in
theorem in_c_X2_init : ∀ w ∈ wp_c_X2_init, w ∈ lw_tbl := List.forall_mem_cons.mpr ⟨List.mem_of_getElem? (i := 470) (by decide +kernel), List.forall_mem_append.mpr ⟨inown_c_X2_init, List.forall_mem_append.mpr ⟨lwb_X2, fun _ h => absurd h List.not_mem_nil⟩⟩⟩
set_option maxRecDepth 20000 in
theorem good_c_X2_init : wp_c_X2_init.all goodWord = true := by decide +kernel
set_option maxHeartbeats 4000000 in
set_option maxRecDepth 100000 in
theorem c_X2_init (l : Launch) (D : va_G) (sz : Nat) (h0 : Nat)  : Met l yX2_init wp_c_X2_init ({ frames := 1, cells := 2, slots := 320, locals := 12 }) (PcW D [.ref h0] sz [(h0, .inr (2, [.int 0, .null, .null]))] []) (va_Qv (fun (_ : (Nat → Nat) × (Nat → ClassId)) => True) (fun (u : (Nat → Nat) × (Nat → ClassId)) t => va_P D vwCl [(h0, .inr (2, [.int 0, .ref (u.1 1), .ref (u.1 2)]))] t.heap ∧ va_K D vwCl [] t ∧ va_D (va_A [(h0, .inr (2, [.int 0, .null, .null]))] sz) [(h0, .inr (2, [.int 0, .ref (u.1 1), .ref (u.1 2)]))]) (va_A [(h0, .inr (2, [.int 0, .null, .null]))] sz)) 2 320 (va_A [(h0, .inr (2, [.int 0, .null, .null]))] sz) := by
  refine Met.ofW (cc := cX2_init) (maxL := 1) (ret := none) (by decide) rfl ?_
  intro p e s m args below meth c s₁ B hml hv
  obtain ⟨rfl, hsz, hP, hK, hD0⟩ := hv
  have hx := B.exec
  have hb := B.bytes
  have hr := B.returns
  have hts := atoms_spec (ws := wp_c_X2_init) B.pre
  have hin_X2 : ∀ w ∈ wsX20, w ∈ wp_c_X2_init := fun _ h => (List.mem_cons_of_mem _ (List.mem_append_right _ (List.mem_append_left _ h)))
  have hown : s.vm.findClass RX2 = some m.cls := findClass_of_methodNamed B.named
  have hlocks := B.notSynchronized
  have hin : meth.name = "<init>" := (name_of_methodNamed B.named B.method).1
  subst hsz
  have hD := hD0.self (sz := s.heap.size)
  generalize hAe : va_A [(h0, .inr (2, [.int 0, .null, .null]))] s.heap.size = A at hD ⊢
  have hA : ∀ q : Nat, s.heap.size ≤ q → A q := fun q h => by rw [← hAe]; exact Or.inr h
  have hS : va_S A s.heap s.heap [] := va_S.rf
  have hP : va_P D vwCl [(h0, .inr (2, [.int 0, .null, .null]))] s.heap := hP
  have hl := lv_entry ([.ref h0]) (n := 1) (Nat.le_of_ble_eq_true rfl)
  rw [lg_entry_eq]
  generalize (lg_sl ([.ref h0]) ++ List.replicate (1 - (lg_sl ([.ref h0])).length) Slot.unset).toArray = ls at hl ⊢
  have hl : lv_has ls 1 [(0, .ref h0)] := hl
  refine lv_aload_n hx hb dX2_init_0 rfl (lv_at hl 0 rfl) ?_
  refine W.objInit hx hb hown (hts (.methodLink RX2 3 objectInit) (List.mem_of_getElem? (i := 1) rfl)) (hts (.instanceMethod objectInit) (List.mem_of_getElem? (i := 2) rfl)) (hts (.code objectInit ⟨#[0xb1]⟩ 1 none) (List.mem_of_getElem? (i := 3) rfl)) rfl (by rw [hml]; exact hl.1) rfl dX2_init_1 (Nat.le_of_ble_eq_true rfl) (Nat.le_of_ble_eq_true rfl) ?_
  refine W.eq (g2 := F0 m 4 ls []) rfl ?_
  refine lv_aload_n hx hb dX2_init_4 rfl (lv_at hl 0 rfl) ?_
  refine lv_sipush (v := 160) hx hb dX2_init_5 (by decide) ?_
  refine va_newa (atype := .int) (ty := .int) (N' := 160) (a0 := (160, .inl (fun _ => 0))) hx hb (hts (.arrayClass .int) (List.mem_of_getElem? (i := 4) rfl)) rfl hK hP hD hS hA (fun _ => rfl) (by decide) (by decide) (Nat.le_of_ble_eq_true rfl) (Nat.le_of_ble_eq_true rfl) (Nat.le_of_ble_eq_true rfl) dX2_init_8 (fun q1 cq1 H hK hP hD hS => ?_)
  refine W.widen (k := 1) (n := 160) (Nat.le_of_ble_eq_true rfl) (Nat.le_of_ble_eq_true rfl) ?_
  have hK : va_K D vwCl [(cq1, .int)] s := hK
  have hP : va_P D vwCl [(h0, .inr (2, [.int 0, .null, .null])), (q1, .inl (cq1, 160, .inl (fun _ => 0)))] H := hP
  have hD : va_D A [(h0, .inr (2, [.int 0, .null, .null])), (q1, .inl (cq1, 160, .inl (fun _ => 0)))] := hD
  refine va_putF (D := D) (ci := 2) (v := .ref q1) (ty := (.array .int)) (C := RX2) (T := TX2) (N := 3) hx hb hts hin_X2 tyX2 tyX2_ok nmX2 hown hK hP hD hS 0 rfl rfl 1 (by decide) (hts (.fieldLink RX2 9 "ClashFree$Keys" "keys" "[I") (List.mem_of_getElem? (i := 5) rfl)) (fun _ h9 => h9) rfl hin rfl (by decide +kernel) rfl rfl (Nat.le_of_ble_eq_true rfl) dX2_init_10 (fun H locs hP hD hS => ?_)
  have hP : va_P D vwCl [(h0, .inr (2, [.int 0, .ref q1, .null])), (q1, .inl (cq1, 160, .inl (fun _ => 0)))] H := hP
  have hD : va_D A [(h0, .inr (2, [.int 0, .ref q1, .null])), (q1, .inl (cq1, 160, .inl (fun _ => 0)))] := hD
  have hP := hP.sub (ws' := [(h0, .inr (2, [.int 0, .ref q1, .null]))]) [0] rfl
  have hD := hD.sub (ws' := [(h0, .inr (2, [.int 0, .ref q1, .null]))]) [0] (by decide) rfl
  have hK := hK.sub (tys' := []) [] rfl
  refine lv_aload_n hx hb dX2_init_13 rfl (lv_at hl 0 rfl) ?_
  refine lv_sipush (v := 160) hx hb dX2_init_14 (by decide) ?_
  refine va_newa (atype := .int) (ty := .int) (N' := 160) (a0 := (160, .inl (fun _ => 0))) hx hb (hts (.arrayClass .int) (List.mem_of_getElem? (i := 4) rfl)) rfl hK hP hD hS hA (fun _ => rfl) (by decide) (by decide) (Nat.le_of_ble_eq_true rfl) (Nat.le_of_ble_eq_true rfl) (Nat.le_of_ble_eq_true rfl) dX2_init_17 (fun q2 cq2 H hK hP hD hS => ?_)
  refine W.widen (k := 2) (n := 320) (Nat.le_of_ble_eq_true rfl) (Nat.le_of_ble_eq_true rfl) ?_
  have hK : va_K D vwCl [(cq2, .int)] s := hK
  have hP : va_P D vwCl [(h0, .inr (2, [.int 0, .ref q1, .null])), (q2, .inl (cq2, 160, .inl (fun _ => 0)))] H := hP
  have hD : va_D A [(h0, .inr (2, [.int 0, .ref q1, .null])), (q2, .inl (cq2, 160, .inl (fun _ => 0)))] := hD
  refine va_putF (D := D) (ci := 2) (v := .ref q2) (ty := (.array .int)) (C := RX2) (T := TX2) (N := 3) hx hb hts hin_X2 tyX2 tyX2_ok nmX2 hown hK hP hD hS 0 rfl rfl 2 (by decide) (hts (.fieldLink RX2 15 "ClashFree$Keys" "values" "[I") (List.mem_of_getElem? (i := 6) rfl)) (fun _ h9 => h9) rfl hin rfl (by decide +kernel) rfl rfl (Nat.le_of_ble_eq_true rfl) dX2_init_19 (fun H locs hP hD hS => ?_)
  have hP : va_P D vwCl [(h0, .inr (2, [.int 0, .ref q1, .ref q2])), (q2, .inl (cq2, 160, .inl (fun _ => 0)))] H := hP
  have hD : va_D A [(h0, .inr (2, [.int 0, .ref q1, .ref q2])), (q2, .inl (cq2, 160, .inl (fun _ => 0)))] := hD
  have hP := hP.sub (ws' := [(h0, .inr (2, [.int 0, .ref q1, .ref q2]))]) [0] rfl
  have hD := hD.sub (ws' := [(h0, .inr (2, [.int 0, .ref q1, .ref q2]))]) [0] (by decide) rfl
  have hK := hK.sub (tys' := []) [] rfl
  exact W.vret hx hb hr (fun t ht hW => ⟨⟨((fun i => [0, q1, q2].getD i 0), (fun i => D.1 0)), rfl, trivial, by rw [ht]; exact hP.sub [0] rfl, va_K.moved hW.alike (hK.sub [] rfl), hD.sub [0] (by decide) rfl⟩, hS.F ht⟩) hS.2.2 dX2_init_22

def own_c_X3_init : List Cond := [.methodLink RX3 3 objectInit, .instanceMethod objectInit, .code objectInit ⟨#[0xb1]⟩ 1 none, .arrayClass .int, .fieldLink RX3 9 "ClashFree$Layout" "held" "[I", .fieldLink RX3 15 "ClashFree$Layout" "roof" "[I", .fieldLink RX3 18 "ClashFree$Layout" "pairA" "[I", .fieldLink RX3 21 "ClashFree$Layout" "pairB" "[I", .fieldLink RX3 24 "ClashFree$Layout" "next" "[I", .fieldLink RX3 27 "ClashFree$Layout" "home" "[I", .fieldLink RX3 30 "ClashFree$Layout" "lies" "[I", .fieldLink RX3 33 "ClashFree$Layout" "order" "[I"]
def wp_c_X3_init : List Cond := .code yX3_init cX3_init 1 none :: (own_c_X3_init ++ (wsX30 ++ ([] : List Cond)))
set_option maxRecDepth 20000 in
theorem inown_c_X3_init : ∀ w ∈ own_c_X3_init, w ∈ lw_tbl := mem_places [177, 130, 131, 171, 191, 195, 198, 200, 208, 202, 203, 206] (by decide +kernel)
set_option maxRecDepth 20000 in
theorem in_c_X3_init : ∀ w ∈ wp_c_X3_init, w ∈ lw_tbl := List.forall_mem_cons.mpr ⟨List.mem_of_getElem? (i := 176) (by decide +kernel), List.forall_mem_append.mpr ⟨inown_c_X3_init, List.forall_mem_append.mpr ⟨lwb_X3, fun _ h => absurd h List.not_mem_nil⟩⟩⟩
set_option maxRecDepth 20000 in
theorem good_c_X3_init : wp_c_X3_init.all goodWord = true := by decide +kernel
set_option maxHeartbeats 4000000 in
set_option maxRecDepth 100000 in
theorem c_X3_init (l : Launch) (D : va_G) (sz : Nat) (h0 : Nat)  : Met l yX3_init wp_c_X3_init ({ frames := 1, cells := 8, slots := 10720, locals := 12 }) (PcW D [.ref h0] sz [(h0, .inr (3, [.int 0, .int 0, .int 0, .int 0, .int 0, .null, .null, .null, .null, .null, .null, .null, .null]))] []) (va_Qv (fun (_ : (Nat → Nat) × (Nat → ClassId)) => True) (fun (u : (Nat → Nat) × (Nat → ClassId)) t => va_P D vwCl [(h0, .inr (3, [.int 0, .int 0, .int 0, .int 0, .int 0, .ref (u.1 5), .ref (u.1 6), .ref (u.1 7), .ref (u.1 8), .ref (u.1 9), .ref (u.1 10), .ref (u.1 11), .ref (u.1 12)])), (u.1 5, .inl (u.2 5, 2048, .inl (fun _ => 0))), (u.1 6, .inl (u.2 6, 2048, .inl (fun _ => 0))), (u.1 12, .inl (u.2 12, 2048, .inl (fun _ => 0)))] t.heap ∧ va_K D vwCl [(u.2 5, .int), (u.2 6, .int), (u.2 12, .int)] t ∧ va_D (va_A [(h0, .inr (3, [.int 0, .int 0, .int 0, .int 0, .int 0, .null, .null, .null, .null, .null, .null, .null, .null]))] sz) [(h0, .inr (3, [.int 0, .int 0, .int 0, .int 0, .int 0, .ref (u.1 5), .ref (u.1 6), .ref (u.1 7), .ref (u.1 8), .ref (u.1 9), .ref (u.1 10), .ref (u.1 11), .ref (u.1 12)])), (u.1 5, .inl (u.2 5, 2048, .inl (fun _ => 0))), (u.1 6, .inl (u.2 6, 2048, .inl (fun _ => 0))), (u.1 12, .inl (u.2 12, 2048, .inl (fun _ => 0)))]) (va_A [(h0, .inr (3, [.int 0, .int 0, .int 0, .int 0, .int 0, .null, .null, .null, .null, .null, .null, .null, .null]))] sz)) 8 10720 (va_A [(h0, .inr (3, [.int 0, .int 0, .int 0, .int 0, .int 0, .null, .null, .null, .null, .null, .null, .null, .null]))] sz) := by
  refine Met.ofW (cc := cX3_init) (maxL := 1) (ret := none) (by decide) rfl ?_
  intro p e s m args below meth c s₁ B hml hv
  obtain ⟨rfl, hsz, hP, hK, hD0⟩ := hv
  have hx := B.exec
  have hb := B.bytes
  have hr := B.returns
  have hts := atoms_spec (ws := wp_c_X3_init) B.pre
  have hin_X3 : ∀ w ∈ wsX30, w ∈ wp_c_X3_init := fun _ h => (List.mem_cons_of_mem _ (List.mem_append_right _ (List.mem_append_left _ h)))
  have hown : s.vm.findClass RX3 = some m.cls := findClass_of_methodNamed B.named
  have hlocks := B.notSynchronized
  have hin : meth.name = "<init>" := (name_of_methodNamed B.named B.method).1
  subst hsz
  have hD := hD0.self (sz := s.heap.size)
  generalize hAe : va_A [(h0, .inr (3, [.int 0, .int 0, .int 0, .int 0, .int 0, .null, .null, .null, .null, .null, .null, .null, .null]))] s.heap.size = A at hD ⊢
  have hA : ∀ q : Nat, s.heap.size ≤ q → A q := fun q h => by rw [← hAe]; exact Or.inr h
  have hS : va_S A s.heap s.heap [] := va_S.rf
  have hP : va_P D vwCl [(h0, .inr (3, [.int 0, .int 0, .int 0, .int 0, .int 0, .null, .null, .null, .null, .null, .null, .null, .null]))] s.heap := hP
  have hl := lv_entry ([.ref h0]) (n := 1) (Nat.le_of_ble_eq_true rfl)
  rw [lg_entry_eq]
  generalize (lg_sl ([.ref h0]) ++ List.replicate (1 - (lg_sl ([.ref h0])).length) Slot.unset).toArray = ls at hl ⊢
  have hl : lv_has ls 1 [(0, .ref h0)] := hl
  refine lv_aload_n hx hb dX3_init_0 rfl (lv_at hl 0 rfl) ?_
  refine W.objInit hx hb hown (hts (.methodLink RX3 3 objectInit) (List.mem_of_getElem? (i := 1) rfl)) (hts (.instanceMethod objectInit) (List.mem_of_getElem? (i := 2) rfl)) (hts (.code objectInit ⟨#[0xb1]⟩ 1 none) (List.mem_of_getElem? (i := 3) rfl)) rfl (by rw [hml]; exact hl.1) rfl dX3_init_1 (Nat.le_of_ble_eq_true rfl) (Nat.le_of_ble_eq_true rfl) ?_
  refine W.eq (g2 := F0 m 4 ls []) rfl ?_
  refine lv_aload_n hx hb dX3_init_4 rfl (lv_at hl 0 rfl) ?_
  refine lv_sipush (v := 2048) hx hb dX3_init_5 (by decide) ?_
  refine va_newa (atype := .int) (ty := .int) (N' := 2048) (a0 := (2048, .inl (fun _ => 0))) hx hb (hts (.arrayClass .int) (List.mem_of_getElem? (i := 4) rfl)) rfl hK hP hD hS hA (fun _ => rfl) (by decide) (by decide) (Nat.le_of_ble_eq_true rfl) (Nat.le_of_ble_eq_true rfl) (Nat.le_of_ble_eq_true rfl) dX3_init_8 (fun q1 cq1 H hK hP hD hS => ?_)
  refine W.widen (k := 1) (n := 2048) (Nat.le_of_ble_eq_true rfl) (Nat.le_of_ble_eq_true rfl) ?_
  have hK : va_K D vwCl [(cq1, .int)] s := hK
  have hP : va_P D vwCl [(h0, .inr (3, [.int 0, .int 0, .int 0, .int 0, .int 0, .null, .null, .null, .null, .null, .null, .null, .null])), (q1, .inl (cq1, 2048, .inl (fun _ => 0)))] H := hP
  have hD : va_D A [(h0, .inr (3, [.int 0, .int 0, .int 0, .int 0, .int 0, .null, .null, .null, .null, .null, .null, .null, .null])), (q1, .inl (cq1, 2048, .inl (fun _ => 0)))] := hD
  refine va_putF (D := D) (ci := 3) (v := .ref q1) (ty := (.array .int)) (C := RX3) (T := TX3) (N := 13) hx hb hts hin_X3 tyX3 tyX3_ok nmX3 hown hK hP hD hS 0 rfl rfl 5 (by decide) (hts (.fieldLink RX3 9 "ClashFree$Layout" "held" "[I") (List.mem_of_getElem? (i := 5) rfl)) (fun _ h9 => h9) rfl hin rfl (by decide +kernel) rfl rfl (Nat.le_of_ble_eq_true rfl) dX3_init_10 (fun H locs hP hD hS => ?_)
  have hP : va_P D vwCl [(h0, .inr (3, [.int 0, .int 0, .int 0, .int 0, .int 0, .ref q1, .null, .null, .null, .null, .null, .null, .null])), (q1, .inl (cq1, 2048, .inl (fun _ => 0)))] H := hP
  have hD : va_D A [(h0, .inr (3, [.int 0, .int 0, .int 0, .int 0, .int 0, .ref q1, .null, .null, .null, .null, .null, .null, .null])), (q1, .inl (cq1, 2048, .inl (fun _ => 0)))] := hD
  refine lv_aload_n hx hb dX3_init_13 rfl (lv_at hl 0 rfl) ?_
  refine lv_sipush (v := 2048) hx hb dX3_init_14 (by decide) ?_
  refine va_newa (atype := .int) (ty := .int) (N' := 2048) (a0 := (2048, .inl (fun _ => 0))) hx hb (hts (.arrayClass .int) (List.mem_of_getElem? (i := 4) rfl)) rfl hK hP hD hS hA (fun _ => rfl) (by decide) (by decide) (Nat.le_of_ble_eq_true rfl) (Nat.le_of_ble_eq_true rfl) (Nat.le_of_ble_eq_true rfl) dX3_init_17 (fun q2 cq2 H hK hP hD hS => ?_)
  refine W.widen (k := 2) (n := 4096) (Nat.le_of_ble_eq_true rfl) (Nat.le_of_ble_eq_true rfl) ?_
  have hK : va_K D vwCl [(cq1, .int), (cq2, .int)] s := hK
  have hP : va_P D vwCl [(h0, .inr (3, [.int 0, .int 0, .int 0, .int 0, .int 0, .ref q1, .null, .null, .null, .null, .null, .null, .null])), (q1, .inl (cq1, 2048, .inl (fun _ => 0))), (q2, .inl (cq2, 2048, .inl (fun _ => 0)))] H := hP
  have hD : va_D A [(h0, .inr (3, [.int 0, .int 0, .int 0, .int 0, .int 0, .ref q1, .null, .null, .null, .null, .null, .null, .null])), (q1, .inl (cq1, 2048, .inl (fun _ => 0))), (q2, .inl (cq2, 2048, .inl (fun _ => 0)))] := hD
  refine va_putF (D := D) (ci := 3) (v := .ref q2) (ty := (.array .int)) (C := RX3) (T := TX3) (N := 13) hx hb hts hin_X3 tyX3 tyX3_ok nmX3 hown hK hP hD hS 0 rfl rfl 6 (by decide) (hts (.fieldLink RX3 15 "ClashFree$Layout" "roof" "[I") (List.mem_of_getElem? (i := 6) rfl)) (fun _ h9 => h9) rfl hin rfl (by decide +kernel) rfl rfl (Nat.le_of_ble_eq_true rfl) dX3_init_19 (fun H locs hP hD hS => ?_)
  have hP : va_P D vwCl [(h0, .inr (3, [.int 0, .int 0, .int 0, .int 0, .int 0, .ref q1, .ref q2, .null, .null, .null, .null, .null, .null])), (q1, .inl (cq1, 2048, .inl (fun _ => 0))), (q2, .inl (cq2, 2048, .inl (fun _ => 0)))] H := hP
  have hD : va_D A [(h0, .inr (3, [.int 0, .int 0, .int 0, .int 0, .int 0, .ref q1, .ref q2, .null, .null, .null, .null, .null, .null])), (q1, .inl (cq1, 2048, .inl (fun _ => 0))), (q2, .inl (cq2, 2048, .inl (fun _ => 0)))] := hD
  refine lv_aload_n hx hb dX3_init_22 rfl (lv_at hl 0 rfl) ?_
  refine lv_sipush (v := 2048) hx hb dX3_init_23 (by decide) ?_
  refine va_newa (atype := .int) (ty := .int) (N' := 2048) (a0 := (2048, .inl (fun _ => 0))) hx hb (hts (.arrayClass .int) (List.mem_of_getElem? (i := 4) rfl)) rfl hK hP hD hS hA (fun _ => rfl) (by decide) (by decide) (Nat.le_of_ble_eq_true rfl) (Nat.le_of_ble_eq_true rfl) (Nat.le_of_ble_eq_true rfl) dX3_init_26 (fun q3 cq3 H hK hP hD hS => ?_)
  refine W.widen (k := 3) (n := 6144) (Nat.le_of_ble_eq_true rfl) (Nat.le_of_ble_eq_true rfl) ?_
  have hK : va_K D vwCl [(cq1, .int), (cq2, .int), (cq3, .int)] s := hK
  have hP : va_P D vwCl [(h0, .inr (3, [.int 0, .int 0, .int 0, .int 0, .int 0, .ref q1, .ref q2, .null, .null, .null, .null, .null, .null])), (q1, .inl (cq1, 2048, .inl (fun _ => 0))), (q2, .inl (cq2, 2048, .inl (fun _ => 0))), (q3, .inl (cq3, 2048, .inl (fun _ => 0)))] H := hP
  have hD : va_D A [(h0, .inr (3, [.int 0, .int 0, .int 0, .int 0, .int 0, .ref q1, .ref q2, .null, .null, .null, .null, .null, .null])), (q1, .inl (cq1, 2048, .inl (fun _ => 0))), (q2, .inl (cq2, 2048, .inl (fun _ => 0))), (q3, .inl (cq3, 2048, .inl (fun _ => 0)))] := hD
  refine va_putF (D := D) (ci := 3) (v := .ref q3) (ty := (.array .int)) (C := RX3) (T := TX3) (N := 13) hx hb hts hin_X3 tyX3 tyX3_ok nmX3 hown hK hP hD hS 0 rfl rfl 7 (by decide) (hts (.fieldLink RX3 18 "ClashFree$Layout" "pairA" "[I") (List.mem_of_getElem? (i := 7) rfl)) (fun _ h9 => h9) rfl hin rfl (by decide +kernel) rfl rfl (Nat.le_of_ble_eq_true rfl) dX3_init_28 (fun H locs hP hD hS => ?_)
  have hP : va_P D vwCl [(h0, .inr (3, [.int 0, .int 0, .int 0, .int 0, .int 0, .ref q1, .ref q2, .ref q3, .null, .null, .null, .null, .null])), (q1, .inl (cq1, 2048, .inl (fun _ => 0))), (q2, .inl (cq2, 2048, .inl (fun _ => 0))), (q3, .inl (cq3, 2048, .inl (fun _ => 0)))] H := hP
  have hD : va_D A [(h0, .inr (3, [.int 0, .int 0, .int 0, .int 0, .int 0, .ref q1, .ref q2, .ref q3, .null, .null, .null, .null, .null])), (q1, .inl (cq1, 2048, .inl (fun _ => 0))), (q2, .inl (cq2, 2048, .inl (fun _ => 0))), (q3, .inl (cq3, 2048, .inl (fun _ => 0)))] := hD
  have hP := hP.sub (ws' := [(h0, .inr (3, [.int 0, .int 0, .int 0, .int 0, .int 0, .ref q1, .ref q2, .ref q3, .null, .null, .null, .null, .null])), (q1, .inl (cq1, 2048, .inl (fun _ => 0))), (q2, .inl (cq2, 2048, .inl (fun _ => 0)))]) [0, 1, 2] rfl
  have hD := hD.sub (ws' := [(h0, .inr (3, [.int 0, .int 0, .int 0, .int 0, .int 0, .ref q1, .ref q2, .ref q3, .null, .null, .null, .null, .null])), (q1, .inl (cq1, 2048, .inl (fun _ => 0))), (q2, .inl (cq2, 2048, .inl (fun _ => 0)))]) [0, 1, 2] (by decide) rfl
  have hK := hK.sub (tys' := [(cq1, .int), (cq2, .int)]) [0, 1] rfl
  refine lv_aload_n hx hb dX3_init_31 rfl (lv_at hl 0 rfl) ?_
  refine lv_sipush (v := 2048) hx hb dX3_init_32 (by decide) ?_
  refine va_newa (atype := .int) (ty := .int) (N' := 2048) (a0 := (2048, .inl (fun _ => 0))) hx hb (hts (.arrayClass .int) (List.mem_of_getElem? (i := 4) rfl)) rfl hK hP hD hS hA (fun _ => rfl) (by decide) (by decide) (Nat.le_of_ble_eq_true rfl) (Nat.le_of_ble_eq_true rfl) (Nat.le_of_ble_eq_true rfl) dX3_init_35 (fun q4 cq4 H hK hP hD hS => ?_)
  refine W.widen (k := 4) (n := 8192) (Nat.le_of_ble_eq_true rfl) (Nat.le_of_ble_eq_true rfl) ?_
  have hK : va_K D vwCl [(cq1, .int), (cq2, .int), (cq4, .int)] s := hK
  have hP : va_P D vwCl [(h0, .inr (3, [.int 0, .int 0, .int 0, .int 0, .int 0, .ref q1, .ref q2, .ref q3, .null, .null, .null, .null, .null])), (q1, .inl (cq1, 2048, .inl (fun _ => 0))), (q2, .inl (cq2, 2048, .inl (fun _ => 0))), (q4, .inl (cq4, 2048, .inl (fun _ => 0)))] H := hP
  have hD : va_D A [(h0, .inr (3, [.int 0, .int 0, .int 0, .int 0, .int 0, .ref q1, .ref q2, .ref q3, .null, .null, .null, .null, .null])), (q1, .inl (cq1, 2048, .inl (fun _ => 0))), (q2, .inl (cq2, 2048, .inl (fun _ => 0))), (q4, .inl (cq4, 2048, .inl (fun _ => 0)))] := hD
  refine va_putF (D := D) (ci := 3) (v := .ref q4) (ty := (.array .int)) (C := RX3) (T := TX3) (N := 13) hx hb hts hin_X3 tyX3 tyX3_ok nmX3 hown hK hP hD hS 0 rfl rfl 8 (by decide) (hts (.fieldLink RX3 21 "ClashFree$Layout" "pairB" "[I") (List.mem_of_getElem? (i := 8) rfl)) (fun _ h9 => h9) rfl hin rfl (by decide +kernel) rfl rfl (Nat.le_of_ble_eq_true rfl) dX3_init_37 (fun H locs hP hD hS => ?_)
  have hP : va_P D vwCl [(h0, .inr (3, [.int 0, .int 0, .int 0, .int 0, .int 0, .ref q1, .ref q2, .ref q3, .ref q4, .null, .null, .null, .null])), (q1, .inl (cq1, 2048, .inl (fun _ => 0))), (q2, .inl (cq2, 2048, .inl (fun _ => 0))), (q4, .inl (cq4, 2048, .inl (fun _ => 0)))] H := hP
  have hD : va_D A [(h0, .inr (3, [.int 0, .int 0, .int 0, .int 0, .int 0, .ref q1, .ref q2, .ref q3, .ref q4, .null, .null, .null, .null])), (q1, .inl (cq1, 2048, .inl (fun _ => 0))), (q2, .inl (cq2, 2048, .inl (fun _ => 0))), (q4, .inl (cq4, 2048, .inl (fun _ => 0)))] := hD
  have hP := hP.sub (ws' := [(h0, .inr (3, [.int 0, .int 0, .int 0, .int 0, .int 0, .ref q1, .ref q2, .ref q3, .ref q4, .null, .null, .null, .null])), (q1, .inl (cq1, 2048, .inl (fun _ => 0))), (q2, .inl (cq2, 2048, .inl (fun _ => 0)))]) [0, 1, 2] rfl
  have hD := hD.sub (ws' := [(h0, .inr (3, [.int 0, .int 0, .int 0, .int 0, .int 0, .ref q1, .ref q2, .ref q3, .ref q4, .null, .null, .null, .null])), (q1, .inl (cq1, 2048, .inl (fun _ => 0))), (q2, .inl (cq2, 2048, .inl (fun _ => 0)))]) [0, 1, 2] (by decide) rfl
  have hK := hK.sub (tys' := [(cq1, .int), (cq2, .int)]) [0, 1] rfl
  refine lv_aload_n hx hb dX3_init_40 rfl (lv_at hl 0 rfl) ?_
  refine lv_sipush (v := 2048) hx hb dX3_init_41 (by decide) ?_
  refine va_newa (atype := .int) (ty := .int) (N' := 2048) (a0 := (2048, .inl (fun _ => 0))) hx hb (hts (.arrayClass .int) (List.mem_of_getElem? (i := 4) rfl)) rfl hK hP hD hS hA (fun _ => rfl) (by decide) (by decide) (Nat.le_of_ble_eq_true rfl) (Nat.le_of_ble_eq_true rfl) (Nat.le_of_ble_eq_true rfl) dX3_init_44 (fun q5 cq5 H hK hP hD hS => ?_)
  refine W.widen (k := 5) (n := 10240) (Nat.le_of_ble_eq_true rfl) (Nat.le_of_ble_eq_true rfl) ?_
  have hK : va_K D vwCl [(cq1, .int), (cq2, .int), (cq5, .int)] s := hK
  have hP : va_P D vwCl [(h0, .inr (3, [.int 0, .int 0, .int 0, .int 0, .int 0, .ref q1, .ref q2, .ref q3, .ref q4, .null, .null, .null, .null])), (q1, .inl (cq1, 2048, .inl (fun _ => 0))), (q2, .inl (cq2, 2048, .inl (fun _ => 0))), (q5, .inl (cq5, 2048, .inl (fun _ => 0)))] H := hP
  have hD : va_D A [(h0, .inr (3, [.int 0, .int 0, .int 0, .int 0, .int 0, .ref q1, .ref q2, .ref q3, .ref q4, .null, .null, .null, .null])), (q1, .inl (cq1, 2048, .inl (fun _ => 0))), (q2, .inl (cq2, 2048, .inl (fun _ => 0))), (q5, .inl (cq5, 2048, .inl (fun _ => 0)))] := hD
  refine va_putF (D := D) (ci := 3) (v := .ref q5) (ty := (.array .int)) (C := RX3) (T := TX3) (N := 13) hx hb hts hin_X3 tyX3 tyX3_ok nmX3 hown hK hP hD hS 0 rfl rfl 12 (by decide) (hts (.fieldLink RX3 24 "ClashFree$Layout" "next" "[I") (List.mem_of_getElem? (i := 9) rfl)) (fun _ h9 => h9) rfl hin rfl (by decide +kernel) rfl rfl (Nat.le_of_ble_eq_true rfl) dX3_init_46 (fun H locs hP hD hS => ?_)
  have hP : va_P D vwCl [(h0, .inr (3, [.int 0, .int 0, .int 0, .int 0, .int 0, .ref q1, .ref q2, .ref q3, .ref q4, .null, .null, .null, .ref q5])), (q1, .inl (cq1, 2048, .inl (fun _ => 0))), (q2, .inl (cq2, 2048, .inl (fun _ => 0))), (q5, .inl (cq5, 2048, .inl (fun _ => 0)))] H := hP
  have hD : va_D A [(h0, .inr (3, [.int 0, .int 0, .int 0, .int 0, .int 0, .ref q1, .ref q2, .ref q3, .ref q4, .null, .null, .null, .ref q5])), (q1, .inl (cq1, 2048, .inl (fun _ => 0))), (q2, .inl (cq2, 2048, .inl (fun _ => 0))), (q5, .inl (cq5, 2048, .inl (fun _ => 0)))] := hD
  refine lv_aload_n hx hb dX3_init_49 rfl (lv_at hl 0 rfl) ?_
  refine lv_sipush (v := 160) hx hb dX3_init_50 (by decide) ?_
  refine va_newa (atype := .int) (ty := .int) (N' := 160) (a0 := (160, .inl (fun _ => 0))) hx hb (hts (.arrayClass .int) (List.mem_of_getElem? (i := 4) rfl)) rfl hK hP hD hS hA (fun _ => rfl) (by decide) (by decide) (Nat.le_of_ble_eq_true rfl) (Nat.le_of_ble_eq_true rfl) (Nat.le_of_ble_eq_true rfl) dX3_init_53 (fun q6 cq6 H hK hP hD hS => ?_)
  refine W.widen (k := 6) (n := 10400) (Nat.le_of_ble_eq_true rfl) (Nat.le_of_ble_eq_true rfl) ?_
  have hK : va_K D vwCl [(cq1, .int), (cq2, .int), (cq5, .int), (cq6, .int)] s := hK
  have hP : va_P D vwCl [(h0, .inr (3, [.int 0, .int 0, .int 0, .int 0, .int 0, .ref q1, .ref q2, .ref q3, .ref q4, .null, .null, .null, .ref q5])), (q1, .inl (cq1, 2048, .inl (fun _ => 0))), (q2, .inl (cq2, 2048, .inl (fun _ => 0))), (q5, .inl (cq5, 2048, .inl (fun _ => 0))), (q6, .inl (cq6, 160, .inl (fun _ => 0)))] H := hP
  have hD : va_D A [(h0, .inr (3, [.int 0, .int 0, .int 0, .int 0, .int 0, .ref q1, .ref q2, .ref q3, .ref q4, .null, .null, .null, .ref q5])), (q1, .inl (cq1, 2048, .inl (fun _ => 0))), (q2, .inl (cq2, 2048, .inl (fun _ => 0))), (q5, .inl (cq5, 2048, .inl (fun _ => 0))), (q6, .inl (cq6, 160, .inl (fun _ => 0)))] := hD
  refine va_putF (D := D) (ci := 3) (v := .ref q6) (ty := (.array .int)) (C := RX3) (T := TX3) (N := 13) hx hb hts hin_X3 tyX3 tyX3_ok nmX3 hown hK hP hD hS 0 rfl rfl 9 (by decide) (hts (.fieldLink RX3 27 "ClashFree$Layout" "home" "[I") (List.mem_of_getElem? (i := 10) rfl)) (fun _ h9 => h9) rfl hin rfl (by decide +kernel) rfl rfl (Nat.le_of_ble_eq_true rfl) dX3_init_55 (fun H locs hP hD hS => ?_)
  have hP : va_P D vwCl [(h0, .inr (3, [.int 0, .int 0, .int 0, .int 0, .int 0, .ref q1, .ref q2, .ref q3, .ref q4, .ref q6, .null, .null, .ref q5])), (q1, .inl (cq1, 2048, .inl (fun _ => 0))), (q2, .inl (cq2, 2048, .inl (fun _ => 0))), (q5, .inl (cq5, 2048, .inl (fun _ => 0))), (q6, .inl (cq6, 160, .inl (fun _ => 0)))] H := hP
  have hD : va_D A [(h0, .inr (3, [.int 0, .int 0, .int 0, .int 0, .int 0, .ref q1, .ref q2, .ref q3, .ref q4, .ref q6, .null, .null, .ref q5])), (q1, .inl (cq1, 2048, .inl (fun _ => 0))), (q2, .inl (cq2, 2048, .inl (fun _ => 0))), (q5, .inl (cq5, 2048, .inl (fun _ => 0))), (q6, .inl (cq6, 160, .inl (fun _ => 0)))] := hD
  have hP := hP.sub (ws' := [(h0, .inr (3, [.int 0, .int 0, .int 0, .int 0, .int 0, .ref q1, .ref q2, .ref q3, .ref q4, .ref q6, .null, .null, .ref q5])), (q1, .inl (cq1, 2048, .inl (fun _ => 0))), (q2, .inl (cq2, 2048, .inl (fun _ => 0))), (q5, .inl (cq5, 2048, .inl (fun _ => 0)))]) [0, 1, 2, 3] rfl
  have hD := hD.sub (ws' := [(h0, .inr (3, [.int 0, .int 0, .int 0, .int 0, .int 0, .ref q1, .ref q2, .ref q3, .ref q4, .ref q6, .null, .null, .ref q5])), (q1, .inl (cq1, 2048, .inl (fun _ => 0))), (q2, .inl (cq2, 2048, .inl (fun _ => 0))), (q5, .inl (cq5, 2048, .inl (fun _ => 0)))]) [0, 1, 2, 3] (by decide) rfl
  have hK := hK.sub (tys' := [(cq1, .int), (cq2, .int), (cq5, .int)]) [0, 1, 2] rfl
  refine lv_aload_n hx hb dX3_init_58 rfl (lv_at hl 0 rfl) ?_
  refine lv_sipush (v := 160) hx hb dX3_init_59 (by decide) ?_
  refine va_newa (atype := .int) (ty := .int) (N' := 160) (a0 := (160, .inl (fun _ => 0))) hx hb (hts (.arrayClass .int) (List.mem_of_getElem? (i := 4) rfl)) rfl hK hP hD hS hA (fun _ => rfl) (by decide) (by decide) (Nat.le_of_ble_eq_true rfl) (Nat.le_of_ble_eq_true rfl) (Nat.le_of_ble_eq_true rfl) dX3_init_62 (fun q7 cq7 H hK hP hD hS => ?_)
  refine W.widen (k := 7) (n := 10560) (Nat.le_of_ble_eq_true rfl) (Nat.le_of_ble_eq_true rfl) ?_
  have hK : va_K D vwCl [(cq1, .int), (cq2, .int), (cq5, .int), (cq7, .int)] s := hK
  have hP : va_P D vwCl [(h0, .inr (3, [.int 0, .int 0, .int 0, .int 0, .int 0, .ref q1, .ref q2, .ref q3, .ref q4, .ref q6, .null, .null, .ref q5])), (q1, .inl (cq1, 2048, .inl (fun _ => 0))), (q2, .inl (cq2, 2048, .inl (fun _ => 0))), (q5, .inl (cq5, 2048, .inl (fun _ => 0))), (q7, .inl (cq7, 160, .inl (fun _ => 0)))] H := hP
  have hD : va_D A [(h0, .inr (3, [.int 0, .int 0, .int 0, .int 0, .int 0, .ref q1, .ref q2, .ref q3, .ref q4, .ref q6, .null, .null, .ref q5])), (q1, .inl (cq1, 2048, .inl (fun _ => 0))), (q2, .inl (cq2, 2048, .inl (fun _ => 0))), (q5, .inl (cq5, 2048, .inl (fun _ => 0))), (q7, .inl (cq7, 160, .inl (fun _ => 0)))] := hD
  refine va_putF (D := D) (ci := 3) (v := .ref q7) (ty := (.array .int)) (C := RX3) (T := TX3) (N := 13) hx hb hts hin_X3 tyX3 tyX3_ok nmX3 hown hK hP hD hS 0 rfl rfl 10 (by decide) (hts (.fieldLink RX3 30 "ClashFree$Layout" "lies" "[I") (List.mem_of_getElem? (i := 11) rfl)) (fun _ h9 => h9) rfl hin rfl (by decide +kernel) rfl rfl (Nat.le_of_ble_eq_true rfl) dX3_init_64 (fun H locs hP hD hS => ?_)
  have hP : va_P D vwCl [(h0, .inr (3, [.int 0, .int 0, .int 0, .int 0, .int 0, .ref q1, .ref q2, .ref q3, .ref q4, .ref q6, .ref q7, .null, .ref q5])), (q1, .inl (cq1, 2048, .inl (fun _ => 0))), (q2, .inl (cq2, 2048, .inl (fun _ => 0))), (q5, .inl (cq5, 2048, .inl (fun _ => 0))), (q7, .inl (cq7, 160, .inl (fun _ => 0)))] H := hP
  have hD : va_D A [(h0, .inr (3, [.int 0, .int 0, .int 0, .int 0, .int 0, .ref q1, .ref q2, .ref q3, .ref q4, .ref q6, .ref q7, .null, .ref q5])), (q1, .inl (cq1, 2048, .inl (fun _ => 0))), (q2, .inl (cq2, 2048, .inl (fun _ => 0))), (q5, .inl (cq5, 2048, .inl (fun _ => 0))), (q7, .inl (cq7, 160, .inl (fun _ => 0)))] := hD
  have hP := hP.sub (ws' := [(h0, .inr (3, [.int 0, .int 0, .int 0, .int 0, .int 0, .ref q1, .ref q2, .ref q3, .ref q4, .ref q6, .ref q7, .null, .ref q5])), (q1, .inl (cq1, 2048, .inl (fun _ => 0))), (q2, .inl (cq2, 2048, .inl (fun _ => 0))), (q5, .inl (cq5, 2048, .inl (fun _ => 0)))]) [0, 1, 2, 3] rfl
  have hD := hD.sub (ws' := [(h0, .inr (3, [.int 0, .int 0, .int 0, .int 0, .int 0, .ref q1, .ref q2, .ref q3, .ref q4, .ref q6, .ref q7, .null, .ref q5])), (q1, .inl (cq1, 2048, .inl (fun _ => 0))), (q2, .inl (cq2, 2048, .inl (fun _ => 0))), (q5, .inl (cq5, 2048, .inl (fun _ => 0)))]) [0, 1, 2, 3] (by decide) rfl
  have hK := hK.sub (tys' := [(cq1, .int), (cq2, .int), (cq5, .int)]) [0, 1, 2] rfl
  refine lv_aload_n hx hb dX3_init_67 rfl (lv_at hl 0 rfl) ?_
  refine lv_sipush (v := 160) hx hb dX3_init_68 (by decide) ?_
  refine va_newa (atype := .int) (ty := .int) (N' := 160) (a0 := (160, .inl (fun _ => 0))) hx hb (hts (.arrayClass .int) (List.mem_of_getElem? (i := 4) rfl)) rfl hK hP hD hS hA (fun _ => rfl) (by decide) (by decide) (Nat.le_of_ble_eq_true rfl) (Nat.le_of_ble_eq_true rfl) (Nat.le_of_ble_eq_true rfl) dX3_init_71 (fun q8 cq8 H hK hP hD hS => ?_)
  refine W.widen (k := 8) (n := 10720) (Nat.le_of_ble_eq_true rfl) (Nat.le_of_ble_eq_true rfl) ?_
  have hK : va_K D vwCl [(cq1, .int), (cq2, .int), (cq5, .int), (cq8, .int)] s := hK
  have hP : va_P D vwCl [(h0, .inr (3, [.int 0, .int 0, .int 0, .int 0, .int 0, .ref q1, .ref q2, .ref q3, .ref q4, .ref q6, .ref q7, .null, .ref q5])), (q1, .inl (cq1, 2048, .inl (fun _ => 0))), (q2, .inl (cq2, 2048, .inl (fun _ => 0))), (q5, .inl (cq5, 2048, .inl (fun _ => 0))), (q8, .inl (cq8, 160, .inl (fun _ => 0)))] H := hP
  have hD : va_D A [(h0, .inr (3, [.int 0, .int 0, .int 0, .int 0, .int 0, .ref q1, .ref q2, .ref q3, .ref q4, .ref q6, .ref q7, .null, .ref q5])), (q1, .inl (cq1, 2048, .inl (fun _ => 0))), (q2, .inl (cq2, 2048, .inl (fun _ => 0))), (q5, .inl (cq5, 2048, .inl (fun _ => 0))), (q8, .inl (cq8, 160, .inl (fun _ => 0)))] := hD
  refine va_putF (D := D) (ci := 3) (v := .ref q8) (ty := (.array .int)) (C := RX3) (T := TX3) (N := 13) hx hb hts hin_X3 tyX3 tyX3_ok nmX3 hown hK hP hD hS 0 rfl rfl 11 (by decide) (hts (.fieldLink RX3 33 "ClashFree$Layout" "order" "[I") (List.mem_of_getElem? (i := 12) rfl)) (fun _ h9 => h9) rfl hin rfl (by decide +kernel) rfl rfl (Nat.le_of_ble_eq_true rfl) dX3_init_73 (fun H locs hP hD hS => ?_)
  have hP : va_P D vwCl [(h0, .inr (3, [.int 0, .int 0, .int 0, .int 0, .int 0, .ref q1, .ref q2, .ref q3, .ref q4, .ref q6, .ref q7, .ref q8, .ref q5])), (q1, .inl (cq1, 2048, .inl (fun _ => 0))), (q2, .inl (cq2, 2048, .inl (fun _ => 0))), (q5, .inl (cq5, 2048, .inl (fun _ => 0))), (q8, .inl (cq8, 160, .inl (fun _ => 0)))] H := hP
  have hD : va_D A [(h0, .inr (3, [.int 0, .int 0, .int 0, .int 0, .int 0, .ref q1, .ref q2, .ref q3, .ref q4, .ref q6, .ref q7, .ref q8, .ref q5])), (q1, .inl (cq1, 2048, .inl (fun _ => 0))), (q2, .inl (cq2, 2048, .inl (fun _ => 0))), (q5, .inl (cq5, 2048, .inl (fun _ => 0))), (q8, .inl (cq8, 160, .inl (fun _ => 0)))] := hD
  have hP := hP.sub (ws' := [(h0, .inr (3, [.int 0, .int 0, .int 0, .int 0, .int 0, .ref q1, .ref q2, .ref q3, .ref q4, .ref q6, .ref q7, .ref q8, .ref q5])), (q1, .inl (cq1, 2048, .inl (fun _ => 0))), (q2, .inl (cq2, 2048, .inl (fun _ => 0))), (q5, .inl (cq5, 2048, .inl (fun _ => 0)))]) [0, 1, 2, 3] rfl
  have hD := hD.sub (ws' := [(h0, .inr (3, [.int 0, .int 0, .int 0, .int 0, .int 0, .ref q1, .ref q2, .ref q3, .ref q4, .ref q6, .ref q7, .ref q8, .ref q5])), (q1, .inl (cq1, 2048, .inl (fun _ => 0))), (q2, .inl (cq2, 2048, .inl (fun _ => 0))), (q5, .inl (cq5, 2048, .inl (fun _ => 0)))]) [0, 1, 2, 3] (by decide) rfl
  have hK := hK.sub (tys' := [(cq1, .int), (cq2, .int), (cq5, .int)]) [0, 1, 2] rfl
  exact W.vret hx hb hr (fun t ht hW => ⟨⟨((fun i => [0, 0, 0, 0, 0, q1, q2, q3, q4, q6, q7, q8, q5].getD i 0), (fun i => [cq1, cq1, cq1, cq1, cq1, cq1, cq2, cq1, cq1, cq1, cq1, cq1, cq5].getD i cq1)), rfl, trivial, by rw [ht]; exact hP.sub [0, 1, 2, 3] rfl, va_K.moved hW.alike (hK.sub [0, 1, 2] rfl), hD.sub [0, 1, 2, 3] (by decide) rfl⟩, hS.F ht⟩) hS.2.2 dX3_init_76

def own_c_X4_init : List Cond := [.methodLink RX4 3 objectInit, .instanceMethod objectInit, .code objectInit ⟨#[0xb1]⟩ 1 none, .arrayClass .int, .fieldLink RX4 9 "ClashFree$Machine" "roundOf" "[I", .fieldLink RX4 15 "ClashFree$Machine" "operands" "[I"]
def wp_c_X4_init : List Cond := .code yX4_init cX4_init 1 none :: (own_c_X4_init ++ (wsX40 ++ ([] : List Cond)))
set_option maxRecDepth 20000 in
theorem inown_c_X4_init : ∀ w ∈ own_c_X4_init, w ∈ lw_tbl := mem_places [382, 130, 131, 171, 392, 394] (by decide +kernel)
set_option maxRecDepth 20000 in
theorem in_c_X4_init : ∀ w ∈ wp_c_X4_init, w ∈ lw_tbl := List.forall_mem_cons.mpr ⟨List.mem_of_getElem? (i := 381) (by decide +kernel), List.forall_mem_append.mpr ⟨inown_c_X4_init, List.forall_mem_append.mpr ⟨lwb_X4, fun _ h => absurd h List.not_mem_nil⟩⟩⟩
set_option maxRecDepth 20000 in
theorem good_c_X4_init : wp_c_X4_init.all goodWord = true := by decide +kernel
set_option maxHeartbeats 4000000 in
set_option maxRecDepth 100000 in
theorem c_X4_init (l : Launch) (D : va_G) (sz : Nat) (h0 : Nat)  : Met l yX4_init wp_c_X4_init ({ frames := 1, cells := 2, slots := 69, locals := 12 }) (PcW D [.ref h0] sz [(h0, .inr (4, [.int 0, .int 0, .int 0, .int 0, .int 0, .null, .int 0, .null]))] []) (va_Qv (fun (_ : (Nat → Nat) × (Nat → ClassId)) => True) (fun (u : (Nat → Nat) × (Nat → ClassId)) t => va_P D vwCl [(h0, .inr (4, [.int 0, .int 0, .int 0, .int 0, .int 0, .ref (u.1 5), .int 0, .ref (u.1 7)]))] t.heap ∧ va_K D vwCl [] t ∧ va_D (va_A [(h0, .inr (4, [.int 0, .int 0, .int 0, .int 0, .int 0, .null, .int 0, .null]))] sz) [(h0, .inr (4, [.int 0, .int 0, .int 0, .int 0, .int 0, .ref (u.1 5), .int 0, .ref (u.1 7)]))]) (va_A [(h0, .inr (4, [.int 0, .int 0, .int 0, .int 0, .int 0, .null, .int 0, .null]))] sz)) 2 69 (va_A [(h0, .inr (4, [.int 0, .int 0, .int 0, .int 0, .int 0, .null, .int 0, .null]))] sz) := by
  refine Met.ofW (cc := cX4_init) (maxL := 1) (ret := none) (by decide) rfl ?_
  intro p e s m args below meth c s₁ B hml hv
  obtain ⟨rfl, hsz, hP, hK, hD0⟩ := hv
  have hx := B.exec
  have hb := B.bytes
  have hr := B.returns
  have hts := atoms_spec (ws := wp_c_X4_init) B.pre
  have hin_X4 : ∀ w ∈ wsX40, w ∈ wp_c_X4_init := fun _ h => (List.mem_cons_of_mem _ (List.mem_append_right _ (List.mem_append_left _ h)))
  have hown : s.vm.findClass RX4 = some m.cls := findClass_of_methodNamed B.named
  have hlocks := B.notSynchronized
  have hin : meth.name = "<init>" := (name_of_methodNamed B.named B.method).1
  subst hsz
  have hD := hD0.self (sz := s.heap.size)
  generalize hAe : va_A [(h0, .inr (4, [.int 0, .int 0, .int 0, .int 0, .int 0, .null, .int 0, .null]))] s.heap.size = A at hD ⊢
  have hA : ∀ q : Nat, s.heap.size ≤ q → A q := fun q h => by rw [← hAe]; exact Or.inr h
  have hS : va_S A s.heap s.heap [] := va_S.rf
  have hP : va_P D vwCl [(h0, .inr (4, [.int 0, .int 0, .int 0, .int 0, .int 0, .null, .int 0, .null]))] s.heap := hP
  have hl := lv_entry ([.ref h0]) (n := 1) (Nat.le_of_ble_eq_true rfl)
  rw [lg_entry_eq]
  generalize (lg_sl ([.ref h0]) ++ List.replicate (1 - (lg_sl ([.ref h0])).length) Slot.unset).toArray = ls at hl ⊢
  have hl : lv_has ls 1 [(0, .ref h0)] := hl
  refine lv_aload_n hx hb dX4_init_0 rfl (lv_at hl 0 rfl) ?_
  refine W.objInit hx hb hown (hts (.methodLink RX4 3 objectInit) (List.mem_of_getElem? (i := 1) rfl)) (hts (.instanceMethod objectInit) (List.mem_of_getElem? (i := 2) rfl)) (hts (.code objectInit ⟨#[0xb1]⟩ 1 none) (List.mem_of_getElem? (i := 3) rfl)) rfl (by rw [hml]; exact hl.1) rfl dX4_init_1 (Nat.le_of_ble_eq_true rfl) (Nat.le_of_ble_eq_true rfl) ?_
  refine W.eq (g2 := F0 m 4 ls []) rfl ?_
  refine lv_aload_n hx hb dX4_init_4 rfl (lv_at hl 0 rfl) ?_
  refine lv_iconst (v := 5) hx hb dX4_init_5 (by decide) ?_
  refine va_newa (atype := .int) (ty := .int) (N' := 5) (a0 := (5, .inl (fun _ => 0))) hx hb (hts (.arrayClass .int) (List.mem_of_getElem? (i := 4) rfl)) rfl hK hP hD hS hA (fun _ => rfl) (by decide) (by decide) (Nat.le_of_ble_eq_true rfl) (Nat.le_of_ble_eq_true rfl) (Nat.le_of_ble_eq_true rfl) dX4_init_6 (fun q1 cq1 H hK hP hD hS => ?_)
  refine W.widen (k := 1) (n := 5) (Nat.le_of_ble_eq_true rfl) (Nat.le_of_ble_eq_true rfl) ?_
  have hK : va_K D vwCl [(cq1, .int)] s := hK
  have hP : va_P D vwCl [(h0, .inr (4, [.int 0, .int 0, .int 0, .int 0, .int 0, .null, .int 0, .null])), (q1, .inl (cq1, 5, .inl (fun _ => 0)))] H := hP
  have hD : va_D A [(h0, .inr (4, [.int 0, .int 0, .int 0, .int 0, .int 0, .null, .int 0, .null])), (q1, .inl (cq1, 5, .inl (fun _ => 0)))] := hD
  refine va_putF (D := D) (ci := 4) (v := .ref q1) (ty := (.array .int)) (C := RX4) (T := TX4) (N := 8) hx hb hts hin_X4 tyX4 tyX4_ok nmX4 hown hK hP hD hS 0 rfl rfl 5 (by decide) (hts (.fieldLink RX4 9 "ClashFree$Machine" "roundOf" "[I") (List.mem_of_getElem? (i := 5) rfl)) (fun _ h9 => h9) rfl hin rfl (by decide +kernel) rfl rfl (Nat.le_of_ble_eq_true rfl) dX4_init_8 (fun H locs hP hD hS => ?_)
  have hP : va_P D vwCl [(h0, .inr (4, [.int 0, .int 0, .int 0, .int 0, .int 0, .ref q1, .int 0, .null])), (q1, .inl (cq1, 5, .inl (fun _ => 0)))] H := hP
  have hD : va_D A [(h0, .inr (4, [.int 0, .int 0, .int 0, .int 0, .int 0, .ref q1, .int 0, .null])), (q1, .inl (cq1, 5, .inl (fun _ => 0)))] := hD
  have hP := hP.sub (ws' := [(h0, .inr (4, [.int 0, .int 0, .int 0, .int 0, .int 0, .ref q1, .int 0, .null]))]) [0] rfl
  have hD := hD.sub (ws' := [(h0, .inr (4, [.int 0, .int 0, .int 0, .int 0, .int 0, .ref q1, .int 0, .null]))]) [0] (by decide) rfl
  have hK := hK.sub (tys' := []) [] rfl
  refine lv_aload_n hx hb dX4_init_11 rfl (lv_at hl 0 rfl) ?_
  refine lv_bipush (v := 64) hx hb dX4_init_12 (by decide) ?_
  refine va_newa (atype := .int) (ty := .int) (N' := 64) (a0 := (64, .inl (fun _ => 0))) hx hb (hts (.arrayClass .int) (List.mem_of_getElem? (i := 4) rfl)) rfl hK hP hD hS hA (fun _ => rfl) (by decide) (by decide) (Nat.le_of_ble_eq_true rfl) (Nat.le_of_ble_eq_true rfl) (Nat.le_of_ble_eq_true rfl) dX4_init_14 (fun q2 cq2 H hK hP hD hS => ?_)
  refine W.widen (k := 2) (n := 69) (Nat.le_of_ble_eq_true rfl) (Nat.le_of_ble_eq_true rfl) ?_
  have hK : va_K D vwCl [(cq2, .int)] s := hK
  have hP : va_P D vwCl [(h0, .inr (4, [.int 0, .int 0, .int 0, .int 0, .int 0, .ref q1, .int 0, .null])), (q2, .inl (cq2, 64, .inl (fun _ => 0)))] H := hP
  have hD : va_D A [(h0, .inr (4, [.int 0, .int 0, .int 0, .int 0, .int 0, .ref q1, .int 0, .null])), (q2, .inl (cq2, 64, .inl (fun _ => 0)))] := hD
  refine va_putF (D := D) (ci := 4) (v := .ref q2) (ty := (.array .int)) (C := RX4) (T := TX4) (N := 8) hx hb hts hin_X4 tyX4 tyX4_ok nmX4 hown hK hP hD hS 0 rfl rfl 7 (by decide) (hts (.fieldLink RX4 15 "ClashFree$Machine" "operands" "[I") (List.mem_of_getElem? (i := 6) rfl)) (fun _ h9 => h9) rfl hin rfl (by decide +kernel) rfl rfl (Nat.le_of_ble_eq_true rfl) dX4_init_16 (fun H locs hP hD hS => ?_)
  have hP : va_P D vwCl [(h0, .inr (4, [.int 0, .int 0, .int 0, .int 0, .int 0, .ref q1, .int 0, .ref q2])), (q2, .inl (cq2, 64, .inl (fun _ => 0)))] H := hP
  have hD : va_D A [(h0, .inr (4, [.int 0, .int 0, .int 0, .int 0, .int 0, .ref q1, .int 0, .ref q2])), (q2, .inl (cq2, 64, .inl (fun _ => 0)))] := hD
  have hP := hP.sub (ws' := [(h0, .inr (4, [.int 0, .int 0, .int 0, .int 0, .int 0, .ref q1, .int 0, .ref q2]))]) [0] rfl
  have hD := hD.sub (ws' := [(h0, .inr (4, [.int 0, .int 0, .int 0, .int 0, .int 0, .ref q1, .int 0, .ref q2]))]) [0] (by decide) rfl
  have hK := hK.sub (tys' := []) [] rfl
  exact W.vret hx hb hr (fun t ht hW => ⟨⟨((fun i => [0, 0, 0, 0, 0, q1, 0, q2].getD i 0), (fun i => D.1 0)), rfl, trivial, by rw [ht]; exact hP.sub [0] rfl, va_K.moved hW.alike (hK.sub [] rfl), hD.sub [0] (by decide) rfl⟩, hS.F ht⟩) hS.2.2 dX4_init_19

def own_c_X7_init : List Cond := [.methodLink RX7 3 objectInit, .instanceMethod objectInit, .code objectInit ⟨#[0xb1]⟩ 1 none, .arrayClass .int, .fieldLink RX7 9 "ClashFree$Program" "kinds" "[I", .fieldLink RX7 15 "ClashFree$Program" "numbers" "[I", .fieldLink RX7 18 "ClashFree$Program" "links" "[I"]
def wp_c_X7_init : List Cond := .code yX7_init cX7_init 1 none :: (own_c_X7_init ++ (wsX70 ++ ([] : List Cond)))
set_option maxRecDepth 20000 in
theorem inown_c_X7_init : ∀ w ∈ own_c_X7_init, w ∈ lw_tbl := mem_places [277, 130, 131, 171, 281, 283, 285] (by decide +kernel)
set_option maxRecDepth 20000 in
theorem in_c_X7_init : ∀ w ∈ wp_c_X7_init, w ∈ lw_tbl := List.forall_mem_cons.mpr ⟨List.mem_of_getElem? (i := 276) (by decide +kernel), List.forall_mem_append.mpr ⟨inown_c_X7_init, List.forall_mem_append.mpr ⟨lwb_X7, fun _ h => absurd h List.not_mem_nil⟩⟩⟩
set_option maxRecDepth 20000 in
theorem good_c_X7_init : wp_c_X7_init.all goodWord = true := by decide +kernel
set_option maxHeartbeats 4000000 in
set_option maxRecDepth 100000 in
theorem c_X7_init (l : Launch) (D : va_G) (sz : Nat) (h0 : Nat)  : Met l yX7_init wp_c_X7_init ({ frames := 1, cells := 3, slots := 1800, locals := 12 }) (PcW D [.ref h0] sz [(h0, .inr (7, [.int 0, .null, .null, .null]))] []) (va_Qv (fun (_ : (Nat → Nat) × (Nat → ClassId)) => True) (fun (u : (Nat → Nat) × (Nat → ClassId)) t => va_P D vwCl [(h0, .inr (7, [.int 0, .ref (u.1 1), .ref (u.1 2), .ref (u.1 3)]))] t.heap ∧ va_K D vwCl [] t ∧ va_D (va_A [(h0, .inr (7, [.int 0, .null, .null, .null]))] sz) [(h0, .inr (7, [.int 0, .ref (u.1 1), .ref (u.1 2), .ref (u.1 3)]))]) (va_A [(h0, .inr (7, [.int 0, .null, .null, .null]))] sz)) 3 1800 (va_A [(h0, .inr (7, [.int 0, .null, .null, .null]))] sz) := by
  refine Met.ofW (cc := cX7_init) (maxL := 1) (ret := none) (by decide) rfl ?_
  intro p e s m args below meth c s₁ B hml hv
  obtain ⟨rfl, hsz, hP, hK, hD0⟩ := hv
  have hx := B.exec
  have hb := B.bytes
  have hr := B.returns
  have hts := atoms_spec (ws := wp_c_X7_init) B.pre
  have hin_X7 : ∀ w ∈ wsX70, w ∈ wp_c_X7_init := fun _ h => (List.mem_cons_of_mem _ (List.mem_append_right _ (List.mem_append_left _ h)))
  have hown : s.vm.findClass RX7 = some m.cls := findClass_of_methodNamed B.named
  have hlocks := B.notSynchronized
  have hin : meth.name = "<init>" := (name_of_methodNamed B.named B.method).1
  subst hsz
  have hD := hD0.self (sz := s.heap.size)
  generalize hAe : va_A [(h0, .inr (7, [.int 0, .null, .null, .null]))] s.heap.size = A at hD ⊢
  have hA : ∀ q : Nat, s.heap.size ≤ q → A q := fun q h => by rw [← hAe]; exact Or.inr h
  have hS : va_S A s.heap s.heap [] := va_S.rf
  have hP : va_P D vwCl [(h0, .inr (7, [.int 0, .null, .null, .null]))] s.heap := hP
  have hl := lv_entry ([.ref h0]) (n := 1) (Nat.le_of_ble_eq_true rfl)
  rw [lg_entry_eq]
  generalize (lg_sl ([.ref h0]) ++ List.replicate (1 - (lg_sl ([.ref h0])).length) Slot.unset).toArray = ls at hl ⊢
  have hl : lv_has ls 1 [(0, .ref h0)] := hl
  refine lv_aload_n hx hb dX7_init_0 rfl (lv_at hl 0 rfl) ?_
  refine W.objInit hx hb hown (hts (.methodLink RX7 3 objectInit) (List.mem_of_getElem? (i := 1) rfl)) (hts (.instanceMethod objectInit) (List.mem_of_getElem? (i := 2) rfl)) (hts (.code objectInit ⟨#[0xb1]⟩ 1 none) (List.mem_of_getElem? (i := 3) rfl)) rfl (by rw [hml]; exact hl.1) rfl dX7_init_1 (Nat.le_of_ble_eq_true rfl) (Nat.le_of_ble_eq_true rfl) ?_
  refine W.eq (g2 := F0 m 4 ls []) rfl ?_
  refine lv_aload_n hx hb dX7_init_4 rfl (lv_at hl 0 rfl) ?_
  refine lv_sipush (v := 600) hx hb dX7_init_5 (by decide) ?_
  refine va_newa (atype := .int) (ty := .int) (N' := 600) (a0 := (600, .inl (fun _ => 0))) hx hb (hts (.arrayClass .int) (List.mem_of_getElem? (i := 4) rfl)) rfl hK hP hD hS hA (fun _ => rfl) (by decide) (by decide) (Nat.le_of_ble_eq_true rfl) (Nat.le_of_ble_eq_true rfl) (Nat.le_of_ble_eq_true rfl) dX7_init_8 (fun q1 cq1 H hK hP hD hS => ?_)
  refine W.widen (k := 1) (n := 600) (Nat.le_of_ble_eq_true rfl) (Nat.le_of_ble_eq_true rfl) ?_
  have hK : va_K D vwCl [(cq1, .int)] s := hK
  have hP : va_P D vwCl [(h0, .inr (7, [.int 0, .null, .null, .null])), (q1, .inl (cq1, 600, .inl (fun _ => 0)))] H := hP
  have hD : va_D A [(h0, .inr (7, [.int 0, .null, .null, .null])), (q1, .inl (cq1, 600, .inl (fun _ => 0)))] := hD
  refine va_putF (D := D) (ci := 7) (v := .ref q1) (ty := (.array .int)) (C := RX7) (T := TX7) (N := 4) hx hb hts hin_X7 tyX7 tyX7_ok nmX7 hown hK hP hD hS 0 rfl rfl 1 (by decide) (hts (.fieldLink RX7 9 "ClashFree$Program" "kinds" "[I") (List.mem_of_getElem? (i := 5) rfl)) (fun _ h9 => h9) rfl hin rfl (by decide +kernel) rfl rfl (Nat.le_of_ble_eq_true rfl) dX7_init_10 (fun H locs hP hD hS => ?_)
  have hP : va_P D vwCl [(h0, .inr (7, [.int 0, .ref q1, .null, .null])), (q1, .inl (cq1, 600, .inl (fun _ => 0)))] H := hP
  have hD : va_D A [(h0, .inr (7, [.int 0, .ref q1, .null, .null])), (q1, .inl (cq1, 600, .inl (fun _ => 0)))] := hD
  have hP := hP.sub (ws' := [(h0, .inr (7, [.int 0, .ref q1, .null, .null]))]) [0] rfl
  have hD := hD.sub (ws' := [(h0, .inr (7, [.int 0, .ref q1, .null, .null]))]) [0] (by decide) rfl
  have hK := hK.sub (tys' := []) [] rfl
  refine lv_aload_n hx hb dX7_init_13 rfl (lv_at hl 0 rfl) ?_
  refine lv_sipush (v := 600) hx hb dX7_init_14 (by decide) ?_
  refine va_newa (atype := .int) (ty := .int) (N' := 600) (a0 := (600, .inl (fun _ => 0))) hx hb (hts (.arrayClass .int) (List.mem_of_getElem? (i := 4) rfl)) rfl hK hP hD hS hA (fun _ => rfl) (by decide) (by decide) (Nat.le_of_ble_eq_true rfl) (Nat.le_of_ble_eq_true rfl) (Nat.le_of_ble_eq_true rfl) dX7_init_17 (fun q2 cq2 H hK hP hD hS => ?_)
  refine W.widen (k := 2) (n := 1200) (Nat.le_of_ble_eq_true rfl) (Nat.le_of_ble_eq_true rfl) ?_
  have hK : va_K D vwCl [(cq2, .int)] s := hK
  have hP : va_P D vwCl [(h0, .inr (7, [.int 0, .ref q1, .null, .null])), (q2, .inl (cq2, 600, .inl (fun _ => 0)))] H := hP
  have hD : va_D A [(h0, .inr (7, [.int 0, .ref q1, .null, .null])), (q2, .inl (cq2, 600, .inl (fun _ => 0)))] := hD
  refine va_putF (D := D) (ci := 7) (v := .ref q2) (ty := (.array .int)) (C := RX7) (T := TX7) (N := 4) hx hb hts hin_X7 tyX7 tyX7_ok nmX7 hown hK hP hD hS 0 rfl rfl 2 (by decide) (hts (.fieldLink RX7 15 "ClashFree$Program" "numbers" "[I") (List.mem_of_getElem? (i := 6) rfl)) (fun _ h9 => h9) rfl hin rfl (by decide +kernel) rfl rfl (Nat.le_of_ble_eq_true rfl) dX7_init_19 (fun H locs hP hD hS => ?_)
  have hP : va_P D vwCl [(h0, .inr (7, [.int 0, .ref q1, .ref q2, .null])), (q2, .inl (cq2, 600, .inl (fun _ => 0)))] H := hP
  have hD : va_D A [(h0, .inr (7, [.int 0, .ref q1, .ref q2, .null])), (q2, .inl (cq2, 600, .inl (fun _ => 0)))] := hD
  have hP := hP.sub (ws' := [(h0, .inr (7, [.int 0, .ref q1, .ref q2, .null]))]) [0] rfl
  have hD := hD.sub (ws' := [(h0, .inr (7, [.int 0, .ref q1, .ref q2, .null]))]) [0] (by decide) rfl
  have hK := hK.sub (tys' := []) [] rfl
  refine lv_aload_n hx hb dX7_init_22 rfl (lv_at hl 0 rfl) ?_
  refine lv_sipush (v := 600) hx hb dX7_init_23 (by decide) ?_
  refine va_newa (atype := .int) (ty := .int) (N' := 600) (a0 := (600, .inl (fun _ => 0))) hx hb (hts (.arrayClass .int) (List.mem_of_getElem? (i := 4) rfl)) rfl hK hP hD hS hA (fun _ => rfl) (by decide) (by decide) (Nat.le_of_ble_eq_true rfl) (Nat.le_of_ble_eq_true rfl) (Nat.le_of_ble_eq_true rfl) dX7_init_26 (fun q3 cq3 H hK hP hD hS => ?_)
  refine W.widen (k := 3) (n := 1800) (Nat.le_of_ble_eq_true rfl) (Nat.le_of_ble_eq_true rfl) ?_
  have hK : va_K D vwCl [(cq3, .int)] s := hK
  have hP : va_P D vwCl [(h0, .inr (7, [.int 0, .ref q1, .ref q2, .null])), (q3, .inl (cq3, 600, .inl (fun _ => 0)))] H := hP
  have hD : va_D A [(h0, .inr (7, [.int 0, .ref q1, .ref q2, .null])), (q3, .inl (cq3, 600, .inl (fun _ => 0)))] := hD
  refine va_putF (D := D) (ci := 7) (v := .ref q3) (ty := (.array .int)) (C := RX7) (T := TX7) (N := 4) hx hb hts hin_X7 tyX7 tyX7_ok nmX7 hown hK hP hD hS 0 rfl rfl 3 (by decide) (hts (.fieldLink RX7 18 "ClashFree$Program" "links" "[I") (List.mem_of_getElem? (i := 7) rfl)) (fun _ h9 => h9) rfl hin rfl (by decide +kernel) rfl rfl (Nat.le_of_ble_eq_true rfl) dX7_init_28 (fun H locs hP hD hS => ?_)
  have hP : va_P D vwCl [(h0, .inr (7, [.int 0, .ref q1, .ref q2, .ref q3])), (q3, .inl (cq3, 600, .inl (fun _ => 0)))] H := hP
  have hD : va_D A [(h0, .inr (7, [.int 0, .ref q1, .ref q2, .ref q3])), (q3, .inl (cq3, 600, .inl (fun _ => 0)))] := hD
  have hP := hP.sub (ws' := [(h0, .inr (7, [.int 0, .ref q1, .ref q2, .ref q3]))]) [0] rfl
  have hD := hD.sub (ws' := [(h0, .inr (7, [.int 0, .ref q1, .ref q2, .ref q3]))]) [0] (by decide) rfl
  have hK := hK.sub (tys' := []) [] rfl
  exact W.vret hx hb hr (fun t ht hW => ⟨⟨((fun i => [0, q1, q2, q3].getD i 0), (fun i => D.1 0)), rfl, trivial, by rw [ht]; exact hP.sub [0] rfl, va_K.moved hW.alike (hK.sub [] rfl), hD.sub [0] (by decide) rfl⟩, hS.F ht⟩) hS.2.2 dX7_init_31

def own_c_X11_init : List Cond := [.methodLink RX11 1 objectInit, .instanceMethod objectInit, .code objectInit ⟨#[0xb1]⟩ 1 none, .arrayClass .byte, .fieldLink RX11 7 "ClashFreeModel" "tape" "[B", .arrayClass .long, .fieldLink RX11 13 "ClashFreeModel" "n" "[J", .arrayClass .int, .fieldLink RX11 17 "ClashFreeModel" "keys" "[I", .fieldLink RX11 21 "ClashFreeModel" "values" "[I", .fieldLink RX11 24 "ClashFreeModel" "inBucket" "[I", .fieldLink RX11 27 "ClashFreeModel" "inRoom" "[I", .fieldLink RX11 30 "ClashFreeModel" "roofs" "[I", .fieldLink RX11 33 "ClashFreeModel" "has" "[I", .fieldLink RX11 36 "ClashFreeModel" "as" "[J", .fieldLink RX11 39 "ClashFreeModel" "bs" "[J", .fieldLink RX11 42 "ClashFreeModel" "paper" "[I", .fieldLink RX11 45 "ClashFreeModel" "code" "[I", .fieldLink RX11 48 "ClashFreeModel" "openAt" "[I", .fieldLink RX11 51 "ClashFreeModel" "pile" "[I", .fieldLink RX11 54 "ClashFreeModel" "faultPlace" "I", .fieldLink RX11 58 "ClashFreeModel" "faultDepth" "I", .fieldLink RX11 61 "ClashFreeModel" "worked" "[I", .fieldLink RX11 64 "ClashFreeModel" "roundOf" "[I", .fieldLink RX11 67 "ClashFreeModel" "blockOf" "[I", .fieldLink RX11 70 "ClashFreeModel" "octets" "[I"]
def wp_c_X11_init : List Cond := .code yX11_init cX11_init 1 none :: (own_c_X11_init ++ (wsX110 ++ ([] : List Cond)))
set_option maxRecDepth 20000 in
theorem inown_c_X11_init : ∀ w ∈ own_c_X11_init, w ∈ lw_tbl := mem_places [1215, 130, 131, 1139, 1217, 1358, 1219, 171, 1220, 1221, 1222, 1223, 1224, 1225, 1226, 1227, 1232, 1235, 1244, 1245, 1249, 1250, 1254, 1256, 1257, 1261] (by decide +kernel)
set_option maxRecDepth 20000 in
theorem in_c_X11_init : ∀ w ∈ wp_c_X11_init, w ∈ lw_tbl := List.forall_mem_cons.mpr ⟨List.mem_of_getElem? (i := 1214) (by decide +kernel), List.forall_mem_append.mpr ⟨inown_c_X11_init, List.forall_mem_append.mpr ⟨lwb_X11, fun _ h => absurd h List.not_mem_nil⟩⟩⟩
set_option maxRecDepth 20000 in
theorem good_c_X11_init : wp_c_X11_init.all goodWord = true := by decide +kernel
set_option maxHeartbeats 4000000 in
set_option maxRecDepth 100000 in
theorem c_X11_init (l : Launch) (D : va_G) (sz : Nat) (h0 : Nat)  : Met l yX11_init wp_c_X11_init ({ frames := 1, cells := 18, slots := 52511, locals := 12 }) (PcW D [.ref h0] sz [(h0, .inr (11, [.int 0, .null, .int 0, .null, .null, .null, .null, .null, .null, .null, .null, .null, .long 0, .long 0, .long 0, .int 0, .null, .int 0, .int 0, .null, .int 0, .int 0, .int 0, .int 0, .int 0, .int 0, .int 0, .int 0, .null, .null, .int 0, .int 0, .int 0, .int 0, .int 0, .int 0, .int 0, .int 0, .null, .int 0, .null, .null, .int 0, .int 0, .int 0, .null, .int 0]))] []) (va_Qv (fun (_ : (Nat → Nat) × (Nat → ClassId)) => True) (fun (u : (Nat → Nat) × (Nat → ClassId)) t => va_P D vwCl [(h0, .inr (11, fM u.1 0 0 0 0 0)), (u.1 1, .inl (u.2 1, 1400, .inl (fun _ => 0))), (u.1 3, .inl (u.2 3, 85, .inr (.inl (fun _ => 0)))), (u.1 8, .inl (u.2 8, 10240, .inl (fun _ => 0))), (u.1 9, .inl (u.2 9, 10240, .inl (fun _ => 0)))] t.heap ∧ va_K D vwCl [(u.2 1, .byte), (u.2 3, .long), (u.2 8, .int), (u.2 9, .int)] t ∧ va_D (va_A [(h0, .inr (11, [.int 0, .null, .int 0, .null, .null, .null, .null, .null, .null, .null, .null, .null, .long 0, .long 0, .long 0, .int 0, .null, .int 0, .int 0, .null, .int 0, .int 0, .int 0, .int 0, .int 0, .int 0, .int 0, .int 0, .null, .null, .int 0, .int 0, .int 0, .int 0, .int 0, .int 0, .int 0, .int 0, .null, .int 0, .null, .null, .int 0, .int 0, .int 0, .null, .int 0]))] sz) [(h0, .inr (11, fM u.1 0 0 0 0 0)), (u.1 1, .inl (u.2 1, 1400, .inl (fun _ => 0))), (u.1 3, .inl (u.2 3, 85, .inr (.inl (fun _ => 0)))), (u.1 8, .inl (u.2 8, 10240, .inl (fun _ => 0))), (u.1 9, .inl (u.2 9, 10240, .inl (fun _ => 0)))]) (va_A [(h0, .inr (11, [.int 0, .null, .int 0, .null, .null, .null, .null, .null, .null, .null, .null, .null, .long 0, .long 0, .long 0, .int 0, .null, .int 0, .int 0, .null, .int 0, .int 0, .int 0, .int 0, .int 0, .int 0, .int 0, .int 0, .null, .null, .int 0, .int 0, .int 0, .int 0, .int 0, .int 0, .int 0, .int 0, .null, .int 0, .null, .null, .int 0, .int 0, .int 0, .null, .int 0]))] sz)) 18 52511 (va_A [(h0, .inr (11, [.int 0, .null, .int 0, .null, .null, .null, .null, .null, .null, .null, .null, .null, .long 0, .long 0, .long 0, .int 0, .null, .int 0, .int 0, .null, .int 0, .int 0, .int 0, .int 0, .int 0, .int 0, .int 0, .int 0, .null, .null, .int 0, .int 0, .int 0, .int 0, .int 0, .int 0, .int 0, .int 0, .null, .int 0, .null, .null, .int 0, .int 0, .int 0, .null, .int 0]))] sz) := by
  refine Met.ofW (cc := cX11_init) (maxL := 1) (ret := none) (by decide) rfl ?_
  intro p e s m args below meth c s₁ B hml hv
  obtain ⟨rfl, hsz, hP, hK, hD0⟩ := hv
  have hx := B.exec
  have hb := B.bytes
  have hr := B.returns
  have hts := atoms_spec (ws := wp_c_X11_init) B.pre
  have hin_X11 : ∀ w ∈ wsX110, w ∈ wp_c_X11_init := fun _ h => (List.mem_cons_of_mem _ (List.mem_append_right _ (List.mem_append_left _ h)))
  have hown : s.vm.findClass RX11 = some m.cls := findClass_of_methodNamed B.named
  have hlocks := B.notSynchronized
  have hin : meth.name = "<init>" := (name_of_methodNamed B.named B.method).1
  subst hsz
  have hD := hD0.self (sz := s.heap.size)
  generalize hAe : va_A [(h0, .inr (11, [.int 0, .null, .int 0, .null, .null, .null, .null, .null, .null, .null, .null, .null, .long 0, .long 0, .long 0, .int 0, .null, .int 0, .int 0, .null, .int 0, .int 0, .int 0, .int 0, .int 0, .int 0, .int 0, .int 0, .null, .null, .int 0, .int 0, .int 0, .int 0, .int 0, .int 0, .int 0, .int 0, .null, .int 0, .null, .null, .int 0, .int 0, .int 0, .null, .int 0]))] s.heap.size = A at hD ⊢
  have hA : ∀ q : Nat, s.heap.size ≤ q → A q := fun q h => by rw [← hAe]; exact Or.inr h
  have hS : va_S A s.heap s.heap [] := va_S.rf
  have hP : va_P D vwCl [(h0, .inr (11, [.int 0, .null, .int 0, .null, .null, .null, .null, .null, .null, .null, .null, .null, .long 0, .long 0, .long 0, .int 0, .null, .int 0, .int 0, .null, .int 0, .int 0, .int 0, .int 0, .int 0, .int 0, .int 0, .int 0, .null, .null, .int 0, .int 0, .int 0, .int 0, .int 0, .int 0, .int 0, .int 0, .null, .int 0, .null, .null, .int 0, .int 0, .int 0, .null, .int 0]))] s.heap := hP
  have hl := lv_entry ([.ref h0]) (n := 1) (Nat.le_of_ble_eq_true rfl)
  rw [lg_entry_eq]
  generalize (lg_sl ([.ref h0]) ++ List.replicate (1 - (lg_sl ([.ref h0])).length) Slot.unset).toArray = ls at hl ⊢
  have hl : lv_has ls 1 [(0, .ref h0)] := hl
  refine lv_aload_n hx hb dX11_init_0 rfl (lv_at hl 0 rfl) ?_
  refine W.objInit hx hb hown (hts (.methodLink RX11 1 objectInit) (List.mem_of_getElem? (i := 1) rfl)) (hts (.instanceMethod objectInit) (List.mem_of_getElem? (i := 2) rfl)) (hts (.code objectInit ⟨#[0xb1]⟩ 1 none) (List.mem_of_getElem? (i := 3) rfl)) rfl (by rw [hml]; exact hl.1) rfl dX11_init_1 (Nat.le_of_ble_eq_true rfl) (Nat.le_of_ble_eq_true rfl) ?_
  refine W.eq (g2 := F0 m 4 ls []) rfl ?_
  refine lv_aload_n hx hb dX11_init_4 rfl (lv_at hl 0 rfl) ?_
  refine lv_sipush (v := 1400) hx hb dX11_init_5 (by decide) ?_
  refine va_newa (atype := .byte) (ty := .byte) (N' := 1400) (a0 := (1400, .inl (fun _ => 0))) hx hb (hts (.arrayClass .byte) (List.mem_of_getElem? (i := 4) rfl)) rfl hK hP hD hS hA (fun _ => rfl) (by decide) (by decide) (Nat.le_of_ble_eq_true rfl) (Nat.le_of_ble_eq_true rfl) (Nat.le_of_ble_eq_true rfl) dX11_init_8 (fun q1 cq1 H hK hP hD hS => ?_)
  refine W.widen (k := 1) (n := 1400) (Nat.le_of_ble_eq_true rfl) (Nat.le_of_ble_eq_true rfl) ?_
  have hK : va_K D vwCl [(cq1, .byte)] s := hK
  have hP : va_P D vwCl [(h0, .inr (11, [.int 0, .null, .int 0, .null, .null, .null, .null, .null, .null, .null, .null, .null, .long 0, .long 0, .long 0, .int 0, .null, .int 0, .int 0, .null, .int 0, .int 0, .int 0, .int 0, .int 0, .int 0, .int 0, .int 0, .null, .null, .int 0, .int 0, .int 0, .int 0, .int 0, .int 0, .int 0, .int 0, .null, .int 0, .null, .null, .int 0, .int 0, .int 0, .null, .int 0])), (q1, .inl (cq1, 1400, .inl (fun _ => 0)))] H := hP
  have hD : va_D A [(h0, .inr (11, [.int 0, .null, .int 0, .null, .null, .null, .null, .null, .null, .null, .null, .null, .long 0, .long 0, .long 0, .int 0, .null, .int 0, .int 0, .null, .int 0, .int 0, .int 0, .int 0, .int 0, .int 0, .int 0, .int 0, .null, .null, .int 0, .int 0, .int 0, .int 0, .int 0, .int 0, .int 0, .int 0, .null, .int 0, .null, .null, .int 0, .int 0, .int 0, .null, .int 0])), (q1, .inl (cq1, 1400, .inl (fun _ => 0)))] := hD
  refine va_putF (D := D) (ci := 11) (v := .ref q1) (ty := (.array .byte)) (C := RX11) (T := TX11) (N := 47) hx hb hts hin_X11 tyX11 tyX11_ok nmX11 hown hK hP hD hS 0 rfl rfl 1 (by decide) (hts (.fieldLink RX11 7 "ClashFreeModel" "tape" "[B") (List.mem_of_getElem? (i := 5) rfl)) (fun _ h9 => h9) rfl hin rfl (by decide +kernel) rfl rfl (Nat.le_of_ble_eq_true rfl) dX11_init_10 (fun H locs hP hD hS => ?_)
  have hP : va_P D vwCl [(h0, .inr (11, [.int 0, .ref q1, .int 0, .null, .null, .null, .null, .null, .null, .null, .null, .null, .long 0, .long 0, .long 0, .int 0, .null, .int 0, .int 0, .null, .int 0, .int 0, .int 0, .int 0, .int 0, .int 0, .int 0, .int 0, .null, .null, .int 0, .int 0, .int 0, .int 0, .int 0, .int 0, .int 0, .int 0, .null, .int 0, .null, .null, .int 0, .int 0, .int 0, .null, .int 0])), (q1, .inl (cq1, 1400, .inl (fun _ => 0)))] H := hP
  have hD : va_D A [(h0, .inr (11, [.int 0, .ref q1, .int 0, .null, .null, .null, .null, .null, .null, .null, .null, .null, .long 0, .long 0, .long 0, .int 0, .null, .int 0, .int 0, .null, .int 0, .int 0, .int 0, .int 0, .int 0, .int 0, .int 0, .int 0, .null, .null, .int 0, .int 0, .int 0, .int 0, .int 0, .int 0, .int 0, .int 0, .null, .int 0, .null, .null, .int 0, .int 0, .int 0, .null, .int 0])), (q1, .inl (cq1, 1400, .inl (fun _ => 0)))] := hD
  refine lv_aload_n hx hb dX11_init_13 rfl (lv_at hl 0 rfl) ?_
  refine lv_bipush (v := 85) hx hb dX11_init_14 (by decide) ?_
  refine va_newa (atype := .long) (ty := .long) (N' := 85) (a0 := (85, .inr (.inl (fun _ => 0)))) hx hb (hts (.arrayClass .long) (List.mem_of_getElem? (i := 6) rfl)) rfl hK hP hD hS hA (fun _ => rfl) (by decide) (by decide) (Nat.le_of_ble_eq_true rfl) (Nat.le_of_ble_eq_true rfl) (Nat.le_of_ble_eq_true rfl) dX11_init_16 (fun q2 cq2 H hK hP hD hS => ?_)
  refine W.widen (k := 2) (n := 1485) (Nat.le_of_ble_eq_true rfl) (Nat.le_of_ble_eq_true rfl) ?_
  have hK : va_K D vwCl [(cq1, .byte), (cq2, .long)] s := hK
  have hP : va_P D vwCl [(h0, .inr (11, [.int 0, .ref q1, .int 0, .null, .null, .null, .null, .null, .null, .null, .null, .null, .long 0, .long 0, .long 0, .int 0, .null, .int 0, .int 0, .null, .int 0, .int 0, .int 0, .int 0, .int 0, .int 0, .int 0, .int 0, .null, .null, .int 0, .int 0, .int 0, .int 0, .int 0, .int 0, .int 0, .int 0, .null, .int 0, .null, .null, .int 0, .int 0, .int 0, .null, .int 0])), (q1, .inl (cq1, 1400, .inl (fun _ => 0))), (q2, .inl (cq2, 85, .inr (.inl (fun _ => 0))))] H := hP
  have hD : va_D A [(h0, .inr (11, [.int 0, .ref q1, .int 0, .null, .null, .null, .null, .null, .null, .null, .null, .null, .long 0, .long 0, .long 0, .int 0, .null, .int 0, .int 0, .null, .int 0, .int 0, .int 0, .int 0, .int 0, .int 0, .int 0, .int 0, .null, .null, .int 0, .int 0, .int 0, .int 0, .int 0, .int 0, .int 0, .int 0, .null, .int 0, .null, .null, .int 0, .int 0, .int 0, .null, .int 0])), (q1, .inl (cq1, 1400, .inl (fun _ => 0))), (q2, .inl (cq2, 85, .inr (.inl (fun _ => 0))))] := hD
  refine va_putF (D := D) (ci := 11) (v := .ref q2) (ty := (.array .long)) (C := RX11) (T := TX11) (N := 47) hx hb hts hin_X11 tyX11 tyX11_ok nmX11 hown hK hP hD hS 0 rfl rfl 3 (by decide) (hts (.fieldLink RX11 13 "ClashFreeModel" "n" "[J") (List.mem_of_getElem? (i := 7) rfl)) (fun _ h9 => h9) rfl hin rfl (by decide +kernel) rfl rfl (Nat.le_of_ble_eq_true rfl) dX11_init_18 (fun H locs hP hD hS => ?_)
  have hP : va_P D vwCl [(h0, .inr (11, [.int 0, .ref q1, .int 0, .ref q2, .null, .null, .null, .null, .null, .null, .null, .null, .long 0, .long 0, .long 0, .int 0, .null, .int 0, .int 0, .null, .int 0, .int 0, .int 0, .int 0, .int 0, .int 0, .int 0, .int 0, .null, .null, .int 0, .int 0, .int 0, .int 0, .int 0, .int 0, .int 0, .int 0, .null, .int 0, .null, .null, .int 0, .int 0, .int 0, .null, .int 0])), (q1, .inl (cq1, 1400, .inl (fun _ => 0))), (q2, .inl (cq2, 85, .inr (.inl (fun _ => 0))))] H := hP
  have hD : va_D A [(h0, .inr (11, [.int 0, .ref q1, .int 0, .ref q2, .null, .null, .null, .null, .null, .null, .null, .null, .long 0, .long 0, .long 0, .int 0, .null, .int 0, .int 0, .null, .int 0, .int 0, .int 0, .int 0, .int 0, .int 0, .int 0, .int 0, .null, .null, .int 0, .int 0, .int 0, .int 0, .int 0, .int 0, .int 0, .int 0, .null, .int 0, .null, .null, .int 0, .int 0, .int 0, .null, .int 0])), (q1, .inl (cq1, 1400, .inl (fun _ => 0))), (q2, .inl (cq2, 85, .inr (.inl (fun _ => 0))))] := hD
  refine lv_aload_n hx hb dX11_init_21 rfl (lv_at hl 0 rfl) ?_
  refine lv_sipush (v := 800) hx hb dX11_init_22 (by decide) ?_
  refine va_newa (atype := .int) (ty := .int) (N' := 800) (a0 := (800, .inl (fun _ => 0))) hx hb (hts (.arrayClass .int) (List.mem_of_getElem? (i := 8) rfl)) rfl hK hP hD hS hA (fun _ => rfl) (by decide) (by decide) (Nat.le_of_ble_eq_true rfl) (Nat.le_of_ble_eq_true rfl) (Nat.le_of_ble_eq_true rfl) dX11_init_25 (fun q3 cq3 H hK hP hD hS => ?_)
  refine W.widen (k := 3) (n := 2285) (Nat.le_of_ble_eq_true rfl) (Nat.le_of_ble_eq_true rfl) ?_
  have hK : va_K D vwCl [(cq1, .byte), (cq2, .long), (cq3, .int)] s := hK
  have hP : va_P D vwCl [(h0, .inr (11, [.int 0, .ref q1, .int 0, .ref q2, .null, .null, .null, .null, .null, .null, .null, .null, .long 0, .long 0, .long 0, .int 0, .null, .int 0, .int 0, .null, .int 0, .int 0, .int 0, .int 0, .int 0, .int 0, .int 0, .int 0, .null, .null, .int 0, .int 0, .int 0, .int 0, .int 0, .int 0, .int 0, .int 0, .null, .int 0, .null, .null, .int 0, .int 0, .int 0, .null, .int 0])), (q1, .inl (cq1, 1400, .inl (fun _ => 0))), (q2, .inl (cq2, 85, .inr (.inl (fun _ => 0)))), (q3, .inl (cq3, 800, .inl (fun _ => 0)))] H := hP
  have hD : va_D A [(h0, .inr (11, [.int 0, .ref q1, .int 0, .ref q2, .null, .null, .null, .null, .null, .null, .null, .null, .long 0, .long 0, .long 0, .int 0, .null, .int 0, .int 0, .null, .int 0, .int 0, .int 0, .int 0, .int 0, .int 0, .int 0, .int 0, .null, .null, .int 0, .int 0, .int 0, .int 0, .int 0, .int 0, .int 0, .int 0, .null, .int 0, .null, .null, .int 0, .int 0, .int 0, .null, .int 0])), (q1, .inl (cq1, 1400, .inl (fun _ => 0))), (q2, .inl (cq2, 85, .inr (.inl (fun _ => 0)))), (q3, .inl (cq3, 800, .inl (fun _ => 0)))] := hD
  refine va_putF (D := D) (ci := 11) (v := .ref q3) (ty := (.array .int)) (C := RX11) (T := TX11) (N := 47) hx hb hts hin_X11 tyX11 tyX11_ok nmX11 hown hK hP hD hS 0 rfl rfl 4 (by decide) (hts (.fieldLink RX11 17 "ClashFreeModel" "keys" "[I") (List.mem_of_getElem? (i := 9) rfl)) (fun _ h9 => h9) rfl hin rfl (by decide +kernel) rfl rfl (Nat.le_of_ble_eq_true rfl) dX11_init_27 (fun H locs hP hD hS => ?_)
  have hP : va_P D vwCl [(h0, .inr (11, [.int 0, .ref q1, .int 0, .ref q2, .ref q3, .null, .null, .null, .null, .null, .null, .null, .long 0, .long 0, .long 0, .int 0, .null, .int 0, .int 0, .null, .int 0, .int 0, .int 0, .int 0, .int 0, .int 0, .int 0, .int 0, .null, .null, .int 0, .int 0, .int 0, .int 0, .int 0, .int 0, .int 0, .int 0, .null, .int 0, .null, .null, .int 0, .int 0, .int 0, .null, .int 0])), (q1, .inl (cq1, 1400, .inl (fun _ => 0))), (q2, .inl (cq2, 85, .inr (.inl (fun _ => 0)))), (q3, .inl (cq3, 800, .inl (fun _ => 0)))] H := hP
  have hD : va_D A [(h0, .inr (11, [.int 0, .ref q1, .int 0, .ref q2, .ref q3, .null, .null, .null, .null, .null, .null, .null, .long 0, .long 0, .long 0, .int 0, .null, .int 0, .int 0, .null, .int 0, .int 0, .int 0, .int 0, .int 0, .int 0, .int 0, .int 0, .null, .null, .int 0, .int 0, .int 0, .int 0, .int 0, .int 0, .int 0, .int 0, .null, .int 0, .null, .null, .int 0, .int 0, .int 0, .null, .int 0])), (q1, .inl (cq1, 1400, .inl (fun _ => 0))), (q2, .inl (cq2, 85, .inr (.inl (fun _ => 0)))), (q3, .inl (cq3, 800, .inl (fun _ => 0)))] := hD
  have hP := hP.sub (ws' := [(h0, .inr (11, [.int 0, .ref q1, .int 0, .ref q2, .ref q3, .null, .null, .null, .null, .null, .null, .null, .long 0, .long 0, .long 0, .int 0, .null, .int 0, .int 0, .null, .int 0, .int 0, .int 0, .int 0, .int 0, .int 0, .int 0, .int 0, .null, .null, .int 0, .int 0, .int 0, .int 0, .int 0, .int 0, .int 0, .int 0, .null, .int 0, .null, .null, .int 0, .int 0, .int 0, .null, .int 0])), (q1, .inl (cq1, 1400, .inl (fun _ => 0))), (q2, .inl (cq2, 85, .inr (.inl (fun _ => 0))))]) [0, 1, 2] rfl
  have hD := hD.sub (ws' := [(h0, .inr (11, [.int 0, .ref q1, .int 0, .ref q2, .ref q3, .null, .null, .null, .null, .null, .null, .null, .long 0, .long 0, .long 0, .int 0, .null, .int 0, .int 0, .null, .int 0, .int 0, .int 0, .int 0, .int 0, .int 0, .int 0, .int 0, .null, .null, .int 0, .int 0, .int 0, .int 0, .int 0, .int 0, .int 0, .int 0, .null, .int 0, .null, .null, .int 0, .int 0, .int 0, .null, .int 0])), (q1, .inl (cq1, 1400, .inl (fun _ => 0))), (q2, .inl (cq2, 85, .inr (.inl (fun _ => 0))))]) [0, 1, 2] (by decide) rfl
  have hK := hK.sub (tys' := [(cq1, .byte), (cq2, .long)]) [0, 1] rfl
  refine lv_aload_n hx hb dX11_init_30 rfl (lv_at hl 0 rfl) ?_
  refine lv_sipush (v := 800) hx hb dX11_init_31 (by decide) ?_
  refine va_newa (atype := .int) (ty := .int) (N' := 800) (a0 := (800, .inl (fun _ => 0))) hx hb (hts (.arrayClass .int) (List.mem_of_getElem? (i := 8) rfl)) rfl hK hP hD hS hA (fun _ => rfl) (by decide) (by decide) (Nat.le_of_ble_eq_true rfl) (Nat.le_of_ble_eq_true rfl) (Nat.le_of_ble_eq_true rfl) dX11_init_34 (fun q4 cq4 H hK hP hD hS => ?_)
  refine W.widen (k := 4) (n := 3085) (Nat.le_of_ble_eq_true rfl) (Nat.le_of_ble_eq_true rfl) ?_
  have hK : va_K D vwCl [(cq1, .byte), (cq2, .long), (cq4, .int)] s := hK
  have hP : va_P D vwCl [(h0, .inr (11, [.int 0, .ref q1, .int 0, .ref q2, .ref q3, .null, .null, .null, .null, .null, .null, .null, .long 0, .long 0, .long 0, .int 0, .null, .int 0, .int 0, .null, .int 0, .int 0, .int 0, .int 0, .int 0, .int 0, .int 0, .int 0, .null, .null, .int 0, .int 0, .int 0, .int 0, .int 0, .int 0, .int 0, .int 0, .null, .int 0, .null, .null, .int 0, .int 0, .int 0, .null, .int 0])), (q1, .inl (cq1, 1400, .inl (fun _ => 0))), (q2, .inl (cq2, 85, .inr (.inl (fun _ => 0)))), (q4, .inl (cq4, 800, .inl (fun _ => 0)))] H := hP
  have hD : va_D A [(h0, .inr (11, [.int 0, .ref q1, .int 0, .ref q2, .ref q3, .null, .null, .null, .null, .null, .null, .null, .long 0, .long 0, .long 0, .int 0, .null, .int 0, .int 0, .null, .int 0, .int 0, .int 0, .int 0, .int 0, .int 0, .int 0, .int 0, .null, .null, .int 0, .int 0, .int 0, .int 0, .int 0, .int 0, .int 0, .int 0, .null, .int 0, .null, .null, .int 0, .int 0, .int 0, .null, .int 0])), (q1, .inl (cq1, 1400, .inl (fun _ => 0))), (q2, .inl (cq2, 85, .inr (.inl (fun _ => 0)))), (q4, .inl (cq4, 800, .inl (fun _ => 0)))] := hD
  refine va_putF (D := D) (ci := 11) (v := .ref q4) (ty := (.array .int)) (C := RX11) (T := TX11) (N := 47) hx hb hts hin_X11 tyX11 tyX11_ok nmX11 hown hK hP hD hS 0 rfl rfl 5 (by decide) (hts (.fieldLink RX11 21 "ClashFreeModel" "values" "[I") (List.mem_of_getElem? (i := 10) rfl)) (fun _ h9 => h9) rfl hin rfl (by decide +kernel) rfl rfl (Nat.le_of_ble_eq_true rfl) dX11_init_36 (fun H locs hP hD hS => ?_)
  have hP : va_P D vwCl [(h0, .inr (11, [.int 0, .ref q1, .int 0, .ref q2, .ref q3, .ref q4, .null, .null, .null, .null, .null, .null, .long 0, .long 0, .long 0, .int 0, .null, .int 0, .int 0, .null, .int 0, .int 0, .int 0, .int 0, .int 0, .int 0, .int 0, .int 0, .null, .null, .int 0, .int 0, .int 0, .int 0, .int 0, .int 0, .int 0, .int 0, .null, .int 0, .null, .null, .int 0, .int 0, .int 0, .null, .int 0])), (q1, .inl (cq1, 1400, .inl (fun _ => 0))), (q2, .inl (cq2, 85, .inr (.inl (fun _ => 0)))), (q4, .inl (cq4, 800, .inl (fun _ => 0)))] H := hP
  have hD : va_D A [(h0, .inr (11, [.int 0, .ref q1, .int 0, .ref q2, .ref q3, .ref q4, .null, .null, .null, .null, .null, .null, .long 0, .long 0, .long 0, .int 0, .null, .int 0, .int 0, .null, .int 0, .int 0, .int 0, .int 0, .int 0, .int 0, .int 0, .int 0, .null, .null, .int 0, .int 0, .int 0, .int 0, .int 0, .int 0, .int 0, .int 0, .null, .int 0, .null, .null, .int 0, .int 0, .int 0, .null, .int 0])), (q1, .inl (cq1, 1400, .inl (fun _ => 0))), (q2, .inl (cq2, 85, .inr (.inl (fun _ => 0)))), (q4, .inl (cq4, 800, .inl (fun _ => 0)))] := hD
  have hP := hP.sub (ws' := [(h0, .inr (11, [.int 0, .ref q1, .int 0, .ref q2, .ref q3, .ref q4, .null, .null, .null, .null, .null, .null, .long 0, .long 0, .long 0, .int 0, .null, .int 0, .int 0, .null, .int 0, .int 0, .int 0, .int 0, .int 0, .int 0, .int 0, .int 0, .null, .null, .int 0, .int 0, .int 0, .int 0, .int 0, .int 0, .int 0, .int 0, .null, .int 0, .null, .null, .int 0, .int 0, .int 0, .null, .int 0])), (q1, .inl (cq1, 1400, .inl (fun _ => 0))), (q2, .inl (cq2, 85, .inr (.inl (fun _ => 0))))]) [0, 1, 2] rfl
  have hD := hD.sub (ws' := [(h0, .inr (11, [.int 0, .ref q1, .int 0, .ref q2, .ref q3, .ref q4, .null, .null, .null, .null, .null, .null, .long 0, .long 0, .long 0, .int 0, .null, .int 0, .int 0, .null, .int 0, .int 0, .int 0, .int 0, .int 0, .int 0, .int 0, .int 0, .null, .null, .int 0, .int 0, .int 0, .int 0, .int 0, .int 0, .int 0, .int 0, .null, .int 0, .null, .null, .int 0, .int 0, .int 0, .null, .int 0])), (q1, .inl (cq1, 1400, .inl (fun _ => 0))), (q2, .inl (cq2, 85, .inr (.inl (fun _ => 0))))]) [0, 1, 2] (by decide) rfl
  have hK := hK.sub (tys' := [(cq1, .byte), (cq2, .long)]) [0, 1] rfl
  refine lv_aload_n hx hb dX11_init_39 rfl (lv_at hl 0 rfl) ?_
  refine lv_sipush (v := 800) hx hb dX11_init_40 (by decide) ?_
  refine va_newa (atype := .int) (ty := .int) (N' := 800) (a0 := (800, .inl (fun _ => 0))) hx hb (hts (.arrayClass .int) (List.mem_of_getElem? (i := 8) rfl)) rfl hK hP hD hS hA (fun _ => rfl) (by decide) (by decide) (Nat.le_of_ble_eq_true rfl) (Nat.le_of_ble_eq_true rfl) (Nat.le_of_ble_eq_true rfl) dX11_init_43 (fun q5 cq5 H hK hP hD hS => ?_)
  refine W.widen (k := 5) (n := 3885) (Nat.le_of_ble_eq_true rfl) (Nat.le_of_ble_eq_true rfl) ?_
  have hK : va_K D vwCl [(cq1, .byte), (cq2, .long), (cq5, .int)] s := hK
  have hP : va_P D vwCl [(h0, .inr (11, [.int 0, .ref q1, .int 0, .ref q2, .ref q3, .ref q4, .null, .null, .null, .null, .null, .null, .long 0, .long 0, .long 0, .int 0, .null, .int 0, .int 0, .null, .int 0, .int 0, .int 0, .int 0, .int 0, .int 0, .int 0, .int 0, .null, .null, .int 0, .int 0, .int 0, .int 0, .int 0, .int 0, .int 0, .int 0, .null, .int 0, .null, .null, .int 0, .int 0, .int 0, .null, .int 0])), (q1, .inl (cq1, 1400, .inl (fun _ => 0))), (q2, .inl (cq2, 85, .inr (.inl (fun _ => 0)))), (q5, .inl (cq5, 800, .inl (fun _ => 0)))] H := hP
  have hD : va_D A [(h0, .inr (11, [.int 0, .ref q1, .int 0, .ref q2, .ref q3, .ref q4, .null, .null, .null, .null, .null, .null, .long 0, .long 0, .long 0, .int 0, .null, .int 0, .int 0, .null, .int 0, .int 0, .int 0, .int 0, .int 0, .int 0, .int 0, .int 0, .null, .null, .int 0, .int 0, .int 0, .int 0, .int 0, .int 0, .int 0, .int 0, .null, .int 0, .null, .null, .int 0, .int 0, .int 0, .null, .int 0])), (q1, .inl (cq1, 1400, .inl (fun _ => 0))), (q2, .inl (cq2, 85, .inr (.inl (fun _ => 0)))), (q5, .inl (cq5, 800, .inl (fun _ => 0)))] := hD
  refine va_putF (D := D) (ci := 11) (v := .ref q5) (ty := (.array .int)) (C := RX11) (T := TX11) (N := 47) hx hb hts hin_X11 tyX11 tyX11_ok nmX11 hown hK hP hD hS 0 rfl rfl 6 (by decide) (hts (.fieldLink RX11 24 "ClashFreeModel" "inBucket" "[I") (List.mem_of_getElem? (i := 11) rfl)) (fun _ h9 => h9) rfl hin rfl (by decide +kernel) rfl rfl (Nat.le_of_ble_eq_true rfl) dX11_init_45 (fun H locs hP hD hS => ?_)
  have hP : va_P D vwCl [(h0, .inr (11, [.int 0, .ref q1, .int 0, .ref q2, .ref q3, .ref q4, .ref q5, .null, .null, .null, .null, .null, .long 0, .long 0, .long 0, .int 0, .null, .int 0, .int 0, .null, .int 0, .int 0, .int 0, .int 0, .int 0, .int 0, .int 0, .int 0, .null, .null, .int 0, .int 0, .int 0, .int 0, .int 0, .int 0, .int 0, .int 0, .null, .int 0, .null, .null, .int 0, .int 0, .int 0, .null, .int 0])), (q1, .inl (cq1, 1400, .inl (fun _ => 0))), (q2, .inl (cq2, 85, .inr (.inl (fun _ => 0)))), (q5, .inl (cq5, 800, .inl (fun _ => 0)))] H := hP
  have hD : va_D A [(h0, .inr (11, [.int 0, .ref q1, .int 0, .ref q2, .ref q3, .ref q4, .ref q5, .null, .null, .null, .null, .null, .long 0, .long 0, .long 0, .int 0, .null, .int 0, .int 0, .null, .int 0, .int 0, .int 0, .int 0, .int 0, .int 0, .int 0, .int 0, .null, .null, .int 0, .int 0, .int 0, .int 0, .int 0, .int 0, .int 0, .int 0, .null, .int 0, .null, .null, .int 0, .int 0, .int 0, .null, .int 0])), (q1, .inl (cq1, 1400, .inl (fun _ => 0))), (q2, .inl (cq2, 85, .inr (.inl (fun _ => 0)))), (q5, .inl (cq5, 800, .inl (fun _ => 0)))] := hD
  have hP := hP.sub (ws' := [(h0, .inr (11, [.int 0, .ref q1, .int 0, .ref q2, .ref q3, .ref q4, .ref q5, .null, .null, .null, .null, .null, .long 0, .long 0, .long 0, .int 0, .null, .int 0, .int 0, .null, .int 0, .int 0, .int 0, .int 0, .int 0, .int 0, .int 0, .int 0, .null, .null, .int 0, .int 0, .int 0, .int 0, .int 0, .int 0, .int 0, .int 0, .null, .int 0, .null, .null, .int 0, .int 0, .int 0, .null, .int 0])), (q1, .inl (cq1, 1400, .inl (fun _ => 0))), (q2, .inl (cq2, 85, .inr (.inl (fun _ => 0))))]) [0, 1, 2] rfl
  have hD := hD.sub (ws' := [(h0, .inr (11, [.int 0, .ref q1, .int 0, .ref q2, .ref q3, .ref q4, .ref q5, .null, .null, .null, .null, .null, .long 0, .long 0, .long 0, .int 0, .null, .int 0, .int 0, .null, .int 0, .int 0, .int 0, .int 0, .int 0, .int 0, .int 0, .int 0, .null, .null, .int 0, .int 0, .int 0, .int 0, .int 0, .int 0, .int 0, .int 0, .null, .int 0, .null, .null, .int 0, .int 0, .int 0, .null, .int 0])), (q1, .inl (cq1, 1400, .inl (fun _ => 0))), (q2, .inl (cq2, 85, .inr (.inl (fun _ => 0))))]) [0, 1, 2] (by decide) rfl
  have hK := hK.sub (tys' := [(cq1, .byte), (cq2, .long)]) [0, 1] rfl
  refine lv_aload_n hx hb dX11_init_48 rfl (lv_at hl 0 rfl) ?_
  refine lv_sipush (v := 800) hx hb dX11_init_49 (by decide) ?_
  refine va_newa (atype := .int) (ty := .int) (N' := 800) (a0 := (800, .inl (fun _ => 0))) hx hb (hts (.arrayClass .int) (List.mem_of_getElem? (i := 8) rfl)) rfl hK hP hD hS hA (fun _ => rfl) (by decide) (by decide) (Nat.le_of_ble_eq_true rfl) (Nat.le_of_ble_eq_true rfl) (Nat.le_of_ble_eq_true rfl) dX11_init_52 (fun q6 cq6 H hK hP hD hS => ?_)
  refine W.widen (k := 6) (n := 4685) (Nat.le_of_ble_eq_true rfl) (Nat.le_of_ble_eq_true rfl) ?_
  have hK : va_K D vwCl [(cq1, .byte), (cq2, .long), (cq6, .int)] s := hK
  have hP : va_P D vwCl [(h0, .inr (11, [.int 0, .ref q1, .int 0, .ref q2, .ref q3, .ref q4, .ref q5, .null, .null, .null, .null, .null, .long 0, .long 0, .long 0, .int 0, .null, .int 0, .int 0, .null, .int 0, .int 0, .int 0, .int 0, .int 0, .int 0, .int 0, .int 0, .null, .null, .int 0, .int 0, .int 0, .int 0, .int 0, .int 0, .int 0, .int 0, .null, .int 0, .null, .null, .int 0, .int 0, .int 0, .null, .int 0])), (q1, .inl (cq1, 1400, .inl (fun _ => 0))), (q2, .inl (cq2, 85, .inr (.inl (fun _ => 0)))), (q6, .inl (cq6, 800, .inl (fun _ => 0)))] H := hP
  have hD : va_D A [(h0, .inr (11, [.int 0, .ref q1, .int 0, .ref q2, .ref q3, .ref q4, .ref q5, .null, .null, .null, .null, .null, .long 0, .long 0, .long 0, .int 0, .null, .int 0, .int 0, .null, .int 0, .int 0, .int 0, .int 0, .int 0, .int 0, .int 0, .int 0, .null, .null, .int 0, .int 0, .int 0, .int 0, .int 0, .int 0, .int 0, .int 0, .null, .int 0, .null, .null, .int 0, .int 0, .int 0, .null, .int 0])), (q1, .inl (cq1, 1400, .inl (fun _ => 0))), (q2, .inl (cq2, 85, .inr (.inl (fun _ => 0)))), (q6, .inl (cq6, 800, .inl (fun _ => 0)))] := hD
  refine va_putF (D := D) (ci := 11) (v := .ref q6) (ty := (.array .int)) (C := RX11) (T := TX11) (N := 47) hx hb hts hin_X11 tyX11 tyX11_ok nmX11 hown hK hP hD hS 0 rfl rfl 7 (by decide) (hts (.fieldLink RX11 27 "ClashFreeModel" "inRoom" "[I") (List.mem_of_getElem? (i := 12) rfl)) (fun _ h9 => h9) rfl hin rfl (by decide +kernel) rfl rfl (Nat.le_of_ble_eq_true rfl) dX11_init_54 (fun H locs hP hD hS => ?_)
  have hP : va_P D vwCl [(h0, .inr (11, [.int 0, .ref q1, .int 0, .ref q2, .ref q3, .ref q4, .ref q5, .ref q6, .null, .null, .null, .null, .long 0, .long 0, .long 0, .int 0, .null, .int 0, .int 0, .null, .int 0, .int 0, .int 0, .int 0, .int 0, .int 0, .int 0, .int 0, .null, .null, .int 0, .int 0, .int 0, .int 0, .int 0, .int 0, .int 0, .int 0, .null, .int 0, .null, .null, .int 0, .int 0, .int 0, .null, .int 0])), (q1, .inl (cq1, 1400, .inl (fun _ => 0))), (q2, .inl (cq2, 85, .inr (.inl (fun _ => 0)))), (q6, .inl (cq6, 800, .inl (fun _ => 0)))] H := hP
  have hD : va_D A [(h0, .inr (11, [.int 0, .ref q1, .int 0, .ref q2, .ref q3, .ref q4, .ref q5, .ref q6, .null, .null, .null, .null, .long 0, .long 0, .long 0, .int 0, .null, .int 0, .int 0, .null, .int 0, .int 0, .int 0, .int 0, .int 0, .int 0, .int 0, .int 0, .null, .null, .int 0, .int 0, .int 0, .int 0, .int 0, .int 0, .int 0, .int 0, .null, .int 0, .null, .null, .int 0, .int 0, .int 0, .null, .int 0])), (q1, .inl (cq1, 1400, .inl (fun _ => 0))), (q2, .inl (cq2, 85, .inr (.inl (fun _ => 0)))), (q6, .inl (cq6, 800, .inl (fun _ => 0)))] := hD
  have hP := hP.sub (ws' := [(h0, .inr (11, [.int 0, .ref q1, .int 0, .ref q2, .ref q3, .ref q4, .ref q5, .ref q6, .null, .null, .null, .null, .long 0, .long 0, .long 0, .int 0, .null, .int 0, .int 0, .null, .int 0, .int 0, .int 0, .int 0, .int 0, .int 0, .int 0, .int 0, .null, .null, .int 0, .int 0, .int 0, .int 0, .int 0, .int 0, .int 0, .int 0, .null, .int 0, .null, .null, .int 0, .int 0, .int 0, .null, .int 0])), (q1, .inl (cq1, 1400, .inl (fun _ => 0))), (q2, .inl (cq2, 85, .inr (.inl (fun _ => 0))))]) [0, 1, 2] rfl
  have hD := hD.sub (ws' := [(h0, .inr (11, [.int 0, .ref q1, .int 0, .ref q2, .ref q3, .ref q4, .ref q5, .ref q6, .null, .null, .null, .null, .long 0, .long 0, .long 0, .int 0, .null, .int 0, .int 0, .null, .int 0, .int 0, .int 0, .int 0, .int 0, .int 0, .int 0, .int 0, .null, .null, .int 0, .int 0, .int 0, .int 0, .int 0, .int 0, .int 0, .int 0, .null, .int 0, .null, .null, .int 0, .int 0, .int 0, .null, .int 0])), (q1, .inl (cq1, 1400, .inl (fun _ => 0))), (q2, .inl (cq2, 85, .inr (.inl (fun _ => 0))))]) [0, 1, 2] (by decide) rfl
  have hK := hK.sub (tys' := [(cq1, .byte), (cq2, .long)]) [0, 1] rfl
  refine lv_aload_n hx hb dX11_init_57 rfl (lv_at hl 0 rfl) ?_
  refine lv_sipush (v := 10240) hx hb dX11_init_58 (by decide) ?_
  refine va_newa (atype := .int) (ty := .int) (N' := 10240) (a0 := (10240, .inl (fun _ => 0))) hx hb (hts (.arrayClass .int) (List.mem_of_getElem? (i := 8) rfl)) rfl hK hP hD hS hA (fun _ => rfl) (by decide) (by decide) (Nat.le_of_ble_eq_true rfl) (Nat.le_of_ble_eq_true rfl) (Nat.le_of_ble_eq_true rfl) dX11_init_61 (fun q7 cq7 H hK hP hD hS => ?_)
  refine W.widen (k := 7) (n := 14925) (Nat.le_of_ble_eq_true rfl) (Nat.le_of_ble_eq_true rfl) ?_
  have hK : va_K D vwCl [(cq1, .byte), (cq2, .long), (cq7, .int)] s := hK
  have hP : va_P D vwCl [(h0, .inr (11, [.int 0, .ref q1, .int 0, .ref q2, .ref q3, .ref q4, .ref q5, .ref q6, .null, .null, .null, .null, .long 0, .long 0, .long 0, .int 0, .null, .int 0, .int 0, .null, .int 0, .int 0, .int 0, .int 0, .int 0, .int 0, .int 0, .int 0, .null, .null, .int 0, .int 0, .int 0, .int 0, .int 0, .int 0, .int 0, .int 0, .null, .int 0, .null, .null, .int 0, .int 0, .int 0, .null, .int 0])), (q1, .inl (cq1, 1400, .inl (fun _ => 0))), (q2, .inl (cq2, 85, .inr (.inl (fun _ => 0)))), (q7, .inl (cq7, 10240, .inl (fun _ => 0)))] H := hP
  have hD : va_D A [(h0, .inr (11, [.int 0, .ref q1, .int 0, .ref q2, .ref q3, .ref q4, .ref q5, .ref q6, .null, .null, .null, .null, .long 0, .long 0, .long 0, .int 0, .null, .int 0, .int 0, .null, .int 0, .int 0, .int 0, .int 0, .int 0, .int 0, .int 0, .int 0, .null, .null, .int 0, .int 0, .int 0, .int 0, .int 0, .int 0, .int 0, .int 0, .null, .int 0, .null, .null, .int 0, .int 0, .int 0, .null, .int 0])), (q1, .inl (cq1, 1400, .inl (fun _ => 0))), (q2, .inl (cq2, 85, .inr (.inl (fun _ => 0)))), (q7, .inl (cq7, 10240, .inl (fun _ => 0)))] := hD
  refine va_putF (D := D) (ci := 11) (v := .ref q7) (ty := (.array .int)) (C := RX11) (T := TX11) (N := 47) hx hb hts hin_X11 tyX11 tyX11_ok nmX11 hown hK hP hD hS 0 rfl rfl 8 (by decide) (hts (.fieldLink RX11 30 "ClashFreeModel" "roofs" "[I") (List.mem_of_getElem? (i := 13) rfl)) (fun _ h9 => h9) rfl hin rfl (by decide +kernel) rfl rfl (Nat.le_of_ble_eq_true rfl) dX11_init_63 (fun H locs hP hD hS => ?_)
  have hP : va_P D vwCl [(h0, .inr (11, [.int 0, .ref q1, .int 0, .ref q2, .ref q3, .ref q4, .ref q5, .ref q6, .ref q7, .null, .null, .null, .long 0, .long 0, .long 0, .int 0, .null, .int 0, .int 0, .null, .int 0, .int 0, .int 0, .int 0, .int 0, .int 0, .int 0, .int 0, .null, .null, .int 0, .int 0, .int 0, .int 0, .int 0, .int 0, .int 0, .int 0, .null, .int 0, .null, .null, .int 0, .int 0, .int 0, .null, .int 0])), (q1, .inl (cq1, 1400, .inl (fun _ => 0))), (q2, .inl (cq2, 85, .inr (.inl (fun _ => 0)))), (q7, .inl (cq7, 10240, .inl (fun _ => 0)))] H := hP
  have hD : va_D A [(h0, .inr (11, [.int 0, .ref q1, .int 0, .ref q2, .ref q3, .ref q4, .ref q5, .ref q6, .ref q7, .null, .null, .null, .long 0, .long 0, .long 0, .int 0, .null, .int 0, .int 0, .null, .int 0, .int 0, .int 0, .int 0, .int 0, .int 0, .int 0, .int 0, .null, .null, .int 0, .int 0, .int 0, .int 0, .int 0, .int 0, .int 0, .int 0, .null, .int 0, .null, .null, .int 0, .int 0, .int 0, .null, .int 0])), (q1, .inl (cq1, 1400, .inl (fun _ => 0))), (q2, .inl (cq2, 85, .inr (.inl (fun _ => 0)))), (q7, .inl (cq7, 10240, .inl (fun _ => 0)))] := hD
  refine lv_aload_n hx hb dX11_init_66 rfl (lv_at hl 0 rfl) ?_
  refine lv_sipush (v := 10240) hx hb dX11_init_67 (by decide) ?_
  refine va_newa (atype := .int) (ty := .int) (N' := 10240) (a0 := (10240, .inl (fun _ => 0))) hx hb (hts (.arrayClass .int) (List.mem_of_getElem? (i := 8) rfl)) rfl hK hP hD hS hA (fun _ => rfl) (by decide) (by decide) (Nat.le_of_ble_eq_true rfl) (Nat.le_of_ble_eq_true rfl) (Nat.le_of_ble_eq_true rfl) dX11_init_70 (fun q8 cq8 H hK hP hD hS => ?_)
  refine W.widen (k := 8) (n := 25165) (Nat.le_of_ble_eq_true rfl) (Nat.le_of_ble_eq_true rfl) ?_
  have hK : va_K D vwCl [(cq1, .byte), (cq2, .long), (cq7, .int), (cq8, .int)] s := hK
  have hP : va_P D vwCl [(h0, .inr (11, [.int 0, .ref q1, .int 0, .ref q2, .ref q3, .ref q4, .ref q5, .ref q6, .ref q7, .null, .null, .null, .long 0, .long 0, .long 0, .int 0, .null, .int 0, .int 0, .null, .int 0, .int 0, .int 0, .int 0, .int 0, .int 0, .int 0, .int 0, .null, .null, .int 0, .int 0, .int 0, .int 0, .int 0, .int 0, .int 0, .int 0, .null, .int 0, .null, .null, .int 0, .int 0, .int 0, .null, .int 0])), (q1, .inl (cq1, 1400, .inl (fun _ => 0))), (q2, .inl (cq2, 85, .inr (.inl (fun _ => 0)))), (q7, .inl (cq7, 10240, .inl (fun _ => 0))), (q8, .inl (cq8, 10240, .inl (fun _ => 0)))] H := hP
  have hD : va_D A [(h0, .inr (11, [.int 0, .ref q1, .int 0, .ref q2, .ref q3, .ref q4, .ref q5, .ref q6, .ref q7, .null, .null, .null, .long 0, .long 0, .long 0, .int 0, .null, .int 0, .int 0, .null, .int 0, .int 0, .int 0, .int 0, .int 0, .int 0, .int 0, .int 0, .null, .null, .int 0, .int 0, .int 0, .int 0, .int 0, .int 0, .int 0, .int 0, .null, .int 0, .null, .null, .int 0, .int 0, .int 0, .null, .int 0])), (q1, .inl (cq1, 1400, .inl (fun _ => 0))), (q2, .inl (cq2, 85, .inr (.inl (fun _ => 0)))), (q7, .inl (cq7, 10240, .inl (fun _ => 0))), (q8, .inl (cq8, 10240, .inl (fun _ => 0)))] := hD
  refine va_putF (D := D) (ci := 11) (v := .ref q8) (ty := (.array .int)) (C := RX11) (T := TX11) (N := 47) hx hb hts hin_X11 tyX11 tyX11_ok nmX11 hown hK hP hD hS 0 rfl rfl 9 (by decide) (hts (.fieldLink RX11 33 "ClashFreeModel" "has" "[I") (List.mem_of_getElem? (i := 14) rfl)) (fun _ h9 => h9) rfl hin rfl (by decide +kernel) rfl rfl (Nat.le_of_ble_eq_true rfl) dX11_init_72 (fun H locs hP hD hS => ?_)
  have hP : va_P D vwCl [(h0, .inr (11, [.int 0, .ref q1, .int 0, .ref q2, .ref q3, .ref q4, .ref q5, .ref q6, .ref q7, .ref q8, .null, .null, .long 0, .long 0, .long 0, .int 0, .null, .int 0, .int 0, .null, .int 0, .int 0, .int 0, .int 0, .int 0, .int 0, .int 0, .int 0, .null, .null, .int 0, .int 0, .int 0, .int 0, .int 0, .int 0, .int 0, .int 0, .null, .int 0, .null, .null, .int 0, .int 0, .int 0, .null, .int 0])), (q1, .inl (cq1, 1400, .inl (fun _ => 0))), (q2, .inl (cq2, 85, .inr (.inl (fun _ => 0)))), (q7, .inl (cq7, 10240, .inl (fun _ => 0))), (q8, .inl (cq8, 10240, .inl (fun _ => 0)))] H := hP
  have hD : va_D A [(h0, .inr (11, [.int 0, .ref q1, .int 0, .ref q2, .ref q3, .ref q4, .ref q5, .ref q6, .ref q7, .ref q8, .null, .null, .long 0, .long 0, .long 0, .int 0, .null, .int 0, .int 0, .null, .int 0, .int 0, .int 0, .int 0, .int 0, .int 0, .int 0, .int 0, .null, .null, .int 0, .int 0, .int 0, .int 0, .int 0, .int 0, .int 0, .int 0, .null, .int 0, .null, .null, .int 0, .int 0, .int 0, .null, .int 0])), (q1, .inl (cq1, 1400, .inl (fun _ => 0))), (q2, .inl (cq2, 85, .inr (.inl (fun _ => 0)))), (q7, .inl (cq7, 10240, .inl (fun _ => 0))), (q8, .inl (cq8, 10240, .inl (fun _ => 0)))] := hD
  refine lv_aload_n hx hb dX11_init_75 rfl (lv_at hl 0 rfl) ?_
  refine lv_sipush (v := 10240) hx hb dX11_init_76 (by decide) ?_
  refine va_newa (atype := .long) (ty := .long) (N' := 10240) (a0 := (10240, .inr (.inl (fun _ => 0)))) hx hb (hts (.arrayClass .long) (List.mem_of_getElem? (i := 6) rfl)) rfl hK hP hD hS hA (fun _ => rfl) (by decide) (by decide) (Nat.le_of_ble_eq_true rfl) (Nat.le_of_ble_eq_true rfl) (Nat.le_of_ble_eq_true rfl) dX11_init_79 (fun q9 cq9 H hK hP hD hS => ?_)
  refine W.widen (k := 9) (n := 35405) (Nat.le_of_ble_eq_true rfl) (Nat.le_of_ble_eq_true rfl) ?_
  have hK : va_K D vwCl [(cq1, .byte), (cq2, .long), (cq7, .int), (cq8, .int), (cq9, .long)] s := hK
  have hP : va_P D vwCl [(h0, .inr (11, [.int 0, .ref q1, .int 0, .ref q2, .ref q3, .ref q4, .ref q5, .ref q6, .ref q7, .ref q8, .null, .null, .long 0, .long 0, .long 0, .int 0, .null, .int 0, .int 0, .null, .int 0, .int 0, .int 0, .int 0, .int 0, .int 0, .int 0, .int 0, .null, .null, .int 0, .int 0, .int 0, .int 0, .int 0, .int 0, .int 0, .int 0, .null, .int 0, .null, .null, .int 0, .int 0, .int 0, .null, .int 0])), (q1, .inl (cq1, 1400, .inl (fun _ => 0))), (q2, .inl (cq2, 85, .inr (.inl (fun _ => 0)))), (q7, .inl (cq7, 10240, .inl (fun _ => 0))), (q8, .inl (cq8, 10240, .inl (fun _ => 0))), (q9, .inl (cq9, 10240, .inr (.inl (fun _ => 0))))] H := hP
  have hD : va_D A [(h0, .inr (11, [.int 0, .ref q1, .int 0, .ref q2, .ref q3, .ref q4, .ref q5, .ref q6, .ref q7, .ref q8, .null, .null, .long 0, .long 0, .long 0, .int 0, .null, .int 0, .int 0, .null, .int 0, .int 0, .int 0, .int 0, .int 0, .int 0, .int 0, .int 0, .null, .null, .int 0, .int 0, .int 0, .int 0, .int 0, .int 0, .int 0, .int 0, .null, .int 0, .null, .null, .int 0, .int 0, .int 0, .null, .int 0])), (q1, .inl (cq1, 1400, .inl (fun _ => 0))), (q2, .inl (cq2, 85, .inr (.inl (fun _ => 0)))), (q7, .inl (cq7, 10240, .inl (fun _ => 0))), (q8, .inl (cq8, 10240, .inl (fun _ => 0))), (q9, .inl (cq9, 10240, .inr (.inl (fun _ => 0))))] := hD
  refine va_putF (D := D) (ci := 11) (v := .ref q9) (ty := (.array .long)) (C := RX11) (T := TX11) (N := 47) hx hb hts hin_X11 tyX11 tyX11_ok nmX11 hown hK hP hD hS 0 rfl rfl 10 (by decide) (hts (.fieldLink RX11 36 "ClashFreeModel" "as" "[J") (List.mem_of_getElem? (i := 15) rfl)) (fun _ h9 => h9) rfl hin rfl (by decide +kernel) rfl rfl (Nat.le_of_ble_eq_true rfl) dX11_init_81 (fun H locs hP hD hS => ?_)
  have hP : va_P D vwCl [(h0, .inr (11, [.int 0, .ref q1, .int 0, .ref q2, .ref q3, .ref q4, .ref q5, .ref q6, .ref q7, .ref q8, .ref q9, .null, .long 0, .long 0, .long 0, .int 0, .null, .int 0, .int 0, .null, .int 0, .int 0, .int 0, .int 0, .int 0, .int 0, .int 0, .int 0, .null, .null, .int 0, .int 0, .int 0, .int 0, .int 0, .int 0, .int 0, .int 0, .null, .int 0, .null, .null, .int 0, .int 0, .int 0, .null, .int 0])), (q1, .inl (cq1, 1400, .inl (fun _ => 0))), (q2, .inl (cq2, 85, .inr (.inl (fun _ => 0)))), (q7, .inl (cq7, 10240, .inl (fun _ => 0))), (q8, .inl (cq8, 10240, .inl (fun _ => 0))), (q9, .inl (cq9, 10240, .inr (.inl (fun _ => 0))))] H := hP
  have hD : va_D A [(h0, .inr (11, [.int 0, .ref q1, .int 0, .ref q2, .ref q3, .ref q4, .ref q5, .ref q6, .ref q7, .ref q8, .ref q9, .null, .long 0, .long 0, .long 0, .int 0, .null, .int 0, .int 0, .null, .int 0, .int 0, .int 0, .int 0, .int 0, .int 0, .int 0, .int 0, .null, .null, .int 0, .int 0, .int 0, .int 0, .int 0, .int 0, .int 0, .int 0, .null, .int 0, .null, .null, .int 0, .int 0, .int 0, .null, .int 0])), (q1, .inl (cq1, 1400, .inl (fun _ => 0))), (q2, .inl (cq2, 85, .inr (.inl (fun _ => 0)))), (q7, .inl (cq7, 10240, .inl (fun _ => 0))), (q8, .inl (cq8, 10240, .inl (fun _ => 0))), (q9, .inl (cq9, 10240, .inr (.inl (fun _ => 0))))] := hD
  have hP := hP.sub (ws' := [(h0, .inr (11, [.int 0, .ref q1, .int 0, .ref q2, .ref q3, .ref q4, .ref q5, .ref q6, .ref q7, .ref q8, .ref q9, .null, .long 0, .long 0, .long 0, .int 0, .null, .int 0, .int 0, .null, .int 0, .int 0, .int 0, .int 0, .int 0, .int 0, .int 0, .int 0, .null, .null, .int 0, .int 0, .int 0, .int 0, .int 0, .int 0, .int 0, .int 0, .null, .int 0, .null, .null, .int 0, .int 0, .int 0, .null, .int 0])), (q1, .inl (cq1, 1400, .inl (fun _ => 0))), (q2, .inl (cq2, 85, .inr (.inl (fun _ => 0)))), (q7, .inl (cq7, 10240, .inl (fun _ => 0))), (q8, .inl (cq8, 10240, .inl (fun _ => 0)))]) [0, 1, 2, 3, 4] rfl
  have hD := hD.sub (ws' := [(h0, .inr (11, [.int 0, .ref q1, .int 0, .ref q2, .ref q3, .ref q4, .ref q5, .ref q6, .ref q7, .ref q8, .ref q9, .null, .long 0, .long 0, .long 0, .int 0, .null, .int 0, .int 0, .null, .int 0, .int 0, .int 0, .int 0, .int 0, .int 0, .int 0, .int 0, .null, .null, .int 0, .int 0, .int 0, .int 0, .int 0, .int 0, .int 0, .int 0, .null, .int 0, .null, .null, .int 0, .int 0, .int 0, .null, .int 0])), (q1, .inl (cq1, 1400, .inl (fun _ => 0))), (q2, .inl (cq2, 85, .inr (.inl (fun _ => 0)))), (q7, .inl (cq7, 10240, .inl (fun _ => 0))), (q8, .inl (cq8, 10240, .inl (fun _ => 0)))]) [0, 1, 2, 3, 4] (by decide) rfl
  have hK := hK.sub (tys' := [(cq1, .byte), (cq2, .long), (cq7, .int), (cq8, .int)]) [0, 1, 2, 3] rfl
  refine lv_aload_n hx hb dX11_init_84 rfl (lv_at hl 0 rfl) ?_
  refine lv_sipush (v := 10240) hx hb dX11_init_85 (by decide) ?_
  refine va_newa (atype := .long) (ty := .long) (N' := 10240) (a0 := (10240, .inr (.inl (fun _ => 0)))) hx hb (hts (.arrayClass .long) (List.mem_of_getElem? (i := 6) rfl)) rfl hK hP hD hS hA (fun _ => rfl) (by decide) (by decide) (Nat.le_of_ble_eq_true rfl) (Nat.le_of_ble_eq_true rfl) (Nat.le_of_ble_eq_true rfl) dX11_init_88 (fun q10 cq10 H hK hP hD hS => ?_)
  refine W.widen (k := 10) (n := 45645) (Nat.le_of_ble_eq_true rfl) (Nat.le_of_ble_eq_true rfl) ?_
  have hK : va_K D vwCl [(cq1, .byte), (cq2, .long), (cq7, .int), (cq8, .int), (cq10, .long)] s := hK
  have hP : va_P D vwCl [(h0, .inr (11, [.int 0, .ref q1, .int 0, .ref q2, .ref q3, .ref q4, .ref q5, .ref q6, .ref q7, .ref q8, .ref q9, .null, .long 0, .long 0, .long 0, .int 0, .null, .int 0, .int 0, .null, .int 0, .int 0, .int 0, .int 0, .int 0, .int 0, .int 0, .int 0, .null, .null, .int 0, .int 0, .int 0, .int 0, .int 0, .int 0, .int 0, .int 0, .null, .int 0, .null, .null, .int 0, .int 0, .int 0, .null, .int 0])), (q1, .inl (cq1, 1400, .inl (fun _ => 0))), (q2, .inl (cq2, 85, .inr (.inl (fun _ => 0)))), (q7, .inl (cq7, 10240, .inl (fun _ => 0))), (q8, .inl (cq8, 10240, .inl (fun _ => 0))), (q10, .inl (cq10, 10240, .inr (.inl (fun _ => 0))))] H := hP
  have hD : va_D A [(h0, .inr (11, [.int 0, .ref q1, .int 0, .ref q2, .ref q3, .ref q4, .ref q5, .ref q6, .ref q7, .ref q8, .ref q9, .null, .long 0, .long 0, .long 0, .int 0, .null, .int 0, .int 0, .null, .int 0, .int 0, .int 0, .int 0, .int 0, .int 0, .int 0, .int 0, .null, .null, .int 0, .int 0, .int 0, .int 0, .int 0, .int 0, .int 0, .int 0, .null, .int 0, .null, .null, .int 0, .int 0, .int 0, .null, .int 0])), (q1, .inl (cq1, 1400, .inl (fun _ => 0))), (q2, .inl (cq2, 85, .inr (.inl (fun _ => 0)))), (q7, .inl (cq7, 10240, .inl (fun _ => 0))), (q8, .inl (cq8, 10240, .inl (fun _ => 0))), (q10, .inl (cq10, 10240, .inr (.inl (fun _ => 0))))] := hD
  refine va_putF (D := D) (ci := 11) (v := .ref q10) (ty := (.array .long)) (C := RX11) (T := TX11) (N := 47) hx hb hts hin_X11 tyX11 tyX11_ok nmX11 hown hK hP hD hS 0 rfl rfl 11 (by decide) (hts (.fieldLink RX11 39 "ClashFreeModel" "bs" "[J") (List.mem_of_getElem? (i := 16) rfl)) (fun _ h9 => h9) rfl hin rfl (by decide +kernel) rfl rfl (Nat.le_of_ble_eq_true rfl) dX11_init_90 (fun H locs hP hD hS => ?_)
  have hP : va_P D vwCl [(h0, .inr (11, [.int 0, .ref q1, .int 0, .ref q2, .ref q3, .ref q4, .ref q5, .ref q6, .ref q7, .ref q8, .ref q9, .ref q10, .long 0, .long 0, .long 0, .int 0, .null, .int 0, .int 0, .null, .int 0, .int 0, .int 0, .int 0, .int 0, .int 0, .int 0, .int 0, .null, .null, .int 0, .int 0, .int 0, .int 0, .int 0, .int 0, .int 0, .int 0, .null, .int 0, .null, .null, .int 0, .int 0, .int 0, .null, .int 0])), (q1, .inl (cq1, 1400, .inl (fun _ => 0))), (q2, .inl (cq2, 85, .inr (.inl (fun _ => 0)))), (q7, .inl (cq7, 10240, .inl (fun _ => 0))), (q8, .inl (cq8, 10240, .inl (fun _ => 0))), (q10, .inl (cq10, 10240, .inr (.inl (fun _ => 0))))] H := hP
  have hD : va_D A [(h0, .inr (11, [.int 0, .ref q1, .int 0, .ref q2, .ref q3, .ref q4, .ref q5, .ref q6, .ref q7, .ref q8, .ref q9, .ref q10, .long 0, .long 0, .long 0, .int 0, .null, .int 0, .int 0, .null, .int 0, .int 0, .int 0, .int 0, .int 0, .int 0, .int 0, .int 0, .null, .null, .int 0, .int 0, .int 0, .int 0, .int 0, .int 0, .int 0, .int 0, .null, .int 0, .null, .null, .int 0, .int 0, .int 0, .null, .int 0])), (q1, .inl (cq1, 1400, .inl (fun _ => 0))), (q2, .inl (cq2, 85, .inr (.inl (fun _ => 0)))), (q7, .inl (cq7, 10240, .inl (fun _ => 0))), (q8, .inl (cq8, 10240, .inl (fun _ => 0))), (q10, .inl (cq10, 10240, .inr (.inl (fun _ => 0))))] := hD
  have hP := hP.sub (ws' := [(h0, .inr (11, [.int 0, .ref q1, .int 0, .ref q2, .ref q3, .ref q4, .ref q5, .ref q6, .ref q7, .ref q8, .ref q9, .ref q10, .long 0, .long 0, .long 0, .int 0, .null, .int 0, .int 0, .null, .int 0, .int 0, .int 0, .int 0, .int 0, .int 0, .int 0, .int 0, .null, .null, .int 0, .int 0, .int 0, .int 0, .int 0, .int 0, .int 0, .int 0, .null, .int 0, .null, .null, .int 0, .int 0, .int 0, .null, .int 0])), (q1, .inl (cq1, 1400, .inl (fun _ => 0))), (q2, .inl (cq2, 85, .inr (.inl (fun _ => 0)))), (q7, .inl (cq7, 10240, .inl (fun _ => 0))), (q8, .inl (cq8, 10240, .inl (fun _ => 0)))]) [0, 1, 2, 3, 4] rfl
  have hD := hD.sub (ws' := [(h0, .inr (11, [.int 0, .ref q1, .int 0, .ref q2, .ref q3, .ref q4, .ref q5, .ref q6, .ref q7, .ref q8, .ref q9, .ref q10, .long 0, .long 0, .long 0, .int 0, .null, .int 0, .int 0, .null, .int 0, .int 0, .int 0, .int 0, .int 0, .int 0, .int 0, .int 0, .null, .null, .int 0, .int 0, .int 0, .int 0, .int 0, .int 0, .int 0, .int 0, .null, .int 0, .null, .null, .int 0, .int 0, .int 0, .null, .int 0])), (q1, .inl (cq1, 1400, .inl (fun _ => 0))), (q2, .inl (cq2, 85, .inr (.inl (fun _ => 0)))), (q7, .inl (cq7, 10240, .inl (fun _ => 0))), (q8, .inl (cq8, 10240, .inl (fun _ => 0)))]) [0, 1, 2, 3, 4] (by decide) rfl
  have hK := hK.sub (tys' := [(cq1, .byte), (cq2, .long), (cq7, .int), (cq8, .int)]) [0, 1, 2, 3] rfl
  refine lv_aload_n hx hb dX11_init_93 rfl (lv_at hl 0 rfl) ?_
  refine lv_sipush (v := 2048) hx hb dX11_init_94 (by decide) ?_
  refine va_newa (atype := .int) (ty := .int) (N' := 2048) (a0 := (2048, .inl (fun _ => 0))) hx hb (hts (.arrayClass .int) (List.mem_of_getElem? (i := 8) rfl)) rfl hK hP hD hS hA (fun _ => rfl) (by decide) (by decide) (Nat.le_of_ble_eq_true rfl) (Nat.le_of_ble_eq_true rfl) (Nat.le_of_ble_eq_true rfl) dX11_init_97 (fun q11 cq11 H hK hP hD hS => ?_)
  refine W.widen (k := 11) (n := 47693) (Nat.le_of_ble_eq_true rfl) (Nat.le_of_ble_eq_true rfl) ?_
  have hK : va_K D vwCl [(cq1, .byte), (cq2, .long), (cq7, .int), (cq8, .int), (cq11, .int)] s := hK
  have hP : va_P D vwCl [(h0, .inr (11, [.int 0, .ref q1, .int 0, .ref q2, .ref q3, .ref q4, .ref q5, .ref q6, .ref q7, .ref q8, .ref q9, .ref q10, .long 0, .long 0, .long 0, .int 0, .null, .int 0, .int 0, .null, .int 0, .int 0, .int 0, .int 0, .int 0, .int 0, .int 0, .int 0, .null, .null, .int 0, .int 0, .int 0, .int 0, .int 0, .int 0, .int 0, .int 0, .null, .int 0, .null, .null, .int 0, .int 0, .int 0, .null, .int 0])), (q1, .inl (cq1, 1400, .inl (fun _ => 0))), (q2, .inl (cq2, 85, .inr (.inl (fun _ => 0)))), (q7, .inl (cq7, 10240, .inl (fun _ => 0))), (q8, .inl (cq8, 10240, .inl (fun _ => 0))), (q11, .inl (cq11, 2048, .inl (fun _ => 0)))] H := hP
  have hD : va_D A [(h0, .inr (11, [.int 0, .ref q1, .int 0, .ref q2, .ref q3, .ref q4, .ref q5, .ref q6, .ref q7, .ref q8, .ref q9, .ref q10, .long 0, .long 0, .long 0, .int 0, .null, .int 0, .int 0, .null, .int 0, .int 0, .int 0, .int 0, .int 0, .int 0, .int 0, .int 0, .null, .null, .int 0, .int 0, .int 0, .int 0, .int 0, .int 0, .int 0, .int 0, .null, .int 0, .null, .null, .int 0, .int 0, .int 0, .null, .int 0])), (q1, .inl (cq1, 1400, .inl (fun _ => 0))), (q2, .inl (cq2, 85, .inr (.inl (fun _ => 0)))), (q7, .inl (cq7, 10240, .inl (fun _ => 0))), (q8, .inl (cq8, 10240, .inl (fun _ => 0))), (q11, .inl (cq11, 2048, .inl (fun _ => 0)))] := hD
  refine va_putF (D := D) (ci := 11) (v := .ref q11) (ty := (.array .int)) (C := RX11) (T := TX11) (N := 47) hx hb hts hin_X11 tyX11 tyX11_ok nmX11 hown hK hP hD hS 0 rfl rfl 16 (by decide) (hts (.fieldLink RX11 42 "ClashFreeModel" "paper" "[I") (List.mem_of_getElem? (i := 17) rfl)) (fun _ h9 => h9) rfl hin rfl (by decide +kernel) rfl rfl (Nat.le_of_ble_eq_true rfl) dX11_init_99 (fun H locs hP hD hS => ?_)
  have hP : va_P D vwCl [(h0, .inr (11, [.int 0, .ref q1, .int 0, .ref q2, .ref q3, .ref q4, .ref q5, .ref q6, .ref q7, .ref q8, .ref q9, .ref q10, .long 0, .long 0, .long 0, .int 0, .ref q11, .int 0, .int 0, .null, .int 0, .int 0, .int 0, .int 0, .int 0, .int 0, .int 0, .int 0, .null, .null, .int 0, .int 0, .int 0, .int 0, .int 0, .int 0, .int 0, .int 0, .null, .int 0, .null, .null, .int 0, .int 0, .int 0, .null, .int 0])), (q1, .inl (cq1, 1400, .inl (fun _ => 0))), (q2, .inl (cq2, 85, .inr (.inl (fun _ => 0)))), (q7, .inl (cq7, 10240, .inl (fun _ => 0))), (q8, .inl (cq8, 10240, .inl (fun _ => 0))), (q11, .inl (cq11, 2048, .inl (fun _ => 0)))] H := hP
  have hD : va_D A [(h0, .inr (11, [.int 0, .ref q1, .int 0, .ref q2, .ref q3, .ref q4, .ref q5, .ref q6, .ref q7, .ref q8, .ref q9, .ref q10, .long 0, .long 0, .long 0, .int 0, .ref q11, .int 0, .int 0, .null, .int 0, .int 0, .int 0, .int 0, .int 0, .int 0, .int 0, .int 0, .null, .null, .int 0, .int 0, .int 0, .int 0, .int 0, .int 0, .int 0, .int 0, .null, .int 0, .null, .null, .int 0, .int 0, .int 0, .null, .int 0])), (q1, .inl (cq1, 1400, .inl (fun _ => 0))), (q2, .inl (cq2, 85, .inr (.inl (fun _ => 0)))), (q7, .inl (cq7, 10240, .inl (fun _ => 0))), (q8, .inl (cq8, 10240, .inl (fun _ => 0))), (q11, .inl (cq11, 2048, .inl (fun _ => 0)))] := hD
  have hP := hP.sub (ws' := [(h0, .inr (11, [.int 0, .ref q1, .int 0, .ref q2, .ref q3, .ref q4, .ref q5, .ref q6, .ref q7, .ref q8, .ref q9, .ref q10, .long 0, .long 0, .long 0, .int 0, .ref q11, .int 0, .int 0, .null, .int 0, .int 0, .int 0, .int 0, .int 0, .int 0, .int 0, .int 0, .null, .null, .int 0, .int 0, .int 0, .int 0, .int 0, .int 0, .int 0, .int 0, .null, .int 0, .null, .null, .int 0, .int 0, .int 0, .null, .int 0])), (q1, .inl (cq1, 1400, .inl (fun _ => 0))), (q2, .inl (cq2, 85, .inr (.inl (fun _ => 0)))), (q7, .inl (cq7, 10240, .inl (fun _ => 0))), (q8, .inl (cq8, 10240, .inl (fun _ => 0)))]) [0, 1, 2, 3, 4] rfl
  have hD := hD.sub (ws' := [(h0, .inr (11, [.int 0, .ref q1, .int 0, .ref q2, .ref q3, .ref q4, .ref q5, .ref q6, .ref q7, .ref q8, .ref q9, .ref q10, .long 0, .long 0, .long 0, .int 0, .ref q11, .int 0, .int 0, .null, .int 0, .int 0, .int 0, .int 0, .int 0, .int 0, .int 0, .int 0, .null, .null, .int 0, .int 0, .int 0, .int 0, .int 0, .int 0, .int 0, .int 0, .null, .int 0, .null, .null, .int 0, .int 0, .int 0, .null, .int 0])), (q1, .inl (cq1, 1400, .inl (fun _ => 0))), (q2, .inl (cq2, 85, .inr (.inl (fun _ => 0)))), (q7, .inl (cq7, 10240, .inl (fun _ => 0))), (q8, .inl (cq8, 10240, .inl (fun _ => 0)))]) [0, 1, 2, 3, 4] (by decide) rfl
  have hK := hK.sub (tys' := [(cq1, .byte), (cq2, .long), (cq7, .int), (cq8, .int)]) [0, 1, 2, 3] rfl
  refine lv_aload_n hx hb dX11_init_102 rfl (lv_at hl 0 rfl) ?_
  refine lv_sipush (v := 2000) hx hb dX11_init_103 (by decide) ?_
  refine va_newa (atype := .int) (ty := .int) (N' := 2000) (a0 := (2000, .inl (fun _ => 0))) hx hb (hts (.arrayClass .int) (List.mem_of_getElem? (i := 8) rfl)) rfl hK hP hD hS hA (fun _ => rfl) (by decide) (by decide) (Nat.le_of_ble_eq_true rfl) (Nat.le_of_ble_eq_true rfl) (Nat.le_of_ble_eq_true rfl) dX11_init_106 (fun q12 cq12 H hK hP hD hS => ?_)
  refine W.widen (k := 12) (n := 49693) (Nat.le_of_ble_eq_true rfl) (Nat.le_of_ble_eq_true rfl) ?_
  have hK : va_K D vwCl [(cq1, .byte), (cq2, .long), (cq7, .int), (cq8, .int), (cq12, .int)] s := hK
  have hP : va_P D vwCl [(h0, .inr (11, [.int 0, .ref q1, .int 0, .ref q2, .ref q3, .ref q4, .ref q5, .ref q6, .ref q7, .ref q8, .ref q9, .ref q10, .long 0, .long 0, .long 0, .int 0, .ref q11, .int 0, .int 0, .null, .int 0, .int 0, .int 0, .int 0, .int 0, .int 0, .int 0, .int 0, .null, .null, .int 0, .int 0, .int 0, .int 0, .int 0, .int 0, .int 0, .int 0, .null, .int 0, .null, .null, .int 0, .int 0, .int 0, .null, .int 0])), (q1, .inl (cq1, 1400, .inl (fun _ => 0))), (q2, .inl (cq2, 85, .inr (.inl (fun _ => 0)))), (q7, .inl (cq7, 10240, .inl (fun _ => 0))), (q8, .inl (cq8, 10240, .inl (fun _ => 0))), (q12, .inl (cq12, 2000, .inl (fun _ => 0)))] H := hP
  have hD : va_D A [(h0, .inr (11, [.int 0, .ref q1, .int 0, .ref q2, .ref q3, .ref q4, .ref q5, .ref q6, .ref q7, .ref q8, .ref q9, .ref q10, .long 0, .long 0, .long 0, .int 0, .ref q11, .int 0, .int 0, .null, .int 0, .int 0, .int 0, .int 0, .int 0, .int 0, .int 0, .int 0, .null, .null, .int 0, .int 0, .int 0, .int 0, .int 0, .int 0, .int 0, .int 0, .null, .int 0, .null, .null, .int 0, .int 0, .int 0, .null, .int 0])), (q1, .inl (cq1, 1400, .inl (fun _ => 0))), (q2, .inl (cq2, 85, .inr (.inl (fun _ => 0)))), (q7, .inl (cq7, 10240, .inl (fun _ => 0))), (q8, .inl (cq8, 10240, .inl (fun _ => 0))), (q12, .inl (cq12, 2000, .inl (fun _ => 0)))] := hD
  refine va_putF (D := D) (ci := 11) (v := .ref q12) (ty := (.array .int)) (C := RX11) (T := TX11) (N := 47) hx hb hts hin_X11 tyX11 tyX11_ok nmX11 hown hK hP hD hS 0 rfl rfl 19 (by decide) (hts (.fieldLink RX11 45 "ClashFreeModel" "code" "[I") (List.mem_of_getElem? (i := 18) rfl)) (fun _ h9 => h9) rfl hin rfl (by decide +kernel) rfl rfl (Nat.le_of_ble_eq_true rfl) dX11_init_108 (fun H locs hP hD hS => ?_)
  have hP : va_P D vwCl [(h0, .inr (11, [.int 0, .ref q1, .int 0, .ref q2, .ref q3, .ref q4, .ref q5, .ref q6, .ref q7, .ref q8, .ref q9, .ref q10, .long 0, .long 0, .long 0, .int 0, .ref q11, .int 0, .int 0, .ref q12, .int 0, .int 0, .int 0, .int 0, .int 0, .int 0, .int 0, .int 0, .null, .null, .int 0, .int 0, .int 0, .int 0, .int 0, .int 0, .int 0, .int 0, .null, .int 0, .null, .null, .int 0, .int 0, .int 0, .null, .int 0])), (q1, .inl (cq1, 1400, .inl (fun _ => 0))), (q2, .inl (cq2, 85, .inr (.inl (fun _ => 0)))), (q7, .inl (cq7, 10240, .inl (fun _ => 0))), (q8, .inl (cq8, 10240, .inl (fun _ => 0))), (q12, .inl (cq12, 2000, .inl (fun _ => 0)))] H := hP
  have hD : va_D A [(h0, .inr (11, [.int 0, .ref q1, .int 0, .ref q2, .ref q3, .ref q4, .ref q5, .ref q6, .ref q7, .ref q8, .ref q9, .ref q10, .long 0, .long 0, .long 0, .int 0, .ref q11, .int 0, .int 0, .ref q12, .int 0, .int 0, .int 0, .int 0, .int 0, .int 0, .int 0, .int 0, .null, .null, .int 0, .int 0, .int 0, .int 0, .int 0, .int 0, .int 0, .int 0, .null, .int 0, .null, .null, .int 0, .int 0, .int 0, .null, .int 0])), (q1, .inl (cq1, 1400, .inl (fun _ => 0))), (q2, .inl (cq2, 85, .inr (.inl (fun _ => 0)))), (q7, .inl (cq7, 10240, .inl (fun _ => 0))), (q8, .inl (cq8, 10240, .inl (fun _ => 0))), (q12, .inl (cq12, 2000, .inl (fun _ => 0)))] := hD
  have hP := hP.sub (ws' := [(h0, .inr (11, [.int 0, .ref q1, .int 0, .ref q2, .ref q3, .ref q4, .ref q5, .ref q6, .ref q7, .ref q8, .ref q9, .ref q10, .long 0, .long 0, .long 0, .int 0, .ref q11, .int 0, .int 0, .ref q12, .int 0, .int 0, .int 0, .int 0, .int 0, .int 0, .int 0, .int 0, .null, .null, .int 0, .int 0, .int 0, .int 0, .int 0, .int 0, .int 0, .int 0, .null, .int 0, .null, .null, .int 0, .int 0, .int 0, .null, .int 0])), (q1, .inl (cq1, 1400, .inl (fun _ => 0))), (q2, .inl (cq2, 85, .inr (.inl (fun _ => 0)))), (q7, .inl (cq7, 10240, .inl (fun _ => 0))), (q8, .inl (cq8, 10240, .inl (fun _ => 0)))]) [0, 1, 2, 3, 4] rfl
  have hD := hD.sub (ws' := [(h0, .inr (11, [.int 0, .ref q1, .int 0, .ref q2, .ref q3, .ref q4, .ref q5, .ref q6, .ref q7, .ref q8, .ref q9, .ref q10, .long 0, .long 0, .long 0, .int 0, .ref q11, .int 0, .int 0, .ref q12, .int 0, .int 0, .int 0, .int 0, .int 0, .int 0, .int 0, .int 0, .null, .null, .int 0, .int 0, .int 0, .int 0, .int 0, .int 0, .int 0, .int 0, .null, .int 0, .null, .null, .int 0, .int 0, .int 0, .null, .int 0])), (q1, .inl (cq1, 1400, .inl (fun _ => 0))), (q2, .inl (cq2, 85, .inr (.inl (fun _ => 0)))), (q7, .inl (cq7, 10240, .inl (fun _ => 0))), (q8, .inl (cq8, 10240, .inl (fun _ => 0)))]) [0, 1, 2, 3, 4] (by decide) rfl
  have hK := hK.sub (tys' := [(cq1, .byte), (cq2, .long), (cq7, .int), (cq8, .int)]) [0, 1, 2, 3] rfl
  refine lv_aload_n hx hb dX11_init_111 rfl (lv_at hl 0 rfl) ?_
  refine lv_bipush (v := 6) hx hb dX11_init_112 (by decide) ?_
  refine va_newa (atype := .int) (ty := .int) (N' := 6) (a0 := (6, .inl (fun _ => 0))) hx hb (hts (.arrayClass .int) (List.mem_of_getElem? (i := 8) rfl)) rfl hK hP hD hS hA (fun _ => rfl) (by decide) (by decide) (Nat.le_of_ble_eq_true rfl) (Nat.le_of_ble_eq_true rfl) (Nat.le_of_ble_eq_true rfl) dX11_init_114 (fun q13 cq13 H hK hP hD hS => ?_)
  refine W.widen (k := 13) (n := 49699) (Nat.le_of_ble_eq_true rfl) (Nat.le_of_ble_eq_true rfl) ?_
  have hK : va_K D vwCl [(cq1, .byte), (cq2, .long), (cq7, .int), (cq8, .int), (cq13, .int)] s := hK
  have hP : va_P D vwCl [(h0, .inr (11, [.int 0, .ref q1, .int 0, .ref q2, .ref q3, .ref q4, .ref q5, .ref q6, .ref q7, .ref q8, .ref q9, .ref q10, .long 0, .long 0, .long 0, .int 0, .ref q11, .int 0, .int 0, .ref q12, .int 0, .int 0, .int 0, .int 0, .int 0, .int 0, .int 0, .int 0, .null, .null, .int 0, .int 0, .int 0, .int 0, .int 0, .int 0, .int 0, .int 0, .null, .int 0, .null, .null, .int 0, .int 0, .int 0, .null, .int 0])), (q1, .inl (cq1, 1400, .inl (fun _ => 0))), (q2, .inl (cq2, 85, .inr (.inl (fun _ => 0)))), (q7, .inl (cq7, 10240, .inl (fun _ => 0))), (q8, .inl (cq8, 10240, .inl (fun _ => 0))), (q13, .inl (cq13, 6, .inl (fun _ => 0)))] H := hP
  have hD : va_D A [(h0, .inr (11, [.int 0, .ref q1, .int 0, .ref q2, .ref q3, .ref q4, .ref q5, .ref q6, .ref q7, .ref q8, .ref q9, .ref q10, .long 0, .long 0, .long 0, .int 0, .ref q11, .int 0, .int 0, .ref q12, .int 0, .int 0, .int 0, .int 0, .int 0, .int 0, .int 0, .int 0, .null, .null, .int 0, .int 0, .int 0, .int 0, .int 0, .int 0, .int 0, .int 0, .null, .int 0, .null, .null, .int 0, .int 0, .int 0, .null, .int 0])), (q1, .inl (cq1, 1400, .inl (fun _ => 0))), (q2, .inl (cq2, 85, .inr (.inl (fun _ => 0)))), (q7, .inl (cq7, 10240, .inl (fun _ => 0))), (q8, .inl (cq8, 10240, .inl (fun _ => 0))), (q13, .inl (cq13, 6, .inl (fun _ => 0)))] := hD
  refine va_putF (D := D) (ci := 11) (v := .ref q13) (ty := (.array .int)) (C := RX11) (T := TX11) (N := 47) hx hb hts hin_X11 tyX11 tyX11_ok nmX11 hown hK hP hD hS 0 rfl rfl 28 (by decide) (hts (.fieldLink RX11 48 "ClashFreeModel" "openAt" "[I") (List.mem_of_getElem? (i := 19) rfl)) (fun _ h9 => h9) rfl hin rfl (by decide +kernel) rfl rfl (Nat.le_of_ble_eq_true rfl) dX11_init_116 (fun H locs hP hD hS => ?_)
  have hP : va_P D vwCl [(h0, .inr (11, [.int 0, .ref q1, .int 0, .ref q2, .ref q3, .ref q4, .ref q5, .ref q6, .ref q7, .ref q8, .ref q9, .ref q10, .long 0, .long 0, .long 0, .int 0, .ref q11, .int 0, .int 0, .ref q12, .int 0, .int 0, .int 0, .int 0, .int 0, .int 0, .int 0, .int 0, .ref q13, .null, .int 0, .int 0, .int 0, .int 0, .int 0, .int 0, .int 0, .int 0, .null, .int 0, .null, .null, .int 0, .int 0, .int 0, .null, .int 0])), (q1, .inl (cq1, 1400, .inl (fun _ => 0))), (q2, .inl (cq2, 85, .inr (.inl (fun _ => 0)))), (q7, .inl (cq7, 10240, .inl (fun _ => 0))), (q8, .inl (cq8, 10240, .inl (fun _ => 0))), (q13, .inl (cq13, 6, .inl (fun _ => 0)))] H := hP
  have hD : va_D A [(h0, .inr (11, [.int 0, .ref q1, .int 0, .ref q2, .ref q3, .ref q4, .ref q5, .ref q6, .ref q7, .ref q8, .ref q9, .ref q10, .long 0, .long 0, .long 0, .int 0, .ref q11, .int 0, .int 0, .ref q12, .int 0, .int 0, .int 0, .int 0, .int 0, .int 0, .int 0, .int 0, .ref q13, .null, .int 0, .int 0, .int 0, .int 0, .int 0, .int 0, .int 0, .int 0, .null, .int 0, .null, .null, .int 0, .int 0, .int 0, .null, .int 0])), (q1, .inl (cq1, 1400, .inl (fun _ => 0))), (q2, .inl (cq2, 85, .inr (.inl (fun _ => 0)))), (q7, .inl (cq7, 10240, .inl (fun _ => 0))), (q8, .inl (cq8, 10240, .inl (fun _ => 0))), (q13, .inl (cq13, 6, .inl (fun _ => 0)))] := hD
  have hP := hP.sub (ws' := [(h0, .inr (11, [.int 0, .ref q1, .int 0, .ref q2, .ref q3, .ref q4, .ref q5, .ref q6, .ref q7, .ref q8, .ref q9, .ref q10, .long 0, .long 0, .long 0, .int 0, .ref q11, .int 0, .int 0, .ref q12, .int 0, .int 0, .int 0, .int 0, .int 0, .int 0, .int 0, .int 0, .ref q13, .null, .int 0, .int 0, .int 0, .int 0, .int 0, .int 0, .int 0, .int 0, .null, .int 0, .null, .null, .int 0, .int 0, .int 0, .null, .int 0])), (q1, .inl (cq1, 1400, .inl (fun _ => 0))), (q2, .inl (cq2, 85, .inr (.inl (fun _ => 0)))), (q7, .inl (cq7, 10240, .inl (fun _ => 0))), (q8, .inl (cq8, 10240, .inl (fun _ => 0)))]) [0, 1, 2, 3, 4] rfl
  have hD := hD.sub (ws' := [(h0, .inr (11, [.int 0, .ref q1, .int 0, .ref q2, .ref q3, .ref q4, .ref q5, .ref q6, .ref q7, .ref q8, .ref q9, .ref q10, .long 0, .long 0, .long 0, .int 0, .ref q11, .int 0, .int 0, .ref q12, .int 0, .int 0, .int 0, .int 0, .int 0, .int 0, .int 0, .int 0, .ref q13, .null, .int 0, .int 0, .int 0, .int 0, .int 0, .int 0, .int 0, .int 0, .null, .int 0, .null, .null, .int 0, .int 0, .int 0, .null, .int 0])), (q1, .inl (cq1, 1400, .inl (fun _ => 0))), (q2, .inl (cq2, 85, .inr (.inl (fun _ => 0)))), (q7, .inl (cq7, 10240, .inl (fun _ => 0))), (q8, .inl (cq8, 10240, .inl (fun _ => 0)))]) [0, 1, 2, 3, 4] (by decide) rfl
  have hK := hK.sub (tys' := [(cq1, .byte), (cq2, .long), (cq7, .int), (cq8, .int)]) [0, 1, 2, 3] rfl
  refine lv_aload_n hx hb dX11_init_119 rfl (lv_at hl 0 rfl) ?_
  refine lv_sipush (v := 700) hx hb dX11_init_120 (by decide) ?_
  refine va_newa (atype := .int) (ty := .int) (N' := 700) (a0 := (700, .inl (fun _ => 0))) hx hb (hts (.arrayClass .int) (List.mem_of_getElem? (i := 8) rfl)) rfl hK hP hD hS hA (fun _ => rfl) (by decide) (by decide) (Nat.le_of_ble_eq_true rfl) (Nat.le_of_ble_eq_true rfl) (Nat.le_of_ble_eq_true rfl) dX11_init_123 (fun q14 cq14 H hK hP hD hS => ?_)
  refine W.widen (k := 14) (n := 50399) (Nat.le_of_ble_eq_true rfl) (Nat.le_of_ble_eq_true rfl) ?_
  have hK : va_K D vwCl [(cq1, .byte), (cq2, .long), (cq7, .int), (cq8, .int), (cq14, .int)] s := hK
  have hP : va_P D vwCl [(h0, .inr (11, [.int 0, .ref q1, .int 0, .ref q2, .ref q3, .ref q4, .ref q5, .ref q6, .ref q7, .ref q8, .ref q9, .ref q10, .long 0, .long 0, .long 0, .int 0, .ref q11, .int 0, .int 0, .ref q12, .int 0, .int 0, .int 0, .int 0, .int 0, .int 0, .int 0, .int 0, .ref q13, .null, .int 0, .int 0, .int 0, .int 0, .int 0, .int 0, .int 0, .int 0, .null, .int 0, .null, .null, .int 0, .int 0, .int 0, .null, .int 0])), (q1, .inl (cq1, 1400, .inl (fun _ => 0))), (q2, .inl (cq2, 85, .inr (.inl (fun _ => 0)))), (q7, .inl (cq7, 10240, .inl (fun _ => 0))), (q8, .inl (cq8, 10240, .inl (fun _ => 0))), (q14, .inl (cq14, 700, .inl (fun _ => 0)))] H := hP
  have hD : va_D A [(h0, .inr (11, [.int 0, .ref q1, .int 0, .ref q2, .ref q3, .ref q4, .ref q5, .ref q6, .ref q7, .ref q8, .ref q9, .ref q10, .long 0, .long 0, .long 0, .int 0, .ref q11, .int 0, .int 0, .ref q12, .int 0, .int 0, .int 0, .int 0, .int 0, .int 0, .int 0, .int 0, .ref q13, .null, .int 0, .int 0, .int 0, .int 0, .int 0, .int 0, .int 0, .int 0, .null, .int 0, .null, .null, .int 0, .int 0, .int 0, .null, .int 0])), (q1, .inl (cq1, 1400, .inl (fun _ => 0))), (q2, .inl (cq2, 85, .inr (.inl (fun _ => 0)))), (q7, .inl (cq7, 10240, .inl (fun _ => 0))), (q8, .inl (cq8, 10240, .inl (fun _ => 0))), (q14, .inl (cq14, 700, .inl (fun _ => 0)))] := hD
  refine va_putF (D := D) (ci := 11) (v := .ref q14) (ty := (.array .int)) (C := RX11) (T := TX11) (N := 47) hx hb hts hin_X11 tyX11 tyX11_ok nmX11 hown hK hP hD hS 0 rfl rfl 29 (by decide) (hts (.fieldLink RX11 51 "ClashFreeModel" "pile" "[I") (List.mem_of_getElem? (i := 20) rfl)) (fun _ h9 => h9) rfl hin rfl (by decide +kernel) rfl rfl (Nat.le_of_ble_eq_true rfl) dX11_init_125 (fun H locs hP hD hS => ?_)
  have hP : va_P D vwCl [(h0, .inr (11, [.int 0, .ref q1, .int 0, .ref q2, .ref q3, .ref q4, .ref q5, .ref q6, .ref q7, .ref q8, .ref q9, .ref q10, .long 0, .long 0, .long 0, .int 0, .ref q11, .int 0, .int 0, .ref q12, .int 0, .int 0, .int 0, .int 0, .int 0, .int 0, .int 0, .int 0, .ref q13, .ref q14, .int 0, .int 0, .int 0, .int 0, .int 0, .int 0, .int 0, .int 0, .null, .int 0, .null, .null, .int 0, .int 0, .int 0, .null, .int 0])), (q1, .inl (cq1, 1400, .inl (fun _ => 0))), (q2, .inl (cq2, 85, .inr (.inl (fun _ => 0)))), (q7, .inl (cq7, 10240, .inl (fun _ => 0))), (q8, .inl (cq8, 10240, .inl (fun _ => 0))), (q14, .inl (cq14, 700, .inl (fun _ => 0)))] H := hP
  have hD : va_D A [(h0, .inr (11, [.int 0, .ref q1, .int 0, .ref q2, .ref q3, .ref q4, .ref q5, .ref q6, .ref q7, .ref q8, .ref q9, .ref q10, .long 0, .long 0, .long 0, .int 0, .ref q11, .int 0, .int 0, .ref q12, .int 0, .int 0, .int 0, .int 0, .int 0, .int 0, .int 0, .int 0, .ref q13, .ref q14, .int 0, .int 0, .int 0, .int 0, .int 0, .int 0, .int 0, .int 0, .null, .int 0, .null, .null, .int 0, .int 0, .int 0, .null, .int 0])), (q1, .inl (cq1, 1400, .inl (fun _ => 0))), (q2, .inl (cq2, 85, .inr (.inl (fun _ => 0)))), (q7, .inl (cq7, 10240, .inl (fun _ => 0))), (q8, .inl (cq8, 10240, .inl (fun _ => 0))), (q14, .inl (cq14, 700, .inl (fun _ => 0)))] := hD
  have hP := hP.sub (ws' := [(h0, .inr (11, [.int 0, .ref q1, .int 0, .ref q2, .ref q3, .ref q4, .ref q5, .ref q6, .ref q7, .ref q8, .ref q9, .ref q10, .long 0, .long 0, .long 0, .int 0, .ref q11, .int 0, .int 0, .ref q12, .int 0, .int 0, .int 0, .int 0, .int 0, .int 0, .int 0, .int 0, .ref q13, .ref q14, .int 0, .int 0, .int 0, .int 0, .int 0, .int 0, .int 0, .int 0, .null, .int 0, .null, .null, .int 0, .int 0, .int 0, .null, .int 0])), (q1, .inl (cq1, 1400, .inl (fun _ => 0))), (q2, .inl (cq2, 85, .inr (.inl (fun _ => 0)))), (q7, .inl (cq7, 10240, .inl (fun _ => 0))), (q8, .inl (cq8, 10240, .inl (fun _ => 0)))]) [0, 1, 2, 3, 4] rfl
  have hD := hD.sub (ws' := [(h0, .inr (11, [.int 0, .ref q1, .int 0, .ref q2, .ref q3, .ref q4, .ref q5, .ref q6, .ref q7, .ref q8, .ref q9, .ref q10, .long 0, .long 0, .long 0, .int 0, .ref q11, .int 0, .int 0, .ref q12, .int 0, .int 0, .int 0, .int 0, .int 0, .int 0, .int 0, .int 0, .ref q13, .ref q14, .int 0, .int 0, .int 0, .int 0, .int 0, .int 0, .int 0, .int 0, .null, .int 0, .null, .null, .int 0, .int 0, .int 0, .null, .int 0])), (q1, .inl (cq1, 1400, .inl (fun _ => 0))), (q2, .inl (cq2, 85, .inr (.inl (fun _ => 0)))), (q7, .inl (cq7, 10240, .inl (fun _ => 0))), (q8, .inl (cq8, 10240, .inl (fun _ => 0)))]) [0, 1, 2, 3, 4] (by decide) rfl
  have hK := hK.sub (tys' := [(cq1, .byte), (cq2, .long), (cq7, .int), (cq8, .int)]) [0, 1, 2, 3] rfl
  refine lv_aload_n hx hb dX11_init_128 rfl (lv_at hl 0 rfl) ?_
  refine lv_iconst (v := (-1)) hx hb dX11_init_129 (by decide) ?_
  refine va_put (D := D) (ci := 11) (v := .int (-1)) (ty := .int) (C := RX11) (T := TX11) (N := 47) hx hb hts hin_X11 tyX11 tyX11_ok nmX11 hown hK hP hD hS 0 rfl rfl 33 (by decide) (hts (.fieldLink RX11 54 "ClashFreeModel" "faultPlace" "I") (List.mem_of_getElem? (i := 21) rfl)) (fun _ h9 => h9) rfl (by decide +kernel) rfl rfl (Nat.le_of_ble_eq_true rfl) dX11_init_130 (fun H locs hP hD hS => ?_)
  have hP : va_P D vwCl [(h0, .inr (11, [.int 0, .ref q1, .int 0, .ref q2, .ref q3, .ref q4, .ref q5, .ref q6, .ref q7, .ref q8, .ref q9, .ref q10, .long 0, .long 0, .long 0, .int 0, .ref q11, .int 0, .int 0, .ref q12, .int 0, .int 0, .int 0, .int 0, .int 0, .int 0, .int 0, .int 0, .ref q13, .ref q14, .int 0, .int 0, .int 0, .int (-1), .int 0, .int 0, .int 0, .int 0, .null, .int 0, .null, .null, .int 0, .int 0, .int 0, .null, .int 0])), (q1, .inl (cq1, 1400, .inl (fun _ => 0))), (q2, .inl (cq2, 85, .inr (.inl (fun _ => 0)))), (q7, .inl (cq7, 10240, .inl (fun _ => 0))), (q8, .inl (cq8, 10240, .inl (fun _ => 0)))] H := hP
  have hD : va_D A [(h0, .inr (11, [.int 0, .ref q1, .int 0, .ref q2, .ref q3, .ref q4, .ref q5, .ref q6, .ref q7, .ref q8, .ref q9, .ref q10, .long 0, .long 0, .long 0, .int 0, .ref q11, .int 0, .int 0, .ref q12, .int 0, .int 0, .int 0, .int 0, .int 0, .int 0, .int 0, .int 0, .ref q13, .ref q14, .int 0, .int 0, .int 0, .int (-1), .int 0, .int 0, .int 0, .int 0, .null, .int 0, .null, .null, .int 0, .int 0, .int 0, .null, .int 0])), (q1, .inl (cq1, 1400, .inl (fun _ => 0))), (q2, .inl (cq2, 85, .inr (.inl (fun _ => 0)))), (q7, .inl (cq7, 10240, .inl (fun _ => 0))), (q8, .inl (cq8, 10240, .inl (fun _ => 0)))] := hD
  refine lv_aload_n hx hb dX11_init_133 rfl (lv_at hl 0 rfl) ?_
  refine lv_iconst (v := (-1)) hx hb dX11_init_134 (by decide) ?_
  refine va_put (D := D) (ci := 11) (v := .int (-1)) (ty := .int) (C := RX11) (T := TX11) (N := 47) hx hb hts hin_X11 tyX11 tyX11_ok nmX11 hown hK hP hD hS 0 rfl rfl 34 (by decide) (hts (.fieldLink RX11 58 "ClashFreeModel" "faultDepth" "I") (List.mem_of_getElem? (i := 22) rfl)) (fun _ h9 => h9) rfl (by decide +kernel) rfl rfl (Nat.le_of_ble_eq_true rfl) dX11_init_135 (fun H locs hP hD hS => ?_)
  have hP : va_P D vwCl [(h0, .inr (11, [.int 0, .ref q1, .int 0, .ref q2, .ref q3, .ref q4, .ref q5, .ref q6, .ref q7, .ref q8, .ref q9, .ref q10, .long 0, .long 0, .long 0, .int 0, .ref q11, .int 0, .int 0, .ref q12, .int 0, .int 0, .int 0, .int 0, .int 0, .int 0, .int 0, .int 0, .ref q13, .ref q14, .int 0, .int 0, .int 0, .int (-1), .int (-1), .int 0, .int 0, .int 0, .null, .int 0, .null, .null, .int 0, .int 0, .int 0, .null, .int 0])), (q1, .inl (cq1, 1400, .inl (fun _ => 0))), (q2, .inl (cq2, 85, .inr (.inl (fun _ => 0)))), (q7, .inl (cq7, 10240, .inl (fun _ => 0))), (q8, .inl (cq8, 10240, .inl (fun _ => 0)))] H := hP
  have hD : va_D A [(h0, .inr (11, [.int 0, .ref q1, .int 0, .ref q2, .ref q3, .ref q4, .ref q5, .ref q6, .ref q7, .ref q8, .ref q9, .ref q10, .long 0, .long 0, .long 0, .int 0, .ref q11, .int 0, .int 0, .ref q12, .int 0, .int 0, .int 0, .int 0, .int 0, .int 0, .int 0, .int 0, .ref q13, .ref q14, .int 0, .int 0, .int 0, .int (-1), .int (-1), .int 0, .int 0, .int 0, .null, .int 0, .null, .null, .int 0, .int 0, .int 0, .null, .int 0])), (q1, .inl (cq1, 1400, .inl (fun _ => 0))), (q2, .inl (cq2, 85, .inr (.inl (fun _ => 0)))), (q7, .inl (cq7, 10240, .inl (fun _ => 0))), (q8, .inl (cq8, 10240, .inl (fun _ => 0)))] := hD
  refine lv_aload_n hx hb dX11_init_138 rfl (lv_at hl 0 rfl) ?_
  refine lv_sipush (v := 700) hx hb dX11_init_139 (by decide) ?_
  refine va_newa (atype := .int) (ty := .int) (N' := 700) (a0 := (700, .inl (fun _ => 0))) hx hb (hts (.arrayClass .int) (List.mem_of_getElem? (i := 8) rfl)) rfl hK hP hD hS hA (fun _ => rfl) (by decide) (by decide) (Nat.le_of_ble_eq_true rfl) (Nat.le_of_ble_eq_true rfl) (Nat.le_of_ble_eq_true rfl) dX11_init_142 (fun q15 cq15 H hK hP hD hS => ?_)
  refine W.widen (k := 15) (n := 51099) (Nat.le_of_ble_eq_true rfl) (Nat.le_of_ble_eq_true rfl) ?_
  have hK : va_K D vwCl [(cq1, .byte), (cq2, .long), (cq7, .int), (cq8, .int), (cq15, .int)] s := hK
  have hP : va_P D vwCl [(h0, .inr (11, [.int 0, .ref q1, .int 0, .ref q2, .ref q3, .ref q4, .ref q5, .ref q6, .ref q7, .ref q8, .ref q9, .ref q10, .long 0, .long 0, .long 0, .int 0, .ref q11, .int 0, .int 0, .ref q12, .int 0, .int 0, .int 0, .int 0, .int 0, .int 0, .int 0, .int 0, .ref q13, .ref q14, .int 0, .int 0, .int 0, .int (-1), .int (-1), .int 0, .int 0, .int 0, .null, .int 0, .null, .null, .int 0, .int 0, .int 0, .null, .int 0])), (q1, .inl (cq1, 1400, .inl (fun _ => 0))), (q2, .inl (cq2, 85, .inr (.inl (fun _ => 0)))), (q7, .inl (cq7, 10240, .inl (fun _ => 0))), (q8, .inl (cq8, 10240, .inl (fun _ => 0))), (q15, .inl (cq15, 700, .inl (fun _ => 0)))] H := hP
  have hD : va_D A [(h0, .inr (11, [.int 0, .ref q1, .int 0, .ref q2, .ref q3, .ref q4, .ref q5, .ref q6, .ref q7, .ref q8, .ref q9, .ref q10, .long 0, .long 0, .long 0, .int 0, .ref q11, .int 0, .int 0, .ref q12, .int 0, .int 0, .int 0, .int 0, .int 0, .int 0, .int 0, .int 0, .ref q13, .ref q14, .int 0, .int 0, .int 0, .int (-1), .int (-1), .int 0, .int 0, .int 0, .null, .int 0, .null, .null, .int 0, .int 0, .int 0, .null, .int 0])), (q1, .inl (cq1, 1400, .inl (fun _ => 0))), (q2, .inl (cq2, 85, .inr (.inl (fun _ => 0)))), (q7, .inl (cq7, 10240, .inl (fun _ => 0))), (q8, .inl (cq8, 10240, .inl (fun _ => 0))), (q15, .inl (cq15, 700, .inl (fun _ => 0)))] := hD
  refine va_putF (D := D) (ci := 11) (v := .ref q15) (ty := (.array .int)) (C := RX11) (T := TX11) (N := 47) hx hb hts hin_X11 tyX11 tyX11_ok nmX11 hown hK hP hD hS 0 rfl rfl 38 (by decide) (hts (.fieldLink RX11 61 "ClashFreeModel" "worked" "[I") (List.mem_of_getElem? (i := 23) rfl)) (fun _ h9 => h9) rfl hin rfl (by decide +kernel) rfl rfl (Nat.le_of_ble_eq_true rfl) dX11_init_144 (fun H locs hP hD hS => ?_)
  have hP : va_P D vwCl [(h0, .inr (11, [.int 0, .ref q1, .int 0, .ref q2, .ref q3, .ref q4, .ref q5, .ref q6, .ref q7, .ref q8, .ref q9, .ref q10, .long 0, .long 0, .long 0, .int 0, .ref q11, .int 0, .int 0, .ref q12, .int 0, .int 0, .int 0, .int 0, .int 0, .int 0, .int 0, .int 0, .ref q13, .ref q14, .int 0, .int 0, .int 0, .int (-1), .int (-1), .int 0, .int 0, .int 0, .ref q15, .int 0, .null, .null, .int 0, .int 0, .int 0, .null, .int 0])), (q1, .inl (cq1, 1400, .inl (fun _ => 0))), (q2, .inl (cq2, 85, .inr (.inl (fun _ => 0)))), (q7, .inl (cq7, 10240, .inl (fun _ => 0))), (q8, .inl (cq8, 10240, .inl (fun _ => 0))), (q15, .inl (cq15, 700, .inl (fun _ => 0)))] H := hP
  have hD : va_D A [(h0, .inr (11, [.int 0, .ref q1, .int 0, .ref q2, .ref q3, .ref q4, .ref q5, .ref q6, .ref q7, .ref q8, .ref q9, .ref q10, .long 0, .long 0, .long 0, .int 0, .ref q11, .int 0, .int 0, .ref q12, .int 0, .int 0, .int 0, .int 0, .int 0, .int 0, .int 0, .int 0, .ref q13, .ref q14, .int 0, .int 0, .int 0, .int (-1), .int (-1), .int 0, .int 0, .int 0, .ref q15, .int 0, .null, .null, .int 0, .int 0, .int 0, .null, .int 0])), (q1, .inl (cq1, 1400, .inl (fun _ => 0))), (q2, .inl (cq2, 85, .inr (.inl (fun _ => 0)))), (q7, .inl (cq7, 10240, .inl (fun _ => 0))), (q8, .inl (cq8, 10240, .inl (fun _ => 0))), (q15, .inl (cq15, 700, .inl (fun _ => 0)))] := hD
  have hP := hP.sub (ws' := [(h0, .inr (11, [.int 0, .ref q1, .int 0, .ref q2, .ref q3, .ref q4, .ref q5, .ref q6, .ref q7, .ref q8, .ref q9, .ref q10, .long 0, .long 0, .long 0, .int 0, .ref q11, .int 0, .int 0, .ref q12, .int 0, .int 0, .int 0, .int 0, .int 0, .int 0, .int 0, .int 0, .ref q13, .ref q14, .int 0, .int 0, .int 0, .int (-1), .int (-1), .int 0, .int 0, .int 0, .ref q15, .int 0, .null, .null, .int 0, .int 0, .int 0, .null, .int 0])), (q1, .inl (cq1, 1400, .inl (fun _ => 0))), (q2, .inl (cq2, 85, .inr (.inl (fun _ => 0)))), (q7, .inl (cq7, 10240, .inl (fun _ => 0))), (q8, .inl (cq8, 10240, .inl (fun _ => 0)))]) [0, 1, 2, 3, 4] rfl
  have hD := hD.sub (ws' := [(h0, .inr (11, [.int 0, .ref q1, .int 0, .ref q2, .ref q3, .ref q4, .ref q5, .ref q6, .ref q7, .ref q8, .ref q9, .ref q10, .long 0, .long 0, .long 0, .int 0, .ref q11, .int 0, .int 0, .ref q12, .int 0, .int 0, .int 0, .int 0, .int 0, .int 0, .int 0, .int 0, .ref q13, .ref q14, .int 0, .int 0, .int 0, .int (-1), .int (-1), .int 0, .int 0, .int 0, .ref q15, .int 0, .null, .null, .int 0, .int 0, .int 0, .null, .int 0])), (q1, .inl (cq1, 1400, .inl (fun _ => 0))), (q2, .inl (cq2, 85, .inr (.inl (fun _ => 0)))), (q7, .inl (cq7, 10240, .inl (fun _ => 0))), (q8, .inl (cq8, 10240, .inl (fun _ => 0)))]) [0, 1, 2, 3, 4] (by decide) rfl
  have hK := hK.sub (tys' := [(cq1, .byte), (cq2, .long), (cq7, .int), (cq8, .int)]) [0, 1, 2, 3] rfl
  refine lv_aload_n hx hb dX11_init_147 rfl (lv_at hl 0 rfl) ?_
  refine lv_bipush (v := 6) hx hb dX11_init_148 (by decide) ?_
  refine va_newa (atype := .int) (ty := .int) (N' := 6) (a0 := (6, .inl (fun _ => 0))) hx hb (hts (.arrayClass .int) (List.mem_of_getElem? (i := 8) rfl)) rfl hK hP hD hS hA (fun _ => rfl) (by decide) (by decide) (Nat.le_of_ble_eq_true rfl) (Nat.le_of_ble_eq_true rfl) (Nat.le_of_ble_eq_true rfl) dX11_init_150 (fun q16 cq16 H hK hP hD hS => ?_)
  refine W.widen (k := 16) (n := 51105) (Nat.le_of_ble_eq_true rfl) (Nat.le_of_ble_eq_true rfl) ?_
  have hK : va_K D vwCl [(cq1, .byte), (cq2, .long), (cq7, .int), (cq8, .int), (cq16, .int)] s := hK
  have hP : va_P D vwCl [(h0, .inr (11, [.int 0, .ref q1, .int 0, .ref q2, .ref q3, .ref q4, .ref q5, .ref q6, .ref q7, .ref q8, .ref q9, .ref q10, .long 0, .long 0, .long 0, .int 0, .ref q11, .int 0, .int 0, .ref q12, .int 0, .int 0, .int 0, .int 0, .int 0, .int 0, .int 0, .int 0, .ref q13, .ref q14, .int 0, .int 0, .int 0, .int (-1), .int (-1), .int 0, .int 0, .int 0, .ref q15, .int 0, .null, .null, .int 0, .int 0, .int 0, .null, .int 0])), (q1, .inl (cq1, 1400, .inl (fun _ => 0))), (q2, .inl (cq2, 85, .inr (.inl (fun _ => 0)))), (q7, .inl (cq7, 10240, .inl (fun _ => 0))), (q8, .inl (cq8, 10240, .inl (fun _ => 0))), (q16, .inl (cq16, 6, .inl (fun _ => 0)))] H := hP
  have hD : va_D A [(h0, .inr (11, [.int 0, .ref q1, .int 0, .ref q2, .ref q3, .ref q4, .ref q5, .ref q6, .ref q7, .ref q8, .ref q9, .ref q10, .long 0, .long 0, .long 0, .int 0, .ref q11, .int 0, .int 0, .ref q12, .int 0, .int 0, .int 0, .int 0, .int 0, .int 0, .int 0, .int 0, .ref q13, .ref q14, .int 0, .int 0, .int 0, .int (-1), .int (-1), .int 0, .int 0, .int 0, .ref q15, .int 0, .null, .null, .int 0, .int 0, .int 0, .null, .int 0])), (q1, .inl (cq1, 1400, .inl (fun _ => 0))), (q2, .inl (cq2, 85, .inr (.inl (fun _ => 0)))), (q7, .inl (cq7, 10240, .inl (fun _ => 0))), (q8, .inl (cq8, 10240, .inl (fun _ => 0))), (q16, .inl (cq16, 6, .inl (fun _ => 0)))] := hD
  refine va_putF (D := D) (ci := 11) (v := .ref q16) (ty := (.array .int)) (C := RX11) (T := TX11) (N := 47) hx hb hts hin_X11 tyX11 tyX11_ok nmX11 hown hK hP hD hS 0 rfl rfl 40 (by decide) (hts (.fieldLink RX11 64 "ClashFreeModel" "roundOf" "[I") (List.mem_of_getElem? (i := 24) rfl)) (fun _ h9 => h9) rfl hin rfl (by decide +kernel) rfl rfl (Nat.le_of_ble_eq_true rfl) dX11_init_152 (fun H locs hP hD hS => ?_)
  have hP : va_P D vwCl [(h0, .inr (11, [.int 0, .ref q1, .int 0, .ref q2, .ref q3, .ref q4, .ref q5, .ref q6, .ref q7, .ref q8, .ref q9, .ref q10, .long 0, .long 0, .long 0, .int 0, .ref q11, .int 0, .int 0, .ref q12, .int 0, .int 0, .int 0, .int 0, .int 0, .int 0, .int 0, .int 0, .ref q13, .ref q14, .int 0, .int 0, .int 0, .int (-1), .int (-1), .int 0, .int 0, .int 0, .ref q15, .int 0, .ref q16, .null, .int 0, .int 0, .int 0, .null, .int 0])), (q1, .inl (cq1, 1400, .inl (fun _ => 0))), (q2, .inl (cq2, 85, .inr (.inl (fun _ => 0)))), (q7, .inl (cq7, 10240, .inl (fun _ => 0))), (q8, .inl (cq8, 10240, .inl (fun _ => 0))), (q16, .inl (cq16, 6, .inl (fun _ => 0)))] H := hP
  have hD : va_D A [(h0, .inr (11, [.int 0, .ref q1, .int 0, .ref q2, .ref q3, .ref q4, .ref q5, .ref q6, .ref q7, .ref q8, .ref q9, .ref q10, .long 0, .long 0, .long 0, .int 0, .ref q11, .int 0, .int 0, .ref q12, .int 0, .int 0, .int 0, .int 0, .int 0, .int 0, .int 0, .int 0, .ref q13, .ref q14, .int 0, .int 0, .int 0, .int (-1), .int (-1), .int 0, .int 0, .int 0, .ref q15, .int 0, .ref q16, .null, .int 0, .int 0, .int 0, .null, .int 0])), (q1, .inl (cq1, 1400, .inl (fun _ => 0))), (q2, .inl (cq2, 85, .inr (.inl (fun _ => 0)))), (q7, .inl (cq7, 10240, .inl (fun _ => 0))), (q8, .inl (cq8, 10240, .inl (fun _ => 0))), (q16, .inl (cq16, 6, .inl (fun _ => 0)))] := hD
  have hP := hP.sub (ws' := [(h0, .inr (11, [.int 0, .ref q1, .int 0, .ref q2, .ref q3, .ref q4, .ref q5, .ref q6, .ref q7, .ref q8, .ref q9, .ref q10, .long 0, .long 0, .long 0, .int 0, .ref q11, .int 0, .int 0, .ref q12, .int 0, .int 0, .int 0, .int 0, .int 0, .int 0, .int 0, .int 0, .ref q13, .ref q14, .int 0, .int 0, .int 0, .int (-1), .int (-1), .int 0, .int 0, .int 0, .ref q15, .int 0, .ref q16, .null, .int 0, .int 0, .int 0, .null, .int 0])), (q1, .inl (cq1, 1400, .inl (fun _ => 0))), (q2, .inl (cq2, 85, .inr (.inl (fun _ => 0)))), (q7, .inl (cq7, 10240, .inl (fun _ => 0))), (q8, .inl (cq8, 10240, .inl (fun _ => 0)))]) [0, 1, 2, 3, 4] rfl
  have hD := hD.sub (ws' := [(h0, .inr (11, [.int 0, .ref q1, .int 0, .ref q2, .ref q3, .ref q4, .ref q5, .ref q6, .ref q7, .ref q8, .ref q9, .ref q10, .long 0, .long 0, .long 0, .int 0, .ref q11, .int 0, .int 0, .ref q12, .int 0, .int 0, .int 0, .int 0, .int 0, .int 0, .int 0, .int 0, .ref q13, .ref q14, .int 0, .int 0, .int 0, .int (-1), .int (-1), .int 0, .int 0, .int 0, .ref q15, .int 0, .ref q16, .null, .int 0, .int 0, .int 0, .null, .int 0])), (q1, .inl (cq1, 1400, .inl (fun _ => 0))), (q2, .inl (cq2, 85, .inr (.inl (fun _ => 0)))), (q7, .inl (cq7, 10240, .inl (fun _ => 0))), (q8, .inl (cq8, 10240, .inl (fun _ => 0)))]) [0, 1, 2, 3, 4] (by decide) rfl
  have hK := hK.sub (tys' := [(cq1, .byte), (cq2, .long), (cq7, .int), (cq8, .int)]) [0, 1, 2, 3] rfl
  refine lv_aload_n hx hb dX11_init_155 rfl (lv_at hl 0 rfl) ?_
  refine lv_bipush (v := 6) hx hb dX11_init_156 (by decide) ?_
  refine va_newa (atype := .int) (ty := .int) (N' := 6) (a0 := (6, .inl (fun _ => 0))) hx hb (hts (.arrayClass .int) (List.mem_of_getElem? (i := 8) rfl)) rfl hK hP hD hS hA (fun _ => rfl) (by decide) (by decide) (Nat.le_of_ble_eq_true rfl) (Nat.le_of_ble_eq_true rfl) (Nat.le_of_ble_eq_true rfl) dX11_init_158 (fun q17 cq17 H hK hP hD hS => ?_)
  refine W.widen (k := 17) (n := 51111) (Nat.le_of_ble_eq_true rfl) (Nat.le_of_ble_eq_true rfl) ?_
  have hK : va_K D vwCl [(cq1, .byte), (cq2, .long), (cq7, .int), (cq8, .int), (cq17, .int)] s := hK
  have hP : va_P D vwCl [(h0, .inr (11, [.int 0, .ref q1, .int 0, .ref q2, .ref q3, .ref q4, .ref q5, .ref q6, .ref q7, .ref q8, .ref q9, .ref q10, .long 0, .long 0, .long 0, .int 0, .ref q11, .int 0, .int 0, .ref q12, .int 0, .int 0, .int 0, .int 0, .int 0, .int 0, .int 0, .int 0, .ref q13, .ref q14, .int 0, .int 0, .int 0, .int (-1), .int (-1), .int 0, .int 0, .int 0, .ref q15, .int 0, .ref q16, .null, .int 0, .int 0, .int 0, .null, .int 0])), (q1, .inl (cq1, 1400, .inl (fun _ => 0))), (q2, .inl (cq2, 85, .inr (.inl (fun _ => 0)))), (q7, .inl (cq7, 10240, .inl (fun _ => 0))), (q8, .inl (cq8, 10240, .inl (fun _ => 0))), (q17, .inl (cq17, 6, .inl (fun _ => 0)))] H := hP
  have hD : va_D A [(h0, .inr (11, [.int 0, .ref q1, .int 0, .ref q2, .ref q3, .ref q4, .ref q5, .ref q6, .ref q7, .ref q8, .ref q9, .ref q10, .long 0, .long 0, .long 0, .int 0, .ref q11, .int 0, .int 0, .ref q12, .int 0, .int 0, .int 0, .int 0, .int 0, .int 0, .int 0, .int 0, .ref q13, .ref q14, .int 0, .int 0, .int 0, .int (-1), .int (-1), .int 0, .int 0, .int 0, .ref q15, .int 0, .ref q16, .null, .int 0, .int 0, .int 0, .null, .int 0])), (q1, .inl (cq1, 1400, .inl (fun _ => 0))), (q2, .inl (cq2, 85, .inr (.inl (fun _ => 0)))), (q7, .inl (cq7, 10240, .inl (fun _ => 0))), (q8, .inl (cq8, 10240, .inl (fun _ => 0))), (q17, .inl (cq17, 6, .inl (fun _ => 0)))] := hD
  refine va_putF (D := D) (ci := 11) (v := .ref q17) (ty := (.array .int)) (C := RX11) (T := TX11) (N := 47) hx hb hts hin_X11 tyX11 tyX11_ok nmX11 hown hK hP hD hS 0 rfl rfl 41 (by decide) (hts (.fieldLink RX11 67 "ClashFreeModel" "blockOf" "[I") (List.mem_of_getElem? (i := 25) rfl)) (fun _ h9 => h9) rfl hin rfl (by decide +kernel) rfl rfl (Nat.le_of_ble_eq_true rfl) dX11_init_160 (fun H locs hP hD hS => ?_)
  have hP : va_P D vwCl [(h0, .inr (11, [.int 0, .ref q1, .int 0, .ref q2, .ref q3, .ref q4, .ref q5, .ref q6, .ref q7, .ref q8, .ref q9, .ref q10, .long 0, .long 0, .long 0, .int 0, .ref q11, .int 0, .int 0, .ref q12, .int 0, .int 0, .int 0, .int 0, .int 0, .int 0, .int 0, .int 0, .ref q13, .ref q14, .int 0, .int 0, .int 0, .int (-1), .int (-1), .int 0, .int 0, .int 0, .ref q15, .int 0, .ref q16, .ref q17, .int 0, .int 0, .int 0, .null, .int 0])), (q1, .inl (cq1, 1400, .inl (fun _ => 0))), (q2, .inl (cq2, 85, .inr (.inl (fun _ => 0)))), (q7, .inl (cq7, 10240, .inl (fun _ => 0))), (q8, .inl (cq8, 10240, .inl (fun _ => 0))), (q17, .inl (cq17, 6, .inl (fun _ => 0)))] H := hP
  have hD : va_D A [(h0, .inr (11, [.int 0, .ref q1, .int 0, .ref q2, .ref q3, .ref q4, .ref q5, .ref q6, .ref q7, .ref q8, .ref q9, .ref q10, .long 0, .long 0, .long 0, .int 0, .ref q11, .int 0, .int 0, .ref q12, .int 0, .int 0, .int 0, .int 0, .int 0, .int 0, .int 0, .int 0, .ref q13, .ref q14, .int 0, .int 0, .int 0, .int (-1), .int (-1), .int 0, .int 0, .int 0, .ref q15, .int 0, .ref q16, .ref q17, .int 0, .int 0, .int 0, .null, .int 0])), (q1, .inl (cq1, 1400, .inl (fun _ => 0))), (q2, .inl (cq2, 85, .inr (.inl (fun _ => 0)))), (q7, .inl (cq7, 10240, .inl (fun _ => 0))), (q8, .inl (cq8, 10240, .inl (fun _ => 0))), (q17, .inl (cq17, 6, .inl (fun _ => 0)))] := hD
  have hP := hP.sub (ws' := [(h0, .inr (11, [.int 0, .ref q1, .int 0, .ref q2, .ref q3, .ref q4, .ref q5, .ref q6, .ref q7, .ref q8, .ref q9, .ref q10, .long 0, .long 0, .long 0, .int 0, .ref q11, .int 0, .int 0, .ref q12, .int 0, .int 0, .int 0, .int 0, .int 0, .int 0, .int 0, .int 0, .ref q13, .ref q14, .int 0, .int 0, .int 0, .int (-1), .int (-1), .int 0, .int 0, .int 0, .ref q15, .int 0, .ref q16, .ref q17, .int 0, .int 0, .int 0, .null, .int 0])), (q1, .inl (cq1, 1400, .inl (fun _ => 0))), (q2, .inl (cq2, 85, .inr (.inl (fun _ => 0)))), (q7, .inl (cq7, 10240, .inl (fun _ => 0))), (q8, .inl (cq8, 10240, .inl (fun _ => 0)))]) [0, 1, 2, 3, 4] rfl
  have hD := hD.sub (ws' := [(h0, .inr (11, [.int 0, .ref q1, .int 0, .ref q2, .ref q3, .ref q4, .ref q5, .ref q6, .ref q7, .ref q8, .ref q9, .ref q10, .long 0, .long 0, .long 0, .int 0, .ref q11, .int 0, .int 0, .ref q12, .int 0, .int 0, .int 0, .int 0, .int 0, .int 0, .int 0, .int 0, .ref q13, .ref q14, .int 0, .int 0, .int 0, .int (-1), .int (-1), .int 0, .int 0, .int 0, .ref q15, .int 0, .ref q16, .ref q17, .int 0, .int 0, .int 0, .null, .int 0])), (q1, .inl (cq1, 1400, .inl (fun _ => 0))), (q2, .inl (cq2, 85, .inr (.inl (fun _ => 0)))), (q7, .inl (cq7, 10240, .inl (fun _ => 0))), (q8, .inl (cq8, 10240, .inl (fun _ => 0)))]) [0, 1, 2, 3, 4] (by decide) rfl
  have hK := hK.sub (tys' := [(cq1, .byte), (cq2, .long), (cq7, .int), (cq8, .int)]) [0, 1, 2, 3] rfl
  refine lv_aload_n hx hb dX11_init_163 rfl (lv_at hl 0 rfl) ?_
  refine lv_sipush (v := 1400) hx hb dX11_init_164 (by decide) ?_
  refine va_newa (atype := .int) (ty := .int) (N' := 1400) (a0 := (1400, .inl (fun _ => 0))) hx hb (hts (.arrayClass .int) (List.mem_of_getElem? (i := 8) rfl)) rfl hK hP hD hS hA (fun _ => rfl) (by decide) (by decide) (Nat.le_of_ble_eq_true rfl) (Nat.le_of_ble_eq_true rfl) (Nat.le_of_ble_eq_true rfl) dX11_init_167 (fun q18 cq18 H hK hP hD hS => ?_)
  refine W.widen (k := 18) (n := 52511) (Nat.le_of_ble_eq_true rfl) (Nat.le_of_ble_eq_true rfl) ?_
  have hK : va_K D vwCl [(cq1, .byte), (cq2, .long), (cq7, .int), (cq8, .int), (cq18, .int)] s := hK
  have hP : va_P D vwCl [(h0, .inr (11, [.int 0, .ref q1, .int 0, .ref q2, .ref q3, .ref q4, .ref q5, .ref q6, .ref q7, .ref q8, .ref q9, .ref q10, .long 0, .long 0, .long 0, .int 0, .ref q11, .int 0, .int 0, .ref q12, .int 0, .int 0, .int 0, .int 0, .int 0, .int 0, .int 0, .int 0, .ref q13, .ref q14, .int 0, .int 0, .int 0, .int (-1), .int (-1), .int 0, .int 0, .int 0, .ref q15, .int 0, .ref q16, .ref q17, .int 0, .int 0, .int 0, .null, .int 0])), (q1, .inl (cq1, 1400, .inl (fun _ => 0))), (q2, .inl (cq2, 85, .inr (.inl (fun _ => 0)))), (q7, .inl (cq7, 10240, .inl (fun _ => 0))), (q8, .inl (cq8, 10240, .inl (fun _ => 0))), (q18, .inl (cq18, 1400, .inl (fun _ => 0)))] H := hP
  have hD : va_D A [(h0, .inr (11, [.int 0, .ref q1, .int 0, .ref q2, .ref q3, .ref q4, .ref q5, .ref q6, .ref q7, .ref q8, .ref q9, .ref q10, .long 0, .long 0, .long 0, .int 0, .ref q11, .int 0, .int 0, .ref q12, .int 0, .int 0, .int 0, .int 0, .int 0, .int 0, .int 0, .int 0, .ref q13, .ref q14, .int 0, .int 0, .int 0, .int (-1), .int (-1), .int 0, .int 0, .int 0, .ref q15, .int 0, .ref q16, .ref q17, .int 0, .int 0, .int 0, .null, .int 0])), (q1, .inl (cq1, 1400, .inl (fun _ => 0))), (q2, .inl (cq2, 85, .inr (.inl (fun _ => 0)))), (q7, .inl (cq7, 10240, .inl (fun _ => 0))), (q8, .inl (cq8, 10240, .inl (fun _ => 0))), (q18, .inl (cq18, 1400, .inl (fun _ => 0)))] := hD
  refine va_putF (D := D) (ci := 11) (v := .ref q18) (ty := (.array .int)) (C := RX11) (T := TX11) (N := 47) hx hb hts hin_X11 tyX11 tyX11_ok nmX11 hown hK hP hD hS 0 rfl rfl 45 (by decide) (hts (.fieldLink RX11 70 "ClashFreeModel" "octets" "[I") (List.mem_of_getElem? (i := 26) rfl)) (fun _ h9 => h9) rfl hin rfl (by decide +kernel) rfl rfl (Nat.le_of_ble_eq_true rfl) dX11_init_169 (fun H locs hP hD hS => ?_)
  have hP : va_P D vwCl [(h0, .inr (11, [.int 0, .ref q1, .int 0, .ref q2, .ref q3, .ref q4, .ref q5, .ref q6, .ref q7, .ref q8, .ref q9, .ref q10, .long 0, .long 0, .long 0, .int 0, .ref q11, .int 0, .int 0, .ref q12, .int 0, .int 0, .int 0, .int 0, .int 0, .int 0, .int 0, .int 0, .ref q13, .ref q14, .int 0, .int 0, .int 0, .int (-1), .int (-1), .int 0, .int 0, .int 0, .ref q15, .int 0, .ref q16, .ref q17, .int 0, .int 0, .int 0, .ref q18, .int 0])), (q1, .inl (cq1, 1400, .inl (fun _ => 0))), (q2, .inl (cq2, 85, .inr (.inl (fun _ => 0)))), (q7, .inl (cq7, 10240, .inl (fun _ => 0))), (q8, .inl (cq8, 10240, .inl (fun _ => 0))), (q18, .inl (cq18, 1400, .inl (fun _ => 0)))] H := hP
  have hD : va_D A [(h0, .inr (11, [.int 0, .ref q1, .int 0, .ref q2, .ref q3, .ref q4, .ref q5, .ref q6, .ref q7, .ref q8, .ref q9, .ref q10, .long 0, .long 0, .long 0, .int 0, .ref q11, .int 0, .int 0, .ref q12, .int 0, .int 0, .int 0, .int 0, .int 0, .int 0, .int 0, .int 0, .ref q13, .ref q14, .int 0, .int 0, .int 0, .int (-1), .int (-1), .int 0, .int 0, .int 0, .ref q15, .int 0, .ref q16, .ref q17, .int 0, .int 0, .int 0, .ref q18, .int 0])), (q1, .inl (cq1, 1400, .inl (fun _ => 0))), (q2, .inl (cq2, 85, .inr (.inl (fun _ => 0)))), (q7, .inl (cq7, 10240, .inl (fun _ => 0))), (q8, .inl (cq8, 10240, .inl (fun _ => 0))), (q18, .inl (cq18, 1400, .inl (fun _ => 0)))] := hD
  have hP := hP.sub (ws' := [(h0, .inr (11, [.int 0, .ref q1, .int 0, .ref q2, .ref q3, .ref q4, .ref q5, .ref q6, .ref q7, .ref q8, .ref q9, .ref q10, .long 0, .long 0, .long 0, .int 0, .ref q11, .int 0, .int 0, .ref q12, .int 0, .int 0, .int 0, .int 0, .int 0, .int 0, .int 0, .int 0, .ref q13, .ref q14, .int 0, .int 0, .int 0, .int (-1), .int (-1), .int 0, .int 0, .int 0, .ref q15, .int 0, .ref q16, .ref q17, .int 0, .int 0, .int 0, .ref q18, .int 0])), (q1, .inl (cq1, 1400, .inl (fun _ => 0))), (q2, .inl (cq2, 85, .inr (.inl (fun _ => 0)))), (q7, .inl (cq7, 10240, .inl (fun _ => 0))), (q8, .inl (cq8, 10240, .inl (fun _ => 0)))]) [0, 1, 2, 3, 4] rfl
  have hD := hD.sub (ws' := [(h0, .inr (11, [.int 0, .ref q1, .int 0, .ref q2, .ref q3, .ref q4, .ref q5, .ref q6, .ref q7, .ref q8, .ref q9, .ref q10, .long 0, .long 0, .long 0, .int 0, .ref q11, .int 0, .int 0, .ref q12, .int 0, .int 0, .int 0, .int 0, .int 0, .int 0, .int 0, .int 0, .ref q13, .ref q14, .int 0, .int 0, .int 0, .int (-1), .int (-1), .int 0, .int 0, .int 0, .ref q15, .int 0, .ref q16, .ref q17, .int 0, .int 0, .int 0, .ref q18, .int 0])), (q1, .inl (cq1, 1400, .inl (fun _ => 0))), (q2, .inl (cq2, 85, .inr (.inl (fun _ => 0)))), (q7, .inl (cq7, 10240, .inl (fun _ => 0))), (q8, .inl (cq8, 10240, .inl (fun _ => 0)))]) [0, 1, 2, 3, 4] (by decide) rfl
  have hK := hK.sub (tys' := [(cq1, .byte), (cq2, .long), (cq7, .int), (cq8, .int)]) [0, 1, 2, 3] rfl
  exact W.vret hx hb hr (fun t ht hW => ⟨⟨((fun i => [0, q1, 0, q2, q3, q4, q5, q6, q7, q8, q9, q10, 0, 0, 0, 0, q11, 0, 0, q12, 0, 0, 0, 0, 0, 0, 0, 0, q13, q14, 0, 0, 0, 0, 0, 0, 0, 0, q15, 0, q16, q17, 0, 0, 0, q18, 0].getD i 0), (fun i => [cq1, cq1, cq1, cq2, cq1, cq1, cq1, cq1, cq7, cq8, cq1, cq1, cq1, cq1, cq1, cq1, cq1, cq1, cq1, cq1, cq1, cq1, cq1, cq1, cq1, cq1, cq1, cq1, cq1, cq1, cq1, cq1, cq1, cq1, cq1, cq1, cq1, cq1, cq1, cq1, cq1, cq1, cq1, cq1, cq1, cq1, cq1].getD i cq1)), rfl, trivial, by rw [ht]; exact hP.sub [0, 1, 2, 3, 4] rfl, va_K.moved hW.alike (hK.sub [0, 1, 2, 3] rfl), hD.sub [0, 1, 2, 3, 4] (by decide) rfl⟩, hS.F ht⟩) hS.2.2 dX11_init_172

def own_c_X5_init : List Cond := [.methodLink RX5 3 objectInit, .instanceMethod objectInit, .code objectInit ⟨#[0xb1]⟩ 1 none, .classLink RX5 9 RX0, .instantiable RX0 4, .initialized RX0, .instanceMethod yX0_init, .fieldLink RX5 12 "ClashFree$Paper" "draw" "LClashFree$Draw;", .classLink RX5 18 RX3, .instantiable RX3 13, .initialized RX3, .methodLink RX5 20 yX3_init, .instanceMethod yX3_init, .fieldLink RX5 21 "ClashFree$Paper" "layout" "LClashFree$Layout;"]
def wp_c_X5_init : List Cond := .code yX5_init cX5_init 1 none :: (own_c_X5_init ++ (wp_c_X0_init ++ (wp_c_X3_init ++ (wsX00 ++ (wsX50 ++ (wsX30 ++ ([] : List Cond)))))))
set_option maxRecDepth 20000 in
theorem inown_c_X5_init : ∀ w ∈ own_c_X5_init, w ∈ lw_tbl := mem_places [139, 130, 131, 140, 141, 108, 143, 238, 172, 173, 109, 174, 175, 240] (by decide +kernel)
set_option maxRecDepth 20000 in
theorem in_c_X5_init : ∀ w ∈ wp_c_X5_init, w ∈ lw_tbl := List.forall_mem_cons.mpr ⟨List.mem_of_getElem? (i := 138) (by decide +kernel), List.forall_mem_append.mpr ⟨inown_c_X5_init, List.forall_mem_append.mpr ⟨in_c_X0_init, List.forall_mem_append.mpr ⟨in_c_X3_init, List.forall_mem_append.mpr ⟨lwb_X0, List.forall_mem_append.mpr ⟨lwb_X5, List.forall_mem_append.mpr ⟨lwb_X3, fun _ h => absurd h List.not_mem_nil⟩⟩⟩⟩⟩⟩⟩
set_option maxRecDepth 20000 in
theorem good_c_X5_init : wp_c_X5_init.all goodWord = true := by decide +kernel
set_option maxRecDepth 20000 in
theorem g_c_X5_init_c_X0_init_11 : GoodIn wp_c_X5_init (wp_c_X0_init) := goodIn_sub ((fun _ h => (List.mem_cons_of_mem _ (List.mem_append_right _ (List.mem_append_left _ h))))) (by decide +kernel)
set_option maxRecDepth 20000 in
theorem g_c_X5_init_c_X3_init_20 : GoodIn wp_c_X5_init (wp_c_X3_init) := goodIn_sub ((fun _ h => (List.mem_cons_of_mem _ (List.mem_append_right _ (List.mem_append_right _ (List.mem_append_left _ h)))))) (by decide +kernel)
set_option maxHeartbeats 4000000 in
set_option maxRecDepth 100000 in
theorem c_X5_init (l : Launch) (D : va_G) (sz : Nat) (h0 : Nat)  : Met l yX5_init wp_c_X5_init ({ frames := 2, cells := 10, slots := 10737, locals := 32 }) (PcWN D [.ref h0] sz [(h0, .inr (5, [.null, .null, .int 0]))] []) (va_Qv (fun (_ : Unit) => True) (fun (_ : Unit) _ => True) (va_A [(h0, .inr (5, [.null, .null, .int 0]))] sz)) 10 10737 (va_A [(h0, .inr (5, [.null, .null, .int 0]))] sz) := by
  refine Met.ofW (cc := cX5_init) (maxL := 1) (ret := none) (by decide) rfl ?_
  intro p e s m args below meth c s₁ B hml hv
  obtain ⟨rfl, hsz, hP, hK, hD0, hN⟩ := hv
  have hx := B.exec
  have hb := B.bytes
  have hr := B.returns
  have hts := atoms_spec (ws := wp_c_X5_init) B.pre
  have hin_X0 : ∀ w ∈ wsX00, w ∈ wp_c_X5_init := fun _ h => (List.mem_cons_of_mem _ (List.mem_append_right _ (List.mem_append_right _ (List.mem_append_right _ (List.mem_append_left _ h)))))
  have hin_X5 : ∀ w ∈ wsX50, w ∈ wp_c_X5_init := fun _ h => (List.mem_cons_of_mem _ (List.mem_append_right _ (List.mem_append_right _ (List.mem_append_right _ (List.mem_append_right _ (List.mem_append_left _ h))))))
  have hin_X3 : ∀ w ∈ wsX30, w ∈ wp_c_X5_init := fun _ h => (List.mem_cons_of_mem _ (List.mem_append_right _ (List.mem_append_right _ (List.mem_append_right _ (List.mem_append_right _ (List.mem_append_right _ (List.mem_append_left _ h)))))))
  have hown : s.vm.findClass RX5 = some m.cls := findClass_of_methodNamed B.named
  have hlocks := B.notSynchronized
  have hin : meth.name = "<init>" := (name_of_methodNamed B.named B.method).1
  subst hsz
  have hD := hD0.self (sz := s.heap.size)
  generalize hAe : va_A [(h0, .inr (5, [.null, .null, .int 0]))] s.heap.size = A at hD ⊢
  have hA : ∀ q : Nat, s.heap.size ≤ q → A q := fun q h => by rw [← hAe]; exact Or.inr h
  have hS : va_S A s.heap s.heap [] := va_S.rf
  have hP : va_P D vwCl [(h0, .inr (5, [.null, .null, .int 0]))] s.heap := hP
  have hl := lv_entry ([.ref h0]) (n := 1) (Nat.le_of_ble_eq_true rfl)
  rw [lg_entry_eq]
  generalize (lg_sl ([.ref h0]) ++ List.replicate (1 - (lg_sl ([.ref h0])).length) Slot.unset).toArray = ls at hl ⊢
  have hl : lv_has ls 1 [(0, .ref h0)] := hl
  refine lv_aload_n hx hb dX5_init_0 rfl (lv_at hl 0 rfl) ?_
  refine W.objInit hx hb hown (hts (.methodLink RX5 3 objectInit) (List.mem_of_getElem? (i := 1) rfl)) (hts (.instanceMethod objectInit) (List.mem_of_getElem? (i := 2) rfl)) (hts (.code objectInit ⟨#[0xb1]⟩ 1 none) (List.mem_of_getElem? (i := 3) rfl)) rfl (by rw [hml]; exact hl.1) rfl dX5_init_1 (Nat.le_of_ble_eq_true rfl) (Nat.le_of_ble_eq_true rfl) ?_
  refine W.eq (g2 := F0 m 4 ls []) rfl ?_
  refine lv_aload_n hx hb dX5_init_4 rfl (lv_at hl 0 rfl) ?_
  refine va_new (ci := 0) (fs := [.long 0, .int 0, .int 0, .int 0]) (C := RX0) (T := TX0) (N := 4) hx hb hts hin_X0 tyX0 tyX0_ok hown (hts (.classLink RX5 9 RX0) (List.mem_of_getElem? (i := 4) rfl)) (hts (.instantiable RX0 4) (List.mem_of_getElem? (i := 5) rfl)) (hts (.initialized RX0) (List.mem_of_getElem? (i := 6) rfl)) hK hP hD hS hA rfl (fun j hj => by rcases (show j = 0 ∨ j = 1 ∨ j = 2 ∨ j = 3 by omega) with rfl | rfl | rfl | rfl <;> rfl) (Nat.le_of_ble_eq_true rfl) (Nat.le_of_ble_eq_true rfl) dX5_init_5 (fun q1 H hP hD hS => ?_)
  refine W.widen (k := 1) (n := 4) (Nat.le_of_ble_eq_true rfl) (Nat.le_of_ble_eq_true rfl) ?_
  have hP : va_P D vwCl [(h0, .inr (5, [.null, .null, .int 0])), (q1, .inr (0, [.long 0, .int 0, .int 0, .int 0]))] H := hP
  have hD : va_D A [(h0, .inr (5, [.null, .null, .int 0])), (q1, .inr (0, [.long 0, .int 0, .int 0, .int 0]))] := hD
  refine lv_dup hx hb dX5_init_8 rfl ?_
  have hPc := hP.sub (ws' := [(q1, .inr (0, [.long 0, .int 0, .int 0, .int 0]))]) [1] rfl
  have hKc := hK.sub (tys' := []) [] rfl
  have hDc := hD.sub (ws' := [(q1, .inr (0, [.long 0, .int 0, .int 0, .int 0]))]) [1] (by decide) rfl
  have hFc := va_free (wc := [(q1, .inr (0, [.long 0, .int 0, .int 0, .int 0]))]) hD hS hA [1] rfl
  refine va_callv (va_runIN (As := []) (rest := [.ref q1, .ref h0]) ⟨hx, hb, hml, hown, hts⟩ (c_X0_init l D _ q1) ⟨va_cnB 0 hts g_c_X5_init_c_X0_init_11 rfl rfl rfl hN.1 (hts (.initialized RX0) (List.mem_of_getElem? (i := 6) rfl)) (by decide +kernel) ⟨(Nat.le_of_ble_eq_true rfl), (Nat.le_of_ble_eq_true rfl)⟩, rfl, (hts (.instanceMethod yX0_init) (List.mem_of_getElem? (i := 7) rfl))⟩ (PcW_S hPc hKc hDc) rfl rfl hl.1 rfl (lv_room (Nat.le_of_ble_eq_true rfl)) dX5_init_9 ⟨(Nat.le_of_ble_eq_true rfl), (Nat.le_of_ble_eq_true rfl)⟩) hS (fun q _ h => hFc q h) hFc (fun uu tt H locs htt hvm hw hB hz1 hk1 hS => ?_)
  obtain ⟨qb3, cb4⟩ := uu
  obtain ⟨hP1, hK1, hD1⟩ := hB
  rw [htt] at hP1
  have hK1 := va_K.moved hvm.symm hK1
  have hP1 : va_P D vwCl [(q1, .inr (0, [.long 0, .int 0, .int 0, .int 0]))] H := hP1
  obtain ⟨hP, hD⟩ := va_join (wr := [(h0, .inr (5, [.null, .null, .int 0]))]) (w1 := [(q1, .inr (0, [.long 0, .int 0, .int 0, .int 0]))]) hP hD [1] [0] rfl rfl (by decide) (by decide) hk1 hFc hP1 hD1
  have hP : va_P D vwCl [(h0, .inr (5, [.null, .null, .int 0])), (q1, .inr (0, [.long 0, .int 0, .int 0, .int 0]))] H := hP
  have hD : va_D A [(h0, .inr (5, [.null, .null, .int 0])), (q1, .inr (0, [.long 0, .int 0, .int 0, .int 0]))] := hD
  try dsimp only at hw
  clear hz1 hk1 hFc hPc hKc hDc
  refine va_putF (D := D) (ci := 5) (v := .ref q1) (ty := (.object "ClashFree$Draw")) (C := RX5) (T := TX5) (N := 3) hx hb hts hin_X5 tyX5 tyX5_ok nmX5 hown hK hP hD hS 0 rfl rfl 0 (by decide) (hts (.fieldLink RX5 12 "ClashFree$Paper" "draw" "LClashFree$Draw;") (List.mem_of_getElem? (i := 8) rfl)) (fun _ h9 => h9) rfl hin rfl (by decide +kernel) rfl rfl (Nat.le_of_ble_eq_true rfl) dX5_init_12 (fun H locs hP hD hS => ?_)
  have hP : va_P D vwCl [(h0, .inr (5, [.ref q1, .null, .int 0])), (q1, .inr (0, [.long 0, .int 0, .int 0, .int 0]))] H := hP
  have hD : va_D A [(h0, .inr (5, [.ref q1, .null, .int 0])), (q1, .inr (0, [.long 0, .int 0, .int 0, .int 0]))] := hD
  have hP := hP.sub (ws' := [(h0, .inr (5, [.ref q1, .null, .int 0]))]) [0] rfl
  have hD := hD.sub (ws' := [(h0, .inr (5, [.ref q1, .null, .int 0]))]) [0] (by decide) rfl
  refine lv_aload_n hx hb dX5_init_15 rfl (lv_at hl 0 rfl) ?_
  refine va_new (ci := 3) (fs := [.int 0, .int 0, .int 0, .int 0, .int 0, .null, .null, .null, .null, .null, .null, .null, .null]) (C := RX3) (T := TX3) (N := 13) hx hb hts hin_X3 tyX3 tyX3_ok hown (hts (.classLink RX5 18 RX3) (List.mem_of_getElem? (i := 9) rfl)) (hts (.instantiable RX3 13) (List.mem_of_getElem? (i := 10) rfl)) (hts (.initialized RX3) (List.mem_of_getElem? (i := 11) rfl)) hK hP hD hS hA rfl (fun j hj => by rcases (show j = 0 ∨ j = 1 ∨ j = 2 ∨ j = 3 ∨ j = 4 ∨ j = 5 ∨ j = 6 ∨ j = 7 ∨ j = 8 ∨ j = 9 ∨ j = 10 ∨ j = 11 ∨ j = 12 by omega) with rfl | rfl | rfl | rfl | rfl | rfl | rfl | rfl | rfl | rfl | rfl | rfl | rfl <;> rfl) (Nat.le_of_ble_eq_true rfl) (Nat.le_of_ble_eq_true rfl) dX5_init_16 (fun q5 H hP hD hS => ?_)
  refine W.widen (k := 2) (n := 17) (Nat.le_of_ble_eq_true rfl) (Nat.le_of_ble_eq_true rfl) ?_
  have hP : va_P D vwCl [(h0, .inr (5, [.ref q1, .null, .int 0])), (q5, .inr (3, [.int 0, .int 0, .int 0, .int 0, .int 0, .null, .null, .null, .null, .null, .null, .null, .null]))] H := hP
  have hD : va_D A [(h0, .inr (5, [.ref q1, .null, .int 0])), (q5, .inr (3, [.int 0, .int 0, .int 0, .int 0, .int 0, .null, .null, .null, .null, .null, .null, .null, .null]))] := hD
  refine lv_dup hx hb dX5_init_19 rfl ?_
  have hPc := hP.sub (ws' := [(q5, .inr (3, [.int 0, .int 0, .int 0, .int 0, .int 0, .null, .null, .null, .null, .null, .null, .null, .null]))]) [1] rfl
  have hKc := hK.sub (tys' := []) [] rfl
  have hDc := hD.sub (ws' := [(q5, .inr (3, [.int 0, .int 0, .int 0, .int 0, .int 0, .null, .null, .null, .null, .null, .null, .null, .null]))]) [1] (by decide) rfl
  have hFc := va_free (wc := [(q5, .inr (3, [.int 0, .int 0, .int 0, .int 0, .int 0, .null, .null, .null, .null, .null, .null, .null, .null]))]) hD hS hA [1] rfl
  refine va_callv (va_runI (As := []) (rest := [.ref q5, .ref h0]) ⟨hx, hb, hml, hown, hts⟩ (c_X3_init l D _ q5) (cwI 0 hts g_c_X5_init_c_X3_init_20 rfl rfl rfl (hts (.initialized RX3) (List.mem_of_getElem? (i := 11) rfl)) (hts (.methodLink RX5 20 yX3_init) (List.mem_of_getElem? (i := 12) rfl)) (hts (.instanceMethod yX3_init) (List.mem_of_getElem? (i := 13) rfl)) rfl (by decide +kernel) ⟨(Nat.le_of_ble_eq_true rfl), (Nat.le_of_ble_eq_true rfl)⟩) (PcW_S hPc hKc hDc) rfl rfl hl.1 rfl (lv_room (Nat.le_of_ble_eq_true rfl)) dX5_init_20 ⟨(Nat.le_of_ble_eq_true rfl), (Nat.le_of_ble_eq_true rfl)⟩) hS (fun q _ h => hFc q h) hFc (fun uu tt H locs htt hvm hw hB hz1 hk1 hS => ?_)
  obtain ⟨qb7, cb8⟩ := uu
  obtain ⟨hP1, hK1, hD1⟩ := hB
  rw [htt] at hP1
  have hK1 := va_K.moved hvm.symm hK1
  have hP1 : va_P D vwCl [(q5, .inr (3, [.int 0, .int 0, .int 0, .int 0, .int 0, .ref (qb7 5), .ref (qb7 6), .ref (qb7 7), .ref (qb7 8), .ref (qb7 9), .ref (qb7 10), .ref (qb7 11), .ref (qb7 12)])), (qb7 5, .inl (cb8 5, 2048, .inl (fun _ => 0))), (qb7 6, .inl (cb8 6, 2048, .inl (fun _ => 0))), (qb7 12, .inl (cb8 12, 2048, .inl (fun _ => 0)))] H := hP1
  obtain ⟨hP, hD⟩ := va_join (wr := [(h0, .inr (5, [.ref q1, .null, .int 0]))]) (w1 := [(q5, .inr (3, [.int 0, .int 0, .int 0, .int 0, .int 0, .ref (qb7 5), .ref (qb7 6), .ref (qb7 7), .ref (qb7 8), .ref (qb7 9), .ref (qb7 10), .ref (qb7 11), .ref (qb7 12)])), (qb7 5, .inl (cb8 5, 2048, .inl (fun _ => 0))), (qb7 6, .inl (cb8 6, 2048, .inl (fun _ => 0))), (qb7 12, .inl (cb8 12, 2048, .inl (fun _ => 0)))]) hP hD [1] [0] rfl rfl (by decide) (by decide) hk1 hFc hP1 hD1
  have hK : va_K D vwCl [(cb8 5, .int), (cb8 6, .int), (cb8 12, .int)] s := hK.app (hK1.sub (tys' := [(cb8 5, .int), (cb8 6, .int), (cb8 12, .int)]) [0, 1, 2] rfl)
  have hP : va_P D vwCl [(h0, .inr (5, [.ref q1, .null, .int 0])), (q5, .inr (3, [.int 0, .int 0, .int 0, .int 0, .int 0, .ref (qb7 5), .ref (qb7 6), .ref (qb7 7), .ref (qb7 8), .ref (qb7 9), .ref (qb7 10), .ref (qb7 11), .ref (qb7 12)])), (qb7 5, .inl (cb8 5, 2048, .inl (fun _ => 0))), (qb7 6, .inl (cb8 6, 2048, .inl (fun _ => 0))), (qb7 12, .inl (cb8 12, 2048, .inl (fun _ => 0)))] H := hP
  have hD : va_D A [(h0, .inr (5, [.ref q1, .null, .int 0])), (q5, .inr (3, [.int 0, .int 0, .int 0, .int 0, .int 0, .ref (qb7 5), .ref (qb7 6), .ref (qb7 7), .ref (qb7 8), .ref (qb7 9), .ref (qb7 10), .ref (qb7 11), .ref (qb7 12)])), (qb7 5, .inl (cb8 5, 2048, .inl (fun _ => 0))), (qb7 6, .inl (cb8 6, 2048, .inl (fun _ => 0))), (qb7 12, .inl (cb8 12, 2048, .inl (fun _ => 0)))] := hD
  refine W.widen (k := 10) (n := 10737) (Nat.le_of_ble_eq_true rfl) (Nat.le_of_ble_eq_true rfl) ?_
  try dsimp only at hw
  clear hz1 hk1 hFc hPc hKc hDc
  refine va_putF (D := D) (ci := 5) (v := .ref q5) (ty := (.object "ClashFree$Layout")) (C := RX5) (T := TX5) (N := 3) hx hb hts hin_X5 tyX5 tyX5_ok nmX5 hown hK hP hD hS 0 rfl rfl 1 (by decide) (hts (.fieldLink RX5 21 "ClashFree$Paper" "layout" "LClashFree$Layout;") (List.mem_of_getElem? (i := 14) rfl)) (fun _ h9 => h9) rfl hin rfl (by decide +kernel) rfl rfl (Nat.le_of_ble_eq_true rfl) dX5_init_23 (fun H locs hP hD hS => ?_)
  have hP : va_P D vwCl [(h0, .inr (5, [.ref q1, .ref q5, .int 0])), (q5, .inr (3, [.int 0, .int 0, .int 0, .int 0, .int 0, .ref (qb7 5), .ref (qb7 6), .ref (qb7 7), .ref (qb7 8), .ref (qb7 9), .ref (qb7 10), .ref (qb7 11), .ref (qb7 12)])), (qb7 5, .inl (cb8 5, 2048, .inl (fun _ => 0))), (qb7 6, .inl (cb8 6, 2048, .inl (fun _ => 0))), (qb7 12, .inl (cb8 12, 2048, .inl (fun _ => 0)))] H := hP
  have hD : va_D A [(h0, .inr (5, [.ref q1, .ref q5, .int 0])), (q5, .inr (3, [.int 0, .int 0, .int 0, .int 0, .int 0, .ref (qb7 5), .ref (qb7 6), .ref (qb7 7), .ref (qb7 8), .ref (qb7 9), .ref (qb7 10), .ref (qb7 11), .ref (qb7 12)])), (qb7 5, .inl (cb8 5, 2048, .inl (fun _ => 0))), (qb7 6, .inl (cb8 6, 2048, .inl (fun _ => 0))), (qb7 12, .inl (cb8 12, 2048, .inl (fun _ => 0)))] := hD
  have hP := hP.sub (ws' := [(h0, .inr (5, [.ref q1, .ref q5, .int 0])), (qb7 5, .inl (cb8 5, 2048, .inl (fun _ => 0))), (qb7 6, .inl (cb8 6, 2048, .inl (fun _ => 0))), (qb7 12, .inl (cb8 12, 2048, .inl (fun _ => 0)))]) [0, 2, 3, 4] rfl
  have hD := hD.sub (ws' := [(h0, .inr (5, [.ref q1, .ref q5, .int 0])), (qb7 5, .inl (cb8 5, 2048, .inl (fun _ => 0))), (qb7 6, .inl (cb8 6, 2048, .inl (fun _ => 0))), (qb7 12, .inl (cb8 12, 2048, .inl (fun _ => 0)))]) [0, 2, 3, 4] (by decide) rfl
  exact W.vret hx hb hr (fun t ht hW => ⟨⟨(), rfl, trivial, trivial⟩, hS.F ht⟩) hS.2.2 dX5_init_26

def own_c_X6_init : List Cond := [.methodLink RX6 3 objectInit, .instanceMethod objectInit, .code objectInit ⟨#[0xb1]⟩ 1 none, .classLink RX6 9 RX7, .instantiable RX7 4, .initialized RX7, .methodLink RX6 11 yX7_init, .instanceMethod yX7_init, .fieldLink RX6 12 "ClashFree$Parser" "program" "LClashFree$Program;", .classLink RX6 18 RX8, .instantiable RX8 7, .initialized RX8, .instanceMethod yX8_init, .fieldLink RX6 21 "ClashFree$Parser" "scan" "LClashFree$Scanner;", .arrayClass .int, .fieldLink RX6 25 "ClashFree$Parser" "opened" "[I", .fieldLink RX6 29 "ClashFree$Parser" "waiting" "[I"]
def wp_c_X6_init : List Cond := .code yX6_init cX6_init 1 none :: (own_c_X6_init ++ (wp_c_X7_init ++ (wp_c_X8_init ++ (wsX70 ++ (wsX60 ++ (wsX80 ++ ([] : List Cond)))))))
set_option maxRecDepth 20000 in
theorem inown_c_X6_init : ∀ w ∈ own_c_X6_init, w ∈ lw_tbl := mem_places [271, 130, 131, 272, 273, 112, 274, 275, 333, 296, 297, 113, 299, 335, 171, 343, 345] (by decide +kernel)
set_option maxRecDepth 20000 in
theorem in_c_X6_init : ∀ w ∈ wp_c_X6_init, w ∈ lw_tbl := List.forall_mem_cons.mpr ⟨List.mem_of_getElem? (i := 270) (by decide +kernel), List.forall_mem_append.mpr ⟨inown_c_X6_init, List.forall_mem_append.mpr ⟨in_c_X7_init, List.forall_mem_append.mpr ⟨in_c_X8_init, List.forall_mem_append.mpr ⟨lwb_X7, List.forall_mem_append.mpr ⟨lwb_X6, List.forall_mem_append.mpr ⟨lwb_X8, fun _ h => absurd h List.not_mem_nil⟩⟩⟩⟩⟩⟩⟩
set_option maxRecDepth 20000 in
theorem good_c_X6_init : wp_c_X6_init.all goodWord = true := by decide +kernel
set_option maxRecDepth 20000 in
theorem g_c_X6_init_c_X7_init_11 : GoodIn wp_c_X6_init (wp_c_X7_init) := goodIn_sub ((fun _ h => (List.mem_cons_of_mem _ (List.mem_append_right _ (List.mem_append_left _ h))))) (by decide +kernel)
set_option maxRecDepth 20000 in
theorem g_c_X6_init_c_X8_init_20 : GoodIn wp_c_X6_init (wp_c_X8_init) := goodIn_sub ((fun _ h => (List.mem_cons_of_mem _ (List.mem_append_right _ (List.mem_append_right _ (List.mem_append_left _ h)))))) (by decide +kernel)
set_option maxHeartbeats 4000000 in
set_option maxRecDepth 100000 in
theorem c_X6_init (l : Launch) (D : va_G) (sz : Nat) (h0 : Nat)  : Met l yX6_init wp_c_X6_init ({ frames := 2, cells := 7, slots := 2416, locals := 32 }) (PcWN D [.ref h0] sz [(h0, .inr (6, [.int 0, .int 0, .int 0, .null, .null, .int 0, .int 0, .int 0, .int 0, .int 0, .int 0, .int 0, .null, .int 0, .null]))] []) (va_Qv (fun (_ : (Nat → Nat) × (Nat → ClassId)) => True) (fun (u : (Nat → Nat) × (Nat → ClassId)) t => va_P D vwCl [(h0, .inr (6, [.int 0, .int 0, .int 0, .ref (u.1 3), .ref (u.1 4), .int 0, .int 0, .int 0, .int 0, .int 0, .int 0, .int 0, .ref (u.1 12), .int 0, .ref (u.1 14)]))] t.heap ∧ va_K D vwCl [] t ∧ va_D (va_A [(h0, .inr (6, [.int 0, .int 0, .int 0, .null, .null, .int 0, .int 0, .int 0, .int 0, .int 0, .int 0, .int 0, .null, .int 0, .null]))] sz) [(h0, .inr (6, [.int 0, .int 0, .int 0, .ref (u.1 3), .ref (u.1 4), .int 0, .int 0, .int 0, .int 0, .int 0, .int 0, .int 0, .ref (u.1 12), .int 0, .ref (u.1 14)]))]) (va_A [(h0, .inr (6, [.int 0, .int 0, .int 0, .null, .null, .int 0, .int 0, .int 0, .int 0, .int 0, .int 0, .int 0, .null, .int 0, .null]))] sz)) 7 2416 (va_A [(h0, .inr (6, [.int 0, .int 0, .int 0, .null, .null, .int 0, .int 0, .int 0, .int 0, .int 0, .int 0, .int 0, .null, .int 0, .null]))] sz) := by
  refine Met.ofW (cc := cX6_init) (maxL := 1) (ret := none) (by decide) rfl ?_
  intro p e s m args below meth c s₁ B hml hv
  obtain ⟨rfl, hsz, hP, hK, hD0, hN⟩ := hv
  have hx := B.exec
  have hb := B.bytes
  have hr := B.returns
  have hts := atoms_spec (ws := wp_c_X6_init) B.pre
  have hin_X7 : ∀ w ∈ wsX70, w ∈ wp_c_X6_init := fun _ h => (List.mem_cons_of_mem _ (List.mem_append_right _ (List.mem_append_right _ (List.mem_append_right _ (List.mem_append_left _ h)))))
  have hin_X6 : ∀ w ∈ wsX60, w ∈ wp_c_X6_init := fun _ h => (List.mem_cons_of_mem _ (List.mem_append_right _ (List.mem_append_right _ (List.mem_append_right _ (List.mem_append_right _ (List.mem_append_left _ h))))))
  have hin_X8 : ∀ w ∈ wsX80, w ∈ wp_c_X6_init := fun _ h => (List.mem_cons_of_mem _ (List.mem_append_right _ (List.mem_append_right _ (List.mem_append_right _ (List.mem_append_right _ (List.mem_append_right _ (List.mem_append_left _ h)))))))
  have hown : s.vm.findClass RX6 = some m.cls := findClass_of_methodNamed B.named
  have hlocks := B.notSynchronized
  have hin : meth.name = "<init>" := (name_of_methodNamed B.named B.method).1
  subst hsz
  have hD := hD0.self (sz := s.heap.size)
  generalize hAe : va_A [(h0, .inr (6, [.int 0, .int 0, .int 0, .null, .null, .int 0, .int 0, .int 0, .int 0, .int 0, .int 0, .int 0, .null, .int 0, .null]))] s.heap.size = A at hD ⊢
  have hA : ∀ q : Nat, s.heap.size ≤ q → A q := fun q h => by rw [← hAe]; exact Or.inr h
  have hS : va_S A s.heap s.heap [] := va_S.rf
  have hP : va_P D vwCl [(h0, .inr (6, [.int 0, .int 0, .int 0, .null, .null, .int 0, .int 0, .int 0, .int 0, .int 0, .int 0, .int 0, .null, .int 0, .null]))] s.heap := hP
  have hl := lv_entry ([.ref h0]) (n := 1) (Nat.le_of_ble_eq_true rfl)
  rw [lg_entry_eq]
  generalize (lg_sl ([.ref h0]) ++ List.replicate (1 - (lg_sl ([.ref h0])).length) Slot.unset).toArray = ls at hl ⊢
  have hl : lv_has ls 1 [(0, .ref h0)] := hl
  refine lv_aload_n hx hb dX6_init_0 rfl (lv_at hl 0 rfl) ?_
  refine W.objInit hx hb hown (hts (.methodLink RX6 3 objectInit) (List.mem_of_getElem? (i := 1) rfl)) (hts (.instanceMethod objectInit) (List.mem_of_getElem? (i := 2) rfl)) (hts (.code objectInit ⟨#[0xb1]⟩ 1 none) (List.mem_of_getElem? (i := 3) rfl)) rfl (by rw [hml]; exact hl.1) rfl dX6_init_1 (Nat.le_of_ble_eq_true rfl) (Nat.le_of_ble_eq_true rfl) ?_
  refine W.eq (g2 := F0 m 4 ls []) rfl ?_
  refine lv_aload_n hx hb dX6_init_4 rfl (lv_at hl 0 rfl) ?_
  refine va_new (ci := 7) (fs := [.int 0, .null, .null, .null]) (C := RX7) (T := TX7) (N := 4) hx hb hts hin_X7 tyX7 tyX7_ok hown (hts (.classLink RX6 9 RX7) (List.mem_of_getElem? (i := 4) rfl)) (hts (.instantiable RX7 4) (List.mem_of_getElem? (i := 5) rfl)) (hts (.initialized RX7) (List.mem_of_getElem? (i := 6) rfl)) hK hP hD hS hA rfl (fun j hj => by rcases (show j = 0 ∨ j = 1 ∨ j = 2 ∨ j = 3 by omega) with rfl | rfl | rfl | rfl <;> rfl) (Nat.le_of_ble_eq_true rfl) (Nat.le_of_ble_eq_true rfl) dX6_init_5 (fun q1 H hP hD hS => ?_)
  refine W.widen (k := 1) (n := 4) (Nat.le_of_ble_eq_true rfl) (Nat.le_of_ble_eq_true rfl) ?_
  have hP : va_P D vwCl [(h0, .inr (6, [.int 0, .int 0, .int 0, .null, .null, .int 0, .int 0, .int 0, .int 0, .int 0, .int 0, .int 0, .null, .int 0, .null])), (q1, .inr (7, [.int 0, .null, .null, .null]))] H := hP
  have hD : va_D A [(h0, .inr (6, [.int 0, .int 0, .int 0, .null, .null, .int 0, .int 0, .int 0, .int 0, .int 0, .int 0, .int 0, .null, .int 0, .null])), (q1, .inr (7, [.int 0, .null, .null, .null]))] := hD
  refine lv_dup hx hb dX6_init_8 rfl ?_
  have hPc := hP.sub (ws' := [(q1, .inr (7, [.int 0, .null, .null, .null]))]) [1] rfl
  have hKc := hK.sub (tys' := []) [] rfl
  have hDc := hD.sub (ws' := [(q1, .inr (7, [.int 0, .null, .null, .null]))]) [1] (by decide) rfl
  have hFc := va_free (wc := [(q1, .inr (7, [.int 0, .null, .null, .null]))]) hD hS hA [1] rfl
  refine va_callv (va_runI (As := []) (rest := [.ref q1, .ref h0]) ⟨hx, hb, hml, hown, hts⟩ (c_X7_init l D _ q1) (cwI 0 hts g_c_X6_init_c_X7_init_11 rfl rfl rfl (hts (.initialized RX7) (List.mem_of_getElem? (i := 6) rfl)) (hts (.methodLink RX6 11 yX7_init) (List.mem_of_getElem? (i := 7) rfl)) (hts (.instanceMethod yX7_init) (List.mem_of_getElem? (i := 8) rfl)) rfl (by decide +kernel) ⟨(Nat.le_of_ble_eq_true rfl), (Nat.le_of_ble_eq_true rfl)⟩) (PcW_S hPc hKc hDc) rfl rfl hl.1 rfl (lv_room (Nat.le_of_ble_eq_true rfl)) dX6_init_9 ⟨(Nat.le_of_ble_eq_true rfl), (Nat.le_of_ble_eq_true rfl)⟩) hS (fun q _ h => hFc q h) hFc (fun uu tt H locs htt hvm hw hB hz1 hk1 hS => ?_)
  obtain ⟨qb3, cb4⟩ := uu
  obtain ⟨hP1, hK1, hD1⟩ := hB
  rw [htt] at hP1
  have hK1 := va_K.moved hvm.symm hK1
  have hP1 : va_P D vwCl [(q1, .inr (7, [.int 0, .ref (qb3 1), .ref (qb3 2), .ref (qb3 3)]))] H := hP1
  obtain ⟨hP, hD⟩ := va_join (wr := [(h0, .inr (6, [.int 0, .int 0, .int 0, .null, .null, .int 0, .int 0, .int 0, .int 0, .int 0, .int 0, .int 0, .null, .int 0, .null]))]) (w1 := [(q1, .inr (7, [.int 0, .ref (qb3 1), .ref (qb3 2), .ref (qb3 3)]))]) hP hD [1] [0] rfl rfl (by decide) (by decide) hk1 hFc hP1 hD1
  have hP : va_P D vwCl [(h0, .inr (6, [.int 0, .int 0, .int 0, .null, .null, .int 0, .int 0, .int 0, .int 0, .int 0, .int 0, .int 0, .null, .int 0, .null])), (q1, .inr (7, [.int 0, .ref (qb3 1), .ref (qb3 2), .ref (qb3 3)]))] H := hP
  have hD : va_D A [(h0, .inr (6, [.int 0, .int 0, .int 0, .null, .null, .int 0, .int 0, .int 0, .int 0, .int 0, .int 0, .int 0, .null, .int 0, .null])), (q1, .inr (7, [.int 0, .ref (qb3 1), .ref (qb3 2), .ref (qb3 3)]))] := hD
  refine W.widen (k := 4) (n := 1804) (Nat.le_of_ble_eq_true rfl) (Nat.le_of_ble_eq_true rfl) ?_
  try dsimp only at hw
  clear hz1 hk1 hFc hPc hKc hDc
  refine va_putF (D := D) (ci := 6) (v := .ref q1) (ty := (.object "ClashFree$Program")) (C := RX6) (T := TX6) (N := 15) hx hb hts hin_X6 tyX6 tyX6_ok nmX6 hown hK hP hD hS 0 rfl rfl 3 (by decide) (hts (.fieldLink RX6 12 "ClashFree$Parser" "program" "LClashFree$Program;") (List.mem_of_getElem? (i := 9) rfl)) (fun _ h9 => h9) rfl hin rfl (by decide +kernel) rfl rfl (Nat.le_of_ble_eq_true rfl) dX6_init_12 (fun H locs hP hD hS => ?_)
  have hP : va_P D vwCl [(h0, .inr (6, [.int 0, .int 0, .int 0, .ref q1, .null, .int 0, .int 0, .int 0, .int 0, .int 0, .int 0, .int 0, .null, .int 0, .null])), (q1, .inr (7, [.int 0, .ref (qb3 1), .ref (qb3 2), .ref (qb3 3)]))] H := hP
  have hD : va_D A [(h0, .inr (6, [.int 0, .int 0, .int 0, .ref q1, .null, .int 0, .int 0, .int 0, .int 0, .int 0, .int 0, .int 0, .null, .int 0, .null])), (q1, .inr (7, [.int 0, .ref (qb3 1), .ref (qb3 2), .ref (qb3 3)]))] := hD
  have hP := hP.sub (ws' := [(h0, .inr (6, [.int 0, .int 0, .int 0, .ref q1, .null, .int 0, .int 0, .int 0, .int 0, .int 0, .int 0, .int 0, .null, .int 0, .null]))]) [0] rfl
  have hD := hD.sub (ws' := [(h0, .inr (6, [.int 0, .int 0, .int 0, .ref q1, .null, .int 0, .int 0, .int 0, .int 0, .int 0, .int 0, .int 0, .null, .int 0, .null]))]) [0] (by decide) rfl
  refine lv_aload_n hx hb dX6_init_15 rfl (lv_at hl 0 rfl) ?_
  refine va_new (ci := 8) (fs := [.null, .int 0, .int 0, .int 0, .int 0, .int 0, .int 0]) (C := RX8) (T := TX8) (N := 7) hx hb hts hin_X8 tyX8 tyX8_ok hown (hts (.classLink RX6 18 RX8) (List.mem_of_getElem? (i := 10) rfl)) (hts (.instantiable RX8 7) (List.mem_of_getElem? (i := 11) rfl)) (hts (.initialized RX8) (List.mem_of_getElem? (i := 12) rfl)) hK hP hD hS hA rfl (fun j hj => by rcases (show j = 0 ∨ j = 1 ∨ j = 2 ∨ j = 3 ∨ j = 4 ∨ j = 5 ∨ j = 6 by omega) with rfl | rfl | rfl | rfl | rfl | rfl | rfl <;> rfl) (Nat.le_of_ble_eq_true rfl) (Nat.le_of_ble_eq_true rfl) dX6_init_16 (fun q5 H hP hD hS => ?_)
  refine W.widen (k := 5) (n := 1811) (Nat.le_of_ble_eq_true rfl) (Nat.le_of_ble_eq_true rfl) ?_
  have hP : va_P D vwCl [(h0, .inr (6, [.int 0, .int 0, .int 0, .ref q1, .null, .int 0, .int 0, .int 0, .int 0, .int 0, .int 0, .int 0, .null, .int 0, .null])), (q5, .inr (8, [.null, .int 0, .int 0, .int 0, .int 0, .int 0, .int 0]))] H := hP
  have hD : va_D A [(h0, .inr (6, [.int 0, .int 0, .int 0, .ref q1, .null, .int 0, .int 0, .int 0, .int 0, .int 0, .int 0, .int 0, .null, .int 0, .null])), (q5, .inr (8, [.null, .int 0, .int 0, .int 0, .int 0, .int 0, .int 0]))] := hD
  refine lv_dup hx hb dX6_init_19 rfl ?_
  have hPc := hP.sub (ws' := [(q5, .inr (8, [.null, .int 0, .int 0, .int 0, .int 0, .int 0, .int 0]))]) [1] rfl
  have hKc := hK.sub (tys' := []) [] rfl
  have hDc := hD.sub (ws' := [(q5, .inr (8, [.null, .int 0, .int 0, .int 0, .int 0, .int 0, .int 0]))]) [1] (by decide) rfl
  have hFc := va_free (wc := [(q5, .inr (8, [.null, .int 0, .int 0, .int 0, .int 0, .int 0, .int 0]))]) hD hS hA [1] rfl
  refine va_callv (va_runIN (As := []) (rest := [.ref q5, .ref h0]) ⟨hx, hb, hml, hown, hts⟩ (c_X8_init l D _ q5) ⟨va_cnB 0 hts g_c_X6_init_c_X8_init_20 rfl rfl rfl hN.2.1 (hts (.initialized RX8) (List.mem_of_getElem? (i := 12) rfl)) (by decide +kernel) ⟨(Nat.le_of_ble_eq_true rfl), (Nat.le_of_ble_eq_true rfl)⟩, rfl, (hts (.instanceMethod yX8_init) (List.mem_of_getElem? (i := 13) rfl))⟩ (PcW_S hPc hKc hDc) rfl rfl hl.1 rfl (lv_room (Nat.le_of_ble_eq_true rfl)) dX6_init_20 ⟨(Nat.le_of_ble_eq_true rfl), (Nat.le_of_ble_eq_true rfl)⟩) hS (fun q _ h => hFc q h) hFc (fun uu tt H locs htt hvm hw hB hz1 hk1 hS => ?_)
  obtain ⟨qb7, cb8⟩ := uu
  obtain ⟨hP1, hK1, hD1⟩ := hB
  rw [htt] at hP1
  have hK1 := va_K.moved hvm.symm hK1
  have hP1 : va_P D vwCl [(q5, .inr (8, [.null, .int 0, .int 0, .int 0, .int 0, .int 0, .int 0]))] H := hP1
  obtain ⟨hP, hD⟩ := va_join (wr := [(h0, .inr (6, [.int 0, .int 0, .int 0, .ref q1, .null, .int 0, .int 0, .int 0, .int 0, .int 0, .int 0, .int 0, .null, .int 0, .null]))]) (w1 := [(q5, .inr (8, [.null, .int 0, .int 0, .int 0, .int 0, .int 0, .int 0]))]) hP hD [1] [0] rfl rfl (by decide) (by decide) hk1 hFc hP1 hD1
  have hP : va_P D vwCl [(h0, .inr (6, [.int 0, .int 0, .int 0, .ref q1, .null, .int 0, .int 0, .int 0, .int 0, .int 0, .int 0, .int 0, .null, .int 0, .null])), (q5, .inr (8, [.null, .int 0, .int 0, .int 0, .int 0, .int 0, .int 0]))] H := hP
  have hD : va_D A [(h0, .inr (6, [.int 0, .int 0, .int 0, .ref q1, .null, .int 0, .int 0, .int 0, .int 0, .int 0, .int 0, .int 0, .null, .int 0, .null])), (q5, .inr (8, [.null, .int 0, .int 0, .int 0, .int 0, .int 0, .int 0]))] := hD
  try dsimp only at hw
  clear hz1 hk1 hFc hPc hKc hDc
  refine va_putF (D := D) (ci := 6) (v := .ref q5) (ty := (.object "ClashFree$Scanner")) (C := RX6) (T := TX6) (N := 15) hx hb hts hin_X6 tyX6 tyX6_ok nmX6 hown hK hP hD hS 0 rfl rfl 4 (by decide) (hts (.fieldLink RX6 21 "ClashFree$Parser" "scan" "LClashFree$Scanner;") (List.mem_of_getElem? (i := 14) rfl)) (fun _ h9 => h9) rfl hin rfl (by decide +kernel) rfl rfl (Nat.le_of_ble_eq_true rfl) dX6_init_23 (fun H locs hP hD hS => ?_)
  have hP : va_P D vwCl [(h0, .inr (6, [.int 0, .int 0, .int 0, .ref q1, .ref q5, .int 0, .int 0, .int 0, .int 0, .int 0, .int 0, .int 0, .null, .int 0, .null])), (q5, .inr (8, [.null, .int 0, .int 0, .int 0, .int 0, .int 0, .int 0]))] H := hP
  have hD : va_D A [(h0, .inr (6, [.int 0, .int 0, .int 0, .ref q1, .ref q5, .int 0, .int 0, .int 0, .int 0, .int 0, .int 0, .int 0, .null, .int 0, .null])), (q5, .inr (8, [.null, .int 0, .int 0, .int 0, .int 0, .int 0, .int 0]))] := hD
  have hP := hP.sub (ws' := [(h0, .inr (6, [.int 0, .int 0, .int 0, .ref q1, .ref q5, .int 0, .int 0, .int 0, .int 0, .int 0, .int 0, .int 0, .null, .int 0, .null]))]) [0] rfl
  have hD := hD.sub (ws' := [(h0, .inr (6, [.int 0, .int 0, .int 0, .ref q1, .ref q5, .int 0, .int 0, .int 0, .int 0, .int 0, .int 0, .int 0, .null, .int 0, .null]))]) [0] (by decide) rfl
  refine lv_aload_n hx hb dX6_init_26 rfl (lv_at hl 0 rfl) ?_
  refine lv_iconst (v := 5) hx hb dX6_init_27 (by decide) ?_
  refine va_newa (atype := .int) (ty := .int) (N' := 5) (a0 := (5, .inl (fun _ => 0))) hx hb (hts (.arrayClass .int) (List.mem_of_getElem? (i := 15) rfl)) rfl hK hP hD hS hA (fun _ => rfl) (by decide) (by decide) (Nat.le_of_ble_eq_true rfl) (Nat.le_of_ble_eq_true rfl) (Nat.le_of_ble_eq_true rfl) dX6_init_28 (fun q9 cq9 H hK hP hD hS => ?_)
  refine W.widen (k := 6) (n := 1816) (Nat.le_of_ble_eq_true rfl) (Nat.le_of_ble_eq_true rfl) ?_
  have hK : va_K D vwCl [(cq9, .int)] s := hK
  have hP : va_P D vwCl [(h0, .inr (6, [.int 0, .int 0, .int 0, .ref q1, .ref q5, .int 0, .int 0, .int 0, .int 0, .int 0, .int 0, .int 0, .null, .int 0, .null])), (q9, .inl (cq9, 5, .inl (fun _ => 0)))] H := hP
  have hD : va_D A [(h0, .inr (6, [.int 0, .int 0, .int 0, .ref q1, .ref q5, .int 0, .int 0, .int 0, .int 0, .int 0, .int 0, .int 0, .null, .int 0, .null])), (q9, .inl (cq9, 5, .inl (fun _ => 0)))] := hD
  refine va_putF (D := D) (ci := 6) (v := .ref q9) (ty := (.array .int)) (C := RX6) (T := TX6) (N := 15) hx hb hts hin_X6 tyX6 tyX6_ok nmX6 hown hK hP hD hS 0 rfl rfl 12 (by decide) (hts (.fieldLink RX6 25 "ClashFree$Parser" "opened" "[I") (List.mem_of_getElem? (i := 16) rfl)) (fun _ h9 => h9) rfl hin rfl (by decide +kernel) rfl rfl (Nat.le_of_ble_eq_true rfl) dX6_init_30 (fun H locs hP hD hS => ?_)
  have hP : va_P D vwCl [(h0, .inr (6, [.int 0, .int 0, .int 0, .ref q1, .ref q5, .int 0, .int 0, .int 0, .int 0, .int 0, .int 0, .int 0, .ref q9, .int 0, .null])), (q9, .inl (cq9, 5, .inl (fun _ => 0)))] H := hP
  have hD : va_D A [(h0, .inr (6, [.int 0, .int 0, .int 0, .ref q1, .ref q5, .int 0, .int 0, .int 0, .int 0, .int 0, .int 0, .int 0, .ref q9, .int 0, .null])), (q9, .inl (cq9, 5, .inl (fun _ => 0)))] := hD
  have hP := hP.sub (ws' := [(h0, .inr (6, [.int 0, .int 0, .int 0, .ref q1, .ref q5, .int 0, .int 0, .int 0, .int 0, .int 0, .int 0, .int 0, .ref q9, .int 0, .null]))]) [0] rfl
  have hD := hD.sub (ws' := [(h0, .inr (6, [.int 0, .int 0, .int 0, .ref q1, .ref q5, .int 0, .int 0, .int 0, .int 0, .int 0, .int 0, .int 0, .ref q9, .int 0, .null]))]) [0] (by decide) rfl
  have hK := hK.sub (tys' := []) [] rfl
  refine lv_aload_n hx hb dX6_init_33 rfl (lv_at hl 0 rfl) ?_
  refine lv_sipush (v := 600) hx hb dX6_init_34 (by decide) ?_
  refine va_newa (atype := .int) (ty := .int) (N' := 600) (a0 := (600, .inl (fun _ => 0))) hx hb (hts (.arrayClass .int) (List.mem_of_getElem? (i := 15) rfl)) rfl hK hP hD hS hA (fun _ => rfl) (by decide) (by decide) (Nat.le_of_ble_eq_true rfl) (Nat.le_of_ble_eq_true rfl) (Nat.le_of_ble_eq_true rfl) dX6_init_37 (fun q10 cq10 H hK hP hD hS => ?_)
  refine W.widen (k := 7) (n := 2416) (Nat.le_of_ble_eq_true rfl) (Nat.le_of_ble_eq_true rfl) ?_
  have hK : va_K D vwCl [(cq10, .int)] s := hK
  have hP : va_P D vwCl [(h0, .inr (6, [.int 0, .int 0, .int 0, .ref q1, .ref q5, .int 0, .int 0, .int 0, .int 0, .int 0, .int 0, .int 0, .ref q9, .int 0, .null])), (q10, .inl (cq10, 600, .inl (fun _ => 0)))] H := hP
  have hD : va_D A [(h0, .inr (6, [.int 0, .int 0, .int 0, .ref q1, .ref q5, .int 0, .int 0, .int 0, .int 0, .int 0, .int 0, .int 0, .ref q9, .int 0, .null])), (q10, .inl (cq10, 600, .inl (fun _ => 0)))] := hD
  refine va_putF (D := D) (ci := 6) (v := .ref q10) (ty := (.array .int)) (C := RX6) (T := TX6) (N := 15) hx hb hts hin_X6 tyX6 tyX6_ok nmX6 hown hK hP hD hS 0 rfl rfl 14 (by decide) (hts (.fieldLink RX6 29 "ClashFree$Parser" "waiting" "[I") (List.mem_of_getElem? (i := 17) rfl)) (fun _ h9 => h9) rfl hin rfl (by decide +kernel) rfl rfl (Nat.le_of_ble_eq_true rfl) dX6_init_39 (fun H locs hP hD hS => ?_)
  have hP : va_P D vwCl [(h0, .inr (6, [.int 0, .int 0, .int 0, .ref q1, .ref q5, .int 0, .int 0, .int 0, .int 0, .int 0, .int 0, .int 0, .ref q9, .int 0, .ref q10])), (q10, .inl (cq10, 600, .inl (fun _ => 0)))] H := hP
  have hD : va_D A [(h0, .inr (6, [.int 0, .int 0, .int 0, .ref q1, .ref q5, .int 0, .int 0, .int 0, .int 0, .int 0, .int 0, .int 0, .ref q9, .int 0, .ref q10])), (q10, .inl (cq10, 600, .inl (fun _ => 0)))] := hD
  have hP := hP.sub (ws' := [(h0, .inr (6, [.int 0, .int 0, .int 0, .ref q1, .ref q5, .int 0, .int 0, .int 0, .int 0, .int 0, .int 0, .int 0, .ref q9, .int 0, .ref q10]))]) [0] rfl
  have hD := hD.sub (ws' := [(h0, .inr (6, [.int 0, .int 0, .int 0, .ref q1, .ref q5, .int 0, .int 0, .int 0, .int 0, .int 0, .int 0, .int 0, .ref q9, .int 0, .ref q10]))]) [0] (by decide) rfl
  have hK := hK.sub (tys' := []) [] rfl
  exact W.vret hx hb hr (fun t ht hW => ⟨⟨((fun i => [0, 0, 0, q1, q5, 0, 0, 0, 0, 0, 0, 0, q9, 0, q10].getD i 0), (fun i => D.1 0)), rfl, trivial, by rw [ht]; exact hP.sub [0] rfl, va_K.moved hW.alike (hK.sub [] rfl), hD.sub [0] (by decide) rfl⟩, hS.F ht⟩) hS.2.2 dX6_init_42

def own_c_X10_init : List Cond := [.methodLink RX10 3 objectInit, .instanceMethod objectInit, .code objectInit ⟨#[0xb1]⟩ 1 none, .classLink RX10 9 RX9, .fieldLink RX10 11 "ClashFree" "tables" "[LClashFree$Table;", .arrayClass .int, .fieldLink RX10 15 "ClashFree" "tape" "[I", .fieldLink RX10 19 "ClashFree" "taped" "I", .classLink RX10 23 RX5, .instantiable RX5 3, .initialized RX5, .methodLink RX10 25 yX5_init, .instanceMethod yX5_init, .fieldLink RX10 26 "ClashFree" "paper" "LClashFree$Paper;", .classLink RX10 30 RX1, .instantiable RX1 2, .initialized RX1, .methodLink RX10 32 yX1_init, .instanceMethod yX1_init, .fieldLink RX10 33 "ClashFree" "written" "LClashFree$Image;", .classLink RX10 37 RX6, .instantiable RX6 15, .initialized RX6, .methodLink RX10 39 yX6_init, .instanceMethod yX6_init, .fieldLink RX10 40 "ClashFree" "parser" "LClashFree$Parser;", .classLink RX10 44 RX4, .instantiable RX4 8, .initialized RX4, .methodLink RX10 46 yX4_init, .instanceMethod yX4_init, .fieldLink RX10 47 "ClashFree" "machine" "LClashFree$Machine;"]
def wp_c_X10_init : List Cond := .code yX10_init cX10_init 1 none :: (own_c_X10_init ++ (wp_c_X5_init ++ (wp_c_X1_init ++ (wp_c_X6_init ++ (wp_c_X4_init ++ (wsX100 ++ (wsX50 ++ (wsX10 ++ (wsX60 ++ (wsX40 ++ ([] : List Cond)))))))))))
set_option maxRecDepth 20000 in
theorem inown_c_X10_init : ∀ w ∈ own_c_X10_init, w ∈ lw_tbl := mem_places [129, 130, 131, 132, 412, 171, 413, 414, 134, 135, 107, 136, 137, 415, 251, 252, 110, 253, 254, 416, 266, 267, 111, 268, 269, 417, 377, 378, 114, 379, 380, 418] (by decide +kernel)
set_option maxRecDepth 20000 in
theorem in_c_X10_init : ∀ w ∈ wp_c_X10_init, w ∈ lw_tbl := List.forall_mem_cons.mpr ⟨List.mem_of_getElem? (i := 128) (by decide +kernel), List.forall_mem_append.mpr ⟨inown_c_X10_init, List.forall_mem_append.mpr ⟨in_c_X5_init, List.forall_mem_append.mpr ⟨in_c_X1_init, List.forall_mem_append.mpr ⟨in_c_X6_init, List.forall_mem_append.mpr ⟨in_c_X4_init, List.forall_mem_append.mpr ⟨lwb_X10, List.forall_mem_append.mpr ⟨lwb_X5, List.forall_mem_append.mpr ⟨lwb_X1, List.forall_mem_append.mpr ⟨lwb_X6, List.forall_mem_append.mpr ⟨lwb_X4, fun _ h => absurd h List.not_mem_nil⟩⟩⟩⟩⟩⟩⟩⟩⟩⟩⟩
set_option maxRecDepth 20000 in
theorem good_c_X10_init : wp_c_X10_init.all goodWord = true := by decide +kernel
set_option maxRecDepth 20000 in
theorem g_c_X10_init_c_X5_init_25 : GoodIn wp_c_X10_init (wp_c_X5_init) := goodIn_sub ((fun _ h => (List.mem_cons_of_mem _ (List.mem_append_right _ (List.mem_append_left _ h))))) (by decide +kernel)
set_option maxRecDepth 20000 in
theorem g_c_X10_init_c_X1_init_32 : GoodIn wp_c_X10_init (wp_c_X1_init) := goodIn_sub ((fun _ h => (List.mem_cons_of_mem _ (List.mem_append_right _ (List.mem_append_right _ (List.mem_append_left _ h)))))) (by decide +kernel)
set_option maxRecDepth 20000 in
theorem g_c_X10_init_c_X6_init_39 : GoodIn wp_c_X10_init (wp_c_X6_init) := goodIn_sub ((fun _ h => (List.mem_cons_of_mem _ (List.mem_append_right _ (List.mem_append_right _ (List.mem_append_right _ (List.mem_append_left _ h))))))) (by decide +kernel)
set_option maxRecDepth 20000 in
theorem g_c_X10_init_c_X4_init_46 : GoodIn wp_c_X10_init (wp_c_X4_init) := goodIn_sub ((fun _ h => (List.mem_cons_of_mem _ (List.mem_append_right _ (List.mem_append_right _ (List.mem_append_right _ (List.mem_append_right _ (List.mem_append_left _ h)))))))) (by decide +kernel)
set_option maxHeartbeats 4000000 in
set_option maxRecDepth 100000 in
theorem c_X10_init (l : Launch) (D : va_G) (sz : Nat) (h0 : Nat)  : Met l yX10_init wp_c_X10_init ({ frames := 3, cells := 26, slots := 15948, locals := 52 }) (PcWN D [.ref h0] sz [(h0, .inr (10, [.null, .null, .int 0, .null, .null, .null, .null]))] []) (va_Qv (fun (_ : (Nat → Nat) × (Nat → ClassId) × Nat × (Nat → Nat) × (Nat → Nat)) => True) (fun (u : (Nat → Nat) × (Nat → ClassId) × Nat × (Nat → Nat) × (Nat → Nat)) t => va_P D vwCl [(h0, .inr (10, [.ref (u.1 0), .ref (u.1 1), .int 0, .ref (u.1 3), .ref (u.1 4), .ref (u.1 5), .ref (u.1 6)])), (u.1 0, .inl (u.2.1 0, 4, .inr (.inr (.inr (.inr (fun _ => none)))))), (u.1 1, .inl (u.2.1 1, 1400, .inl (fun _ => 0))), (u.1 4, .inr (1, [.int 0, .ref u.2.2.1])), (u.1 5, .inr (6, [.int 0, .int 0, .int 0, .ref (u.2.2.2.1 3), .ref (u.2.2.2.1 4), .int 0, .int 0, .int 0, .int 0, .int 0, .int 0, .int 0, .ref (u.2.2.2.1 12), .int 0, .ref (u.2.2.2.1 14)])), (u.1 6, .inr (4, [.int 0, .int 0, .int 0, .int 0, .int 0, .ref (u.2.2.2.2 5), .int 0, .ref (u.2.2.2.2 7)]))] t.heap ∧ va_K D vwCl [(u.2.1 0, .object RX9), (u.2.1 1, .int)] t ∧ va_D (va_A [(h0, .inr (10, [.null, .null, .int 0, .null, .null, .null, .null]))] sz) [(h0, .inr (10, [.ref (u.1 0), .ref (u.1 1), .int 0, .ref (u.1 3), .ref (u.1 4), .ref (u.1 5), .ref (u.1 6)])), (u.1 0, .inl (u.2.1 0, 4, .inr (.inr (.inr (.inr (fun _ => none)))))), (u.1 1, .inl (u.2.1 1, 1400, .inl (fun _ => 0))), (u.1 4, .inr (1, [.int 0, .ref u.2.2.1])), (u.1 5, .inr (6, [.int 0, .int 0, .int 0, .ref (u.2.2.2.1 3), .ref (u.2.2.2.1 4), .int 0, .int 0, .int 0, .int 0, .int 0, .int 0, .int 0, .ref (u.2.2.2.1 12), .int 0, .ref (u.2.2.2.1 14)])), (u.1 6, .inr (4, [.int 0, .int 0, .int 0, .int 0, .int 0, .ref (u.2.2.2.2 5), .int 0, .ref (u.2.2.2.2 7)]))]) (va_A [(h0, .inr (10, [.null, .null, .int 0, .null, .null, .null, .null]))] sz)) 26 15948 (va_A [(h0, .inr (10, [.null, .null, .int 0, .null, .null, .null, .null]))] sz) := by
  refine Met.ofW (cc := cX10_init) (maxL := 1) (ret := none) (by decide) rfl ?_
  intro p e s m args below meth c s₁ B hml hv
  obtain ⟨rfl, hsz, hP, hK, hD0, hN⟩ := hv
  have hx := B.exec
  have hb := B.bytes
  have hr := B.returns
  have hts := atoms_spec (ws := wp_c_X10_init) B.pre
  have hin_X10 : ∀ w ∈ wsX100, w ∈ wp_c_X10_init := fun _ h => (List.mem_cons_of_mem _ (List.mem_append_right _ (List.mem_append_right _ (List.mem_append_right _ (List.mem_append_right _ (List.mem_append_right _ (List.mem_append_left _ h)))))))
  have hin_X5 : ∀ w ∈ wsX50, w ∈ wp_c_X10_init := fun _ h => (List.mem_cons_of_mem _ (List.mem_append_right _ (List.mem_append_right _ (List.mem_append_right _ (List.mem_append_right _ (List.mem_append_right _ (List.mem_append_right _ (List.mem_append_left _ h))))))))
  have hin_X1 : ∀ w ∈ wsX10, w ∈ wp_c_X10_init := fun _ h => (List.mem_cons_of_mem _ (List.mem_append_right _ (List.mem_append_right _ (List.mem_append_right _ (List.mem_append_right _ (List.mem_append_right _ (List.mem_append_right _ (List.mem_append_right _ (List.mem_append_left _ h)))))))))
  have hin_X6 : ∀ w ∈ wsX60, w ∈ wp_c_X10_init := fun _ h => (List.mem_cons_of_mem _ (List.mem_append_right _ (List.mem_append_right _ (List.mem_append_right _ (List.mem_append_right _ (List.mem_append_right _ (List.mem_append_right _ (List.mem_append_right _ (List.mem_append_right _ (List.mem_append_left _ h))))))))))
  have hin_X4 : ∀ w ∈ wsX40, w ∈ wp_c_X10_init := fun _ h => (List.mem_cons_of_mem _ (List.mem_append_right _ (List.mem_append_right _ (List.mem_append_right _ (List.mem_append_right _ (List.mem_append_right _ (List.mem_append_right _ (List.mem_append_right _ (List.mem_append_right _ (List.mem_append_right _ (List.mem_append_left _ h)))))))))))
  have hown : s.vm.findClass RX10 = some m.cls := findClass_of_methodNamed B.named
  have hlocks := B.notSynchronized
  have hin : meth.name = "<init>" := (name_of_methodNamed B.named B.method).1
  subst hsz
  have hD := hD0.self (sz := s.heap.size)
  generalize hAe : va_A [(h0, .inr (10, [.null, .null, .int 0, .null, .null, .null, .null]))] s.heap.size = A at hD ⊢
  have hA : ∀ q : Nat, s.heap.size ≤ q → A q := fun q h => by rw [← hAe]; exact Or.inr h
  have hS : va_S A s.heap s.heap [] := va_S.rf
  have hP : va_P D vwCl [(h0, .inr (10, [.null, .null, .int 0, .null, .null, .null, .null]))] s.heap := hP
  have hl := lv_entry ([.ref h0]) (n := 1) (Nat.le_of_ble_eq_true rfl)
  rw [lg_entry_eq]
  generalize (lg_sl ([.ref h0]) ++ List.replicate (1 - (lg_sl ([.ref h0])).length) Slot.unset).toArray = ls at hl ⊢
  have hl : lv_has ls 1 [(0, .ref h0)] := hl
  refine lv_aload_n hx hb dX10_init_0 rfl (lv_at hl 0 rfl) ?_
  refine W.objInit hx hb hown (hts (.methodLink RX10 3 objectInit) (List.mem_of_getElem? (i := 1) rfl)) (hts (.instanceMethod objectInit) (List.mem_of_getElem? (i := 2) rfl)) (hts (.code objectInit ⟨#[0xb1]⟩ 1 none) (List.mem_of_getElem? (i := 3) rfl)) rfl (by rw [hml]; exact hl.1) rfl dX10_init_1 (Nat.le_of_ble_eq_true rfl) (Nat.le_of_ble_eq_true rfl) ?_
  refine W.eq (g2 := F0 m 4 ls []) rfl ?_
  refine lv_aload_n hx hb dX10_init_4 rfl (lv_at hl 0 rfl) ?_
  refine lv_iconst (v := 4) hx hb dX10_init_5 (by decide) ?_
  refine va_newq (N' := 4) hx hb hown (hts (.classLink RX10 9 RX9) (List.mem_of_getElem? (i := 4) rfl)) hN.2.2.2 hK hP hD hS hA (by decide) (by decide) (Nat.le_of_ble_eq_true rfl) (Nat.le_of_ble_eq_true rfl) (Nat.le_of_ble_eq_true rfl) dX10_init_6 (fun q1 cq1 H hK hP hD hS => ?_)
  refine W.widen (k := 1) (n := 4) (Nat.le_of_ble_eq_true rfl) (Nat.le_of_ble_eq_true rfl) ?_
  have hK : va_K D vwCl [(cq1, .object RX9)] s := hK
  have hP : va_P D vwCl [(h0, .inr (10, [.null, .null, .int 0, .null, .null, .null, .null])), (q1, .inl (cq1, 4, .inr (.inr (.inr (.inr (fun _ => none))))))] H := hP
  have hD : va_D A [(h0, .inr (10, [.null, .null, .int 0, .null, .null, .null, .null])), (q1, .inl (cq1, 4, .inr (.inr (.inr (.inr (fun _ => none))))))] := hD
  refine va_putF (D := D) (ci := 10) (v := .ref q1) (ty := (.array (.object "ClashFree$Table"))) (C := RX10) (T := TX10) (N := 7) hx hb hts hin_X10 tyX10 tyX10_ok nmX10 hown hK hP hD hS 0 rfl rfl 0 (by decide) (hts (.fieldLink RX10 11 "ClashFree" "tables" "[LClashFree$Table;") (List.mem_of_getElem? (i := 5) rfl)) (fun _ h9 => h9) rfl hin rfl (by decide +kernel) rfl rfl (Nat.le_of_ble_eq_true rfl) dX10_init_9 (fun H locs hP hD hS => ?_)
  have hP : va_P D vwCl [(h0, .inr (10, [.ref q1, .null, .int 0, .null, .null, .null, .null])), (q1, .inl (cq1, 4, .inr (.inr (.inr (.inr (fun _ => none))))))] H := hP
  have hD : va_D A [(h0, .inr (10, [.ref q1, .null, .int 0, .null, .null, .null, .null])), (q1, .inl (cq1, 4, .inr (.inr (.inr (.inr (fun _ => none))))))] := hD
  refine lv_aload_n hx hb dX10_init_12 rfl (lv_at hl 0 rfl) ?_
  refine lv_sipush (v := 1400) hx hb dX10_init_13 (by decide) ?_
  refine va_newa (atype := .int) (ty := .int) (N' := 1400) (a0 := (1400, .inl (fun _ => 0))) hx hb (hts (.arrayClass .int) (List.mem_of_getElem? (i := 6) rfl)) rfl hK hP hD hS hA (fun _ => rfl) (by decide) (by decide) (Nat.le_of_ble_eq_true rfl) (Nat.le_of_ble_eq_true rfl) (Nat.le_of_ble_eq_true rfl) dX10_init_16 (fun q2 cq2 H hK hP hD hS => ?_)
  refine W.widen (k := 2) (n := 1404) (Nat.le_of_ble_eq_true rfl) (Nat.le_of_ble_eq_true rfl) ?_
  have hK : va_K D vwCl [(cq1, .object RX9), (cq2, .int)] s := hK
  have hP : va_P D vwCl [(h0, .inr (10, [.ref q1, .null, .int 0, .null, .null, .null, .null])), (q1, .inl (cq1, 4, .inr (.inr (.inr (.inr (fun _ => none)))))), (q2, .inl (cq2, 1400, .inl (fun _ => 0)))] H := hP
  have hD : va_D A [(h0, .inr (10, [.ref q1, .null, .int 0, .null, .null, .null, .null])), (q1, .inl (cq1, 4, .inr (.inr (.inr (.inr (fun _ => none)))))), (q2, .inl (cq2, 1400, .inl (fun _ => 0)))] := hD
  refine va_putF (D := D) (ci := 10) (v := .ref q2) (ty := (.array .int)) (C := RX10) (T := TX10) (N := 7) hx hb hts hin_X10 tyX10 tyX10_ok nmX10 hown hK hP hD hS 0 rfl rfl 1 (by decide) (hts (.fieldLink RX10 15 "ClashFree" "tape" "[I") (List.mem_of_getElem? (i := 7) rfl)) (fun _ h9 => h9) rfl hin rfl (by decide +kernel) rfl rfl (Nat.le_of_ble_eq_true rfl) dX10_init_18 (fun H locs hP hD hS => ?_)
  have hP : va_P D vwCl [(h0, .inr (10, [.ref q1, .ref q2, .int 0, .null, .null, .null, .null])), (q1, .inl (cq1, 4, .inr (.inr (.inr (.inr (fun _ => none)))))), (q2, .inl (cq2, 1400, .inl (fun _ => 0)))] H := hP
  have hD : va_D A [(h0, .inr (10, [.ref q1, .ref q2, .int 0, .null, .null, .null, .null])), (q1, .inl (cq1, 4, .inr (.inr (.inr (.inr (fun _ => none)))))), (q2, .inl (cq2, 1400, .inl (fun _ => 0)))] := hD
  refine lv_aload_n hx hb dX10_init_21 rfl (lv_at hl 0 rfl) ?_
  refine lv_iconst (v := 0) hx hb dX10_init_22 (by decide) ?_
  refine va_put (D := D) (ci := 10) (v := .int 0) (ty := .int) (C := RX10) (T := TX10) (N := 7) hx hb hts hin_X10 tyX10 tyX10_ok nmX10 hown hK hP hD hS 0 rfl rfl 2 (by decide) (hts (.fieldLink RX10 19 "ClashFree" "taped" "I") (List.mem_of_getElem? (i := 8) rfl)) (fun _ h9 => h9) rfl (by decide +kernel) rfl rfl (Nat.le_of_ble_eq_true rfl) dX10_init_23 (fun H locs hP hD hS => ?_)
  have hP : va_P D vwCl [(h0, .inr (10, [.ref q1, .ref q2, .int 0, .null, .null, .null, .null])), (q1, .inl (cq1, 4, .inr (.inr (.inr (.inr (fun _ => none)))))), (q2, .inl (cq2, 1400, .inl (fun _ => 0)))] H := hP
  have hD : va_D A [(h0, .inr (10, [.ref q1, .ref q2, .int 0, .null, .null, .null, .null])), (q1, .inl (cq1, 4, .inr (.inr (.inr (.inr (fun _ => none)))))), (q2, .inl (cq2, 1400, .inl (fun _ => 0)))] := hD
  refine lv_aload_n hx hb dX10_init_26 rfl (lv_at hl 0 rfl) ?_
  refine va_new (ci := 5) (fs := [.null, .null, .int 0]) (C := RX5) (T := TX5) (N := 3) hx hb hts hin_X5 tyX5 tyX5_ok hown (hts (.classLink RX10 23 RX5) (List.mem_of_getElem? (i := 9) rfl)) (hts (.instantiable RX5 3) (List.mem_of_getElem? (i := 10) rfl)) (hts (.initialized RX5) (List.mem_of_getElem? (i := 11) rfl)) hK hP hD hS hA rfl (fun j hj => by rcases (show j = 0 ∨ j = 1 ∨ j = 2 by omega) with rfl | rfl | rfl <;> rfl) (Nat.le_of_ble_eq_true rfl) (Nat.le_of_ble_eq_true rfl) dX10_init_27 (fun q3 H hP hD hS => ?_)
  refine W.widen (k := 3) (n := 1407) (Nat.le_of_ble_eq_true rfl) (Nat.le_of_ble_eq_true rfl) ?_
  have hP : va_P D vwCl [(h0, .inr (10, [.ref q1, .ref q2, .int 0, .null, .null, .null, .null])), (q1, .inl (cq1, 4, .inr (.inr (.inr (.inr (fun _ => none)))))), (q2, .inl (cq2, 1400, .inl (fun _ => 0))), (q3, .inr (5, [.null, .null, .int 0]))] H := hP
  have hD : va_D A [(h0, .inr (10, [.ref q1, .ref q2, .int 0, .null, .null, .null, .null])), (q1, .inl (cq1, 4, .inr (.inr (.inr (.inr (fun _ => none)))))), (q2, .inl (cq2, 1400, .inl (fun _ => 0))), (q3, .inr (5, [.null, .null, .int 0]))] := hD
  refine lv_dup hx hb dX10_init_30 rfl ?_
  have hPc := hP.sub (ws' := [(q3, .inr (5, [.null, .null, .int 0]))]) [3] rfl
  have hKc := hK.sub (tys' := []) [] rfl
  have hDc := hD.sub (ws' := [(q3, .inr (5, [.null, .null, .int 0]))]) [3] (by decide) rfl
  have hFc := va_free (wc := [(q3, .inr (5, [.null, .null, .int 0]))]) hD hS hA [3] rfl
  refine va_callv (va_runI (As := []) (rest := [.ref q3, .ref h0]) ⟨hx, hb, hml, hown, hts⟩ (c_X5_init l D _ q3) (cwI 0 hts g_c_X10_init_c_X5_init_25 rfl rfl rfl (hts (.initialized RX5) (List.mem_of_getElem? (i := 11) rfl)) (hts (.methodLink RX10 25 yX5_init) (List.mem_of_getElem? (i := 12) rfl)) (hts (.instanceMethod yX5_init) (List.mem_of_getElem? (i := 13) rfl)) rfl (by decide +kernel) ⟨(Nat.le_of_ble_eq_true rfl), (Nat.le_of_ble_eq_true rfl)⟩) (PcWN_S hPc hKc hDc hN) rfl rfl hl.1 rfl (lv_room (Nat.le_of_ble_eq_true rfl)) dX10_init_31 ⟨(Nat.le_of_ble_eq_true rfl), (Nat.le_of_ble_eq_true rfl)⟩) hS (fun q _ h => hFc q h) hFc (fun uu tt H locs htt hvm hw hB hz1 hk1 hS => ?_)
  obtain ⟨hP, hD⟩ := va_join (wr := [(h0, .inr (10, [.ref q1, .ref q2, .int 0, .null, .null, .null, .null])), (q1, .inl (cq1, 4, .inr (.inr (.inr (.inr (fun _ => none)))))), (q2, .inl (cq2, 1400, .inl (fun _ => 0)))]) (w1 := []) hP hD [3] [0, 1, 2] rfl rfl (by decide) (by decide) hk1 hFc va_P_nil va_D_nil
  have hP : va_P D vwCl [(h0, .inr (10, [.ref q1, .ref q2, .int 0, .null, .null, .null, .null])), (q1, .inl (cq1, 4, .inr (.inr (.inr (.inr (fun _ => none)))))), (q2, .inl (cq2, 1400, .inl (fun _ => 0)))] H := hP
  have hD : va_D A [(h0, .inr (10, [.ref q1, .ref q2, .int 0, .null, .null, .null, .null])), (q1, .inl (cq1, 4, .inr (.inr (.inr (.inr (fun _ => none)))))), (q2, .inl (cq2, 1400, .inl (fun _ => 0)))] := hD
  refine W.widen (k := 13) (n := 12144) (Nat.le_of_ble_eq_true rfl) (Nat.le_of_ble_eq_true rfl) ?_
  try dsimp only at hw
  clear hB hz1 hk1 hFc hPc hKc hDc
  refine va_putF (D := D) (ci := 10) (v := .ref q3) (ty := (.object "ClashFree$Paper")) (C := RX10) (T := TX10) (N := 7) hx hb hts hin_X10 tyX10 tyX10_ok nmX10 hown hK hP hD hS 0 rfl rfl 3 (by decide) (hts (.fieldLink RX10 26 "ClashFree" "paper" "LClashFree$Paper;") (List.mem_of_getElem? (i := 14) rfl)) (fun _ h9 => h9) rfl hin rfl (by decide +kernel) rfl rfl (Nat.le_of_ble_eq_true rfl) dX10_init_34 (fun H locs hP hD hS => ?_)
  have hP : va_P D vwCl [(h0, .inr (10, [.ref q1, .ref q2, .int 0, .ref q3, .null, .null, .null])), (q1, .inl (cq1, 4, .inr (.inr (.inr (.inr (fun _ => none)))))), (q2, .inl (cq2, 1400, .inl (fun _ => 0)))] H := hP
  have hD : va_D A [(h0, .inr (10, [.ref q1, .ref q2, .int 0, .ref q3, .null, .null, .null])), (q1, .inl (cq1, 4, .inr (.inr (.inr (.inr (fun _ => none)))))), (q2, .inl (cq2, 1400, .inl (fun _ => 0)))] := hD
  refine lv_aload_n hx hb dX10_init_37 rfl (lv_at hl 0 rfl) ?_
  refine va_new (ci := 1) (fs := [.int 0, .null]) (C := RX1) (T := TX1) (N := 2) hx hb hts hin_X1 tyX1 tyX1_ok hown (hts (.classLink RX10 30 RX1) (List.mem_of_getElem? (i := 15) rfl)) (hts (.instantiable RX1 2) (List.mem_of_getElem? (i := 16) rfl)) (hts (.initialized RX1) (List.mem_of_getElem? (i := 17) rfl)) hK hP hD hS hA rfl (fun j hj => by rcases (show j = 0 ∨ j = 1 by omega) with rfl | rfl <;> rfl) (Nat.le_of_ble_eq_true rfl) (Nat.le_of_ble_eq_true rfl) dX10_init_38 (fun q5 H hP hD hS => ?_)
  refine W.widen (k := 14) (n := 12146) (Nat.le_of_ble_eq_true rfl) (Nat.le_of_ble_eq_true rfl) ?_
  have hP : va_P D vwCl [(h0, .inr (10, [.ref q1, .ref q2, .int 0, .ref q3, .null, .null, .null])), (q1, .inl (cq1, 4, .inr (.inr (.inr (.inr (fun _ => none)))))), (q2, .inl (cq2, 1400, .inl (fun _ => 0))), (q5, .inr (1, [.int 0, .null]))] H := hP
  have hD : va_D A [(h0, .inr (10, [.ref q1, .ref q2, .int 0, .ref q3, .null, .null, .null])), (q1, .inl (cq1, 4, .inr (.inr (.inr (.inr (fun _ => none)))))), (q2, .inl (cq2, 1400, .inl (fun _ => 0))), (q5, .inr (1, [.int 0, .null]))] := hD
  refine lv_dup hx hb dX10_init_41 rfl ?_
  have hPc := hP.sub (ws' := [(q5, .inr (1, [.int 0, .null]))]) [3] rfl
  have hKc := hK.sub (tys' := []) [] rfl
  have hDc := hD.sub (ws' := [(q5, .inr (1, [.int 0, .null]))]) [3] (by decide) rfl
  have hFc := va_free (wc := [(q5, .inr (1, [.int 0, .null]))]) hD hS hA [3] rfl
  refine va_callv (va_runI (As := []) (rest := [.ref q5, .ref h0]) ⟨hx, hb, hml, hown, hts⟩ (c_X1_init l D _ q5) (cwI 0 hts g_c_X10_init_c_X1_init_32 rfl rfl rfl (hts (.initialized RX1) (List.mem_of_getElem? (i := 17) rfl)) (hts (.methodLink RX10 32 yX1_init) (List.mem_of_getElem? (i := 18) rfl)) (hts (.instanceMethod yX1_init) (List.mem_of_getElem? (i := 19) rfl)) rfl (by decide +kernel) ⟨(Nat.le_of_ble_eq_true rfl), (Nat.le_of_ble_eq_true rfl)⟩) (PcW_S hPc hKc hDc) rfl rfl hl.1 rfl (lv_room (Nat.le_of_ble_eq_true rfl)) dX10_init_42 ⟨(Nat.le_of_ble_eq_true rfl), (Nat.le_of_ble_eq_true rfl)⟩) hS (fun q _ h => hFc q h) hFc (fun uu tt H locs htt hvm hw hB hz1 hk1 hS => ?_)
  obtain ⟨qb7, cb8⟩ := uu
  obtain ⟨hP1, hK1, hD1⟩ := hB
  rw [htt] at hP1
  have hK1 := va_K.moved hvm.symm hK1
  have hP1 : va_P D vwCl [(q5, .inr (1, [.int 0, .ref (qb7 1)]))] H := hP1
  obtain ⟨hP, hD⟩ := va_join (wr := [(h0, .inr (10, [.ref q1, .ref q2, .int 0, .ref q3, .null, .null, .null])), (q1, .inl (cq1, 4, .inr (.inr (.inr (.inr (fun _ => none)))))), (q2, .inl (cq2, 1400, .inl (fun _ => 0)))]) (w1 := [(q5, .inr (1, [.int 0, .ref (qb7 1)]))]) hP hD [3] [0, 1, 2] rfl rfl (by decide) (by decide) hk1 hFc hP1 hD1
  have hP : va_P D vwCl [(h0, .inr (10, [.ref q1, .ref q2, .int 0, .ref q3, .null, .null, .null])), (q1, .inl (cq1, 4, .inr (.inr (.inr (.inr (fun _ => none)))))), (q2, .inl (cq2, 1400, .inl (fun _ => 0))), (q5, .inr (1, [.int 0, .ref (qb7 1)]))] H := hP
  have hD : va_D A [(h0, .inr (10, [.ref q1, .ref q2, .int 0, .ref q3, .null, .null, .null])), (q1, .inl (cq1, 4, .inr (.inr (.inr (.inr (fun _ => none)))))), (q2, .inl (cq2, 1400, .inl (fun _ => 0))), (q5, .inr (1, [.int 0, .ref (qb7 1)]))] := hD
  refine W.widen (k := 15) (n := 13440) (Nat.le_of_ble_eq_true rfl) (Nat.le_of_ble_eq_true rfl) ?_
  try dsimp only at hw
  clear hz1 hk1 hFc hPc hKc hDc
  refine va_putF (D := D) (ci := 10) (v := .ref q5) (ty := (.object "ClashFree$Image")) (C := RX10) (T := TX10) (N := 7) hx hb hts hin_X10 tyX10 tyX10_ok nmX10 hown hK hP hD hS 0 rfl rfl 4 (by decide) (hts (.fieldLink RX10 33 "ClashFree" "written" "LClashFree$Image;") (List.mem_of_getElem? (i := 20) rfl)) (fun _ h9 => h9) rfl hin rfl (by decide +kernel) rfl rfl (Nat.le_of_ble_eq_true rfl) dX10_init_45 (fun H locs hP hD hS => ?_)
  have hP : va_P D vwCl [(h0, .inr (10, [.ref q1, .ref q2, .int 0, .ref q3, .ref q5, .null, .null])), (q1, .inl (cq1, 4, .inr (.inr (.inr (.inr (fun _ => none)))))), (q2, .inl (cq2, 1400, .inl (fun _ => 0))), (q5, .inr (1, [.int 0, .ref (qb7 1)]))] H := hP
  have hD : va_D A [(h0, .inr (10, [.ref q1, .ref q2, .int 0, .ref q3, .ref q5, .null, .null])), (q1, .inl (cq1, 4, .inr (.inr (.inr (.inr (fun _ => none)))))), (q2, .inl (cq2, 1400, .inl (fun _ => 0))), (q5, .inr (1, [.int 0, .ref (qb7 1)]))] := hD
  refine lv_aload_n hx hb dX10_init_48 rfl (lv_at hl 0 rfl) ?_
  refine va_new (ci := 6) (fs := [.int 0, .int 0, .int 0, .null, .null, .int 0, .int 0, .int 0, .int 0, .int 0, .int 0, .int 0, .null, .int 0, .null]) (C := RX6) (T := TX6) (N := 15) hx hb hts hin_X6 tyX6 tyX6_ok hown (hts (.classLink RX10 37 RX6) (List.mem_of_getElem? (i := 21) rfl)) (hts (.instantiable RX6 15) (List.mem_of_getElem? (i := 22) rfl)) (hts (.initialized RX6) (List.mem_of_getElem? (i := 23) rfl)) hK hP hD hS hA rfl (fun j hj => by rcases (show j = 0 ∨ j = 1 ∨ j = 2 ∨ j = 3 ∨ j = 4 ∨ j = 5 ∨ j = 6 ∨ j = 7 ∨ j = 8 ∨ j = 9 ∨ j = 10 ∨ j = 11 ∨ j = 12 ∨ j = 13 ∨ j = 14 by omega) with rfl | rfl | rfl | rfl | rfl | rfl | rfl | rfl | rfl | rfl | rfl | rfl | rfl | rfl | rfl <;> rfl) (Nat.le_of_ble_eq_true rfl) (Nat.le_of_ble_eq_true rfl) dX10_init_49 (fun q9 H hP hD hS => ?_)
  refine W.widen (k := 16) (n := 13455) (Nat.le_of_ble_eq_true rfl) (Nat.le_of_ble_eq_true rfl) ?_
  have hP : va_P D vwCl [(h0, .inr (10, [.ref q1, .ref q2, .int 0, .ref q3, .ref q5, .null, .null])), (q1, .inl (cq1, 4, .inr (.inr (.inr (.inr (fun _ => none)))))), (q2, .inl (cq2, 1400, .inl (fun _ => 0))), (q5, .inr (1, [.int 0, .ref (qb7 1)])), (q9, .inr (6, [.int 0, .int 0, .int 0, .null, .null, .int 0, .int 0, .int 0, .int 0, .int 0, .int 0, .int 0, .null, .int 0, .null]))] H := hP
  have hD : va_D A [(h0, .inr (10, [.ref q1, .ref q2, .int 0, .ref q3, .ref q5, .null, .null])), (q1, .inl (cq1, 4, .inr (.inr (.inr (.inr (fun _ => none)))))), (q2, .inl (cq2, 1400, .inl (fun _ => 0))), (q5, .inr (1, [.int 0, .ref (qb7 1)])), (q9, .inr (6, [.int 0, .int 0, .int 0, .null, .null, .int 0, .int 0, .int 0, .int 0, .int 0, .int 0, .int 0, .null, .int 0, .null]))] := hD
  refine lv_dup hx hb dX10_init_52 rfl ?_
  have hPc := hP.sub (ws' := [(q9, .inr (6, [.int 0, .int 0, .int 0, .null, .null, .int 0, .int 0, .int 0, .int 0, .int 0, .int 0, .int 0, .null, .int 0, .null]))]) [4] rfl
  have hKc := hK.sub (tys' := []) [] rfl
  have hDc := hD.sub (ws' := [(q9, .inr (6, [.int 0, .int 0, .int 0, .null, .null, .int 0, .int 0, .int 0, .int 0, .int 0, .int 0, .int 0, .null, .int 0, .null]))]) [4] (by decide) rfl
  have hFc := va_free (wc := [(q9, .inr (6, [.int 0, .int 0, .int 0, .null, .null, .int 0, .int 0, .int 0, .int 0, .int 0, .int 0, .int 0, .null, .int 0, .null]))]) hD hS hA [4] rfl
  refine va_callv (va_runI (As := []) (rest := [.ref q9, .ref h0]) ⟨hx, hb, hml, hown, hts⟩ (c_X6_init l D _ q9) (cwI 0 hts g_c_X10_init_c_X6_init_39 rfl rfl rfl (hts (.initialized RX6) (List.mem_of_getElem? (i := 23) rfl)) (hts (.methodLink RX10 39 yX6_init) (List.mem_of_getElem? (i := 24) rfl)) (hts (.instanceMethod yX6_init) (List.mem_of_getElem? (i := 25) rfl)) rfl (by decide +kernel) ⟨(Nat.le_of_ble_eq_true rfl), (Nat.le_of_ble_eq_true rfl)⟩) (PcWN_S hPc hKc hDc hN) rfl rfl hl.1 rfl (lv_room (Nat.le_of_ble_eq_true rfl)) dX10_init_53 ⟨(Nat.le_of_ble_eq_true rfl), (Nat.le_of_ble_eq_true rfl)⟩) hS (fun q _ h => hFc q h) hFc (fun uu tt H locs htt hvm hw hB hz1 hk1 hS => ?_)
  obtain ⟨qb11, cb12⟩ := uu
  obtain ⟨hP1, hK1, hD1⟩ := hB
  rw [htt] at hP1
  have hK1 := va_K.moved hvm.symm hK1
  have hP1 : va_P D vwCl [(q9, .inr (6, [.int 0, .int 0, .int 0, .ref (qb11 3), .ref (qb11 4), .int 0, .int 0, .int 0, .int 0, .int 0, .int 0, .int 0, .ref (qb11 12), .int 0, .ref (qb11 14)]))] H := hP1
  obtain ⟨hP, hD⟩ := va_join (wr := [(h0, .inr (10, [.ref q1, .ref q2, .int 0, .ref q3, .ref q5, .null, .null])), (q1, .inl (cq1, 4, .inr (.inr (.inr (.inr (fun _ => none)))))), (q2, .inl (cq2, 1400, .inl (fun _ => 0))), (q5, .inr (1, [.int 0, .ref (qb7 1)]))]) (w1 := [(q9, .inr (6, [.int 0, .int 0, .int 0, .ref (qb11 3), .ref (qb11 4), .int 0, .int 0, .int 0, .int 0, .int 0, .int 0, .int 0, .ref (qb11 12), .int 0, .ref (qb11 14)]))]) hP hD [4] [0, 1, 2, 3] rfl rfl (by decide) (by decide) hk1 hFc hP1 hD1
  have hP : va_P D vwCl [(h0, .inr (10, [.ref q1, .ref q2, .int 0, .ref q3, .ref q5, .null, .null])), (q1, .inl (cq1, 4, .inr (.inr (.inr (.inr (fun _ => none)))))), (q2, .inl (cq2, 1400, .inl (fun _ => 0))), (q5, .inr (1, [.int 0, .ref (qb7 1)])), (q9, .inr (6, [.int 0, .int 0, .int 0, .ref (qb11 3), .ref (qb11 4), .int 0, .int 0, .int 0, .int 0, .int 0, .int 0, .int 0, .ref (qb11 12), .int 0, .ref (qb11 14)]))] H := hP
  have hD : va_D A [(h0, .inr (10, [.ref q1, .ref q2, .int 0, .ref q3, .ref q5, .null, .null])), (q1, .inl (cq1, 4, .inr (.inr (.inr (.inr (fun _ => none)))))), (q2, .inl (cq2, 1400, .inl (fun _ => 0))), (q5, .inr (1, [.int 0, .ref (qb7 1)])), (q9, .inr (6, [.int 0, .int 0, .int 0, .ref (qb11 3), .ref (qb11 4), .int 0, .int 0, .int 0, .int 0, .int 0, .int 0, .int 0, .ref (qb11 12), .int 0, .ref (qb11 14)]))] := hD
  refine W.widen (k := 23) (n := 15871) (Nat.le_of_ble_eq_true rfl) (Nat.le_of_ble_eq_true rfl) ?_
  try dsimp only at hw
  clear hz1 hk1 hFc hPc hKc hDc
  refine va_putF (D := D) (ci := 10) (v := .ref q9) (ty := (.object "ClashFree$Parser")) (C := RX10) (T := TX10) (N := 7) hx hb hts hin_X10 tyX10 tyX10_ok nmX10 hown hK hP hD hS 0 rfl rfl 5 (by decide) (hts (.fieldLink RX10 40 "ClashFree" "parser" "LClashFree$Parser;") (List.mem_of_getElem? (i := 26) rfl)) (fun _ h9 => h9) rfl hin rfl (by decide +kernel) rfl rfl (Nat.le_of_ble_eq_true rfl) dX10_init_56 (fun H locs hP hD hS => ?_)
  have hP : va_P D vwCl [(h0, .inr (10, [.ref q1, .ref q2, .int 0, .ref q3, .ref q5, .ref q9, .null])), (q1, .inl (cq1, 4, .inr (.inr (.inr (.inr (fun _ => none)))))), (q2, .inl (cq2, 1400, .inl (fun _ => 0))), (q5, .inr (1, [.int 0, .ref (qb7 1)])), (q9, .inr (6, [.int 0, .int 0, .int 0, .ref (qb11 3), .ref (qb11 4), .int 0, .int 0, .int 0, .int 0, .int 0, .int 0, .int 0, .ref (qb11 12), .int 0, .ref (qb11 14)]))] H := hP
  have hD : va_D A [(h0, .inr (10, [.ref q1, .ref q2, .int 0, .ref q3, .ref q5, .ref q9, .null])), (q1, .inl (cq1, 4, .inr (.inr (.inr (.inr (fun _ => none)))))), (q2, .inl (cq2, 1400, .inl (fun _ => 0))), (q5, .inr (1, [.int 0, .ref (qb7 1)])), (q9, .inr (6, [.int 0, .int 0, .int 0, .ref (qb11 3), .ref (qb11 4), .int 0, .int 0, .int 0, .int 0, .int 0, .int 0, .int 0, .ref (qb11 12), .int 0, .ref (qb11 14)]))] := hD
  refine lv_aload_n hx hb dX10_init_59 rfl (lv_at hl 0 rfl) ?_
  refine va_new (ci := 4) (fs := [.int 0, .int 0, .int 0, .int 0, .int 0, .null, .int 0, .null]) (C := RX4) (T := TX4) (N := 8) hx hb hts hin_X4 tyX4 tyX4_ok hown (hts (.classLink RX10 44 RX4) (List.mem_of_getElem? (i := 27) rfl)) (hts (.instantiable RX4 8) (List.mem_of_getElem? (i := 28) rfl)) (hts (.initialized RX4) (List.mem_of_getElem? (i := 29) rfl)) hK hP hD hS hA rfl (fun j hj => by rcases (show j = 0 ∨ j = 1 ∨ j = 2 ∨ j = 3 ∨ j = 4 ∨ j = 5 ∨ j = 6 ∨ j = 7 by omega) with rfl | rfl | rfl | rfl | rfl | rfl | rfl | rfl <;> rfl) (Nat.le_of_ble_eq_true rfl) (Nat.le_of_ble_eq_true rfl) dX10_init_60 (fun q13 H hP hD hS => ?_)
  refine W.widen (k := 24) (n := 15879) (Nat.le_of_ble_eq_true rfl) (Nat.le_of_ble_eq_true rfl) ?_
  have hP : va_P D vwCl [(h0, .inr (10, [.ref q1, .ref q2, .int 0, .ref q3, .ref q5, .ref q9, .null])), (q1, .inl (cq1, 4, .inr (.inr (.inr (.inr (fun _ => none)))))), (q2, .inl (cq2, 1400, .inl (fun _ => 0))), (q5, .inr (1, [.int 0, .ref (qb7 1)])), (q9, .inr (6, [.int 0, .int 0, .int 0, .ref (qb11 3), .ref (qb11 4), .int 0, .int 0, .int 0, .int 0, .int 0, .int 0, .int 0, .ref (qb11 12), .int 0, .ref (qb11 14)])), (q13, .inr (4, [.int 0, .int 0, .int 0, .int 0, .int 0, .null, .int 0, .null]))] H := hP
  have hD : va_D A [(h0, .inr (10, [.ref q1, .ref q2, .int 0, .ref q3, .ref q5, .ref q9, .null])), (q1, .inl (cq1, 4, .inr (.inr (.inr (.inr (fun _ => none)))))), (q2, .inl (cq2, 1400, .inl (fun _ => 0))), (q5, .inr (1, [.int 0, .ref (qb7 1)])), (q9, .inr (6, [.int 0, .int 0, .int 0, .ref (qb11 3), .ref (qb11 4), .int 0, .int 0, .int 0, .int 0, .int 0, .int 0, .int 0, .ref (qb11 12), .int 0, .ref (qb11 14)])), (q13, .inr (4, [.int 0, .int 0, .int 0, .int 0, .int 0, .null, .int 0, .null]))] := hD
  refine lv_dup hx hb dX10_init_63 rfl ?_
  have hPc := hP.sub (ws' := [(q13, .inr (4, [.int 0, .int 0, .int 0, .int 0, .int 0, .null, .int 0, .null]))]) [5] rfl
  have hKc := hK.sub (tys' := []) [] rfl
  have hDc := hD.sub (ws' := [(q13, .inr (4, [.int 0, .int 0, .int 0, .int 0, .int 0, .null, .int 0, .null]))]) [5] (by decide) rfl
  have hFc := va_free (wc := [(q13, .inr (4, [.int 0, .int 0, .int 0, .int 0, .int 0, .null, .int 0, .null]))]) hD hS hA [5] rfl
  refine va_callv (va_runI (As := []) (rest := [.ref q13, .ref h0]) ⟨hx, hb, hml, hown, hts⟩ (c_X4_init l D _ q13) (cwI 0 hts g_c_X10_init_c_X4_init_46 rfl rfl rfl (hts (.initialized RX4) (List.mem_of_getElem? (i := 29) rfl)) (hts (.methodLink RX10 46 yX4_init) (List.mem_of_getElem? (i := 30) rfl)) (hts (.instanceMethod yX4_init) (List.mem_of_getElem? (i := 31) rfl)) rfl (by decide +kernel) ⟨(Nat.le_of_ble_eq_true rfl), (Nat.le_of_ble_eq_true rfl)⟩) (PcW_S hPc hKc hDc) rfl rfl hl.1 rfl (lv_room (Nat.le_of_ble_eq_true rfl)) dX10_init_64 ⟨(Nat.le_of_ble_eq_true rfl), (Nat.le_of_ble_eq_true rfl)⟩) hS (fun q _ h => hFc q h) hFc (fun uu tt H locs htt hvm hw hB hz1 hk1 hS => ?_)
  obtain ⟨qb15, cb16⟩ := uu
  obtain ⟨hP1, hK1, hD1⟩ := hB
  rw [htt] at hP1
  have hK1 := va_K.moved hvm.symm hK1
  have hP1 : va_P D vwCl [(q13, .inr (4, [.int 0, .int 0, .int 0, .int 0, .int 0, .ref (qb15 5), .int 0, .ref (qb15 7)]))] H := hP1
  obtain ⟨hP, hD⟩ := va_join (wr := [(h0, .inr (10, [.ref q1, .ref q2, .int 0, .ref q3, .ref q5, .ref q9, .null])), (q1, .inl (cq1, 4, .inr (.inr (.inr (.inr (fun _ => none)))))), (q2, .inl (cq2, 1400, .inl (fun _ => 0))), (q5, .inr (1, [.int 0, .ref (qb7 1)])), (q9, .inr (6, [.int 0, .int 0, .int 0, .ref (qb11 3), .ref (qb11 4), .int 0, .int 0, .int 0, .int 0, .int 0, .int 0, .int 0, .ref (qb11 12), .int 0, .ref (qb11 14)]))]) (w1 := [(q13, .inr (4, [.int 0, .int 0, .int 0, .int 0, .int 0, .ref (qb15 5), .int 0, .ref (qb15 7)]))]) hP hD [5] [0, 1, 2, 3, 4] rfl rfl (by decide) (by decide) hk1 hFc hP1 hD1
  have hP : va_P D vwCl [(h0, .inr (10, [.ref q1, .ref q2, .int 0, .ref q3, .ref q5, .ref q9, .null])), (q1, .inl (cq1, 4, .inr (.inr (.inr (.inr (fun _ => none)))))), (q2, .inl (cq2, 1400, .inl (fun _ => 0))), (q5, .inr (1, [.int 0, .ref (qb7 1)])), (q9, .inr (6, [.int 0, .int 0, .int 0, .ref (qb11 3), .ref (qb11 4), .int 0, .int 0, .int 0, .int 0, .int 0, .int 0, .int 0, .ref (qb11 12), .int 0, .ref (qb11 14)])), (q13, .inr (4, [.int 0, .int 0, .int 0, .int 0, .int 0, .ref (qb15 5), .int 0, .ref (qb15 7)]))] H := hP
  have hD : va_D A [(h0, .inr (10, [.ref q1, .ref q2, .int 0, .ref q3, .ref q5, .ref q9, .null])), (q1, .inl (cq1, 4, .inr (.inr (.inr (.inr (fun _ => none)))))), (q2, .inl (cq2, 1400, .inl (fun _ => 0))), (q5, .inr (1, [.int 0, .ref (qb7 1)])), (q9, .inr (6, [.int 0, .int 0, .int 0, .ref (qb11 3), .ref (qb11 4), .int 0, .int 0, .int 0, .int 0, .int 0, .int 0, .int 0, .ref (qb11 12), .int 0, .ref (qb11 14)])), (q13, .inr (4, [.int 0, .int 0, .int 0, .int 0, .int 0, .ref (qb15 5), .int 0, .ref (qb15 7)]))] := hD
  refine W.widen (k := 26) (n := 15948) (Nat.le_of_ble_eq_true rfl) (Nat.le_of_ble_eq_true rfl) ?_
  try dsimp only at hw
  clear hz1 hk1 hFc hPc hKc hDc
  refine va_putF (D := D) (ci := 10) (v := .ref q13) (ty := (.object "ClashFree$Machine")) (C := RX10) (T := TX10) (N := 7) hx hb hts hin_X10 tyX10 tyX10_ok nmX10 hown hK hP hD hS 0 rfl rfl 6 (by decide) (hts (.fieldLink RX10 47 "ClashFree" "machine" "LClashFree$Machine;") (List.mem_of_getElem? (i := 32) rfl)) (fun _ h9 => h9) rfl hin rfl (by decide +kernel) rfl rfl (Nat.le_of_ble_eq_true rfl) dX10_init_67 (fun H locs hP hD hS => ?_)
  have hP : va_P D vwCl [(h0, .inr (10, [.ref q1, .ref q2, .int 0, .ref q3, .ref q5, .ref q9, .ref q13])), (q1, .inl (cq1, 4, .inr (.inr (.inr (.inr (fun _ => none)))))), (q2, .inl (cq2, 1400, .inl (fun _ => 0))), (q5, .inr (1, [.int 0, .ref (qb7 1)])), (q9, .inr (6, [.int 0, .int 0, .int 0, .ref (qb11 3), .ref (qb11 4), .int 0, .int 0, .int 0, .int 0, .int 0, .int 0, .int 0, .ref (qb11 12), .int 0, .ref (qb11 14)])), (q13, .inr (4, [.int 0, .int 0, .int 0, .int 0, .int 0, .ref (qb15 5), .int 0, .ref (qb15 7)]))] H := hP
  have hD : va_D A [(h0, .inr (10, [.ref q1, .ref q2, .int 0, .ref q3, .ref q5, .ref q9, .ref q13])), (q1, .inl (cq1, 4, .inr (.inr (.inr (.inr (fun _ => none)))))), (q2, .inl (cq2, 1400, .inl (fun _ => 0))), (q5, .inr (1, [.int 0, .ref (qb7 1)])), (q9, .inr (6, [.int 0, .int 0, .int 0, .ref (qb11 3), .ref (qb11 4), .int 0, .int 0, .int 0, .int 0, .int 0, .int 0, .int 0, .ref (qb11 12), .int 0, .ref (qb11 14)])), (q13, .inr (4, [.int 0, .int 0, .int 0, .int 0, .int 0, .ref (qb15 5), .int 0, .ref (qb15 7)]))] := hD
  exact W.vret hx hb hr (fun t ht hW => ⟨⟨((fun i => [q1, q2, 0, q3, q5, q9, q13].getD i 0), (fun i => [cq1, cq2].getD i cq1), (qb7 1), qb11, qb15), rfl, trivial, by rw [ht]; exact hP.sub [0, 1, 2, 3, 4, 5] rfl, va_K.moved hW.alike (hK.sub [0, 1] rfl), hD.sub [0, 1, 2, 3, 4, 5] (by decide) rfl⟩, hS.F ht⟩) hS.2.2 dX10_init_70

