def own_c_X9_init : List Cond := [.methodLink RX9 3 objectInit, .instanceMethod objectInit, .code objectInit ⟨#[0xb1]⟩ 1 none, .classLink RX9 9 RX0, .instantiable RX0 4, .initialized RX0, .instanceMethod yX0_init, .fieldLink RX9 12 "ClashFree$Table" "draw" "LClashFree$Draw;", .classLink RX9 18 RX2, .instantiable RX2 3, .initialized RX2, .methodLink RX9 20 yX2_init, .instanceMethod yX2_init, .fieldLink RX9 21 "ClashFree$Table" "keys" "LClashFree$Keys;", .classLink RX9 25 RX3, .instantiable RX3 13, .initialized RX3, .methodLink RX9 27 yX3_init, .instanceMethod yX3_init, .fieldLink RX9 28 "ClashFree$Table" "layout" "LClashFree$Layout;"]
def wp_c_X9_init : List Cond := .code yX9_init cX9_init 1 none :: (own_c_X9_init ++ (wp_c_X0_init ++ (wp_c_X2_init ++ (wp_c_X3_init ++ (wsX00 ++ (wsX90 ++ (wsX20 ++ (wsX30 ++ ([] : List Cond)))))))))
set_option maxRecDepth 20000 in
theorem inown_c_X9_init : ∀ w ∈ own_c_X9_init, w ∈ lw_tbl := mem_places [463, 130, 131, 464, 141, 108, 143, 512, 466, 467, 117, 468, 469, 515, 489, 173, 109, 490, 175, 520] (by decide +kernel)
set_option maxRecDepth 20000 in
theorem in_c_X9_init : ∀ w ∈ wp_c_X9_init, w ∈ lw_tbl := List.forall_mem_cons.mpr ⟨List.mem_of_getElem? (i := 462) (by decide +kernel), List.forall_mem_append.mpr ⟨inown_c_X9_init, List.forall_mem_append.mpr ⟨in_c_X0_init, List.forall_mem_append.mpr ⟨in_c_X2_init, List.forall_mem_append.mpr ⟨in_c_X3_init, List.forall_mem_append.mpr ⟨lwb_X0, List.forall_mem_append.mpr ⟨lwb_X9, List.forall_mem_append.mpr ⟨lwb_X2, List.forall_mem_append.mpr ⟨lwb_X3, fun _ h => absurd h List.not_mem_nil⟩⟩⟩⟩⟩⟩⟩⟩⟩
set_option maxRecDepth 20000 in
theorem good_c_X9_init : wp_c_X9_init.all goodWord = true := by decide +kernel
set_option maxRecDepth 20000 in
theorem g_c_X9_init_c_X0_init_11 : GoodIn wp_c_X9_init (wp_c_X0_init) := goodIn_sub ((fun _ h => (List.mem_cons_of_mem _ (List.mem_append_right _ (List.mem_append_left _ h))))) (by decide +kernel)
set_option maxRecDepth 20000 in
theorem g_c_X9_init_c_X2_init_20 : GoodIn wp_c_X9_init (wp_c_X2_init) := goodIn_sub ((fun _ h => (List.mem_cons_of_mem _ (List.mem_append_right _ (List.mem_append_right _ (List.mem_append_left _ h)))))) (by decide +kernel)
set_option maxRecDepth 20000 in
theorem g_c_X9_init_c_X3_init_27 : GoodIn wp_c_X9_init (wp_c_X3_init) := goodIn_sub ((fun _ h => (List.mem_cons_of_mem _ (List.mem_append_right _ (List.mem_append_right _ (List.mem_append_right _ (List.mem_append_left _ h))))))) (by decide +kernel)
set_option maxHeartbeats 4000000 in
set_option maxRecDepth 100000 in
theorem c_X9_init (l : Launch) (D : va_G) (sz : Nat) (h0 : Nat)  : Met l yX9_init wp_c_X9_init ({ frames := 2, cells := 13, slots := 11060, locals := 32 }) (PcWN D [.ref h0] sz [(h0, .inr (9, [.int 0, .int 0, .int 0, .int 0, .int 0, .int 0, .int 0, .int 0, .int 0, .null, .null, .null]))] []) (va_Qv (fun (_ : (Nat → Nat) × (Nat → Nat) × (Nat → Nat) × (Nat → ClassId)) => True) (fun (u : (Nat → Nat) × (Nat → Nat) × (Nat → Nat) × (Nat → ClassId)) t => va_P D vwCl [(h0, .inr (9, [.int 0, .int 0, .int 0, .int 0, .int 0, .int 0, .int 0, .int 0, .int 0, .ref (u.1 9), .ref (u.1 10), .ref (u.1 11)])), (u.1 9, .inr (0, [.long 0, .int 0, .int 0, .int 0])), (u.1 10, .inr (2, [.int 0, .ref (u.2.1 1), .ref (u.2.1 2)])), (u.1 11, .inr (3, [.int 0, .int 0, .int 0, .int 0, .int 0, .ref (u.2.2.1 5), .ref (u.2.2.1 6), .ref (u.2.2.1 7), .ref (u.2.2.1 8), .ref (u.2.2.1 9), .ref (u.2.2.1 10), .ref (u.2.2.1 11), .ref (u.2.2.1 12)])), (u.2.2.1 5, .inl (u.2.2.2 5, 2048, .inl (fun _ => 0))), (u.2.2.1 6, .inl (u.2.2.2 6, 2048, .inl (fun _ => 0))), (u.2.2.1 12, .inl (u.2.2.2 12, 2048, .inl (fun _ => 0)))] t.heap ∧ va_K D vwCl [(u.2.2.2 5, .int), (u.2.2.2 6, .int), (u.2.2.2 12, .int)] t ∧ va_D (va_A [(h0, .inr (9, [.int 0, .int 0, .int 0, .int 0, .int 0, .int 0, .int 0, .int 0, .int 0, .null, .null, .null]))] sz) [(h0, .inr (9, [.int 0, .int 0, .int 0, .int 0, .int 0, .int 0, .int 0, .int 0, .int 0, .ref (u.1 9), .ref (u.1 10), .ref (u.1 11)])), (u.1 9, .inr (0, [.long 0, .int 0, .int 0, .int 0])), (u.1 10, .inr (2, [.int 0, .ref (u.2.1 1), .ref (u.2.1 2)])), (u.1 11, .inr (3, [.int 0, .int 0, .int 0, .int 0, .int 0, .ref (u.2.2.1 5), .ref (u.2.2.1 6), .ref (u.2.2.1 7), .ref (u.2.2.1 8), .ref (u.2.2.1 9), .ref (u.2.2.1 10), .ref (u.2.2.1 11), .ref (u.2.2.1 12)])), (u.2.2.1 5, .inl (u.2.2.2 5, 2048, .inl (fun _ => 0))), (u.2.2.1 6, .inl (u.2.2.2 6, 2048, .inl (fun _ => 0))), (u.2.2.1 12, .inl (u.2.2.2 12, 2048, .inl (fun _ => 0)))]) (va_A [(h0, .inr (9, [.int 0, .int 0, .int 0, .int 0, .int 0, .int 0, .int 0, .int 0, .int 0, .null, .null, .null]))] sz)) 13 11060 (va_A [(h0, .inr (9, [.int 0, .int 0, .int 0, .int 0, .int 0, .int 0, .int 0, .int 0, .int 0, .null, .null, .null]))] sz) := by
  refine Met.ofW (cc := cX9_init) (maxL := 1) (ret := none) (by decide) rfl ?_
  intro p e s m args below meth c s₁ B hml hv
  obtain ⟨rfl, hsz, hP, hK, hD0, hN⟩ := hv
  have hx := B.exec
  have hb := B.bytes
  have hr := B.returns
  have hts := atoms_spec (ws := wp_c_X9_init) B.pre
  have hin_X0 : ∀ w ∈ wsX00, w ∈ wp_c_X9_init := fun _ h => (List.mem_cons_of_mem _ (List.mem_append_right _ (List.mem_append_right _ (List.mem_append_right _ (List.mem_append_right _ (List.mem_append_left _ h))))))
  have hin_X9 : ∀ w ∈ wsX90, w ∈ wp_c_X9_init := fun _ h => (List.mem_cons_of_mem _ (List.mem_append_right _ (List.mem_append_right _ (List.mem_append_right _ (List.mem_append_right _ (List.mem_append_right _ (List.mem_append_left _ h)))))))
  have hin_X2 : ∀ w ∈ wsX20, w ∈ wp_c_X9_init := fun _ h => (List.mem_cons_of_mem _ (List.mem_append_right _ (List.mem_append_right _ (List.mem_append_right _ (List.mem_append_right _ (List.mem_append_right _ (List.mem_append_right _ (List.mem_append_left _ h))))))))
  have hin_X3 : ∀ w ∈ wsX30, w ∈ wp_c_X9_init := fun _ h => (List.mem_cons_of_mem _ (List.mem_append_right _ (List.mem_append_right _ (List.mem_append_right _ (List.mem_append_right _ (List.mem_append_right _ (List.mem_append_right _ (List.mem_append_right _ (List.mem_append_left _ h)))))))))
  have hown : s.vm.findClass RX9 = some m.cls := findClass_of_methodNamed B.named
  have hlocks := B.notSynchronized
  have hin : meth.name = "<init>" := (name_of_methodNamed B.named B.method).1
  subst hsz
  have hD := hD0.self (sz := s.heap.size)
  generalize hAe : va_A [(h0, .inr (9, [.int 0, .int 0, .int 0, .int 0, .int 0, .int 0, .int 0, .int 0, .int 0, .null, .null, .null]))] s.heap.size = A at hD ⊢
  have hA : ∀ q : Nat, s.heap.size ≤ q → A q := fun q h => by rw [← hAe]; exact Or.inr h
  have hS : va_S A s.heap s.heap [] := va_S.rf
  have hP : va_P D vwCl [(h0, .inr (9, [.int 0, .int 0, .int 0, .int 0, .int 0, .int 0, .int 0, .int 0, .int 0, .null, .null, .null]))] s.heap := hP
  have hl := lv_entry ([.ref h0]) (n := 1) (Nat.le_of_ble_eq_true rfl)
  rw [lg_entry_eq]
  generalize (lg_sl ([.ref h0]) ++ List.replicate (1 - (lg_sl ([.ref h0])).length) Slot.unset).toArray = ls at hl ⊢
  have hl : lv_has ls 1 [(0, .ref h0)] := hl
  refine lv_aload_n hx hb dX9_init_0 rfl (lv_at hl 0 rfl) ?_
  refine W.objInit hx hb hown (hts (.methodLink RX9 3 objectInit) (List.mem_of_getElem? (i := 1) rfl)) (hts (.instanceMethod objectInit) (List.mem_of_getElem? (i := 2) rfl)) (hts (.code objectInit ⟨#[0xb1]⟩ 1 none) (List.mem_of_getElem? (i := 3) rfl)) rfl (by rw [hml]; exact hl.1) rfl dX9_init_1 (Nat.le_of_ble_eq_true rfl) (Nat.le_of_ble_eq_true rfl) ?_
  refine W.eq (g2 := F0 m 4 ls []) rfl ?_
  refine lv_aload_n hx hb dX9_init_4 rfl (lv_at hl 0 rfl) ?_
  refine va_new (ci := 0) (fs := [.long 0, .int 0, .int 0, .int 0]) (C := RX0) (T := TX0) (N := 4) hx hb hts hin_X0 tyX0 tyX0_ok hown (hts (.classLink RX9 9 RX0) (List.mem_of_getElem? (i := 4) rfl)) (hts (.instantiable RX0 4) (List.mem_of_getElem? (i := 5) rfl)) (hts (.initialized RX0) (List.mem_of_getElem? (i := 6) rfl)) hK hP hD hS hA rfl (fun j hj => by rcases (show j = 0 ∨ j = 1 ∨ j = 2 ∨ j = 3 by omega) with rfl | rfl | rfl | rfl <;> rfl) (Nat.le_of_ble_eq_true rfl) (Nat.le_of_ble_eq_true rfl) dX9_init_5 (fun q1 H hP hD hS => ?_)
  refine W.widen (k := 1) (n := 4) (Nat.le_of_ble_eq_true rfl) (Nat.le_of_ble_eq_true rfl) ?_
  have hP : va_P D vwCl [(h0, .inr (9, [.int 0, .int 0, .int 0, .int 0, .int 0, .int 0, .int 0, .int 0, .int 0, .null, .null, .null])), (q1, .inr (0, [.long 0, .int 0, .int 0, .int 0]))] H := hP
  have hD : va_D A [(h0, .inr (9, [.int 0, .int 0, .int 0, .int 0, .int 0, .int 0, .int 0, .int 0, .int 0, .null, .null, .null])), (q1, .inr (0, [.long 0, .int 0, .int 0, .int 0]))] := hD
  refine lv_dup hx hb dX9_init_8 rfl ?_
  have hPc := hP.sub (ws' := [(q1, .inr (0, [.long 0, .int 0, .int 0, .int 0]))]) [1] rfl
  have hKc := hK.sub (tys' := []) [] rfl
  have hDc := hD.sub (ws' := [(q1, .inr (0, [.long 0, .int 0, .int 0, .int 0]))]) [1] (by decide) rfl
  have hFc := va_free (wc := [(q1, .inr (0, [.long 0, .int 0, .int 0, .int 0]))]) hD hS hA [1] rfl
  refine va_callv (va_runIN (As := []) (rest := [.ref q1, .ref h0]) ⟨hx, hb, hml, hown, hts⟩ (c_X0_init l D _ q1) ⟨va_cnB 0 hts g_c_X9_init_c_X0_init_11 rfl rfl rfl hN.2.2.1 (hts (.initialized RX0) (List.mem_of_getElem? (i := 6) rfl)) (by decide +kernel) ⟨(Nat.le_of_ble_eq_true rfl), (Nat.le_of_ble_eq_true rfl)⟩, rfl, (hts (.instanceMethod yX0_init) (List.mem_of_getElem? (i := 7) rfl))⟩ (PcW_S hPc hKc hDc) rfl rfl hl.1 rfl (lv_room (Nat.le_of_ble_eq_true rfl)) dX9_init_9 ⟨(Nat.le_of_ble_eq_true rfl), (Nat.le_of_ble_eq_true rfl)⟩) hS (fun q _ h => hFc q h) hFc (fun uu tt H locs htt hvm hw hB hz1 hk1 hS => ?_)
  obtain ⟨qb3, cb4⟩ := uu
  obtain ⟨hP1, hK1, hD1⟩ := hB
  rw [htt] at hP1
  have hK1 := va_K.moved hvm.symm hK1
  have hP1 : va_P D vwCl [(q1, .inr (0, [.long 0, .int 0, .int 0, .int 0]))] H := hP1
  obtain ⟨hP, hD⟩ := va_join (wr := [(h0, .inr (9, [.int 0, .int 0, .int 0, .int 0, .int 0, .int 0, .int 0, .int 0, .int 0, .null, .null, .null]))]) (w1 := [(q1, .inr (0, [.long 0, .int 0, .int 0, .int 0]))]) hP hD [1] [0] rfl rfl (by decide) (by decide) hk1 hFc hP1 hD1
  have hP : va_P D vwCl [(h0, .inr (9, [.int 0, .int 0, .int 0, .int 0, .int 0, .int 0, .int 0, .int 0, .int 0, .null, .null, .null])), (q1, .inr (0, [.long 0, .int 0, .int 0, .int 0]))] H := hP
  have hD : va_D A [(h0, .inr (9, [.int 0, .int 0, .int 0, .int 0, .int 0, .int 0, .int 0, .int 0, .int 0, .null, .null, .null])), (q1, .inr (0, [.long 0, .int 0, .int 0, .int 0]))] := hD
  try dsimp only at hw
  clear hz1 hk1 hFc hPc hKc hDc
  refine va_putF (D := D) (ci := 9) (v := .ref q1) (ty := (.object "ClashFree$Draw")) (C := RX9) (T := TX9) (N := 12) hx hb hts hin_X9 tyX9 tyX9_ok nmX9 hown hK hP hD hS 0 rfl rfl 9 (by decide) (hts (.fieldLink RX9 12 "ClashFree$Table" "draw" "LClashFree$Draw;") (List.mem_of_getElem? (i := 8) rfl)) (fun _ h9 => h9) rfl hin rfl (by decide +kernel) rfl rfl (Nat.le_of_ble_eq_true rfl) dX9_init_12 (fun H locs hP hD hS => ?_)
  have hP : va_P D vwCl [(h0, .inr (9, [.int 0, .int 0, .int 0, .int 0, .int 0, .int 0, .int 0, .int 0, .int 0, .ref q1, .null, .null])), (q1, .inr (0, [.long 0, .int 0, .int 0, .int 0]))] H := hP
  have hD : va_D A [(h0, .inr (9, [.int 0, .int 0, .int 0, .int 0, .int 0, .int 0, .int 0, .int 0, .int 0, .ref q1, .null, .null])), (q1, .inr (0, [.long 0, .int 0, .int 0, .int 0]))] := hD
  refine lv_aload_n hx hb dX9_init_15 rfl (lv_at hl 0 rfl) ?_
  refine va_new (ci := 2) (fs := [.int 0, .null, .null]) (C := RX2) (T := TX2) (N := 3) hx hb hts hin_X2 tyX2 tyX2_ok hown (hts (.classLink RX9 18 RX2) (List.mem_of_getElem? (i := 9) rfl)) (hts (.instantiable RX2 3) (List.mem_of_getElem? (i := 10) rfl)) (hts (.initialized RX2) (List.mem_of_getElem? (i := 11) rfl)) hK hP hD hS hA rfl (fun j hj => by rcases (show j = 0 ∨ j = 1 ∨ j = 2 by omega) with rfl | rfl | rfl <;> rfl) (Nat.le_of_ble_eq_true rfl) (Nat.le_of_ble_eq_true rfl) dX9_init_16 (fun q5 H hP hD hS => ?_)
  refine W.widen (k := 2) (n := 7) (Nat.le_of_ble_eq_true rfl) (Nat.le_of_ble_eq_true rfl) ?_
  have hP : va_P D vwCl [(h0, .inr (9, [.int 0, .int 0, .int 0, .int 0, .int 0, .int 0, .int 0, .int 0, .int 0, .ref q1, .null, .null])), (q1, .inr (0, [.long 0, .int 0, .int 0, .int 0])), (q5, .inr (2, [.int 0, .null, .null]))] H := hP
  have hD : va_D A [(h0, .inr (9, [.int 0, .int 0, .int 0, .int 0, .int 0, .int 0, .int 0, .int 0, .int 0, .ref q1, .null, .null])), (q1, .inr (0, [.long 0, .int 0, .int 0, .int 0])), (q5, .inr (2, [.int 0, .null, .null]))] := hD
  refine lv_dup hx hb dX9_init_19 rfl ?_
  have hPc := hP.sub (ws' := [(q5, .inr (2, [.int 0, .null, .null]))]) [2] rfl
  have hKc := hK.sub (tys' := []) [] rfl
  have hDc := hD.sub (ws' := [(q5, .inr (2, [.int 0, .null, .null]))]) [2] (by decide) rfl
  have hFc := va_free (wc := [(q5, .inr (2, [.int 0, .null, .null]))]) hD hS hA [2] rfl
  refine va_callv (va_runI (As := []) (rest := [.ref q5, .ref h0]) ⟨hx, hb, hml, hown, hts⟩ (c_X2_init l D _ q5) (cwI 0 hts g_c_X9_init_c_X2_init_20 rfl rfl rfl (hts (.initialized RX2) (List.mem_of_getElem? (i := 11) rfl)) (hts (.methodLink RX9 20 yX2_init) (List.mem_of_getElem? (i := 12) rfl)) (hts (.instanceMethod yX2_init) (List.mem_of_getElem? (i := 13) rfl)) rfl (by decide +kernel) ⟨(Nat.le_of_ble_eq_true rfl), (Nat.le_of_ble_eq_true rfl)⟩) (PcW_S hPc hKc hDc) rfl rfl hl.1 rfl (lv_room (Nat.le_of_ble_eq_true rfl)) dX9_init_20 ⟨(Nat.le_of_ble_eq_true rfl), (Nat.le_of_ble_eq_true rfl)⟩) hS (fun q _ h => hFc q h) hFc (fun uu tt H locs htt hvm hw hB hz1 hk1 hS => ?_)
  obtain ⟨qb7, cb8⟩ := uu
  obtain ⟨hP1, hK1, hD1⟩ := hB
  rw [htt] at hP1
  have hK1 := va_K.moved hvm.symm hK1
  have hP1 : va_P D vwCl [(q5, .inr (2, [.int 0, .ref (qb7 1), .ref (qb7 2)]))] H := hP1
  obtain ⟨hP, hD⟩ := va_join (wr := [(h0, .inr (9, [.int 0, .int 0, .int 0, .int 0, .int 0, .int 0, .int 0, .int 0, .int 0, .ref q1, .null, .null])), (q1, .inr (0, [.long 0, .int 0, .int 0, .int 0]))]) (w1 := [(q5, .inr (2, [.int 0, .ref (qb7 1), .ref (qb7 2)]))]) hP hD [2] [0, 1] rfl rfl (by decide) (by decide) hk1 hFc hP1 hD1
  have hP : va_P D vwCl [(h0, .inr (9, [.int 0, .int 0, .int 0, .int 0, .int 0, .int 0, .int 0, .int 0, .int 0, .ref q1, .null, .null])), (q1, .inr (0, [.long 0, .int 0, .int 0, .int 0])), (q5, .inr (2, [.int 0, .ref (qb7 1), .ref (qb7 2)]))] H := hP
  have hD : va_D A [(h0, .inr (9, [.int 0, .int 0, .int 0, .int 0, .int 0, .int 0, .int 0, .int 0, .int 0, .ref q1, .null, .null])), (q1, .inr (0, [.long 0, .int 0, .int 0, .int 0])), (q5, .inr (2, [.int 0, .ref (qb7 1), .ref (qb7 2)]))] := hD
  refine W.widen (k := 4) (n := 327) (Nat.le_of_ble_eq_true rfl) (Nat.le_of_ble_eq_true rfl) ?_
  try dsimp only at hw
  clear hz1 hk1 hFc hPc hKc hDc
  refine va_putF (D := D) (ci := 9) (v := .ref q5) (ty := (.object "ClashFree$Keys")) (C := RX9) (T := TX9) (N := 12) hx hb hts hin_X9 tyX9 tyX9_ok nmX9 hown hK hP hD hS 0 rfl rfl 10 (by decide) (hts (.fieldLink RX9 21 "ClashFree$Table" "keys" "LClashFree$Keys;") (List.mem_of_getElem? (i := 14) rfl)) (fun _ h9 => h9) rfl hin rfl (by decide +kernel) rfl rfl (Nat.le_of_ble_eq_true rfl) dX9_init_23 (fun H locs hP hD hS => ?_)
  have hP : va_P D vwCl [(h0, .inr (9, [.int 0, .int 0, .int 0, .int 0, .int 0, .int 0, .int 0, .int 0, .int 0, .ref q1, .ref q5, .null])), (q1, .inr (0, [.long 0, .int 0, .int 0, .int 0])), (q5, .inr (2, [.int 0, .ref (qb7 1), .ref (qb7 2)]))] H := hP
  have hD : va_D A [(h0, .inr (9, [.int 0, .int 0, .int 0, .int 0, .int 0, .int 0, .int 0, .int 0, .int 0, .ref q1, .ref q5, .null])), (q1, .inr (0, [.long 0, .int 0, .int 0, .int 0])), (q5, .inr (2, [.int 0, .ref (qb7 1), .ref (qb7 2)]))] := hD
  refine lv_aload_n hx hb dX9_init_26 rfl (lv_at hl 0 rfl) ?_
  refine va_new (ci := 3) (fs := [.int 0, .int 0, .int 0, .int 0, .int 0, .null, .null, .null, .null, .null, .null, .null, .null]) (C := RX3) (T := TX3) (N := 13) hx hb hts hin_X3 tyX3 tyX3_ok hown (hts (.classLink RX9 25 RX3) (List.mem_of_getElem? (i := 15) rfl)) (hts (.instantiable RX3 13) (List.mem_of_getElem? (i := 16) rfl)) (hts (.initialized RX3) (List.mem_of_getElem? (i := 17) rfl)) hK hP hD hS hA rfl (fun j hj => by rcases (show j = 0 ∨ j = 1 ∨ j = 2 ∨ j = 3 ∨ j = 4 ∨ j = 5 ∨ j = 6 ∨ j = 7 ∨ j = 8 ∨ j = 9 ∨ j = 10 ∨ j = 11 ∨ j = 12 by omega) with rfl | rfl | rfl | rfl | rfl | rfl | rfl | rfl | rfl | rfl | rfl | rfl | rfl <;> rfl) (Nat.le_of_ble_eq_true rfl) (Nat.le_of_ble_eq_true rfl) dX9_init_27 (fun q9 H hP hD hS => ?_)
  refine W.widen (k := 5) (n := 340) (Nat.le_of_ble_eq_true rfl) (Nat.le_of_ble_eq_true rfl) ?_
  have hP : va_P D vwCl [(h0, .inr (9, [.int 0, .int 0, .int 0, .int 0, .int 0, .int 0, .int 0, .int 0, .int 0, .ref q1, .ref q5, .null])), (q1, .inr (0, [.long 0, .int 0, .int 0, .int 0])), (q5, .inr (2, [.int 0, .ref (qb7 1), .ref (qb7 2)])), (q9, .inr (3, [.int 0, .int 0, .int 0, .int 0, .int 0, .null, .null, .null, .null, .null, .null, .null, .null]))] H := hP
  have hD : va_D A [(h0, .inr (9, [.int 0, .int 0, .int 0, .int 0, .int 0, .int 0, .int 0, .int 0, .int 0, .ref q1, .ref q5, .null])), (q1, .inr (0, [.long 0, .int 0, .int 0, .int 0])), (q5, .inr (2, [.int 0, .ref (qb7 1), .ref (qb7 2)])), (q9, .inr (3, [.int 0, .int 0, .int 0, .int 0, .int 0, .null, .null, .null, .null, .null, .null, .null, .null]))] := hD
  refine lv_dup hx hb dX9_init_30 rfl ?_
  have hPc := hP.sub (ws' := [(q9, .inr (3, [.int 0, .int 0, .int 0, .int 0, .int 0, .null, .null, .null, .null, .null, .null, .null, .null]))]) [3] rfl
  have hKc := hK.sub (tys' := []) [] rfl
  have hDc := hD.sub (ws' := [(q9, .inr (3, [.int 0, .int 0, .int 0, .int 0, .int 0, .null, .null, .null, .null, .null, .null, .null, .null]))]) [3] (by decide) rfl
  have hFc := va_free (wc := [(q9, .inr (3, [.int 0, .int 0, .int 0, .int 0, .int 0, .null, .null, .null, .null, .null, .null, .null, .null]))]) hD hS hA [3] rfl
  refine va_callv (va_runI (As := []) (rest := [.ref q9, .ref h0]) ⟨hx, hb, hml, hown, hts⟩ (c_X3_init l D _ q9) (cwI 0 hts g_c_X9_init_c_X3_init_27 rfl rfl rfl (hts (.initialized RX3) (List.mem_of_getElem? (i := 17) rfl)) (hts (.methodLink RX9 27 yX3_init) (List.mem_of_getElem? (i := 18) rfl)) (hts (.instanceMethod yX3_init) (List.mem_of_getElem? (i := 19) rfl)) rfl (by decide +kernel) ⟨(Nat.le_of_ble_eq_true rfl), (Nat.le_of_ble_eq_true rfl)⟩) (PcW_S hPc hKc hDc) rfl rfl hl.1 rfl (lv_room (Nat.le_of_ble_eq_true rfl)) dX9_init_31 ⟨(Nat.le_of_ble_eq_true rfl), (Nat.le_of_ble_eq_true rfl)⟩) hS (fun q _ h => hFc q h) hFc (fun uu tt H locs htt hvm hw hB hz1 hk1 hS => ?_)
  obtain ⟨qb11, cb12⟩ := uu
  obtain ⟨hP1, hK1, hD1⟩ := hB
  rw [htt] at hP1
  have hK1 := va_K.moved hvm.symm hK1
  have hP1 : va_P D vwCl [(q9, .inr (3, [.int 0, .int 0, .int 0, .int 0, .int 0, .ref (qb11 5), .ref (qb11 6), .ref (qb11 7), .ref (qb11 8), .ref (qb11 9), .ref (qb11 10), .ref (qb11 11), .ref (qb11 12)])), (qb11 5, .inl (cb12 5, 2048, .inl (fun _ => 0))), (qb11 6, .inl (cb12 6, 2048, .inl (fun _ => 0))), (qb11 12, .inl (cb12 12, 2048, .inl (fun _ => 0)))] H := hP1
  obtain ⟨hP, hD⟩ := va_join (wr := [(h0, .inr (9, [.int 0, .int 0, .int 0, .int 0, .int 0, .int 0, .int 0, .int 0, .int 0, .ref q1, .ref q5, .null])), (q1, .inr (0, [.long 0, .int 0, .int 0, .int 0])), (q5, .inr (2, [.int 0, .ref (qb7 1), .ref (qb7 2)]))]) (w1 := [(q9, .inr (3, [.int 0, .int 0, .int 0, .int 0, .int 0, .ref (qb11 5), .ref (qb11 6), .ref (qb11 7), .ref (qb11 8), .ref (qb11 9), .ref (qb11 10), .ref (qb11 11), .ref (qb11 12)])), (qb11 5, .inl (cb12 5, 2048, .inl (fun _ => 0))), (qb11 6, .inl (cb12 6, 2048, .inl (fun _ => 0))), (qb11 12, .inl (cb12 12, 2048, .inl (fun _ => 0)))]) hP hD [3] [0, 1, 2] rfl rfl (by decide) (by decide) hk1 hFc hP1 hD1
  have hK : va_K D vwCl [(cb12 5, .int), (cb12 6, .int), (cb12 12, .int)] s := hK.app (hK1.sub (tys' := [(cb12 5, .int), (cb12 6, .int), (cb12 12, .int)]) [0, 1, 2] rfl)
  have hP : va_P D vwCl [(h0, .inr (9, [.int 0, .int 0, .int 0, .int 0, .int 0, .int 0, .int 0, .int 0, .int 0, .ref q1, .ref q5, .null])), (q1, .inr (0, [.long 0, .int 0, .int 0, .int 0])), (q5, .inr (2, [.int 0, .ref (qb7 1), .ref (qb7 2)])), (q9, .inr (3, [.int 0, .int 0, .int 0, .int 0, .int 0, .ref (qb11 5), .ref (qb11 6), .ref (qb11 7), .ref (qb11 8), .ref (qb11 9), .ref (qb11 10), .ref (qb11 11), .ref (qb11 12)])), (qb11 5, .inl (cb12 5, 2048, .inl (fun _ => 0))), (qb11 6, .inl (cb12 6, 2048, .inl (fun _ => 0))), (qb11 12, .inl (cb12 12, 2048, .inl (fun _ => 0)))] H := hP
  have hD : va_D A [(h0, .inr (9, [.int 0, .int 0, .int 0, .int 0, .int 0, .int 0, .int 0, .int 0, .int 0, .ref q1, .ref q5, .null])), (q1, .inr (0, [.long 0, .int 0, .int 0, .int 0])), (q5, .inr (2, [.int 0, .ref (qb7 1), .ref (qb7 2)])), (q9, .inr (3, [.int 0, .int 0, .int 0, .int 0, .int 0, .ref (qb11 5), .ref (qb11 6), .ref (qb11 7), .ref (qb11 8), .ref (qb11 9), .ref (qb11 10), .ref (qb11 11), .ref (qb11 12)])), (qb11 5, .inl (cb12 5, 2048, .inl (fun _ => 0))), (qb11 6, .inl (cb12 6, 2048, .inl (fun _ => 0))), (qb11 12, .inl (cb12 12, 2048, .inl (fun _ => 0)))] := hD
  refine W.widen (k := 13) (n := 11060) (Nat.le_of_ble_eq_true rfl) (Nat.le_of_ble_eq_true rfl) ?_
  try dsimp only at hw
  clear hz1 hk1 hFc hPc hKc hDc
  refine va_putF (D := D) (ci := 9) (v := .ref q9) (ty := (.object "ClashFree$Layout")) (C := RX9) (T := TX9) (N := 12) hx hb hts hin_X9 tyX9 tyX9_ok nmX9 hown hK hP hD hS 0 rfl rfl 11 (by decide) (hts (.fieldLink RX9 28 "ClashFree$Table" "layout" "LClashFree$Layout;") (List.mem_of_getElem? (i := 20) rfl)) (fun _ h9 => h9) rfl hin rfl (by decide +kernel) rfl rfl (Nat.le_of_ble_eq_true rfl) dX9_init_34 (fun H locs hP hD hS => ?_)
  have hP : va_P D vwCl [(h0, .inr (9, [.int 0, .int 0, .int 0, .int 0, .int 0, .int 0, .int 0, .int 0, .int 0, .ref q1, .ref q5, .ref q9])), (q1, .inr (0, [.long 0, .int 0, .int 0, .int 0])), (q5, .inr (2, [.int 0, .ref (qb7 1), .ref (qb7 2)])), (q9, .inr (3, [.int 0, .int 0, .int 0, .int 0, .int 0, .ref (qb11 5), .ref (qb11 6), .ref (qb11 7), .ref (qb11 8), .ref (qb11 9), .ref (qb11 10), .ref (qb11 11), .ref (qb11 12)])), (qb11 5, .inl (cb12 5, 2048, .inl (fun _ => 0))), (qb11 6, .inl (cb12 6, 2048, .inl (fun _ => 0))), (qb11 12, .inl (cb12 12, 2048, .inl (fun _ => 0)))] H := hP
  have hD : va_D A [(h0, .inr (9, [.int 0, .int 0, .int 0, .int 0, .int 0, .int 0, .int 0, .int 0, .int 0, .ref q1, .ref q5, .ref q9])), (q1, .inr (0, [.long 0, .int 0, .int 0, .int 0])), (q5, .inr (2, [.int 0, .ref (qb7 1), .ref (qb7 2)])), (q9, .inr (3, [.int 0, .int 0, .int 0, .int 0, .int 0, .ref (qb11 5), .ref (qb11 6), .ref (qb11 7), .ref (qb11 8), .ref (qb11 9), .ref (qb11 10), .ref (qb11 11), .ref (qb11 12)])), (qb11 5, .inl (cb12 5, 2048, .inl (fun _ => 0))), (qb11 6, .inl (cb12 6, 2048, .inl (fun _ => 0))), (qb11 12, .inl (cb12 12, 2048, .inl (fun _ => 0)))] := hD
  exact W.vret hx hb hr (fun t ht hW => ⟨⟨((fun i => [0, 0, 0, 0, 0, 0, 0, 0, 0, q1, q5, q9].getD i 0), qb7, qb11, cb12), rfl, trivial, by rw [ht]; exact hP.sub [0, 1, 2, 3, 4, 5, 6] rfl, va_K.moved hW.alike (hK.sub [0, 1, 2] rfl), hD.sub [0, 1, 2, 3, 4, 5, 6] (by decide) rfl⟩, hS.F ht⟩) hS.2.2 dX9_init_37

def own_c_slot : List Cond := [.fieldLink RX10 11 "ClashFree" "tables" "[LClashFree$Table;", .classLink RX10 9 RX9, .instantiable RX9 12, .initialized RX9, .methodLink RX10 351 yX9_init, .instanceMethod yX9_init]
def wp_c_slot : List Cond := .code yX10_slot cX10_slot 3 (some (.object "ClashFree$Table")) :: (own_c_slot ++ (wp_c_X9_init ++ (wsX100 ++ (wsX90 ++ ([] : List Cond)))))
set_option maxRecDepth 20000 in
theorem inown_c_slot : ∀ w ∈ own_c_slot, w ∈ lw_tbl := mem_places [412, 132, 459, 116, 460, 461] (by decide +kernel)
set_option maxRecDepth 20000 in
theorem in_c_slot : ∀ w ∈ wp_c_slot, w ∈ lw_tbl := List.forall_mem_cons.mpr ⟨List.mem_of_getElem? (i := 458) (by decide +kernel), List.forall_mem_append.mpr ⟨inown_c_slot, List.forall_mem_append.mpr ⟨in_c_X9_init, List.forall_mem_append.mpr ⟨lwb_X10, List.forall_mem_append.mpr ⟨lwb_X9, fun _ h => absurd h List.not_mem_nil⟩⟩⟩⟩⟩
set_option maxRecDepth 20000 in
theorem good_c_slot : wp_c_slot.all goodWord = true := by decide +kernel
set_option maxRecDepth 20000 in
theorem g_c_slot_c_X9_init_351 : GoodIn wp_c_slot (wp_c_X9_init) := goodIn_sub ((fun _ h => (List.mem_cons_of_mem _ (List.mem_append_right _ (List.mem_append_left _ h))))) (by decide +kernel)
set_option maxHeartbeats 4000000 in
set_option maxRecDepth 100000 in
theorem c_slot (l : Launch) (D : va_G) (sz : Nat) (h0 : Nat) (ca : Nat → Nat) (cT : ClassId) (tp : Int32) (k : Nat) (hk : k < 4) : Met l yX10_slot wp_c_slot ({ frames := 3, cells := 14, slots := 11072, locals := 52 }) (PcWN D [.ref h0, .int (nI k)] sz [(h0, .inr (10, [.ref (ca 0), .ref (ca 1), .int tp, .ref (ca 3), .ref (ca 4), .ref (ca 5), .ref (ca 6)])), (ca 0, .inl (cT, 4, .inr (.inr (.inr (.inr (fun _ => none))))))] [(cT, .object RX9)]) (va_Qr (fun (_ : (Nat → Nat) × (Nat → Nat) × (Nat → Nat) × (Nat → ClassId)) => True) (fun (u : (Nat → Nat) × (Nat → Nat) × (Nat → Nat) × (Nat → ClassId)) (ra : Nat) t => va_P D vwCl [(ra, .inr (9, [.int 0, .int 0, .int 0, .int 0, .int 0, .int 0, .int 0, .int 0, .int 0, .ref (u.1 9), .ref (u.1 10), .ref (u.1 11)])), (u.1 9, .inr (0, [.long 0, .int 0, .int 0, .int 0])), (u.1 10, .inr (2, [.int 0, .ref (u.2.1 1), .ref (u.2.1 2)])), (u.1 11, .inr (3, [.int 0, .int 0, .int 0, .int 0, .int 0, .ref (u.2.2.1 5), .ref (u.2.2.1 6), .ref (u.2.2.1 7), .ref (u.2.2.1 8), .ref (u.2.2.1 9), .ref (u.2.2.1 10), .ref (u.2.2.1 11), .ref (u.2.2.1 12)])), (u.2.2.1 5, .inl (u.2.2.2 5, 2048, .inl (fun _ => 0))), (u.2.2.1 6, .inl (u.2.2.2 6, 2048, .inl (fun _ => 0))), (u.2.2.1 12, .inl (u.2.2.2 12, 2048, .inl (fun _ => 0)))] t.heap ∧ va_K D vwCl [(u.2.2.2 5, .int), (u.2.2.2 6, .int), (u.2.2.2 12, .int)] t ∧ va_D (va_A [(h0, .inr (10, [.ref (ca 0), .ref (ca 1), .int tp, .ref (ca 3), .ref (ca 4), .ref (ca 5), .ref (ca 6)])), (ca 0, .inl (cT, 4, .inr (.inr (.inr (.inr (fun _ => none))))))] sz) [(ra, .inr (9, [.int 0, .int 0, .int 0, .int 0, .int 0, .int 0, .int 0, .int 0, .int 0, .ref (u.1 9), .ref (u.1 10), .ref (u.1 11)])), (u.1 9, .inr (0, [.long 0, .int 0, .int 0, .int 0])), (u.1 10, .inr (2, [.int 0, .ref (u.2.1 1), .ref (u.2.1 2)])), (u.1 11, .inr (3, [.int 0, .int 0, .int 0, .int 0, .int 0, .ref (u.2.2.1 5), .ref (u.2.2.1 6), .ref (u.2.2.1 7), .ref (u.2.2.1 8), .ref (u.2.2.1 9), .ref (u.2.2.1 10), .ref (u.2.2.1 11), .ref (u.2.2.1 12)])), (u.2.2.1 5, .inl (u.2.2.2 5, 2048, .inl (fun _ => 0))), (u.2.2.1 6, .inl (u.2.2.2 6, 2048, .inl (fun _ => 0))), (u.2.2.1 12, .inl (u.2.2.2 12, 2048, .inl (fun _ => 0)))]) (va_A [(h0, .inr (10, [.ref (ca 0), .ref (ca 1), .int tp, .ref (ca 3), .ref (ca 4), .ref (ca 5), .ref (ca 6)])), (ca 0, .inl (cT, 4, .inr (.inr (.inr (.inr (fun _ => none))))))] sz)) 14 11072 (va_A [(h0, .inr (10, [.ref (ca 0), .ref (ca 1), .int tp, .ref (ca 3), .ref (ca 4), .ref (ca 5), .ref (ca 6)])), (ca 0, .inl (cT, 4, .inr (.inr (.inr (.inr (fun _ => none))))))] sz) := by
  refine Met.ofW (cc := cX10_slot) (maxL := 3) (ret := (some (.object "ClashFree$Table"))) (by decide) rfl ?_
  intro p e s m args below meth c s₁ B hml hv
  obtain ⟨rfl, hsz, hP, hK, hD0, hN⟩ := hv
  have hx := B.exec
  have hb := B.bytes
  have hr := B.returns
  have hts := atoms_spec (ws := wp_c_slot) B.pre
  have hin_X10 : ∀ w ∈ wsX100, w ∈ wp_c_slot := fun _ h => (List.mem_cons_of_mem _ (List.mem_append_right _ (List.mem_append_right _ (List.mem_append_left _ h))))
  have hin_X9 : ∀ w ∈ wsX90, w ∈ wp_c_slot := fun _ h => (List.mem_cons_of_mem _ (List.mem_append_right _ (List.mem_append_right _ (List.mem_append_right _ (List.mem_append_left _ h)))))
  have hown : s.vm.findClass RX10 = some m.cls := findClass_of_methodNamed B.named
  have hlocks := B.notSynchronized
  subst hsz
  have hD := hD0.self (sz := s.heap.size)
  generalize hAe : va_A [(h0, .inr (10, [.ref (ca 0), .ref (ca 1), .int tp, .ref (ca 3), .ref (ca 4), .ref (ca 5), .ref (ca 6)])), (ca 0, .inl (cT, 4, .inr (.inr (.inr (.inr (fun _ => none))))))] s.heap.size = A at hD ⊢
  have hA : ∀ q : Nat, s.heap.size ≤ q → A q := fun q h => by rw [← hAe]; exact Or.inr h
  have hS : va_S A s.heap s.heap [] := va_S.rf
  have hP : va_P D vwCl [(h0, .inr (10, [.ref (ca 0), .ref (ca 1), .int tp, .ref (ca 3), .ref (ca 4), .ref (ca 5), .ref (ca 6)])), (ca 0, .inl (cT, 4, .inr (.inr (.inr (.inr (fun _ => none))))))] s.heap := hP
  have hl := lv_entry ([.ref h0, .int (nI k)]) (n := 3) (Nat.le_of_ble_eq_true rfl)
  rw [lg_entry_eq]
  generalize (lg_sl ([.ref h0, .int (nI k)]) ++ List.replicate (3 - (lg_sl ([.ref h0, .int (nI k)])).length) Slot.unset).toArray = ls at hl ⊢
  have hl : lv_has ls 3 [(0, .ref h0), (1, .int (nI k))] := hl
  refine lv_aload_n hx hb dX10_slot_0 rfl (lv_at hl 0 rfl) ?_
  refine va_get (D := D) (ci := 10) (v := .ref (ca 0)) (C := RX10) (T := TX10) (N := 7) hx hb hts hin_X10 hown hK hP 0 rfl rfl 0 (by decide) (hts (.fieldLink RX10 11 "ClashFree" "tables" "[LClashFree$Table;") (List.mem_of_getElem? (i := 1) rfl)) (fun _ h9 => h9) rfl dX10_slot_1 ?_
  refine lv_iload_n hx hb dX10_slot_4 rfl (lv_at hl 1 rfl) ?_
  refine va_aldq hx hb hK hP 1 0 rfl rfl (vp_in_nI hk (by decide)) dX10_slot_5 ?_
  refine W.eq (g2 := F0 m 6 ls [.null]) rfl ?_
  refine lv_astore_nN (lv' := [(2, .null), (0, .ref h0), (1, .int (nI k))]) hx hb dX10_slot_6 rfl hl (by decide) rfl (fun ls hl => ?_)
  refine lv_aload_nN hx hb dX10_slot_7 rfl (lv_at hl 0 rfl) ?_
  refine lv_ifnonnullN hx hb dX10_slot_8 ?_
  refine va_new (ci := 9) (fs := [.int 0, .int 0, .int 0, .int 0, .int 0, .int 0, .int 0, .int 0, .int 0, .null, .null, .null]) (C := RX9) (T := TX9) (N := 12) hx hb hts hin_X9 tyX9 tyX9_ok hown (hts (.classLink RX10 9 RX9) (List.mem_of_getElem? (i := 2) rfl)) (hts (.instantiable RX9 12) (List.mem_of_getElem? (i := 3) rfl)) (hts (.initialized RX9) (List.mem_of_getElem? (i := 4) rfl)) hK hP hD hS hA rfl (fun j hj => by rcases (show j = 0 ∨ j = 1 ∨ j = 2 ∨ j = 3 ∨ j = 4 ∨ j = 5 ∨ j = 6 ∨ j = 7 ∨ j = 8 ∨ j = 9 ∨ j = 10 ∨ j = 11 by omega) with rfl | rfl | rfl | rfl | rfl | rfl | rfl | rfl | rfl | rfl | rfl | rfl <;> rfl) (Nat.le_of_ble_eq_true rfl) (Nat.le_of_ble_eq_true rfl) dX10_slot_11 (fun q1 H hP hD hS => ?_)
  refine W.widen (k := 1) (n := 12) (Nat.le_of_ble_eq_true rfl) (Nat.le_of_ble_eq_true rfl) ?_
  have hP : va_P D vwCl [(h0, .inr (10, [.ref (ca 0), .ref (ca 1), .int tp, .ref (ca 3), .ref (ca 4), .ref (ca 5), .ref (ca 6)])), (ca 0, .inl (cT, 4, .inr (.inr (.inr (.inr (fun _ => none)))))), (q1, .inr (9, [.int 0, .int 0, .int 0, .int 0, .int 0, .int 0, .int 0, .int 0, .int 0, .null, .null, .null]))] H := hP
  have hD : va_D A [(h0, .inr (10, [.ref (ca 0), .ref (ca 1), .int tp, .ref (ca 3), .ref (ca 4), .ref (ca 5), .ref (ca 6)])), (ca 0, .inl (cT, 4, .inr (.inr (.inr (.inr (fun _ => none)))))), (q1, .inr (9, [.int 0, .int 0, .int 0, .int 0, .int 0, .int 0, .int 0, .int 0, .int 0, .null, .null, .null]))] := hD
  refine lv_dup hx hb dX10_slot_14 rfl ?_
  have hPc := hP.sub (ws' := [(q1, .inr (9, [.int 0, .int 0, .int 0, .int 0, .int 0, .int 0, .int 0, .int 0, .int 0, .null, .null, .null]))]) [2] rfl
  have hKc := hK.sub (tys' := []) [] rfl
  have hDc := hD.sub (ws' := [(q1, .inr (9, [.int 0, .int 0, .int 0, .int 0, .int 0, .int 0, .int 0, .int 0, .int 0, .null, .null, .null]))]) [2] (by decide) rfl
  have hFc := va_free (wc := [(q1, .inr (9, [.int 0, .int 0, .int 0, .int 0, .int 0, .int 0, .int 0, .int 0, .int 0, .null, .null, .null]))]) hD hS hA [2] rfl
  refine va_callv (va_runI (As := []) (rest := [.ref q1]) ⟨hx, hb, hml, hown, hts⟩ (c_X9_init l D _ q1) (cwI 0 hts g_c_slot_c_X9_init_351 rfl rfl rfl (hts (.initialized RX9) (List.mem_of_getElem? (i := 4) rfl)) (hts (.methodLink RX10 351 yX9_init) (List.mem_of_getElem? (i := 5) rfl)) (hts (.instanceMethod yX9_init) (List.mem_of_getElem? (i := 6) rfl)) rfl (by decide +kernel) ⟨(Nat.le_of_ble_eq_true rfl), (Nat.le_of_ble_eq_true rfl)⟩) (PcWN_S hPc hKc hDc hN) rfl rfl hl.1 rfl (lv_room (Nat.le_of_ble_eq_true rfl)) dX10_slot_15 ⟨(Nat.le_of_ble_eq_true rfl), (Nat.le_of_ble_eq_true rfl)⟩) hS (fun q _ h => hFc q h) hFc (fun uu tt H locs htt hvm hw hB hz1 hk1 hS => ?_)
  obtain ⟨ta3, ka4, la5, lc6⟩ := uu
  obtain ⟨hP1, hK1, hD1⟩ := hB
  rw [htt] at hP1
  have hK1 := va_K.moved hvm.symm hK1
  have hP1 : va_P D vwCl [(q1, .inr (9, [.int 0, .int 0, .int 0, .int 0, .int 0, .int 0, .int 0, .int 0, .int 0, .ref (ta3 9), .ref (ta3 10), .ref (ta3 11)])), (ta3 9, .inr (0, [.long 0, .int 0, .int 0, .int 0])), (ta3 10, .inr (2, [.int 0, .ref (ka4 1), .ref (ka4 2)])), (ta3 11, .inr (3, [.int 0, .int 0, .int 0, .int 0, .int 0, .ref (la5 5), .ref (la5 6), .ref (la5 7), .ref (la5 8), .ref (la5 9), .ref (la5 10), .ref (la5 11), .ref (la5 12)])), (la5 5, .inl (lc6 5, 2048, .inl (fun _ => 0))), (la5 6, .inl (lc6 6, 2048, .inl (fun _ => 0))), (la5 12, .inl (lc6 12, 2048, .inl (fun _ => 0)))] H := hP1
  obtain ⟨hP, hD⟩ := va_join (wr := [(h0, .inr (10, [.ref (ca 0), .ref (ca 1), .int tp, .ref (ca 3), .ref (ca 4), .ref (ca 5), .ref (ca 6)])), (ca 0, .inl (cT, 4, .inr (.inr (.inr (.inr (fun _ => none))))))]) (w1 := [(q1, .inr (9, [.int 0, .int 0, .int 0, .int 0, .int 0, .int 0, .int 0, .int 0, .int 0, .ref (ta3 9), .ref (ta3 10), .ref (ta3 11)])), (ta3 9, .inr (0, [.long 0, .int 0, .int 0, .int 0])), (ta3 10, .inr (2, [.int 0, .ref (ka4 1), .ref (ka4 2)])), (ta3 11, .inr (3, [.int 0, .int 0, .int 0, .int 0, .int 0, .ref (la5 5), .ref (la5 6), .ref (la5 7), .ref (la5 8), .ref (la5 9), .ref (la5 10), .ref (la5 11), .ref (la5 12)])), (la5 5, .inl (lc6 5, 2048, .inl (fun _ => 0))), (la5 6, .inl (lc6 6, 2048, .inl (fun _ => 0))), (la5 12, .inl (lc6 12, 2048, .inl (fun _ => 0)))]) hP hD [2] [0, 1] rfl rfl (by decide) (by decide) hk1 hFc hP1 hD1
  have hK : va_K D vwCl [(cT, .object RX9), (lc6 5, .int), (lc6 6, .int), (lc6 12, .int)] s := hK.app (hK1.sub (tys' := [(lc6 5, .int), (lc6 6, .int), (lc6 12, .int)]) [0, 1, 2] rfl)
  have hP : va_P D vwCl [(h0, .inr (10, [.ref (ca 0), .ref (ca 1), .int tp, .ref (ca 3), .ref (ca 4), .ref (ca 5), .ref (ca 6)])), (ca 0, .inl (cT, 4, .inr (.inr (.inr (.inr (fun _ => none)))))), (q1, .inr (9, [.int 0, .int 0, .int 0, .int 0, .int 0, .int 0, .int 0, .int 0, .int 0, .ref (ta3 9), .ref (ta3 10), .ref (ta3 11)])), (ta3 9, .inr (0, [.long 0, .int 0, .int 0, .int 0])), (ta3 10, .inr (2, [.int 0, .ref (ka4 1), .ref (ka4 2)])), (ta3 11, .inr (3, [.int 0, .int 0, .int 0, .int 0, .int 0, .ref (la5 5), .ref (la5 6), .ref (la5 7), .ref (la5 8), .ref (la5 9), .ref (la5 10), .ref (la5 11), .ref (la5 12)])), (la5 5, .inl (lc6 5, 2048, .inl (fun _ => 0))), (la5 6, .inl (lc6 6, 2048, .inl (fun _ => 0))), (la5 12, .inl (lc6 12, 2048, .inl (fun _ => 0)))] H := hP
  have hD : va_D A [(h0, .inr (10, [.ref (ca 0), .ref (ca 1), .int tp, .ref (ca 3), .ref (ca 4), .ref (ca 5), .ref (ca 6)])), (ca 0, .inl (cT, 4, .inr (.inr (.inr (.inr (fun _ => none)))))), (q1, .inr (9, [.int 0, .int 0, .int 0, .int 0, .int 0, .int 0, .int 0, .int 0, .int 0, .ref (ta3 9), .ref (ta3 10), .ref (ta3 11)])), (ta3 9, .inr (0, [.long 0, .int 0, .int 0, .int 0])), (ta3 10, .inr (2, [.int 0, .ref (ka4 1), .ref (ka4 2)])), (ta3 11, .inr (3, [.int 0, .int 0, .int 0, .int 0, .int 0, .ref (la5 5), .ref (la5 6), .ref (la5 7), .ref (la5 8), .ref (la5 9), .ref (la5 10), .ref (la5 11), .ref (la5 12)])), (la5 5, .inl (lc6 5, 2048, .inl (fun _ => 0))), (la5 6, .inl (lc6 6, 2048, .inl (fun _ => 0))), (la5 12, .inl (lc6 12, 2048, .inl (fun _ => 0)))] := hD
  refine W.widen (k := 14) (n := 11072) (Nat.le_of_ble_eq_true rfl) (Nat.le_of_ble_eq_true rfl) ?_
  try dsimp only at hw
  clear hz1 hk1 hFc hPc hKc hDc
  refine lv_astore_n (lv' := [(2, .ref q1), (0, .ref h0), (1, .int (nI k))]) hx hb dX10_slot_18 rfl hl (by decide) rfl (fun ls hl => ?_)
  refine lv_aload_n hx hb dX10_slot_19 rfl (lv_at hl 1 rfl) ?_
  refine va_get (D := D) (ci := 10) (v := .ref (ca 0)) (C := RX10) (T := TX10) (N := 7) hx hb hts hin_X10 hown hK hP 0 rfl rfl 0 (by decide) (hts (.fieldLink RX10 11 "ClashFree" "tables" "[LClashFree$Table;") (List.mem_of_getElem? (i := 1) rfl)) (fun _ h9 => h9) rfl dX10_slot_20 ?_
  refine lv_iload_n hx hb dX10_slot_23 rfl (lv_at hl 2 rfl) ?_
  refine lv_aload_n hx hb dX10_slot_24 rfl (lv_at hl 0 rfl) ?_
  refine va_astq hx hb hK hP hD hS 1 0 2 9 rfl rfl rfl rfl (vp_in_nI hk (by decide)) dX10_slot_25 (fun H locs hP hD hS => ?_)
  have hP : va_P D vwCl [(h0, .inr (10, [.ref (ca 0), .ref (ca 1), .int tp, .ref (ca 3), .ref (ca 4), .ref (ca 5), .ref (ca 6)])), (ca 0, .inl (cT, 4, .inr (.inr (.inr (.inr (va_up (fun _ => none) (Int32.toNatClampNeg (nI k)) (some q1))))))), (q1, .inr (9, [.int 0, .int 0, .int 0, .int 0, .int 0, .int 0, .int 0, .int 0, .int 0, .ref (ta3 9), .ref (ta3 10), .ref (ta3 11)])), (ta3 9, .inr (0, [.long 0, .int 0, .int 0, .int 0])), (ta3 10, .inr (2, [.int 0, .ref (ka4 1), .ref (ka4 2)])), (ta3 11, .inr (3, [.int 0, .int 0, .int 0, .int 0, .int 0, .ref (la5 5), .ref (la5 6), .ref (la5 7), .ref (la5 8), .ref (la5 9), .ref (la5 10), .ref (la5 11), .ref (la5 12)])), (la5 5, .inl (lc6 5, 2048, .inl (fun _ => 0))), (la5 6, .inl (lc6 6, 2048, .inl (fun _ => 0))), (la5 12, .inl (lc6 12, 2048, .inl (fun _ => 0)))] H := hP
  have hD : va_D A [(h0, .inr (10, [.ref (ca 0), .ref (ca 1), .int tp, .ref (ca 3), .ref (ca 4), .ref (ca 5), .ref (ca 6)])), (ca 0, .inl (cT, 4, .inr (.inr (.inr (.inr (va_up (fun _ => none) (Int32.toNatClampNeg (nI k)) (some q1))))))), (q1, .inr (9, [.int 0, .int 0, .int 0, .int 0, .int 0, .int 0, .int 0, .int 0, .int 0, .ref (ta3 9), .ref (ta3 10), .ref (ta3 11)])), (ta3 9, .inr (0, [.long 0, .int 0, .int 0, .int 0])), (ta3 10, .inr (2, [.int 0, .ref (ka4 1), .ref (ka4 2)])), (ta3 11, .inr (3, [.int 0, .int 0, .int 0, .int 0, .int 0, .ref (la5 5), .ref (la5 6), .ref (la5 7), .ref (la5 8), .ref (la5 9), .ref (la5 10), .ref (la5 11), .ref (la5 12)])), (la5 5, .inl (lc6 5, 2048, .inl (fun _ => 0))), (la5 6, .inl (lc6 6, 2048, .inl (fun _ => 0))), (la5 12, .inl (lc6 12, 2048, .inl (fun _ => 0)))] := hD
  refine lv_aload_n hx hb dX10_slot_26 rfl (lv_at hl 0 rfl) ?_
  exact W.aret (v := .ref q1) hx hb hr (Or.inl ⟨_, rfl⟩) (Or.inr ⟨_, rfl⟩) (fun t ht hW => ⟨⟨(ta3, ka4, la5, lc6), q1, rfl, trivial, by rw [ht]; exact hP.sub [2, 3, 4, 5, 6, 7, 8] rfl, va_K.moved hW.alike (hK.sub [1, 2, 3] rfl), hD.sub [2, 3, 4, 5, 6, 7, 8] (by decide) rfl⟩, hS.F ht⟩) hS.2.2 dX10_slot_27

def own_c_X0_begin : List Cond := [.fieldLink RX0 9 "ClashFree$Draw" "s" "J", .fieldLink RX0 15 "ClashFree$Draw" "pairs" "I"]
def wp_c_X0_begin : List Cond := .code yX0_begin cX0_begin 3 none :: (own_c_X0_begin ++ (wsX00 ++ ([] : List Cond)))
set_option maxRecDepth 20000 in
theorem inown_c_X0_begin : ∀ w ∈ own_c_X0_begin, w ∈ lw_tbl := mem_places [146, 158] (by decide +kernel)
set_option maxRecDepth 20000 in
theorem in_c_X0_begin : ∀ w ∈ wp_c_X0_begin, w ∈ lw_tbl := List.forall_mem_cons.mpr ⟨List.mem_of_getElem? (i := 555) (by decide +kernel), List.forall_mem_append.mpr ⟨inown_c_X0_begin, List.forall_mem_append.mpr ⟨lwb_X0, fun _ h => absurd h List.not_mem_nil⟩⟩⟩
set_option maxRecDepth 20000 in
theorem good_c_X0_begin : wp_c_X0_begin.all goodWord = true := by decide +kernel
set_option maxHeartbeats 4000000 in
set_option maxRecDepth 100000 in
theorem c_X0_begin (l : Launch) (D : va_G) (sz : Nat) (h0 : Nat) (s0 : Int64) (a0 : Int32) (b0 : Int32) (n0 : Int32) (y1 : Int64)  : Met l yX0_begin wp_c_X0_begin ({ frames := 0, cells := 0, slots := 0, locals := 0 }) (PcW D [.ref h0, .long y1] sz [(h0, .inr (0, [.long s0, .int a0, .int b0, .int n0]))] []) (va_Qv (fun (_ : Unit) => True) (fun (u : Unit) t => va_P D vwCl [(h0, .inr (0, [.long y1, .int a0, .int b0, .int 0]))] t.heap ∧ va_K D vwCl [] t ∧ va_D (va_A [(h0, .inr (0, [.long s0, .int a0, .int b0, .int n0]))] sz) [(h0, .inr (0, [.long y1, .int a0, .int b0, .int 0]))]) (va_A [(h0, .inr (0, [.long s0, .int a0, .int b0, .int n0]))] sz)) 0 0 (va_A [(h0, .inr (0, [.long s0, .int a0, .int b0, .int n0]))] sz) := by
  refine Met.ofW (cc := cX0_begin) (maxL := 3) (ret := none) (by decide) rfl ?_
  intro p e s m args below meth c s₁ B hml hv
  obtain ⟨rfl, hsz, hP, hK, hD0⟩ := hv
  have hx := B.exec
  have hb := B.bytes
  have hr := B.returns
  have hts := atoms_spec (ws := wp_c_X0_begin) B.pre
  have hin_X0 : ∀ w ∈ wsX00, w ∈ wp_c_X0_begin := fun _ h => (List.mem_cons_of_mem _ (List.mem_append_right _ (List.mem_append_left _ h)))
  have hown : s.vm.findClass RX0 = some m.cls := findClass_of_methodNamed B.named
  have hlocks := B.notSynchronized
  subst hsz
  have hD := hD0.self (sz := s.heap.size)
  generalize hAe : va_A [(h0, .inr (0, [.long s0, .int a0, .int b0, .int n0]))] s.heap.size = A at hD ⊢
  have hA : ∀ q : Nat, s.heap.size ≤ q → A q := fun q h => by rw [← hAe]; exact Or.inr h
  have hS : va_S A s.heap s.heap [] := va_S.rf
  have hP : va_P D vwCl [(h0, .inr (0, [.long s0, .int a0, .int b0, .int n0]))] s.heap := hP
  have hl := lv_entry ([.ref h0, .long y1]) (n := 3) (Nat.le_of_ble_eq_true rfl)
  rw [lg_entry_eq]
  generalize (lg_sl ([.ref h0, .long y1]) ++ List.replicate (3 - (lg_sl ([.ref h0, .long y1])).length) Slot.unset).toArray = ls at hl ⊢
  have hl : lv_has ls 3 [(0, .ref h0), (1, .long y1)] := hl
  refine lv_aload_n hx hb dX0_begin_0 rfl (lv_at hl 0 rfl) ?_
  refine lv_lload_n hx hb dX0_begin_1 rfl (lv_at hl 1 rfl) ?_
  refine va_put (D := D) (ci := 0) (v := .long y1) (ty := .long) (C := RX0) (T := TX0) (N := 4) hx hb hts hin_X0 tyX0 tyX0_ok nmX0 hown hK hP hD hS 0 rfl rfl 0 (by decide) (hts (.fieldLink RX0 9 "ClashFree$Draw" "s" "J") (List.mem_of_getElem? (i := 1) rfl)) (fun _ h9 => h9) rfl (by decide +kernel) rfl rfl (Nat.le_of_ble_eq_true rfl) dX0_begin_2 (fun H locs hP hD hS => ?_)
  have hP : va_P D vwCl [(h0, .inr (0, [.long y1, .int a0, .int b0, .int n0]))] H := hP
  have hD : va_D A [(h0, .inr (0, [.long y1, .int a0, .int b0, .int n0]))] := hD
  refine lv_aload_n hx hb dX0_begin_5 rfl (lv_at hl 0 rfl) ?_
  refine lv_iconst (v := 0) hx hb dX0_begin_6 (by decide) ?_
  refine va_put (D := D) (ci := 0) (v := .int 0) (ty := .int) (C := RX0) (T := TX0) (N := 4) hx hb hts hin_X0 tyX0 tyX0_ok nmX0 hown hK hP hD hS 0 rfl rfl 3 (by decide) (hts (.fieldLink RX0 15 "ClashFree$Draw" "pairs" "I") (List.mem_of_getElem? (i := 2) rfl)) (fun _ h9 => h9) rfl (by decide +kernel) rfl rfl (Nat.le_of_ble_eq_true rfl) dX0_begin_7 (fun H locs hP hD hS => ?_)
  have hP : va_P D vwCl [(h0, .inr (0, [.long y1, .int a0, .int b0, .int 0]))] H := hP
  have hD : va_D A [(h0, .inr (0, [.long y1, .int a0, .int b0, .int 0]))] := hD
  exact W.vret hx hb hr (fun t ht hW => ⟨⟨(), rfl, trivial, by rw [ht]; exact hP.sub [0] rfl, va_K.moved hW.alike (hK.sub [] rfl), hD.sub [0] (by decide) rfl⟩, hS.F ht⟩) hS.2.2 dX0_begin_10

def own_c_X0_pair : List Cond := [.fieldLink RX0 9 "ClashFree$Draw" "s" "J", .constantLong RX0 19 (6364136223846793005), .constantLong RX0 21 (1442695040888963407), .constantLong RX0 23 (2147483646), .fieldLink RX0 25 "ClashFree$Draw" "a" "I", .constantLong RX0 28 (2147483647), .fieldLink RX0 30 "ClashFree$Draw" "b" "I", .fieldLink RX0 15 "ClashFree$Draw" "pairs" "I"]
def wp_c_X0_pair : List Cond := .code yX0_pair cX0_pair 1 none :: (own_c_X0_pair ++ (wsX00 ++ ([] : List Cond)))
set_option maxRecDepth 20000 in
theorem inown_c_X0_pair : ∀ w ∈ own_c_X0_pair, w ∈ lw_tbl := mem_places [146, 567, 568, 569, 150, 570, 155, 158] (by decide +kernel)
set_option maxRecDepth 20000 in
theorem in_c_X0_pair : ∀ w ∈ wp_c_X0_pair, w ∈ lw_tbl := List.forall_mem_cons.mpr ⟨List.mem_of_getElem? (i := 566) (by decide +kernel), List.forall_mem_append.mpr ⟨inown_c_X0_pair, List.forall_mem_append.mpr ⟨lwb_X0, fun _ h => absurd h List.not_mem_nil⟩⟩⟩
set_option maxRecDepth 20000 in
theorem good_c_X0_pair : wp_c_X0_pair.all goodWord = true := by decide +kernel
set_option maxHeartbeats 4000000 in
set_option maxRecDepth 100000 in
theorem c_X0_pair (l : Launch) (D : va_G) (sz : Nat) (h0 : Nat) (s0 : Int64) (a0 : Int32) (b0 : Int32) (n0 : Int32)  : Met l yX0_pair wp_c_X0_pair ({ frames := 0, cells := 0, slots := 0, locals := 0 }) (PcW D [.ref h0] sz [(h0, .inr (0, [.long s0, .int a0, .int b0, .int n0]))] []) (va_Qv (fun (_ : Int64 × Int32 × Int32 × Int32) => True) (fun (u : Int64 × Int32 × Int32 × Int32) t => va_P D vwCl [(h0, .inr (0, [.long u.1, .int u.2.1, .int u.2.2.1, .int u.2.2.2]))] t.heap ∧ va_K D vwCl [] t ∧ va_D (va_A [(h0, .inr (0, [.long s0, .int a0, .int b0, .int n0]))] sz) [(h0, .inr (0, [.long u.1, .int u.2.1, .int u.2.2.1, .int u.2.2.2]))]) (va_A [(h0, .inr (0, [.long s0, .int a0, .int b0, .int n0]))] sz)) 0 0 (va_A [(h0, .inr (0, [.long s0, .int a0, .int b0, .int n0]))] sz) := by
  refine Met.ofW (cc := cX0_pair) (maxL := 1) (ret := none) (by decide) rfl ?_
  intro p e s m args below meth c s₁ B hml hv
  obtain ⟨rfl, hsz, hP, hK, hD0⟩ := hv
  have hx := B.exec
  have hb := B.bytes
  have hr := B.returns
  have hts := atoms_spec (ws := wp_c_X0_pair) B.pre
  have hin_X0 : ∀ w ∈ wsX00, w ∈ wp_c_X0_pair := fun _ h => (List.mem_cons_of_mem _ (List.mem_append_right _ (List.mem_append_left _ h)))
  have hown : s.vm.findClass RX0 = some m.cls := findClass_of_methodNamed B.named
  have hlocks := B.notSynchronized
  subst hsz
  have hD := hD0.self (sz := s.heap.size)
  generalize hAe : va_A [(h0, .inr (0, [.long s0, .int a0, .int b0, .int n0]))] s.heap.size = A at hD ⊢
  have hA : ∀ q : Nat, s.heap.size ≤ q → A q := fun q h => by rw [← hAe]; exact Or.inr h
  have hS : va_S A s.heap s.heap [] := va_S.rf
  have hP : va_P D vwCl [(h0, .inr (0, [.long s0, .int a0, .int b0, .int n0]))] s.heap := hP
  have hl := lv_entry ([.ref h0]) (n := 1) (Nat.le_of_ble_eq_true rfl)
  rw [lg_entry_eq]
  generalize (lg_sl ([.ref h0]) ++ List.replicate (1 - (lg_sl ([.ref h0])).length) Slot.unset).toArray = ls at hl ⊢
  have hl : lv_has ls 1 [(0, .ref h0)] := hl
  refine lv_aload_n hx hb dX0_pair_0 rfl (lv_at hl 0 rfl) ?_
  refine lv_aload_n hx hb dX0_pair_1 rfl (lv_at hl 0 rfl) ?_
  refine va_get (D := D) (ci := 0) (v := .long s0) (C := RX0) (T := TX0) (N := 4) hx hb hts hin_X0 hown hK hP 0 rfl rfl 0 (by decide) (hts (.fieldLink RX0 9 "ClashFree$Draw" "s" "J") (List.mem_of_getElem? (i := 1) rfl)) (fun _ h9 => h9) rfl dX0_pair_2 ?_
  refine lv_ldc2 (v := 6364136223846793005) hx hb hown (hts (.constantLong RX0 19 (6364136223846793005)) (List.mem_of_getElem? (i := 2) rfl)) dX0_pair_5 ?_
  refine lv_lmul hx hb dX0_pair_8 ?_
  refine lv_topl (fun v1 ev1 => ?_)
  refine lv_ldc2 (v := 1442695040888963407) hx hb hown (hts (.constantLong RX0 21 (1442695040888963407)) (List.mem_of_getElem? (i := 3) rfl)) dX0_pair_9 ?_
  refine lv_ladd hx hb dX0_pair_12 ?_
  refine lv_topl (fun v2 ev2 => ?_)
  refine va_put (D := D) (ci := 0) (v := .long v2) (ty := .long) (C := RX0) (T := TX0) (N := 4) hx hb hts hin_X0 tyX0 tyX0_ok nmX0 hown hK hP hD hS 0 rfl rfl 0 (by decide) (hts (.fieldLink RX0 9 "ClashFree$Draw" "s" "J") (List.mem_of_getElem? (i := 1) rfl)) (fun _ h9 => h9) rfl (by decide +kernel) rfl rfl (Nat.le_of_ble_eq_true rfl) dX0_pair_13 (fun H locs hP hD hS => ?_)
  have hP : va_P D vwCl [(h0, .inr (0, [.long v2, .int a0, .int b0, .int n0]))] H := hP
  have hD : va_D A [(h0, .inr (0, [.long v2, .int a0, .int b0, .int n0]))] := hD
  refine lv_aload_n hx hb dX0_pair_16 rfl (lv_at hl 0 rfl) ?_
  refine lv_iconst (v := 1) hx hb dX0_pair_17 (by decide) ?_
  refine lv_aload_n hx hb dX0_pair_18 rfl (lv_at hl 0 rfl) ?_
  refine va_get (D := D) (ci := 0) (v := .long v2) (C := RX0) (T := TX0) (N := 4) hx hb hts hin_X0 hown hK hP 0 rfl rfl 0 (by decide) (hts (.fieldLink RX0 9 "ClashFree$Draw" "s" "J") (List.mem_of_getElem? (i := 1) rfl)) (fun _ h9 => h9) rfl dX0_pair_19 ?_
  refine lv_bipush (v := 33) hx hb dX0_pair_22 (by decide) ?_
  refine lv_lushr hx hb dX0_pair_24 rfl ?_
  refine lv_topl (fun v3 ev3 => ?_)
  refine lv_ldc2 (v := 2147483646) hx hb hown (hts (.constantLong RX0 23 (2147483646)) (List.mem_of_getElem? (i := 4) rfl)) dX0_pair_25 ?_
  refine lv_lrem hx hb dX0_pair_28 (by decide) ?_
  refine lv_topl (fun v4 ev4 => ?_)
  refine lv_l2i hx hb dX0_pair_29 rfl ?_
  refine lv_topi (fun v5 ev5 => ?_)
  refine lv_iadd hx hb dX0_pair_30 ?_
  refine lv_topi (fun v6 ev6 => ?_)
  refine va_put (D := D) (ci := 0) (v := .int v6) (ty := .int) (C := RX0) (T := TX0) (N := 4) hx hb hts hin_X0 tyX0 tyX0_ok nmX0 hown hK hP hD hS 0 rfl rfl 1 (by decide) (hts (.fieldLink RX0 25 "ClashFree$Draw" "a" "I") (List.mem_of_getElem? (i := 5) rfl)) (fun _ h9 => h9) rfl (by decide +kernel) rfl rfl (Nat.le_of_ble_eq_true rfl) dX0_pair_31 (fun H locs hP hD hS => ?_)
  have hP : va_P D vwCl [(h0, .inr (0, [.long v2, .int v6, .int b0, .int n0]))] H := hP
  have hD : va_D A [(h0, .inr (0, [.long v2, .int v6, .int b0, .int n0]))] := hD
  refine lv_aload_n hx hb dX0_pair_34 rfl (lv_at hl 0 rfl) ?_
  refine lv_aload_n hx hb dX0_pair_35 rfl (lv_at hl 0 rfl) ?_
  refine va_get (D := D) (ci := 0) (v := .long v2) (C := RX0) (T := TX0) (N := 4) hx hb hts hin_X0 hown hK hP 0 rfl rfl 0 (by decide) (hts (.fieldLink RX0 9 "ClashFree$Draw" "s" "J") (List.mem_of_getElem? (i := 1) rfl)) (fun _ h9 => h9) rfl dX0_pair_36 ?_
  refine lv_ldc2 (v := 6364136223846793005) hx hb hown (hts (.constantLong RX0 19 (6364136223846793005)) (List.mem_of_getElem? (i := 2) rfl)) dX0_pair_39 ?_
  refine lv_lmul hx hb dX0_pair_42 ?_
  refine lv_topl (fun v7 ev7 => ?_)
  refine lv_ldc2 (v := 1442695040888963407) hx hb hown (hts (.constantLong RX0 21 (1442695040888963407)) (List.mem_of_getElem? (i := 3) rfl)) dX0_pair_43 ?_
  refine lv_ladd hx hb dX0_pair_46 ?_
  refine lv_topl (fun v8 ev8 => ?_)
  refine va_put (D := D) (ci := 0) (v := .long v8) (ty := .long) (C := RX0) (T := TX0) (N := 4) hx hb hts hin_X0 tyX0 tyX0_ok nmX0 hown hK hP hD hS 0 rfl rfl 0 (by decide) (hts (.fieldLink RX0 9 "ClashFree$Draw" "s" "J") (List.mem_of_getElem? (i := 1) rfl)) (fun _ h9 => h9) rfl (by decide +kernel) rfl rfl (Nat.le_of_ble_eq_true rfl) dX0_pair_47 (fun H locs hP hD hS => ?_)
  have hP : va_P D vwCl [(h0, .inr (0, [.long v8, .int v6, .int b0, .int n0]))] H := hP
  have hD : va_D A [(h0, .inr (0, [.long v8, .int v6, .int b0, .int n0]))] := hD
  refine lv_aload_n hx hb dX0_pair_50 rfl (lv_at hl 0 rfl) ?_
  refine lv_aload_n hx hb dX0_pair_51 rfl (lv_at hl 0 rfl) ?_
  refine va_get (D := D) (ci := 0) (v := .long v8) (C := RX0) (T := TX0) (N := 4) hx hb hts hin_X0 hown hK hP 0 rfl rfl 0 (by decide) (hts (.fieldLink RX0 9 "ClashFree$Draw" "s" "J") (List.mem_of_getElem? (i := 1) rfl)) (fun _ h9 => h9) rfl dX0_pair_52 ?_
  refine lv_bipush (v := 33) hx hb dX0_pair_55 (by decide) ?_
  refine lv_lushr hx hb dX0_pair_57 rfl ?_
  refine lv_topl (fun v9 ev9 => ?_)
  refine lv_ldc2 (v := 2147483647) hx hb hown (hts (.constantLong RX0 28 (2147483647)) (List.mem_of_getElem? (i := 6) rfl)) dX0_pair_58 ?_
  refine lv_lrem hx hb dX0_pair_61 (by decide) ?_
  refine lv_topl (fun v10 ev10 => ?_)
  refine lv_l2i hx hb dX0_pair_62 rfl ?_
  refine lv_topi (fun v11 ev11 => ?_)
  refine va_put (D := D) (ci := 0) (v := .int v11) (ty := .int) (C := RX0) (T := TX0) (N := 4) hx hb hts hin_X0 tyX0 tyX0_ok nmX0 hown hK hP hD hS 0 rfl rfl 2 (by decide) (hts (.fieldLink RX0 30 "ClashFree$Draw" "b" "I") (List.mem_of_getElem? (i := 7) rfl)) (fun _ h9 => h9) rfl (by decide +kernel) rfl rfl (Nat.le_of_ble_eq_true rfl) dX0_pair_63 (fun H locs hP hD hS => ?_)
  have hP : va_P D vwCl [(h0, .inr (0, [.long v8, .int v6, .int v11, .int n0]))] H := hP
  have hD : va_D A [(h0, .inr (0, [.long v8, .int v6, .int v11, .int n0]))] := hD
  refine lv_aload_n hx hb dX0_pair_66 rfl (lv_at hl 0 rfl) ?_
  refine lv_dup hx hb dX0_pair_67 rfl ?_
  refine va_get (D := D) (ci := 0) (v := .int n0) (C := RX0) (T := TX0) (N := 4) hx hb hts hin_X0 hown hK hP 0 rfl rfl 3 (by decide) (hts (.fieldLink RX0 15 "ClashFree$Draw" "pairs" "I") (List.mem_of_getElem? (i := 8) rfl)) (fun _ h9 => h9) rfl dX0_pair_68 ?_
  refine lv_iconst (v := 1) hx hb dX0_pair_71 (by decide) ?_
  refine lv_iadd hx hb dX0_pair_72 ?_
  refine lv_topi (fun v12 ev12 => ?_)
  refine va_put (D := D) (ci := 0) (v := .int v12) (ty := .int) (C := RX0) (T := TX0) (N := 4) hx hb hts hin_X0 tyX0 tyX0_ok nmX0 hown hK hP hD hS 0 rfl rfl 3 (by decide) (hts (.fieldLink RX0 15 "ClashFree$Draw" "pairs" "I") (List.mem_of_getElem? (i := 8) rfl)) (fun _ h9 => h9) rfl (by decide +kernel) rfl rfl (Nat.le_of_ble_eq_true rfl) dX0_pair_73 (fun H locs hP hD hS => ?_)
  have hP : va_P D vwCl [(h0, .inr (0, [.long v8, .int v6, .int v11, .int v12]))] H := hP
  have hD : va_D A [(h0, .inr (0, [.long v8, .int v6, .int v11, .int v12]))] := hD
  exact W.vret hx hb hr (fun t ht hW => ⟨⟨(v8, v6, v11, v12), rfl, trivial, by rw [ht]; exact hP.sub [0] rfl, va_K.moved hW.alike (hK.sub [] rfl), hD.sub [0] (by decide) rfl⟩, hS.F ht⟩) hS.2.2 dX0_pair_76

def own_c_X9_begin : List Cond := [.fieldLink RX9 32 "ClashFree$Table" "bound" "I", .fieldLink RX9 36 "ClashFree$Table" "spread" "I", .fieldLink RX9 39 "ClashFree$Table" "growth" "I", .fieldLink RX9 42 "ClashFree$Table" "reads" "I", .fieldLink RX9 45 "ClashFree$Table" "bucketsBuilt" "I", .fieldLink RX9 48 "ClashFree$Table" "allBuilt" "I", .fieldLink RX9 51 "ClashFree$Table" "laid" "I", .fieldLink RX9 12 "ClashFree$Table" "draw" "LClashFree$Draw;", .methodLink RX9 54 yX0_begin, .instanceMethod yX0_begin, .selects RX0 yX0_begin yX0_begin, .initialized RX0, .fieldLink RX9 21 "ClashFree$Table" "keys" "LClashFree$Keys;", .fieldLink RX9 58 "ClashFree$Keys" "size" "I"]
def wp_c_X9_begin : List Cond := .code yX9_begin cX9_begin 6 none :: (own_c_X9_begin ++ (wp_c_X0_begin ++ (wsX90 ++ (wsX20 ++ ([] : List Cond)))))
set_option maxRecDepth 20000 in
theorem inown_c_X9_begin : ∀ w ∈ own_c_X9_begin, w ∈ lw_tbl := mem_places [491, 494, 497, 504, 506, 508, 510, 512, 552, 553, 554, 108, 515, 473] (by decide +kernel)
set_option maxRecDepth 20000 in
theorem in_c_X9_begin : ∀ w ∈ wp_c_X9_begin, w ∈ lw_tbl := List.forall_mem_cons.mpr ⟨List.mem_of_getElem? (i := 551) (by decide +kernel), List.forall_mem_append.mpr ⟨inown_c_X9_begin, List.forall_mem_append.mpr ⟨in_c_X0_begin, List.forall_mem_append.mpr ⟨lwb_X9, List.forall_mem_append.mpr ⟨lwb_X2, fun _ h => absurd h List.not_mem_nil⟩⟩⟩⟩⟩
set_option maxRecDepth 20000 in
theorem good_c_X9_begin : wp_c_X9_begin.all goodWord = true := by decide +kernel
set_option maxRecDepth 20000 in
theorem g_c_X9_begin_c_X0_begin_54 : GoodIn wp_c_X9_begin (wsV RX9 54 RX0 yX0_begin wp_c_X0_begin) := goodIn_sub (List.forall_mem_append.mpr ⟨List.forall_mem_cons.mpr ⟨(List.mem_of_getElem? (i := 9) rfl), List.forall_mem_cons.mpr ⟨(List.mem_of_getElem? (i := 10) rfl), List.forall_mem_cons.mpr ⟨(List.mem_of_getElem? (i := 11) rfl), List.forall_mem_cons.mpr ⟨(List.mem_of_getElem? (i := 12) rfl), fun _ h => absurd h List.not_mem_nil⟩⟩⟩⟩, (fun _ h => (List.mem_cons_of_mem _ (List.mem_append_right _ (List.mem_append_left _ h))))⟩) (by decide +kernel)
set_option maxHeartbeats 4000000 in
set_option maxRecDepth 100000 in
theorem c_X9_begin (l : Launch) (D : va_G) (sz : Nat) (h0 : Nat) (ta : Nat → Nat) (ka : Nat → Nat) (z1 : Int32) (z2 : Int32) (z3 : Int32) (y4 : Int64)  : Met l yX9_begin wp_c_X9_begin ({ frames := 1, cells := 0, slots := 0, locals := 22 }) (PcW D [.ref h0, .int z1, .int z2, .int z3, .long y4] sz [(h0, .inr (9, [.int 0, .int 0, .int 0, .int 0, .int 0, .int 0, .int 0, .int 0, .int 0, .ref (ta 9), .ref (ta 10), .ref (ta 11)])), (ta 9, .inr (0, [.long 0, .int 0, .int 0, .int 0])), (ta 10, .inr (2, [.int 0, .ref (ka 1), .ref (ka 2)]))] []) (va_Qv (fun (_ : Unit) => True) (fun (u : Unit) t => va_P D vwCl [(h0, .inr (9, [.int z1, .int z2, .int z3, .int 0, .int 0, .int 0, .int 0, .int 0, .int 0, .ref (ta 9), .ref (ta 10), .ref (ta 11)])), (ta 9, .inr (0, [.long y4, .int 0, .int 0, .int 0])), (ta 10, .inr (2, [.int 0, .ref (ka 1), .ref (ka 2)]))] t.heap ∧ va_K D vwCl [] t ∧ va_D (va_A [(h0, .inr (9, [.int 0, .int 0, .int 0, .int 0, .int 0, .int 0, .int 0, .int 0, .int 0, .ref (ta 9), .ref (ta 10), .ref (ta 11)])), (ta 9, .inr (0, [.long 0, .int 0, .int 0, .int 0])), (ta 10, .inr (2, [.int 0, .ref (ka 1), .ref (ka 2)]))] sz) [(h0, .inr (9, [.int z1, .int z2, .int z3, .int 0, .int 0, .int 0, .int 0, .int 0, .int 0, .ref (ta 9), .ref (ta 10), .ref (ta 11)])), (ta 9, .inr (0, [.long y4, .int 0, .int 0, .int 0])), (ta 10, .inr (2, [.int 0, .ref (ka 1), .ref (ka 2)]))]) (va_A [(h0, .inr (9, [.int 0, .int 0, .int 0, .int 0, .int 0, .int 0, .int 0, .int 0, .int 0, .ref (ta 9), .ref (ta 10), .ref (ta 11)])), (ta 9, .inr (0, [.long 0, .int 0, .int 0, .int 0])), (ta 10, .inr (2, [.int 0, .ref (ka 1), .ref (ka 2)]))] sz)) 0 0 (va_A [(h0, .inr (9, [.int 0, .int 0, .int 0, .int 0, .int 0, .int 0, .int 0, .int 0, .int 0, .ref (ta 9), .ref (ta 10), .ref (ta 11)])), (ta 9, .inr (0, [.long 0, .int 0, .int 0, .int 0])), (ta 10, .inr (2, [.int 0, .ref (ka 1), .ref (ka 2)]))] sz) := by
  refine Met.ofW (cc := cX9_begin) (maxL := 6) (ret := none) (by decide) rfl ?_
  intro p e s m args below meth c s₁ B hml hv
  obtain ⟨rfl, hsz, hP, hK, hD0⟩ := hv
  have hx := B.exec
  have hb := B.bytes
  have hr := B.returns
  have hts := atoms_spec (ws := wp_c_X9_begin) B.pre
  have hin_X9 : ∀ w ∈ wsX90, w ∈ wp_c_X9_begin := fun _ h => (List.mem_cons_of_mem _ (List.mem_append_right _ (List.mem_append_right _ (List.mem_append_left _ h))))
  have hin_X2 : ∀ w ∈ wsX20, w ∈ wp_c_X9_begin := fun _ h => (List.mem_cons_of_mem _ (List.mem_append_right _ (List.mem_append_right _ (List.mem_append_right _ (List.mem_append_left _ h)))))
  have hown : s.vm.findClass RX9 = some m.cls := findClass_of_methodNamed B.named
  have hlocks := B.notSynchronized
  subst hsz
  have hD := hD0.self (sz := s.heap.size)
  generalize hAe : va_A [(h0, .inr (9, [.int 0, .int 0, .int 0, .int 0, .int 0, .int 0, .int 0, .int 0, .int 0, .ref (ta 9), .ref (ta 10), .ref (ta 11)])), (ta 9, .inr (0, [.long 0, .int 0, .int 0, .int 0])), (ta 10, .inr (2, [.int 0, .ref (ka 1), .ref (ka 2)]))] s.heap.size = A at hD ⊢
  have hA : ∀ q : Nat, s.heap.size ≤ q → A q := fun q h => by rw [← hAe]; exact Or.inr h
  have hS : va_S A s.heap s.heap [] := va_S.rf
  have hP : va_P D vwCl [(h0, .inr (9, [.int 0, .int 0, .int 0, .int 0, .int 0, .int 0, .int 0, .int 0, .int 0, .ref (ta 9), .ref (ta 10), .ref (ta 11)])), (ta 9, .inr (0, [.long 0, .int 0, .int 0, .int 0])), (ta 10, .inr (2, [.int 0, .ref (ka 1), .ref (ka 2)]))] s.heap := hP
  have hl := lv_entry ([.ref h0, .int z1, .int z2, .int z3, .long y4]) (n := 6) (Nat.le_of_ble_eq_true rfl)
  rw [lg_entry_eq]
  generalize (lg_sl ([.ref h0, .int z1, .int z2, .int z3, .long y4]) ++ List.replicate (6 - (lg_sl ([.ref h0, .int z1, .int z2, .int z3, .long y4])).length) Slot.unset).toArray = ls at hl ⊢
  have hl : lv_has ls 6 [(0, .ref h0), (1, .int z1), (2, .int z2), (3, .int z3), (4, .long y4)] := hl
  refine lv_aload_n hx hb dX9_begin_0 rfl (lv_at hl 0 rfl) ?_
  refine lv_iload_n hx hb dX9_begin_1 rfl (lv_at hl 1 rfl) ?_
  refine va_put (D := D) (ci := 9) (v := .int z1) (ty := .int) (C := RX9) (T := TX9) (N := 12) hx hb hts hin_X9 tyX9 tyX9_ok nmX9 hown hK hP hD hS 0 rfl rfl 0 (by decide) (hts (.fieldLink RX9 32 "ClashFree$Table" "bound" "I") (List.mem_of_getElem? (i := 1) rfl)) (fun _ h9 => h9) rfl (by decide +kernel) rfl rfl (Nat.le_of_ble_eq_true rfl) dX9_begin_2 (fun H locs hP hD hS => ?_)
  have hP : va_P D vwCl [(h0, .inr (9, [.int z1, .int 0, .int 0, .int 0, .int 0, .int 0, .int 0, .int 0, .int 0, .ref (ta 9), .ref (ta 10), .ref (ta 11)])), (ta 9, .inr (0, [.long 0, .int 0, .int 0, .int 0])), (ta 10, .inr (2, [.int 0, .ref (ka 1), .ref (ka 2)]))] H := hP
  have hD : va_D A [(h0, .inr (9, [.int z1, .int 0, .int 0, .int 0, .int 0, .int 0, .int 0, .int 0, .int 0, .ref (ta 9), .ref (ta 10), .ref (ta 11)])), (ta 9, .inr (0, [.long 0, .int 0, .int 0, .int 0])), (ta 10, .inr (2, [.int 0, .ref (ka 1), .ref (ka 2)]))] := hD
  refine lv_aload_n hx hb dX9_begin_5 rfl (lv_at hl 0 rfl) ?_
  refine lv_iload_n hx hb dX9_begin_6 rfl (lv_at hl 2 rfl) ?_
  refine va_put (D := D) (ci := 9) (v := .int z2) (ty := .int) (C := RX9) (T := TX9) (N := 12) hx hb hts hin_X9 tyX9 tyX9_ok nmX9 hown hK hP hD hS 0 rfl rfl 1 (by decide) (hts (.fieldLink RX9 36 "ClashFree$Table" "spread" "I") (List.mem_of_getElem? (i := 2) rfl)) (fun _ h9 => h9) rfl (by decide +kernel) rfl rfl (Nat.le_of_ble_eq_true rfl) dX9_begin_7 (fun H locs hP hD hS => ?_)
  have hP : va_P D vwCl [(h0, .inr (9, [.int z1, .int z2, .int 0, .int 0, .int 0, .int 0, .int 0, .int 0, .int 0, .ref (ta 9), .ref (ta 10), .ref (ta 11)])), (ta 9, .inr (0, [.long 0, .int 0, .int 0, .int 0])), (ta 10, .inr (2, [.int 0, .ref (ka 1), .ref (ka 2)]))] H := hP
  have hD : va_D A [(h0, .inr (9, [.int z1, .int z2, .int 0, .int 0, .int 0, .int 0, .int 0, .int 0, .int 0, .ref (ta 9), .ref (ta 10), .ref (ta 11)])), (ta 9, .inr (0, [.long 0, .int 0, .int 0, .int 0])), (ta 10, .inr (2, [.int 0, .ref (ka 1), .ref (ka 2)]))] := hD
  refine lv_aload_n hx hb dX9_begin_10 rfl (lv_at hl 0 rfl) ?_
  refine lv_iload_n hx hb dX9_begin_11 rfl (lv_at hl 3 rfl) ?_
  refine va_put (D := D) (ci := 9) (v := .int z3) (ty := .int) (C := RX9) (T := TX9) (N := 12) hx hb hts hin_X9 tyX9 tyX9_ok nmX9 hown hK hP hD hS 0 rfl rfl 2 (by decide) (hts (.fieldLink RX9 39 "ClashFree$Table" "growth" "I") (List.mem_of_getElem? (i := 3) rfl)) (fun _ h9 => h9) rfl (by decide +kernel) rfl rfl (Nat.le_of_ble_eq_true rfl) dX9_begin_12 (fun H locs hP hD hS => ?_)
  have hP : va_P D vwCl [(h0, .inr (9, [.int z1, .int z2, .int z3, .int 0, .int 0, .int 0, .int 0, .int 0, .int 0, .ref (ta 9), .ref (ta 10), .ref (ta 11)])), (ta 9, .inr (0, [.long 0, .int 0, .int 0, .int 0])), (ta 10, .inr (2, [.int 0, .ref (ka 1), .ref (ka 2)]))] H := hP
  have hD : va_D A [(h0, .inr (9, [.int z1, .int z2, .int z3, .int 0, .int 0, .int 0, .int 0, .int 0, .int 0, .ref (ta 9), .ref (ta 10), .ref (ta 11)])), (ta 9, .inr (0, [.long 0, .int 0, .int 0, .int 0])), (ta 10, .inr (2, [.int 0, .ref (ka 1), .ref (ka 2)]))] := hD
  refine lv_aload_n hx hb dX9_begin_15 rfl (lv_at hl 0 rfl) ?_
  refine lv_iconst (v := 0) hx hb dX9_begin_16 (by decide) ?_
  refine va_put (D := D) (ci := 9) (v := .int 0) (ty := .int) (C := RX9) (T := TX9) (N := 12) hx hb hts hin_X9 tyX9 tyX9_ok nmX9 hown hK hP hD hS 0 rfl rfl 5 (by decide) (hts (.fieldLink RX9 42 "ClashFree$Table" "reads" "I") (List.mem_of_getElem? (i := 4) rfl)) (fun _ h9 => h9) rfl (by decide +kernel) rfl rfl (Nat.le_of_ble_eq_true rfl) dX9_begin_17 (fun H locs hP hD hS => ?_)
  have hP : va_P D vwCl [(h0, .inr (9, [.int z1, .int z2, .int z3, .int 0, .int 0, .int 0, .int 0, .int 0, .int 0, .ref (ta 9), .ref (ta 10), .ref (ta 11)])), (ta 9, .inr (0, [.long 0, .int 0, .int 0, .int 0])), (ta 10, .inr (2, [.int 0, .ref (ka 1), .ref (ka 2)]))] H := hP
  have hD : va_D A [(h0, .inr (9, [.int z1, .int z2, .int z3, .int 0, .int 0, .int 0, .int 0, .int 0, .int 0, .ref (ta 9), .ref (ta 10), .ref (ta 11)])), (ta 9, .inr (0, [.long 0, .int 0, .int 0, .int 0])), (ta 10, .inr (2, [.int 0, .ref (ka 1), .ref (ka 2)]))] := hD
  refine lv_aload_n hx hb dX9_begin_20 rfl (lv_at hl 0 rfl) ?_
  refine lv_iconst (v := 0) hx hb dX9_begin_21 (by decide) ?_
  refine va_put (D := D) (ci := 9) (v := .int 0) (ty := .int) (C := RX9) (T := TX9) (N := 12) hx hb hts hin_X9 tyX9 tyX9_ok nmX9 hown hK hP hD hS 0 rfl rfl 6 (by decide) (hts (.fieldLink RX9 45 "ClashFree$Table" "bucketsBuilt" "I") (List.mem_of_getElem? (i := 5) rfl)) (fun _ h9 => h9) rfl (by decide +kernel) rfl rfl (Nat.le_of_ble_eq_true rfl) dX9_begin_22 (fun H locs hP hD hS => ?_)
  have hP : va_P D vwCl [(h0, .inr (9, [.int z1, .int z2, .int z3, .int 0, .int 0, .int 0, .int 0, .int 0, .int 0, .ref (ta 9), .ref (ta 10), .ref (ta 11)])), (ta 9, .inr (0, [.long 0, .int 0, .int 0, .int 0])), (ta 10, .inr (2, [.int 0, .ref (ka 1), .ref (ka 2)]))] H := hP
  have hD : va_D A [(h0, .inr (9, [.int z1, .int z2, .int z3, .int 0, .int 0, .int 0, .int 0, .int 0, .int 0, .ref (ta 9), .ref (ta 10), .ref (ta 11)])), (ta 9, .inr (0, [.long 0, .int 0, .int 0, .int 0])), (ta 10, .inr (2, [.int 0, .ref (ka 1), .ref (ka 2)]))] := hD
  refine lv_aload_n hx hb dX9_begin_25 rfl (lv_at hl 0 rfl) ?_
  refine lv_iconst (v := 0) hx hb dX9_begin_26 (by decide) ?_
  refine va_put (D := D) (ci := 9) (v := .int 0) (ty := .int) (C := RX9) (T := TX9) (N := 12) hx hb hts hin_X9 tyX9 tyX9_ok nmX9 hown hK hP hD hS 0 rfl rfl 7 (by decide) (hts (.fieldLink RX9 48 "ClashFree$Table" "allBuilt" "I") (List.mem_of_getElem? (i := 6) rfl)) (fun _ h9 => h9) rfl (by decide +kernel) rfl rfl (Nat.le_of_ble_eq_true rfl) dX9_begin_27 (fun H locs hP hD hS => ?_)
  have hP : va_P D vwCl [(h0, .inr (9, [.int z1, .int z2, .int z3, .int 0, .int 0, .int 0, .int 0, .int 0, .int 0, .ref (ta 9), .ref (ta 10), .ref (ta 11)])), (ta 9, .inr (0, [.long 0, .int 0, .int 0, .int 0])), (ta 10, .inr (2, [.int 0, .ref (ka 1), .ref (ka 2)]))] H := hP
  have hD : va_D A [(h0, .inr (9, [.int z1, .int z2, .int z3, .int 0, .int 0, .int 0, .int 0, .int 0, .int 0, .ref (ta 9), .ref (ta 10), .ref (ta 11)])), (ta 9, .inr (0, [.long 0, .int 0, .int 0, .int 0])), (ta 10, .inr (2, [.int 0, .ref (ka 1), .ref (ka 2)]))] := hD
  refine lv_aload_n hx hb dX9_begin_30 rfl (lv_at hl 0 rfl) ?_
  refine lv_iconst (v := 0) hx hb dX9_begin_31 (by decide) ?_
  refine va_put (D := D) (ci := 9) (v := .int 0) (ty := .int) (C := RX9) (T := TX9) (N := 12) hx hb hts hin_X9 tyX9 tyX9_ok nmX9 hown hK hP hD hS 0 rfl rfl 8 (by decide) (hts (.fieldLink RX9 51 "ClashFree$Table" "laid" "I") (List.mem_of_getElem? (i := 7) rfl)) (fun _ h9 => h9) rfl (by decide +kernel) rfl rfl (Nat.le_of_ble_eq_true rfl) dX9_begin_32 (fun H locs hP hD hS => ?_)
  have hP : va_P D vwCl [(h0, .inr (9, [.int z1, .int z2, .int z3, .int 0, .int 0, .int 0, .int 0, .int 0, .int 0, .ref (ta 9), .ref (ta 10), .ref (ta 11)])), (ta 9, .inr (0, [.long 0, .int 0, .int 0, .int 0])), (ta 10, .inr (2, [.int 0, .ref (ka 1), .ref (ka 2)]))] H := hP
  have hD : va_D A [(h0, .inr (9, [.int z1, .int z2, .int z3, .int 0, .int 0, .int 0, .int 0, .int 0, .int 0, .ref (ta 9), .ref (ta 10), .ref (ta 11)])), (ta 9, .inr (0, [.long 0, .int 0, .int 0, .int 0])), (ta 10, .inr (2, [.int 0, .ref (ka 1), .ref (ka 2)]))] := hD
  refine lv_aload_n hx hb dX9_begin_35 rfl (lv_at hl 0 rfl) ?_
  refine va_get (D := D) (ci := 9) (v := .ref (ta 9)) (C := RX9) (T := TX9) (N := 12) hx hb hts hin_X9 hown hK hP 0 rfl rfl 9 (by decide) (hts (.fieldLink RX9 12 "ClashFree$Table" "draw" "LClashFree$Draw;") (List.mem_of_getElem? (i := 8) rfl)) (fun _ h9 => h9) rfl dX9_begin_36 ?_
  refine lv_lload hx hb dX9_begin_39 (lv_at hl 4 rfl) ?_
  have hPc := hP.sub (ws' := [(ta 9, .inr (0, [.long 0, .int 0, .int 0, .int 0]))]) [1] rfl
  have hKc := hK.sub (tys' := []) [] rfl
  have hDc := hD.sub (ws' := [(ta 9, .inr (0, [.long 0, .int 0, .int 0, .int 0]))]) [1] (by decide) rfl
  have hFc := va_free (wc := [(ta 9, .inr (0, [.long 0, .int 0, .int 0, .int 0]))]) hD hS hA [1] rfl
  refine va_callv (va_runV (As := [.long y4]) (rest := []) ⟨hx, hb, hml, hown, hts⟩ (c_X0_begin l D _ (ta 9) 0 0 0 0 y4) (cwV 1 hts g_c_X9_begin_c_X0_begin_54 rfl rfl rfl (by decide +kernel) ⟨(Nat.le_of_ble_eq_true rfl), (Nat.le_of_ble_eq_true rfl)⟩) (PcW_V (q0 := 0) hPc hKc hDc rfl rfl) rfl rfl hl.1 rfl (lv_room (Nat.le_of_ble_eq_true rfl)) dX9_begin_41 ⟨(Nat.le_of_ble_eq_true rfl), (Nat.le_of_ble_eq_true rfl)⟩) hS (fun q _ h => hFc q h) hFc (fun uu tt H locs htt hvm hw hB hz1 hk1 hS => ?_)
  have hu := uu
  obtain ⟨hP1, hK1, hD1⟩ := hB
  rw [htt] at hP1
  have hK1 := va_K.moved hvm.symm hK1
  have hP1 : va_P D vwCl [(ta 9, .inr (0, [.long y4, .int 0, .int 0, .int 0]))] H := hP1
  obtain ⟨hP, hD⟩ := va_join (wr := [(h0, .inr (9, [.int z1, .int z2, .int z3, .int 0, .int 0, .int 0, .int 0, .int 0, .int 0, .ref (ta 9), .ref (ta 10), .ref (ta 11)])), (ta 10, .inr (2, [.int 0, .ref (ka 1), .ref (ka 2)]))]) (w1 := [(ta 9, .inr (0, [.long y4, .int 0, .int 0, .int 0]))]) hP hD [1] [0, 2] rfl rfl (by decide) (by decide) hk1 hFc hP1 hD1
  have hP : va_P D vwCl [(h0, .inr (9, [.int z1, .int z2, .int z3, .int 0, .int 0, .int 0, .int 0, .int 0, .int 0, .ref (ta 9), .ref (ta 10), .ref (ta 11)])), (ta 10, .inr (2, [.int 0, .ref (ka 1), .ref (ka 2)])), (ta 9, .inr (0, [.long y4, .int 0, .int 0, .int 0]))] H := hP
  have hD : va_D A [(h0, .inr (9, [.int z1, .int z2, .int z3, .int 0, .int 0, .int 0, .int 0, .int 0, .int 0, .ref (ta 9), .ref (ta 10), .ref (ta 11)])), (ta 10, .inr (2, [.int 0, .ref (ka 1), .ref (ka 2)])), (ta 9, .inr (0, [.long y4, .int 0, .int 0, .int 0]))] := hD
  try dsimp only at hw
  clear hz1 hk1 hFc hPc hKc hDc
  refine lv_aload_n hx hb dX9_begin_44 rfl (lv_at hl 0 rfl) ?_
  refine va_get (D := D) (ci := 9) (v := .ref (ta 10)) (C := RX9) (T := TX9) (N := 12) hx hb hts hin_X9 hown hK hP 0 rfl rfl 10 (by decide) (hts (.fieldLink RX9 21 "ClashFree$Table" "keys" "LClashFree$Keys;") (List.mem_of_getElem? (i := 13) rfl)) (fun _ h9 => h9) rfl dX9_begin_45 ?_
  refine lv_iconst (v := 0) hx hb dX9_begin_48 (by decide) ?_
  refine va_put (D := D) (ci := 2) (v := .int 0) (ty := .int) (C := RX2) (T := TX2) (N := 3) hx hb hts hin_X2 tyX2 tyX2_ok nmX2 hown hK hP hD hS 1 rfl rfl 0 (by decide) (hts (.fieldLink RX9 58 "ClashFree$Keys" "size" "I") (List.mem_of_getElem? (i := 14) rfl)) (fun _ h9 => h9) rfl (by decide +kernel) rfl rfl (Nat.le_of_ble_eq_true rfl) dX9_begin_49 (fun H locs hP hD hS => ?_)
  have hP : va_P D vwCl [(h0, .inr (9, [.int z1, .int z2, .int z3, .int 0, .int 0, .int 0, .int 0, .int 0, .int 0, .ref (ta 9), .ref (ta 10), .ref (ta 11)])), (ta 10, .inr (2, [.int 0, .ref (ka 1), .ref (ka 2)])), (ta 9, .inr (0, [.long y4, .int 0, .int 0, .int 0]))] H := hP
  have hD : va_D A [(h0, .inr (9, [.int z1, .int z2, .int z3, .int 0, .int 0, .int 0, .int 0, .int 0, .int 0, .ref (ta 9), .ref (ta 10), .ref (ta 11)])), (ta 10, .inr (2, [.int 0, .ref (ka 1), .ref (ka 2)])), (ta 9, .inr (0, [.long y4, .int 0, .int 0, .int 0]))] := hD
  exact W.vret hx hb hr (fun t ht hW => ⟨⟨(), rfl, trivial, by rw [ht]; exact hP.sub [0, 2, 1] rfl, va_K.moved hW.alike (hK.sub [] rfl), hD.sub [0, 2, 1] (by decide) rfl⟩, hS.F ht⟩) hS.2.2 dX9_begin_52

def own_c_mostRooms : List Cond := [.fieldLink RX9 32 "ClashFree$Table" "bound" "I", .fieldLink RX9 61 "ClashFree$Table" "limit" "I"]
def wp_c_mostRooms : List Cond := .code yX9_mostRooms cX9_mostRooms 1 (some .int) :: (own_c_mostRooms ++ (wsX90 ++ ([] : List Cond)))
set_option maxRecDepth 20000 in
theorem inown_c_mostRooms : ∀ w ∈ own_c_mostRooms, w ∈ lw_tbl := mem_places [491, 500] (by decide +kernel)
set_option maxRecDepth 20000 in
theorem in_c_mostRooms : ∀ w ∈ wp_c_mostRooms, w ∈ lw_tbl := List.forall_mem_cons.mpr ⟨List.mem_of_getElem? (i := 590) (by decide +kernel), List.forall_mem_append.mpr ⟨inown_c_mostRooms, List.forall_mem_append.mpr ⟨lwb_X9, fun _ h => absurd h List.not_mem_nil⟩⟩⟩
set_option maxRecDepth 20000 in
theorem good_c_mostRooms : wp_c_mostRooms.all goodWord = true := by decide +kernel
set_option maxHeartbeats 4000000 in
set_option maxRecDepth 100000 in
theorem c_mostRooms (l : Launch) (D : va_G) (sz : Nat) (h0 : Nat) (ta : Nat → Nat) (bn : Nat) (ns : Nat) (gr : Int32)  : Met l yX9_mostRooms wp_c_mostRooms ({ frames := 0, cells := 0, slots := 0, locals := 0 }) (PcR D [.ref h0] sz [(h0, .inr (9, [.int (nI bn), .int (nI ns), .int gr, .int 4, .int 0, .int 0, .int 0, .int 0, .int 0, .ref (ta 9), .ref (ta 10), .ref (ta 11)]))] []) (va_Qi (fun (r : Int32) (_ : Unit) => r = nI (bn * 4)) (fun (_ : Unit) _ => True) (va_A [] sz)) 0 0 (va_A [] sz) := by
  refine Met.ofW (cc := cX9_mostRooms) (maxL := 1) (ret := (some .int)) (by decide) rfl ?_
  intro p e s m args below meth c s₁ B hml hv
  obtain ⟨rfl, hsz, hP, hK⟩ := hv
  have hx := B.exec
  have hb := B.bytes
  have hr := B.returns
  have hts := atoms_spec (ws := wp_c_mostRooms) B.pre
  have hin_X9 : ∀ w ∈ wsX90, w ∈ wp_c_mostRooms := fun _ h => (List.mem_cons_of_mem _ (List.mem_append_right _ (List.mem_append_left _ h)))
  have hown : s.vm.findClass RX9 = some m.cls := findClass_of_methodNamed B.named
  have hlocks := B.notSynchronized
  subst hsz
  generalize hAe : va_A [] s.heap.size = A at ⊢
  have hA : ∀ q : Nat, s.heap.size ≤ q → A q := fun q h => by rw [← hAe]; exact Or.inr h
  have hS : va_S A s.heap s.heap [] := va_S.rf
  have hP : va_P D vwCl [(h0, .inr (9, [.int (nI bn), .int (nI ns), .int gr, .int 4, .int 0, .int 0, .int 0, .int 0, .int 0, .ref (ta 9), .ref (ta 10), .ref (ta 11)]))] s.heap := hP
  have hl := lv_entry ([.ref h0]) (n := 1) (Nat.le_of_ble_eq_true rfl)
  rw [lg_entry_eq]
  generalize (lg_sl ([.ref h0]) ++ List.replicate (1 - (lg_sl ([.ref h0])).length) Slot.unset).toArray = ls at hl ⊢
  have hl : lv_has ls 1 [(0, .ref h0)] := hl
  refine lv_aload_n hx hb dX9_mostRooms_0 rfl (lv_at hl 0 rfl) ?_
  refine va_get (D := D) (ci := 9) (v := .int (nI bn)) (C := RX9) (T := TX9) (N := 12) hx hb hts hin_X9 hown hK hP 0 rfl rfl 0 (by decide) (hts (.fieldLink RX9 32 "ClashFree$Table" "bound" "I") (List.mem_of_getElem? (i := 1) rfl)) (fun _ h9 => h9) rfl dX9_mostRooms_1 ?_
  refine lv_aload_n hx hb dX9_mostRooms_4 rfl (lv_at hl 0 rfl) ?_
  refine va_get (D := D) (ci := 9) (v := .int 4) (C := RX9) (T := TX9) (N := 12) hx hb hts hin_X9 hown hK hP 0 rfl rfl 3 (by decide) (hts (.fieldLink RX9 61 "ClashFree$Table" "limit" "I") (List.mem_of_getElem? (i := 2) rfl)) (fun _ h9 => h9) rfl dX9_mostRooms_5 ?_
  refine lv_imul hx hb dX9_mostRooms_8 ?_
  refine lv_topi (fun v1 ev1 => ?_)
  obtain rfl : v1 = nI (bn * 4) := ev1.trans (pk_mul bn 4)
  exact W.iret (v := nI (bn * 4)) hx hb hr (fun t ht hW => ⟨⟨nI (bn * 4), (), rfl, rfl, trivial⟩, hS.F ht⟩) hS.2.2 dX9_mostRooms_9

def own_c_sweep : List Cond := [.fieldLink RX3 54 "ClashFree$Layout" "size" "I"]
def wp_c_sweep : List Cond := .code yX3_sweep cX3_sweep 2 none :: (own_c_sweep ++ (wsX30 ++ ([] : List Cond)))
set_option maxRecDepth 20000 in
theorem inown_c_sweep : ∀ w ∈ own_c_sweep, w ∈ lw_tbl := mem_places [189] (by decide +kernel)
set_option maxRecDepth 20000 in
theorem in_c_sweep : ∀ w ∈ wp_c_sweep, w ∈ lw_tbl := List.forall_mem_cons.mpr ⟨List.mem_of_getElem? (i := 578) (by decide +kernel), List.forall_mem_append.mpr ⟨inown_c_sweep, List.forall_mem_append.mpr ⟨lwb_X3, fun _ h => absurd h List.not_mem_nil⟩⟩⟩
set_option maxRecDepth 20000 in
theorem good_c_sweep : wp_c_sweep.all goodWord = true := by decide +kernel
set_option maxHeartbeats 4000000 in
set_option maxRecDepth 100000 in
theorem c_sweep (l : Launch) (D : va_G) (sz : Nat) (h0 : Nat) (la : Nat → Nat)  : Met l yX3_sweep wp_c_sweep ({ frames := 0, cells := 0, slots := 0, locals := 0 }) (PcR D [.ref h0] sz [(h0, .inr (3, [.int 0, .int 0, .int 0, .int 0, .int 0, .ref (la 5), .ref (la 6), .ref (la 7), .ref (la 8), .ref (la 9), .ref (la 10), .ref (la 11), .ref (la 12)]))] []) (va_Qv (fun (_ : Unit) => True) (fun (_ : Unit) _ => True) (va_A [] sz)) 0 0 (va_A [] sz) := by
  refine Met.ofW (cc := cX3_sweep) (maxL := 2) (ret := none) (by decide) rfl ?_
  intro p e s m args below meth c s₁ B hml hv
  obtain ⟨rfl, hsz, hP, hK⟩ := hv
  have hx := B.exec
  have hb := B.bytes
  have hr := B.returns
  have hts := atoms_spec (ws := wp_c_sweep) B.pre
  have hin_X3 : ∀ w ∈ wsX30, w ∈ wp_c_sweep := fun _ h => (List.mem_cons_of_mem _ (List.mem_append_right _ (List.mem_append_left _ h)))
  have hown : s.vm.findClass RX3 = some m.cls := findClass_of_methodNamed B.named
  have hlocks := B.notSynchronized
  subst hsz
  generalize hAe : va_A [] s.heap.size = A at ⊢
  have hA : ∀ q : Nat, s.heap.size ≤ q → A q := fun q h => by rw [← hAe]; exact Or.inr h
  have hS : va_S A s.heap s.heap [] := va_S.rf
  have hP : va_P D vwCl [(h0, .inr (3, [.int 0, .int 0, .int 0, .int 0, .int 0, .ref (la 5), .ref (la 6), .ref (la 7), .ref (la 8), .ref (la 9), .ref (la 10), .ref (la 11), .ref (la 12)]))] s.heap := hP
  have hl := lv_entry ([.ref h0]) (n := 2) (Nat.le_of_ble_eq_true rfl)
  rw [lg_entry_eq]
  generalize (lg_sl ([.ref h0]) ++ List.replicate (2 - (lg_sl ([.ref h0])).length) Slot.unset).toArray = ls at hl ⊢
  have hl : lv_has ls 2 [(0, .ref h0)] := hl
  refine lv_iconst (v := 0) hx hb dX3_sweep_0 (by decide) ?_
  refine lv_istore_n (lv' := [(1, .int 0), (0, .ref h0)]) hx hb dX3_sweep_1 rfl hl (by decide) rfl (fun ls hl => ?_)
  refine lv_iload_n hx hb dX3_sweep_2 rfl (lv_at hl 0 rfl) ?_
  refine lv_aload_n hx hb dX3_sweep_3 rfl (lv_at hl 1 rfl) ?_
  refine va_get (D := D) (ci := 3) (v := .int 0) (C := RX3) (T := TX3) (N := 13) hx hb hts hin_X3 hown hK hP 0 rfl rfl 4 (by decide) (hts (.fieldLink RX3 54 "ClashFree$Layout" "size" "I") (List.mem_of_getElem? (i := 1) rfl)) (fun _ h9 => h9) rfl dX3_sweep_4 ?_
  refine lv_icmp_ge (tgt := 28) hx hb dX3_sweep_7 (by decide) (fun hc => ?_) (fun hc => absurd (by decide) hc)
  exact W.vret hx hb hr (fun t ht hW => ⟨⟨(), rfl, trivial, trivial⟩, hS.F ht⟩) hS.2.2 dX3_sweep_28

def own_c_deal : List Cond := [.methodLink RX3 60 yX3_sweep, .instanceMethod yX3_sweep, .selects RX3 yX3_sweep yX3_sweep, .initialized RX3, .methodLink RX3 63 Lib.Math.min.name, .static Lib.Math.min.name, .initialized "java/lang/Math", .code Lib.Math.min.name Lib.Math.min.code 2 (some .int), .methodLink RX3 69 Lib.Math.max.name, .static Lib.Math.max.name, .code Lib.Math.max.name Lib.Math.max.code 2 (some .int), .fieldLink RX3 36 "ClashFree$Layout" "buckets" "I", .fieldLink RX3 40 "ClashFree$Layout" "a" "I", .fieldLink RX3 43 "ClashFree$Layout" "b" "I", .fieldLink RX3 72 "ClashFree$Keys" "size" "I", .fieldLink RX3 54 "ClashFree$Layout" "size" "I"]
def wp_c_deal : List Cond := .code yX3_deal cX3_deal 8 (some .int) :: (own_c_deal ++ (wp_c_sweep ++ (wsX30 ++ (wsX20 ++ ([] : List Cond)))))
set_option maxRecDepth 20000 in
theorem inown_c_deal : ∀ w ∈ own_c_deal, w ∈ lw_tbl := mem_places [575, 577, 1, 109, 579, 580, 118, 581, 582, 561, 562, 178, 182, 184, 477, 189] (by decide +kernel)
set_option maxRecDepth 20000 in
theorem in_c_deal : ∀ w ∈ wp_c_deal, w ∈ lw_tbl := List.forall_mem_cons.mpr ⟨List.mem_of_getElem? (i := 574) (by decide +kernel), List.forall_mem_append.mpr ⟨inown_c_deal, List.forall_mem_append.mpr ⟨in_c_sweep, List.forall_mem_append.mpr ⟨lwb_X3, List.forall_mem_append.mpr ⟨lwb_X2, fun _ h => absurd h List.not_mem_nil⟩⟩⟩⟩⟩
set_option maxRecDepth 20000 in
theorem good_c_deal : wp_c_deal.all goodWord = true := by decide +kernel
set_option maxRecDepth 20000 in
theorem g_c_deal_c_sweep_60 : GoodIn wp_c_deal (wsV RX3 60 RX3 yX3_sweep wp_c_sweep) := goodIn_sub (List.forall_mem_append.mpr ⟨List.forall_mem_cons.mpr ⟨(List.mem_of_getElem? (i := 1) rfl), List.forall_mem_cons.mpr ⟨(List.mem_of_getElem? (i := 2) rfl), List.forall_mem_cons.mpr ⟨(List.mem_of_getElem? (i := 3) rfl), List.forall_mem_cons.mpr ⟨(List.mem_of_getElem? (i := 4) rfl), fun _ h => absurd h List.not_mem_nil⟩⟩⟩⟩, (fun _ h => (List.mem_cons_of_mem _ (List.mem_append_right _ (List.mem_append_left _ h))))⟩) (by decide +kernel)
set_option maxHeartbeats 4000000 in
set_option maxRecDepth 100000 in
theorem c_deal (l : Launch) (D : va_G) (sz : Nat) (h0 : Nat) (la : Nat → Nat) (h1 : Nat) (ka : Nat → Nat) (z2 : Int32) (z3 : Int32) (nb : Nat) (hn1 : 1 ≤ nb) (hn2 : nb < 2048) : Met l yX3_deal wp_c_deal ({ frames := 1, cells := 0, slots := 0, locals := 21 }) (PcW D [.ref h0, .ref h1, .int z2, .int z3, .int (nI nb)] sz [(h0, .inr (3, [.int 0, .int 0, .int 0, .int 0, .int 0, .ref (la 5), .ref (la 6), .ref (la 7), .ref (la 8), .ref (la 9), .ref (la 10), .ref (la 11), .ref (la 12)])), (h1, .inr (2, [.int 0, .ref (ka 1), .ref (ka 2)]))] []) (va_Qi (fun (r : Int32) (_ : Unit) => r = 0) (fun (u : Unit) t => va_P D vwCl [(h0, .inr (3, [.int (nI nb), .int z2, .int z3, .int 0, .int 0, .ref (la 5), .ref (la 6), .ref (la 7), .ref (la 8), .ref (la 9), .ref (la 10), .ref (la 11), .ref (la 12)])), (h1, .inr (2, [.int 0, .ref (ka 1), .ref (ka 2)]))] t.heap ∧ va_K D vwCl [] t ∧ va_D (va_A [(h0, .inr (3, [.int 0, .int 0, .int 0, .int 0, .int 0, .ref (la 5), .ref (la 6), .ref (la 7), .ref (la 8), .ref (la 9), .ref (la 10), .ref (la 11), .ref (la 12)])), (h1, .inr (2, [.int 0, .ref (ka 1), .ref (ka 2)]))] sz) [(h0, .inr (3, [.int (nI nb), .int z2, .int z3, .int 0, .int 0, .ref (la 5), .ref (la 6), .ref (la 7), .ref (la 8), .ref (la 9), .ref (la 10), .ref (la 11), .ref (la 12)])), (h1, .inr (2, [.int 0, .ref (ka 1), .ref (ka 2)]))]) (va_A [(h0, .inr (3, [.int 0, .int 0, .int 0, .int 0, .int 0, .ref (la 5), .ref (la 6), .ref (la 7), .ref (la 8), .ref (la 9), .ref (la 10), .ref (la 11), .ref (la 12)])), (h1, .inr (2, [.int 0, .ref (ka 1), .ref (ka 2)]))] sz)) 0 0 (va_A [(h0, .inr (3, [.int 0, .int 0, .int 0, .int 0, .int 0, .ref (la 5), .ref (la 6), .ref (la 7), .ref (la 8), .ref (la 9), .ref (la 10), .ref (la 11), .ref (la 12)])), (h1, .inr (2, [.int 0, .ref (ka 1), .ref (ka 2)]))] sz) := by
  refine Met.ofW (cc := cX3_deal) (maxL := 8) (ret := (some .int)) (by decide) rfl ?_
  intro p e s m args below meth c s₁ B hml hv
  obtain ⟨rfl, hsz, hP, hK, hD0⟩ := hv
  have hx := B.exec
  have hb := B.bytes
  have hr := B.returns
  have hts := atoms_spec (ws := wp_c_deal) B.pre
  have hin_X3 : ∀ w ∈ wsX30, w ∈ wp_c_deal := fun _ h => (List.mem_cons_of_mem _ (List.mem_append_right _ (List.mem_append_right _ (List.mem_append_left _ h))))
  have hin_X2 : ∀ w ∈ wsX20, w ∈ wp_c_deal := fun _ h => (List.mem_cons_of_mem _ (List.mem_append_right _ (List.mem_append_right _ (List.mem_append_right _ (List.mem_append_left _ h)))))
  have hown : s.vm.findClass RX3 = some m.cls := findClass_of_methodNamed B.named
  have hlocks := B.notSynchronized
  subst hsz
  have hD := hD0.self (sz := s.heap.size)
  generalize hAe : va_A [(h0, .inr (3, [.int 0, .int 0, .int 0, .int 0, .int 0, .ref (la 5), .ref (la 6), .ref (la 7), .ref (la 8), .ref (la 9), .ref (la 10), .ref (la 11), .ref (la 12)])), (h1, .inr (2, [.int 0, .ref (ka 1), .ref (ka 2)]))] s.heap.size = A at hD ⊢
  have hA : ∀ q : Nat, s.heap.size ≤ q → A q := fun q h => by rw [← hAe]; exact Or.inr h
  have hS : va_S A s.heap s.heap [] := va_S.rf
  have hP : va_P D vwCl [(h0, .inr (3, [.int 0, .int 0, .int 0, .int 0, .int 0, .ref (la 5), .ref (la 6), .ref (la 7), .ref (la 8), .ref (la 9), .ref (la 10), .ref (la 11), .ref (la 12)])), (h1, .inr (2, [.int 0, .ref (ka 1), .ref (ka 2)]))] s.heap := hP
  have hl := lv_entry ([.ref h0, .ref h1, .int z2, .int z3, .int (nI nb)]) (n := 8) (Nat.le_of_ble_eq_true rfl)
  rw [lg_entry_eq]
  generalize (lg_sl ([.ref h0, .ref h1, .int z2, .int z3, .int (nI nb)]) ++ List.replicate (8 - (lg_sl ([.ref h0, .ref h1, .int z2, .int z3, .int (nI nb)])).length) Slot.unset).toArray = ls at hl ⊢
  have hl : lv_has ls 8 [(0, .ref h0), (1, .ref h1), (2, .int z2), (3, .int z3), (4, .int (nI nb))] := hl
  refine lv_aload_n hx hb dX3_deal_0 rfl (lv_at hl 0 rfl) ?_
  have hPc := hP.sub (ws' := [(h0, .inr (3, [.int 0, .int 0, .int 0, .int 0, .int 0, .ref (la 5), .ref (la 6), .ref (la 7), .ref (la 8), .ref (la 9), .ref (la 10), .ref (la 11), .ref (la 12)]))]) [0] rfl
  have hKc := hK.sub (tys' := []) [] rfl
  have hFc := va_free0 hS hA
  refine va_callv (va_runV (As := []) (rest := []) ⟨hx, hb, hml, hown, hts⟩ (c_sweep l D _ h0 la) (cwV 0 hts g_c_deal_c_sweep_60 rfl rfl rfl (by decide +kernel) ⟨(Nat.le_of_ble_eq_true rfl), (Nat.le_of_ble_eq_true rfl)⟩) (PcR_V (q0 := 0) hPc hKc rfl rfl) rfl rfl hl.1 rfl (lv_room (Nat.le_of_ble_eq_true rfl)) dX3_deal_1 ⟨(Nat.le_of_ble_eq_true rfl), (Nat.le_of_ble_eq_true rfl)⟩) hS (fun q _ h => hFc q h) hFc (fun uu tt H locs htt hvm hw hB hz1 hk1 hS => ?_)
  have hP := va_keep hP hk1
  try dsimp only at hw
  clear hB hz1 hk1 hFc hPc hKc
  refine lv_aload_n hx hb dX3_deal_4 rfl (lv_at hl 0 rfl) ?_
  refine lv_iconst (v := 1) hx hb dX3_deal_5 (by decide) ?_
  refine lv_sipush (v := 2048) hx hb dX3_deal_6 (by decide) ?_
  refine lv_iload hx hb dX3_deal_9 (lv_at hl 4 rfl) ?_
  refine va_mmin hx hb (hml.trans hl.1.symm) hown (hts (.methodLink RX3 63 Lib.Math.min.name) (List.mem_of_getElem? (i := 5) rfl)) (hts (.static Lib.Math.min.name) (List.mem_of_getElem? (i := 6) rfl)) (hts (.initialized "java/lang/Math") (List.mem_of_getElem? (i := 7) rfl)) (hts (.code Lib.Math.min.name Lib.Math.min.code 2 (some .int)) (List.mem_of_getElem? (i := 8) rfl)) (Nat.le_of_ble_eq_true rfl) (Nat.le_of_ble_eq_true rfl) (Nat.le_of_ble_eq_true rfl) (Nat.le_of_ble_eq_true rfl) dX3_deal_11 ?_
  refine lv_topi (fun v2 ev2 => ?_)
  obtain rfl : v2 = nI nb := ev2.trans (mn2048 hn2)
  refine va_mmax hx hb (hml.trans hl.1.symm) hown (hts (.methodLink RX3 69 Lib.Math.max.name) (List.mem_of_getElem? (i := 9) rfl)) (hts (.static Lib.Math.max.name) (List.mem_of_getElem? (i := 10) rfl)) (hts (.initialized "java/lang/Math") (List.mem_of_getElem? (i := 7) rfl)) (hts (.code Lib.Math.max.name Lib.Math.max.code 2 (some .int)) (List.mem_of_getElem? (i := 11) rfl)) (Nat.le_of_ble_eq_true rfl) (Nat.le_of_ble_eq_true rfl) (Nat.le_of_ble_eq_true rfl) (Nat.le_of_ble_eq_true rfl) dX3_deal_14 ?_
  refine lv_topi (fun v3 ev3 => ?_)
  obtain rfl : v3 = nI nb := ev3.trans (mx1 hn1 (by omega))
  refine va_put (D := D) (ci := 3) (v := .int (nI nb)) (ty := .int) (C := RX3) (T := TX3) (N := 13) hx hb hts hin_X3 tyX3 tyX3_ok nmX3 hown hK hP hD hS 0 rfl rfl 0 (by decide) (hts (.fieldLink RX3 36 "ClashFree$Layout" "buckets" "I") (List.mem_of_getElem? (i := 12) rfl)) (fun _ h9 => h9) rfl (by decide +kernel) rfl rfl (Nat.le_of_ble_eq_true rfl) dX3_deal_17 (fun H locs hP hD hS => ?_)
  have hP : va_P D vwCl [(h0, .inr (3, [.int (nI nb), .int 0, .int 0, .int 0, .int 0, .ref (la 5), .ref (la 6), .ref (la 7), .ref (la 8), .ref (la 9), .ref (la 10), .ref (la 11), .ref (la 12)])), (h1, .inr (2, [.int 0, .ref (ka 1), .ref (ka 2)]))] H := hP
  have hD : va_D A [(h0, .inr (3, [.int (nI nb), .int 0, .int 0, .int 0, .int 0, .ref (la 5), .ref (la 6), .ref (la 7), .ref (la 8), .ref (la 9), .ref (la 10), .ref (la 11), .ref (la 12)])), (h1, .inr (2, [.int 0, .ref (ka 1), .ref (ka 2)]))] := hD
  refine lv_aload_n hx hb dX3_deal_20 rfl (lv_at hl 0 rfl) ?_
  refine lv_iload_n hx hb dX3_deal_21 rfl (lv_at hl 2 rfl) ?_
  refine va_put (D := D) (ci := 3) (v := .int z2) (ty := .int) (C := RX3) (T := TX3) (N := 13) hx hb hts hin_X3 tyX3 tyX3_ok nmX3 hown hK hP hD hS 0 rfl rfl 1 (by decide) (hts (.fieldLink RX3 40 "ClashFree$Layout" "a" "I") (List.mem_of_getElem? (i := 13) rfl)) (fun _ h9 => h9) rfl (by decide +kernel) rfl rfl (Nat.le_of_ble_eq_true rfl) dX3_deal_22 (fun H locs hP hD hS => ?_)
  have hP : va_P D vwCl [(h0, .inr (3, [.int (nI nb), .int z2, .int 0, .int 0, .int 0, .ref (la 5), .ref (la 6), .ref (la 7), .ref (la 8), .ref (la 9), .ref (la 10), .ref (la 11), .ref (la 12)])), (h1, .inr (2, [.int 0, .ref (ka 1), .ref (ka 2)]))] H := hP
  have hD : va_D A [(h0, .inr (3, [.int (nI nb), .int z2, .int 0, .int 0, .int 0, .ref (la 5), .ref (la 6), .ref (la 7), .ref (la 8), .ref (la 9), .ref (la 10), .ref (la 11), .ref (la 12)])), (h1, .inr (2, [.int 0, .ref (ka 1), .ref (ka 2)]))] := hD
  refine lv_aload_n hx hb dX3_deal_25 rfl (lv_at hl 0 rfl) ?_
  refine lv_iload_n hx hb dX3_deal_26 rfl (lv_at hl 3 rfl) ?_
  refine va_put (D := D) (ci := 3) (v := .int z3) (ty := .int) (C := RX3) (T := TX3) (N := 13) hx hb hts hin_X3 tyX3 tyX3_ok nmX3 hown hK hP hD hS 0 rfl rfl 2 (by decide) (hts (.fieldLink RX3 43 "ClashFree$Layout" "b" "I") (List.mem_of_getElem? (i := 14) rfl)) (fun _ h9 => h9) rfl (by decide +kernel) rfl rfl (Nat.le_of_ble_eq_true rfl) dX3_deal_27 (fun H locs hP hD hS => ?_)
  have hP : va_P D vwCl [(h0, .inr (3, [.int (nI nb), .int z2, .int z3, .int 0, .int 0, .ref (la 5), .ref (la 6), .ref (la 7), .ref (la 8), .ref (la 9), .ref (la 10), .ref (la 11), .ref (la 12)])), (h1, .inr (2, [.int 0, .ref (ka 1), .ref (ka 2)]))] H := hP
  have hD : va_D A [(h0, .inr (3, [.int (nI nb), .int z2, .int z3, .int 0, .int 0, .ref (la 5), .ref (la 6), .ref (la 7), .ref (la 8), .ref (la 9), .ref (la 10), .ref (la 11), .ref (la 12)])), (h1, .inr (2, [.int 0, .ref (ka 1), .ref (ka 2)]))] := hD
  refine lv_aload_n hx hb dX3_deal_30 rfl (lv_at hl 0 rfl) ?_
  refine lv_aload_n hx hb dX3_deal_31 rfl (lv_at hl 1 rfl) ?_
  refine va_get (D := D) (ci := 2) (v := .int 0) (C := RX2) (T := TX2) (N := 3) hx hb hts hin_X2 hown hK hP 1 rfl rfl 0 (by decide) (hts (.fieldLink RX3 72 "ClashFree$Keys" "size" "I") (List.mem_of_getElem? (i := 15) rfl)) (fun _ h9 => h9) rfl dX3_deal_32 ?_
  refine va_put (D := D) (ci := 3) (v := .int 0) (ty := .int) (C := RX3) (T := TX3) (N := 13) hx hb hts hin_X3 tyX3 tyX3_ok nmX3 hown hK hP hD hS 0 rfl rfl 4 (by decide) (hts (.fieldLink RX3 54 "ClashFree$Layout" "size" "I") (List.mem_of_getElem? (i := 16) rfl)) (fun _ h9 => h9) rfl (by decide +kernel) rfl rfl (Nat.le_of_ble_eq_true rfl) dX3_deal_35 (fun H locs hP hD hS => ?_)
  have hP : va_P D vwCl [(h0, .inr (3, [.int (nI nb), .int z2, .int z3, .int 0, .int 0, .ref (la 5), .ref (la 6), .ref (la 7), .ref (la 8), .ref (la 9), .ref (la 10), .ref (la 11), .ref (la 12)])), (h1, .inr (2, [.int 0, .ref (ka 1), .ref (ka 2)]))] H := hP
  have hD : va_D A [(h0, .inr (3, [.int (nI nb), .int z2, .int z3, .int 0, .int 0, .ref (la 5), .ref (la 6), .ref (la 7), .ref (la 8), .ref (la 9), .ref (la 10), .ref (la 11), .ref (la 12)])), (h1, .inr (2, [.int 0, .ref (ka 1), .ref (ka 2)]))] := hD
  refine lv_iconst (v := 0) hx hb dX3_deal_38 (by decide) ?_
  refine lv_istore (lv' := [(5, .int 0), (0, .ref h0), (1, .ref h1), (2, .int z2), (3, .int z3), (4, .int (nI nb))]) hx hb dX3_deal_39 hl (by decide) rfl (fun ls hl => ?_)
  refine lv_iconst (v := 0) hx hb dX3_deal_41 (by decide) ?_
  refine lv_istore (lv' := [(6, .int 0), (5, .int 0), (0, .ref h0), (1, .ref h1), (2, .int z2), (3, .int z3), (4, .int (nI nb))]) hx hb dX3_deal_42 hl (by decide) rfl (fun ls hl => ?_)
  refine lv_iload hx hb dX3_deal_44 (lv_at hl 0 rfl) ?_
  refine lv_aload_n hx hb dX3_deal_46 rfl (lv_at hl 2 rfl) ?_
  refine va_get (D := D) (ci := 3) (v := .int 0) (C := RX3) (T := TX3) (N := 13) hx hb hts hin_X3 hown hK hP 0 rfl rfl 4 (by decide) (hts (.fieldLink RX3 54 "ClashFree$Layout" "size" "I") (List.mem_of_getElem? (i := 16) rfl)) (fun _ h9 => h9) rfl dX3_deal_47 ?_
  refine lv_icmp_ge (tgt := 119) hx hb dX3_deal_50 (by decide) (fun hc => ?_) (fun hc => absurd (by decide) hc)
  refine lv_iload hx hb dX3_deal_119 (lv_at hl 1 rfl) ?_
  exact W.iret (v := 0) hx hb hr (fun t ht hW => ⟨⟨0, (), rfl, rfl, by rw [ht]; exact hP.sub [0, 1] rfl, va_K.moved hW.alike (hK.sub [] rfl), hD.sub [0, 1] (by decide) rfl⟩, hS.F ht⟩) hS.2.2 dX3_deal_121

def own_c_settle : List Cond := [.fieldLink RX3 36 "ClashFree$Layout" "buckets" "I", .fieldLink RX3 15 "ClashFree$Layout" "roof" "[I", .fieldLink RX3 9 "ClashFree$Layout" "held" "[I", .fieldLink RX3 78 "ClashFree$Layout" "sum" "I", .fieldLink RX3 24 "ClashFree$Layout" "next" "[I", .fieldLink RX3 54 "ClashFree$Layout" "size" "I"]
def wp_c_settle : List Cond := .code yX3_settle cX3_settle 5 none :: (own_c_settle ++ (wsX30 ++ ([] : List Cond)))
set_option maxRecDepth 20000 in
theorem inown_c_settle : ∀ w ∈ own_c_settle, w ∈ lw_tbl := mem_places [178, 195, 191, 188, 208, 189] (by decide +kernel)
set_option maxRecDepth 20000 in
theorem in_c_settle : ∀ w ∈ wp_c_settle, w ∈ lw_tbl := List.forall_mem_cons.mpr ⟨List.mem_of_getElem? (i := 595) (by decide +kernel), List.forall_mem_append.mpr ⟨inown_c_settle, List.forall_mem_append.mpr ⟨lwb_X3, fun _ h => absurd h List.not_mem_nil⟩⟩⟩
set_option maxRecDepth 20000 in
theorem good_c_settle : wp_c_settle.all goodWord = true := by decide +kernel
set_option maxHeartbeats 4000000 in
set_option maxRecDepth 100000 in
theorem lp_settle (l : Launch) {p : Program} {e : Env} {s : State} {m : MethodId} {args : Array Value} {below : List Frame} {meth : Method} {c : Code} {Q : State → Prop} {A : Nat → Prop} (D : va_G) (h0 : Nat) (la : Nat → Nat) (lc : Nat → ClassId) (nb : Nat) (z2 : Int32) (z3 : Int32) (hn2 : nb < 2048) (hx : p.tables.exec = Jvm.exec) (hb : c.code = cX3_settle) (hml : c.maxLocals = 5) (hown : s.vm.findClass RX3 = some m.cls) (hts : ∀ w ∈ wp_c_settle, w.before args s = true) (hA : ∀ q, s.heap.size ≤ q → A q) (hK : va_K D vwCl [(lc 5, .int), (lc 6, .int), (lc 12, .int)] s) (kx : ∀ (H : Heap) (locs : List Loc) (ls : Array Slot), va_P D vwCl [(h0, .inr (3, [.int (nI nb), .int z2, .int z3, .int 0, .int 0, .ref (la 5), .ref (la 6), .ref (la 7), .ref (la 8), .ref (la 9), .ref (la 10), .ref (la 11), .ref (la 12)])), (la 5, .inl (lc 5, 2048, .inl (fun _ => 0))), (la 6, .inl (lc 6, 2048, .inl (fun _ => 0))), (la 12, .inl (lc 12, 2048, .inl (fun _ => 0)))] H → va_D A [(h0, .inr (3, [.int (nI nb), .int z2, .int z3, .int 0, .int 0, .ref (la 5), .ref (la 6), .ref (la 7), .ref (la 8), .ref (la 9), .ref (la 10), .ref (la 11), .ref (la 12)])), (la 5, .inl (lc 5, 2048, .inl (fun _ => 0))), (la 6, .inl (lc 6, 2048, .inl (fun _ => 0))), (la 12, .inl (lc 12, 2048, .inl (fun _ => 0)))] → va_S A s.heap H locs → lv_has ls 5 [(2, .int 0), (0, .ref h0), (1, .int 2)] → W p l e ({ frames := 1, cells := 0, slots := 0, locals := 40 }) s m args below meth c H locs 0 0 Q (F0 m 75 ls [])) : ∀ (n j : Nat), j ≤ nb → nb < j + n → ∀ (H : Heap) (locs : List Loc) (ls : Array Slot), va_P D vwCl [(h0, .inr (3, [.int (nI nb), .int z2, .int z3, .int 0, .int 0, .ref (la 5), .ref (la 6), .ref (la 7), .ref (la 8), .ref (la 9), .ref (la 10), .ref (la 11), .ref (la 12)])), (la 5, .inl (lc 5, 2048, .inl (fun _ => 0))), (la 6, .inl (lc 6, 2048, .inl (fun _ => 0))), (la 12, .inl (lc 12, 2048, .inl (fun _ => 0)))] H → va_D A [(h0, .inr (3, [.int (nI nb), .int z2, .int z3, .int 0, .int 0, .ref (la 5), .ref (la 6), .ref (la 7), .ref (la 8), .ref (la 9), .ref (la 10), .ref (la 11), .ref (la 12)])), (la 5, .inl (lc 5, 2048, .inl (fun _ => 0))), (la 6, .inl (lc 6, 2048, .inl (fun _ => 0))), (la 12, .inl (lc 12, 2048, .inl (fun _ => 0)))] → va_S A s.heap H locs → lv_has ls 5 [(3, .int (nI j)), (2, .int 0), (0, .ref h0), (1, .int 2)] → W p l e ({ frames := 1, cells := 0, slots := 0, locals := 40 }) s m args below meth c H locs 0 0 Q (F0 m 9 ls []) := by
  have hin_X3 : ∀ w ∈ wsX30, w ∈ wp_c_settle := fun _ h => (List.mem_cons_of_mem _ (List.mem_append_right _ (List.mem_append_left _ h)))
  intro n
  induction n with
  | zero =>
    intro j h1 h2
    exact absurd h2 (by omega)
  | succ n ih =>
    intro j hj hn H locs ls hP hD hS hl
    refine lv_iload_n hx hb dX3_settle_9 rfl (lv_at hl 0 rfl) ?_
    refine lv_aload_n hx hb dX3_settle_10 rfl (lv_at hl 2 rfl) ?_
    refine va_get (D := D) (ci := 3) (v := .int (nI nb)) (C := RX3) (T := TX3) (N := 13) hx hb hts hin_X3 hown hK hP 0 rfl rfl 0 (by decide) (hts (.fieldLink RX3 36 "ClashFree$Layout" "buckets" "I") (List.mem_of_getElem? (i := 1) rfl)) (fun _ h9 => h9) rfl dX3_settle_11 ?_
    refine lv_icmp_ge (tgt := 75) hx hb dX3_settle_14 (by decide) (fun hc1 => ?_) (fun hc1 => ?_)
    ·
      exact kx H locs ls (hP.sub [0, 1, 2, 3] rfl) (hD.sub [0, 1, 2, 3] (by decide) rfl) hS (lv_sub hl [1, 2, 3] rfl)
    ·
      have hlt : j < nb := by
        rcases Nat.lt_or_ge j nb with q | q
        · exact q
        · exact absurd (nI_le q (by omega)) hc1
      refine lv_aload_n hx hb dX3_settle_17 rfl (lv_at hl 2 rfl) ?_
      refine va_get (D := D) (ci := 3) (v := .ref (la 6)) (C := RX3) (T := TX3) (N := 13) hx hb hts hin_X3 hown hK hP 0 rfl rfl 6 (by decide) (hts (.fieldLink RX3 15 "ClashFree$Layout" "roof" "[I") (List.mem_of_getElem? (i := 2) rfl)) (fun _ h9 => h9) rfl dX3_settle_18 ?_
      refine lv_iload_n hx hb dX3_settle_21 rfl (lv_at hl 0 rfl) ?_
      refine lv_iload_n hx hb dX3_settle_22 rfl (lv_at hl 3 rfl) ?_
      refine lv_aload_n hx hb dX3_settle_23 rfl (lv_at hl 2 rfl) ?_
      refine va_get (D := D) (ci := 3) (v := .ref (la 5)) (C := RX3) (T := TX3) (N := 13) hx hb hts hin_X3 hown hK hP 0 rfl rfl 5 (by decide) (hts (.fieldLink RX3 9 "ClashFree$Layout" "held" "[I") (List.mem_of_getElem? (i := 3) rfl)) (fun _ h9 => h9) rfl dX3_settle_24 ?_
      refine lv_iload_n hx hb dX3_settle_27 rfl (lv_at hl 0 rfl) ?_
      refine va_iald hx hb hK hP 1 0 rfl rfl (vp_in_nI (by omega) (by decide)) dX3_settle_28 ?_
      refine lv_topi (fun v2 ev2 => ?_)
      obtain rfl : v2 = 0 := ev2.trans (rfl)
      refine lv_imul hx hb dX3_settle_29 ?_
      refine lv_topi (fun v3 ev3 => ?_)
      obtain rfl : v3 = 0 := ev3.trans (by decide)
      refine va_iast hx hb hK hP hD hS 2 1 rfl rfl (vp_in_nI (by omega) (by decide)) dX3_settle_30 (fun H locs hP hD hS => ?_)
      have hP : va_P D vwCl [(h0, .inr (3, [.int (nI nb), .int z2, .int z3, .int 0, .int 0, .ref (la 5), .ref (la 6), .ref (la 7), .ref (la 8), .ref (la 9), .ref (la 10), .ref (la 11), .ref (la 12)])), (la 5, .inl (lc 5, 2048, .inl (fun _ => 0))), (la 6, .inl (lc 6, 2048, .inl (upd (fun _ => 0) (Int32.toNatClampNeg (nI j)) 0))), (la 12, .inl (lc 12, 2048, .inl (fun _ => 0)))] H := hP
      have hD : va_D A [(h0, .inr (3, [.int (nI nb), .int z2, .int z3, .int 0, .int 0, .ref (la 5), .ref (la 6), .ref (la 7), .ref (la 8), .ref (la 9), .ref (la 10), .ref (la 11), .ref (la 12)])), (la 5, .inl (lc 5, 2048, .inl (fun _ => 0))), (la 6, .inl (lc 6, 2048, .inl (upd (fun _ => 0) (Int32.toNatClampNeg (nI j)) 0))), (la 12, .inl (lc 12, 2048, .inl (fun _ => 0)))] := hD
      rw [show (upd (fun _ => 0) (Int32.toNatClampNeg (nI j)) 0) = (fun _ => 0) from upd0] at hP hD
      refine lv_aload_n hx hb dX3_settle_31 rfl (lv_at hl 2 rfl) ?_
      refine lv_dup hx hb dX3_settle_32 rfl ?_
      refine va_get (D := D) (ci := 3) (v := .int 0) (C := RX3) (T := TX3) (N := 13) hx hb hts hin_X3 hown hK hP 0 rfl rfl 3 (by decide) (hts (.fieldLink RX3 78 "ClashFree$Layout" "sum" "I") (List.mem_of_getElem? (i := 4) rfl)) (fun _ h9 => h9) rfl dX3_settle_33 ?_
      refine lv_aload_n hx hb dX3_settle_36 rfl (lv_at hl 2 rfl) ?_
      refine va_get (D := D) (ci := 3) (v := .ref (la 6)) (C := RX3) (T := TX3) (N := 13) hx hb hts hin_X3 hown hK hP 0 rfl rfl 6 (by decide) (hts (.fieldLink RX3 15 "ClashFree$Layout" "roof" "[I") (List.mem_of_getElem? (i := 2) rfl)) (fun _ h9 => h9) rfl dX3_settle_37 ?_
      refine lv_iload_n hx hb dX3_settle_40 rfl (lv_at hl 0 rfl) ?_
      refine va_iald hx hb hK hP 2 1 rfl rfl (vp_in_nI (by omega) (by decide)) dX3_settle_41 ?_
      refine lv_topi (fun v4 ev4 => ?_)
      obtain rfl : v4 = 0 := ev4.trans (rfl)
      refine lv_aload_n hx hb dX3_settle_42 rfl (lv_at hl 2 rfl) ?_
      refine va_get (D := D) (ci := 3) (v := .ref (la 6)) (C := RX3) (T := TX3) (N := 13) hx hb hts hin_X3 hown hK hP 0 rfl rfl 6 (by decide) (hts (.fieldLink RX3 15 "ClashFree$Layout" "roof" "[I") (List.mem_of_getElem? (i := 2) rfl)) (fun _ h9 => h9) rfl dX3_settle_43 ?_
      refine lv_iload_n hx hb dX3_settle_46 rfl (lv_at hl 0 rfl) ?_
      refine va_iald hx hb hK hP 2 1 rfl rfl (vp_in_nI (by omega) (by decide)) dX3_settle_47 ?_
      refine lv_topi (fun v5 ev5 => ?_)
      obtain rfl : v5 = 0 := ev5.trans (rfl)
      refine lv_imul hx hb dX3_settle_48 ?_
      refine lv_topi (fun v6 ev6 => ?_)
      obtain rfl : v6 = 0 := ev6.trans (by decide)
      refine lv_iadd hx hb dX3_settle_49 ?_
      refine lv_topi (fun v7 ev7 => ?_)
      obtain rfl : v7 = 0 := ev7.trans (by decide)
      refine va_put (D := D) (ci := 3) (v := .int 0) (ty := .int) (C := RX3) (T := TX3) (N := 13) hx hb hts hin_X3 tyX3 tyX3_ok nmX3 hown hK hP hD hS 0 rfl rfl 3 (by decide) (hts (.fieldLink RX3 78 "ClashFree$Layout" "sum" "I") (List.mem_of_getElem? (i := 4) rfl)) (fun _ h9 => h9) rfl (by decide +kernel) rfl rfl (Nat.le_of_ble_eq_true rfl) dX3_settle_50 (fun H locs hP hD hS => ?_)
      have hP : va_P D vwCl [(h0, .inr (3, [.int (nI nb), .int z2, .int z3, .int 0, .int 0, .ref (la 5), .ref (la 6), .ref (la 7), .ref (la 8), .ref (la 9), .ref (la 10), .ref (la 11), .ref (la 12)])), (la 5, .inl (lc 5, 2048, .inl (fun _ => 0))), (la 6, .inl (lc 6, 2048, .inl (fun _ => 0))), (la 12, .inl (lc 12, 2048, .inl (fun _ => 0)))] H := hP
      have hD : va_D A [(h0, .inr (3, [.int (nI nb), .int z2, .int z3, .int 0, .int 0, .ref (la 5), .ref (la 6), .ref (la 7), .ref (la 8), .ref (la 9), .ref (la 10), .ref (la 11), .ref (la 12)])), (la 5, .inl (lc 5, 2048, .inl (fun _ => 0))), (la 6, .inl (lc 6, 2048, .inl (fun _ => 0))), (la 12, .inl (lc 12, 2048, .inl (fun _ => 0)))] := hD
      refine lv_aload_n hx hb dX3_settle_53 rfl (lv_at hl 2 rfl) ?_
      refine va_get (D := D) (ci := 3) (v := .ref (la 12)) (C := RX3) (T := TX3) (N := 13) hx hb hts hin_X3 hown hK hP 0 rfl rfl 12 (by decide) (hts (.fieldLink RX3 24 "ClashFree$Layout" "next" "[I") (List.mem_of_getElem? (i := 5) rfl)) (fun _ h9 => h9) rfl dX3_settle_54 ?_
      refine lv_iload_n hx hb dX3_settle_57 rfl (lv_at hl 0 rfl) ?_
      refine lv_iload_n hx hb dX3_settle_58 rfl (lv_at hl 1 rfl) ?_
      refine va_iast hx hb hK hP hD hS 3 2 rfl rfl (vp_in_nI (by omega) (by decide)) dX3_settle_59 (fun H locs hP hD hS => ?_)
      have hP : va_P D vwCl [(h0, .inr (3, [.int (nI nb), .int z2, .int z3, .int 0, .int 0, .ref (la 5), .ref (la 6), .ref (la 7), .ref (la 8), .ref (la 9), .ref (la 10), .ref (la 11), .ref (la 12)])), (la 5, .inl (lc 5, 2048, .inl (fun _ => 0))), (la 6, .inl (lc 6, 2048, .inl (fun _ => 0))), (la 12, .inl (lc 12, 2048, .inl (upd (fun _ => 0) (Int32.toNatClampNeg (nI j)) 0)))] H := hP
      have hD : va_D A [(h0, .inr (3, [.int (nI nb), .int z2, .int z3, .int 0, .int 0, .ref (la 5), .ref (la 6), .ref (la 7), .ref (la 8), .ref (la 9), .ref (la 10), .ref (la 11), .ref (la 12)])), (la 5, .inl (lc 5, 2048, .inl (fun _ => 0))), (la 6, .inl (lc 6, 2048, .inl (fun _ => 0))), (la 12, .inl (lc 12, 2048, .inl (upd (fun _ => 0) (Int32.toNatClampNeg (nI j)) 0)))] := hD
      rw [show (upd (fun _ => 0) (Int32.toNatClampNeg (nI j)) 0) = (fun _ => 0) from upd0] at hP hD
      refine lv_iload_n hx hb dX3_settle_60 rfl (lv_at hl 1 rfl) ?_
      refine lv_aload_n hx hb dX3_settle_61 rfl (lv_at hl 2 rfl) ?_
      refine va_get (D := D) (ci := 3) (v := .ref (la 5)) (C := RX3) (T := TX3) (N := 13) hx hb hts hin_X3 hown hK hP 0 rfl rfl 5 (by decide) (hts (.fieldLink RX3 9 "ClashFree$Layout" "held" "[I") (List.mem_of_getElem? (i := 3) rfl)) (fun _ h9 => h9) rfl dX3_settle_62 ?_
      refine lv_iload_n hx hb dX3_settle_65 rfl (lv_at hl 0 rfl) ?_
      refine va_iald hx hb hK hP 1 0 rfl rfl (vp_in_nI (by omega) (by decide)) dX3_settle_66 ?_
      refine lv_topi (fun v8 ev8 => ?_)
      obtain rfl : v8 = 0 := ev8.trans (rfl)
      refine lv_iadd hx hb dX3_settle_67 ?_
      refine lv_topi (fun v9 ev9 => ?_)
      obtain rfl : v9 = 0 := ev9.trans (by decide)
      refine lv_istore_n (lv' := [(2, .int 0), (3, .int (nI j)), (0, .ref h0), (1, .int 2)]) hx hb dX3_settle_68 rfl hl (by decide) rfl (fun ls hl => ?_)
      refine lv_iinc (v := nI (j + 1)) (lv' := [(3, .int (nI (j + 1))), (2, .int 0), (0, .ref h0), (1, .int 2)]) hx hb dX3_settle_69 hl (k := 1) rfl (nI_1 j) (by decide) rfl (fun ls hl => ?_)
      refine lv_goto (tgt := 9) hx hb dX3_settle_72 (by decide) ?_
      exact ih (j + 1) (by omega) (by omega) H locs ls (hP.sub [0, 1, 2, 3] rfl) (hD.sub [0, 1, 2, 3] (by decide) rfl) hS (lv_sub hl [0, 1, 2, 3] rfl)
set_option maxHeartbeats 4000000 in
set_option maxRecDepth 100000 in
theorem c_settle (l : Launch) (D : va_G) (sz : Nat) (h0 : Nat) (la : Nat → Nat) (lc : Nat → ClassId) (nb : Nat) (z2 : Int32) (z3 : Int32) (hn2 : nb < 2048) : Met l yX3_settle wp_c_settle ({ frames := 1, cells := 0, slots := 0, locals := 40 }) (PcW D [.ref h0, .int 2] sz [(h0, .inr (3, [.int (nI nb), .int z2, .int z3, .int 0, .int 0, .ref (la 5), .ref (la 6), .ref (la 7), .ref (la 8), .ref (la 9), .ref (la 10), .ref (la 11), .ref (la 12)])), (la 5, .inl (lc 5, 2048, .inl (fun _ => 0))), (la 6, .inl (lc 6, 2048, .inl (fun _ => 0))), (la 12, .inl (lc 12, 2048, .inl (fun _ => 0)))] [(lc 5, .int), (lc 6, .int), (lc 12, .int)]) (va_Qv (fun (_ : Unit) => True) (fun (u : Unit) t => va_P D vwCl [(h0, .inr (3, [.int (nI nb), .int z2, .int z3, .int 0, .int 0, .ref (la 5), .ref (la 6), .ref (la 7), .ref (la 8), .ref (la 9), .ref (la 10), .ref (la 11), .ref (la 12)])), (la 5, .inl (lc 5, 2048, .inl (fun _ => 0))), (la 6, .inl (lc 6, 2048, .inl (fun _ => 0))), (la 12, .inl (lc 12, 2048, .inl (fun _ => 0)))] t.heap ∧ va_K D vwCl [(lc 5, .int), (lc 6, .int), (lc 12, .int)] t ∧ va_D (va_A [(h0, .inr (3, [.int (nI nb), .int z2, .int z3, .int 0, .int 0, .ref (la 5), .ref (la 6), .ref (la 7), .ref (la 8), .ref (la 9), .ref (la 10), .ref (la 11), .ref (la 12)])), (la 5, .inl (lc 5, 2048, .inl (fun _ => 0))), (la 6, .inl (lc 6, 2048, .inl (fun _ => 0))), (la 12, .inl (lc 12, 2048, .inl (fun _ => 0)))] sz) [(h0, .inr (3, [.int (nI nb), .int z2, .int z3, .int 0, .int 0, .ref (la 5), .ref (la 6), .ref (la 7), .ref (la 8), .ref (la 9), .ref (la 10), .ref (la 11), .ref (la 12)])), (la 5, .inl (lc 5, 2048, .inl (fun _ => 0))), (la 6, .inl (lc 6, 2048, .inl (fun _ => 0))), (la 12, .inl (lc 12, 2048, .inl (fun _ => 0)))]) (va_A [(h0, .inr (3, [.int (nI nb), .int z2, .int z3, .int 0, .int 0, .ref (la 5), .ref (la 6), .ref (la 7), .ref (la 8), .ref (la 9), .ref (la 10), .ref (la 11), .ref (la 12)])), (la 5, .inl (lc 5, 2048, .inl (fun _ => 0))), (la 6, .inl (lc 6, 2048, .inl (fun _ => 0))), (la 12, .inl (lc 12, 2048, .inl (fun _ => 0)))] sz)) 0 0 (va_A [(h0, .inr (3, [.int (nI nb), .int z2, .int z3, .int 0, .int 0, .ref (la 5), .ref (la 6), .ref (la 7), .ref (la 8), .ref (la 9), .ref (la 10), .ref (la 11), .ref (la 12)])), (la 5, .inl (lc 5, 2048, .inl (fun _ => 0))), (la 6, .inl (lc 6, 2048, .inl (fun _ => 0))), (la 12, .inl (lc 12, 2048, .inl (fun _ => 0)))] sz) := by
  refine Met.ofW (cc := cX3_settle) (maxL := 5) (ret := none) (by decide) rfl ?_
  intro p e s m args below meth c s₁ B hml hv
  obtain ⟨rfl, hsz, hP, hK, hD0⟩ := hv
  have hx := B.exec
  have hb := B.bytes
  have hr := B.returns
  have hts := atoms_spec (ws := wp_c_settle) B.pre
  have hin_X3 : ∀ w ∈ wsX30, w ∈ wp_c_settle := fun _ h => (List.mem_cons_of_mem _ (List.mem_append_right _ (List.mem_append_left _ h)))
  have hown : s.vm.findClass RX3 = some m.cls := findClass_of_methodNamed B.named
  have hlocks := B.notSynchronized
  subst hsz
  have hD := hD0.self (sz := s.heap.size)
  generalize hAe : va_A [(h0, .inr (3, [.int (nI nb), .int z2, .int z3, .int 0, .int 0, .ref (la 5), .ref (la 6), .ref (la 7), .ref (la 8), .ref (la 9), .ref (la 10), .ref (la 11), .ref (la 12)])), (la 5, .inl (lc 5, 2048, .inl (fun _ => 0))), (la 6, .inl (lc 6, 2048, .inl (fun _ => 0))), (la 12, .inl (lc 12, 2048, .inl (fun _ => 0)))] s.heap.size = A at hD ⊢
  have hA : ∀ q : Nat, s.heap.size ≤ q → A q := fun q h => by rw [← hAe]; exact Or.inr h
  have hS : va_S A s.heap s.heap [] := va_S.rf
  have hP : va_P D vwCl [(h0, .inr (3, [.int (nI nb), .int z2, .int z3, .int 0, .int 0, .ref (la 5), .ref (la 6), .ref (la 7), .ref (la 8), .ref (la 9), .ref (la 10), .ref (la 11), .ref (la 12)])), (la 5, .inl (lc 5, 2048, .inl (fun _ => 0))), (la 6, .inl (lc 6, 2048, .inl (fun _ => 0))), (la 12, .inl (lc 12, 2048, .inl (fun _ => 0)))] s.heap := hP
  have hl := lv_entry ([.ref h0, .int 2]) (n := 5) (Nat.le_of_ble_eq_true rfl)
  rw [lg_entry_eq]
  generalize (lg_sl ([.ref h0, .int 2]) ++ List.replicate (5 - (lg_sl ([.ref h0, .int 2])).length) Slot.unset).toArray = ls at hl ⊢
  have hl : lv_has ls 5 [(0, .ref h0), (1, .int 2)] := hl
  refine lv_aload_n hx hb dX3_settle_0 rfl (lv_at hl 0 rfl) ?_
  refine lv_iconst (v := 0) hx hb dX3_settle_1 (by decide) ?_
  refine va_put (D := D) (ci := 3) (v := .int 0) (ty := .int) (C := RX3) (T := TX3) (N := 13) hx hb hts hin_X3 tyX3 tyX3_ok nmX3 hown hK hP hD hS 0 rfl rfl 3 (by decide) (hts (.fieldLink RX3 78 "ClashFree$Layout" "sum" "I") (List.mem_of_getElem? (i := 4) rfl)) (fun _ h9 => h9) rfl (by decide +kernel) rfl rfl (Nat.le_of_ble_eq_true rfl) dX3_settle_2 (fun H locs hP hD hS => ?_)
  have hP : va_P D vwCl [(h0, .inr (3, [.int (nI nb), .int z2, .int z3, .int 0, .int 0, .ref (la 5), .ref (la 6), .ref (la 7), .ref (la 8), .ref (la 9), .ref (la 10), .ref (la 11), .ref (la 12)])), (la 5, .inl (lc 5, 2048, .inl (fun _ => 0))), (la 6, .inl (lc 6, 2048, .inl (fun _ => 0))), (la 12, .inl (lc 12, 2048, .inl (fun _ => 0)))] H := hP
  have hD : va_D A [(h0, .inr (3, [.int (nI nb), .int z2, .int z3, .int 0, .int 0, .ref (la 5), .ref (la 6), .ref (la 7), .ref (la 8), .ref (la 9), .ref (la 10), .ref (la 11), .ref (la 12)])), (la 5, .inl (lc 5, 2048, .inl (fun _ => 0))), (la 6, .inl (lc 6, 2048, .inl (fun _ => 0))), (la 12, .inl (lc 12, 2048, .inl (fun _ => 0)))] := hD
  refine lv_iconst (v := 0) hx hb dX3_settle_5 (by decide) ?_
  refine lv_istore_n (lv' := [(2, .int 0), (0, .ref h0), (1, .int 2)]) hx hb dX3_settle_6 rfl hl (by decide) rfl (fun ls hl => ?_)
  refine lv_iconst (v := 0) hx hb dX3_settle_7 (by decide) ?_
  refine lv_istore_n (lv' := [(3, .int 0), (2, .int 0), (0, .ref h0), (1, .int 2)]) hx hb dX3_settle_8 rfl hl (by decide) rfl (fun ls hl => ?_)
  refine lp_settle l D h0 la lc nb z2 z3 hn2 hx hb hml hown hts hA (hK.sub [0, 1, 2] rfl) (fun H locs ls hP hD hS hl => ?_) (nb + 1) 0 (by omega) (by omega) _ _ _ (hP.sub [0, 1, 2, 3] rfl) (hD.sub [0, 1, 2, 3] (by decide) rfl) hS (lv_sub hl [0, 1, 2, 3] rfl)
  have hP : va_P D vwCl [(h0, .inr (3, [.int (nI nb), .int z2, .int z3, .int 0, .int 0, .ref (la 5), .ref (la 6), .ref (la 7), .ref (la 8), .ref (la 9), .ref (la 10), .ref (la 11), .ref (la 12)])), (la 5, .inl (lc 5, 2048, .inl (fun _ => 0))), (la 6, .inl (lc 6, 2048, .inl (fun _ => 0))), (la 12, .inl (lc 12, 2048, .inl (fun _ => 0)))] H := hP
  have hD : va_D A [(h0, .inr (3, [.int (nI nb), .int z2, .int z3, .int 0, .int 0, .ref (la 5), .ref (la 6), .ref (la 7), .ref (la 8), .ref (la 9), .ref (la 10), .ref (la 11), .ref (la 12)])), (la 5, .inl (lc 5, 2048, .inl (fun _ => 0))), (la 6, .inl (lc 6, 2048, .inl (fun _ => 0))), (la 12, .inl (lc 12, 2048, .inl (fun _ => 0)))] := hD
  refine lv_iconst (v := 0) hx hb dX3_settle_75 (by decide) ?_
  refine lv_istore_n (lv' := [(3, .int 0), (2, .int 0), (0, .ref h0), (1, .int 2)]) hx hb dX3_settle_76 rfl hl (by decide) rfl (fun ls hl => ?_)
  refine lv_iload_n hx hb dX3_settle_77 rfl (lv_at hl 0 rfl) ?_
  refine lv_aload_n hx hb dX3_settle_78 rfl (lv_at hl 2 rfl) ?_
  refine va_get (D := D) (ci := 3) (v := .int 0) (C := RX3) (T := TX3) (N := 13) hx hb hts hin_X3 hown hK hP 0 rfl rfl 4 (by decide) (hts (.fieldLink RX3 54 "ClashFree$Layout" "size" "I") (List.mem_of_getElem? (i := 6) rfl)) (fun _ h9 => h9) rfl dX3_settle_79 ?_
  refine lv_icmp_ge (tgt := 123) hx hb dX3_settle_82 (by decide) (fun hc => ?_) (fun hc => absurd (by decide) hc)
  exact W.vret hx hb hr (fun t ht hW => ⟨⟨(), rfl, trivial, by rw [ht]; exact hP.sub [0, 1, 2, 3] rfl, va_K.moved hW.alike (hK.sub [0, 1, 2] rfl), hD.sub [0, 1, 2, 3] (by decide) rfl⟩, hS.F ht⟩) hS.2.2 dX3_settle_123

def own_c_roomsOfC : List Cond := [.fieldLink RX3 36 "ClashFree$Layout" "buckets" "I", .fieldLink RX3 15 "ClashFree$Layout" "roof" "[I"]
def wp_c_roomsOfC : List Cond := .code yX3_roomsOf cX3_roomsOf 2 (some .int) :: (own_c_roomsOfC ++ (wsX30 ++ ([] : List Cond)))
set_option maxRecDepth 20000 in
theorem inown_c_roomsOfC : ∀ w ∈ own_c_roomsOfC, w ∈ lw_tbl := mem_places [178, 195] (by decide +kernel)
set_option maxRecDepth 20000 in
theorem in_c_roomsOfC : ∀ w ∈ wp_c_roomsOfC, w ∈ lw_tbl := List.forall_mem_cons.mpr ⟨List.mem_of_getElem? (i := 603) (by decide +kernel), List.forall_mem_append.mpr ⟨inown_c_roomsOfC, List.forall_mem_append.mpr ⟨lwb_X3, fun _ h => absurd h List.not_mem_nil⟩⟩⟩
set_option maxRecDepth 20000 in
theorem good_c_roomsOfC : wp_c_roomsOfC.all goodWord = true := by decide +kernel
set_option maxHeartbeats 4000000 in
set_option maxRecDepth 100000 in
theorem c_roomsOfC (l : Launch) (D : va_G) (sz : Nat) (h0 : Nat) (la : Nat → Nat) (lc : Nat → ClassId) (nb : Nat) (z2 : Int32) (z3 : Int32) (j : Nat) (hj : j < nb) (hn2 : nb < 2048) : Met l yX3_roomsOf wp_c_roomsOfC ({ frames := 0, cells := 0, slots := 0, locals := 0 }) (PcR D [.ref h0, .int (nI j)] sz [(h0, .inr (3, [.int (nI nb), .int z2, .int z3, .int 0, .int 0, .ref (la 5), .ref (la 6), .ref (la 7), .ref (la 8), .ref (la 9), .ref (la 10), .ref (la 11), .ref (la 12)])), (la 6, .inl (lc 6, 2048, .inl (fun _ => 0)))] [(lc 6, .int)]) (va_Qi (fun (r : Int32) (_ : Unit) => r = 0) (fun (_ : Unit) _ => True) (va_A [] sz)) 0 0 (va_A [] sz) := by
  refine Met.ofW (cc := cX3_roomsOf) (maxL := 2) (ret := (some .int)) (by decide) rfl ?_
  intro p e s m args below meth c s₁ B hml hv
  obtain ⟨rfl, hsz, hP, hK⟩ := hv
  have hx := B.exec
  have hb := B.bytes
  have hr := B.returns
  have hts := atoms_spec (ws := wp_c_roomsOfC) B.pre
  have hin_X3 : ∀ w ∈ wsX30, w ∈ wp_c_roomsOfC := fun _ h => (List.mem_cons_of_mem _ (List.mem_append_right _ (List.mem_append_left _ h)))
  have hown : s.vm.findClass RX3 = some m.cls := findClass_of_methodNamed B.named
  have hlocks := B.notSynchronized
  subst hsz
  generalize hAe : va_A [] s.heap.size = A at ⊢
  have hA : ∀ q : Nat, s.heap.size ≤ q → A q := fun q h => by rw [← hAe]; exact Or.inr h
  have hS : va_S A s.heap s.heap [] := va_S.rf
  have hP : va_P D vwCl [(h0, .inr (3, [.int (nI nb), .int z2, .int z3, .int 0, .int 0, .ref (la 5), .ref (la 6), .ref (la 7), .ref (la 8), .ref (la 9), .ref (la 10), .ref (la 11), .ref (la 12)])), (la 6, .inl (lc 6, 2048, .inl (fun _ => 0)))] s.heap := hP
  have hl := lv_entry ([.ref h0, .int (nI j)]) (n := 2) (Nat.le_of_ble_eq_true rfl)
  rw [lg_entry_eq]
  generalize (lg_sl ([.ref h0, .int (nI j)]) ++ List.replicate (2 - (lg_sl ([.ref h0, .int (nI j)])).length) Slot.unset).toArray = ls at hl ⊢
  have hl : lv_has ls 2 [(0, .ref h0), (1, .int (nI j))] := hl
  refine lv_iload_n hx hb dX3_roomsOf_0 rfl (lv_at hl 1 rfl) ?_
  refine lv_if_lt (tgt := 12) hx hb dX3_roomsOf_1 (by decide) (fun hc => absurd hc (nI_pos (by omega))) (fun hc => ?_)
  refine lv_iload_n hx hb dX3_roomsOf_4 rfl (lv_at hl 1 rfl) ?_
  refine lv_aload_n hx hb dX3_roomsOf_5 rfl (lv_at hl 0 rfl) ?_
  refine va_get (D := D) (ci := 3) (v := .int (nI nb)) (C := RX3) (T := TX3) (N := 13) hx hb hts hin_X3 hown hK hP 0 rfl rfl 0 (by decide) (hts (.fieldLink RX3 36 "ClashFree$Layout" "buckets" "I") (List.mem_of_getElem? (i := 1) rfl)) (fun _ h9 => h9) rfl dX3_roomsOf_6 ?_
  refine lv_icmp_lt (tgt := 16) hx hb dX3_roomsOf_9 (by decide) (fun hc => ?_) (fun hc => absurd (nI_lt hj (by omega)) hc)
  refine lv_aload_n hx hb dX3_roomsOf_16 rfl (lv_at hl 0 rfl) ?_
  refine va_get (D := D) (ci := 3) (v := .ref (la 6)) (C := RX3) (T := TX3) (N := 13) hx hb hts hin_X3 hown hK hP 0 rfl rfl 6 (by decide) (hts (.fieldLink RX3 15 "ClashFree$Layout" "roof" "[I") (List.mem_of_getElem? (i := 2) rfl)) (fun _ h9 => h9) rfl dX3_roomsOf_17 ?_
  refine lv_iload_n hx hb dX3_roomsOf_20 rfl (lv_at hl 1 rfl) ?_
  refine va_iald hx hb hK hP 1 0 rfl rfl (vp_in_nI (by omega) (by decide)) dX3_roomsOf_21 ?_
  refine lv_topi (fun v1 ev1 => ?_)
  obtain rfl : v1 = 0 := ev1.trans (rfl)
  refine lv_aload_n hx hb dX3_roomsOf_22 rfl (lv_at hl 0 rfl) ?_
  refine va_get (D := D) (ci := 3) (v := .ref (la 6)) (C := RX3) (T := TX3) (N := 13) hx hb hts hin_X3 hown hK hP 0 rfl rfl 6 (by decide) (hts (.fieldLink RX3 15 "ClashFree$Layout" "roof" "[I") (List.mem_of_getElem? (i := 2) rfl)) (fun _ h9 => h9) rfl dX3_roomsOf_23 ?_
  refine lv_iload_n hx hb dX3_roomsOf_26 rfl (lv_at hl 1 rfl) ?_
  refine va_iald hx hb hK hP 1 0 rfl rfl (vp_in_nI (by omega) (by decide)) dX3_roomsOf_27 ?_
  refine lv_topi (fun v2 ev2 => ?_)
  obtain rfl : v2 = 0 := ev2.trans (rfl)
  refine lv_imul hx hb dX3_roomsOf_28 ?_
  refine lv_topi (fun v3 ev3 => ?_)
  obtain rfl : v3 = 0 := ev3.trans (by decide)
  exact W.iret (v := 0) hx hb hr (fun t ht hW => ⟨⟨0, (), rfl, rfl, trivial⟩, hS.F ht⟩) hS.2.2 dX3_roomsOf_29

def own_c_buildBucketC : List Cond := [.methodLink RX3 50 yX3_roomsOf, .instanceMethod yX3_roomsOf, .selects RX3 yX3_roomsOf yX3_roomsOf, .initialized RX3]
def wp_c_buildBucketC : List Cond := .code yX3_buildBucket cX3_buildBucket 12 none :: (own_c_buildBucketC ++ (wp_c_roomsOfC ++ ([] : List Cond)))
set_option maxRecDepth 20000 in
theorem inown_c_buildBucketC : ∀ w ∈ own_c_buildBucketC, w ∈ lw_tbl := mem_places [600, 601, 602, 109] (by decide +kernel)
set_option maxRecDepth 20000 in
theorem in_c_buildBucketC : ∀ w ∈ wp_c_buildBucketC, w ∈ lw_tbl := List.forall_mem_cons.mpr ⟨List.mem_of_getElem? (i := 599) (by decide +kernel), List.forall_mem_append.mpr ⟨inown_c_buildBucketC, List.forall_mem_append.mpr ⟨in_c_roomsOfC, fun _ h => absurd h List.not_mem_nil⟩⟩⟩
set_option maxRecDepth 20000 in
theorem good_c_buildBucketC : wp_c_buildBucketC.all goodWord = true := by decide +kernel
set_option maxRecDepth 20000 in
theorem g_c_buildBucketC_c_roomsOfC_50 : GoodIn wp_c_buildBucketC (wsV RX3 50 RX3 yX3_roomsOf wp_c_roomsOfC) := goodIn_sub (List.forall_mem_append.mpr ⟨List.forall_mem_cons.mpr ⟨(List.mem_of_getElem? (i := 1) rfl), List.forall_mem_cons.mpr ⟨(List.mem_of_getElem? (i := 2) rfl), List.forall_mem_cons.mpr ⟨(List.mem_of_getElem? (i := 3) rfl), List.forall_mem_cons.mpr ⟨(List.mem_of_getElem? (i := 4) rfl), fun _ h => absurd h List.not_mem_nil⟩⟩⟩⟩, (fun _ h => (List.mem_cons_of_mem _ (List.mem_append_right _ (List.mem_append_left _ h))))⟩) (by decide +kernel)
set_option maxHeartbeats 4000000 in
set_option maxRecDepth 100000 in
theorem c_buildBucketC (l : Launch) (D : va_G) (sz : Nat) (h0 : Nat) (la : Nat → Nat) (lc : Nat → ClassId) (nb : Nat) (z2 : Int32) (z3 : Int32) (j : Nat) (h1 : Nat) (h2 : Nat) (z5 : Int32) (hj : j < nb) (hn2 : nb < 2048) : Met l yX3_buildBucket wp_c_buildBucketC ({ frames := 1, cells := 0, slots := 0, locals := 21 }) (PcR D [.ref h0, .ref h1, .ref h2, .int (nI j), .int z5] sz [(h0, .inr (3, [.int (nI nb), .int z2, .int z3, .int 0, .int 0, .ref (la 5), .ref (la 6), .ref (la 7), .ref (la 8), .ref (la 9), .ref (la 10), .ref (la 11), .ref (la 12)])), (la 6, .inl (lc 6, 2048, .inl (fun _ => 0)))] [(lc 6, .int)]) (va_Qv (fun (_ : Unit) => True) (fun (_ : Unit) _ => True) (va_A [] sz)) 0 0 (va_A [] sz) := by
  refine Met.ofW (cc := cX3_buildBucket) (maxL := 12) (ret := none) (by decide) rfl ?_
  intro p e s m args below meth c s₁ B hml hv
  obtain ⟨rfl, hsz, hP, hK⟩ := hv
  have hx := B.exec
  have hb := B.bytes
  have hr := B.returns
  have hts := atoms_spec (ws := wp_c_buildBucketC) B.pre
  have hown : s.vm.findClass RX3 = some m.cls := findClass_of_methodNamed B.named
  have hlocks := B.notSynchronized
  subst hsz
  generalize hAe : va_A [] s.heap.size = A at ⊢
  have hA : ∀ q : Nat, s.heap.size ≤ q → A q := fun q h => by rw [← hAe]; exact Or.inr h
  have hS : va_S A s.heap s.heap [] := va_S.rf
  have hP : va_P D vwCl [(h0, .inr (3, [.int (nI nb), .int z2, .int z3, .int 0, .int 0, .ref (la 5), .ref (la 6), .ref (la 7), .ref (la 8), .ref (la 9), .ref (la 10), .ref (la 11), .ref (la 12)])), (la 6, .inl (lc 6, 2048, .inl (fun _ => 0)))] s.heap := hP
  have hl := lv_entry ([.ref h0, .ref h1, .ref h2, .int (nI j), .int z5]) (n := 12) (Nat.le_of_ble_eq_true rfl)
  rw [lg_entry_eq]
  generalize (lg_sl ([.ref h0, .ref h1, .ref h2, .int (nI j), .int z5]) ++ List.replicate (12 - (lg_sl ([.ref h0, .ref h1, .ref h2, .int (nI j), .int z5])).length) Slot.unset).toArray = ls at hl ⊢
  have hl : lv_has ls 12 [(0, .ref h0), (1, .ref h1), (2, .ref h2), (3, .int (nI j)), (4, .int z5)] := hl
  refine lv_aload_n hx hb dX3_buildBucket_0 rfl (lv_at hl 0 rfl) ?_
  refine lv_iload_n hx hb dX3_buildBucket_1 rfl (lv_at hl 3 rfl) ?_
  have hPc := hP.sub (ws' := [(h0, .inr (3, [.int (nI nb), .int z2, .int z3, .int 0, .int 0, .ref (la 5), .ref (la 6), .ref (la 7), .ref (la 8), .ref (la 9), .ref (la 10), .ref (la 11), .ref (la 12)])), (la 6, .inl (lc 6, 2048, .inl (fun _ => 0)))]) [0, 1] rfl
  have hKc := hK.sub (tys' := [(lc 6, .int)]) [0] rfl
  have hFc := va_free0 hS hA
  refine va_calli (va_runV (As := [.int (nI j)]) (rest := []) ⟨hx, hb, hml, hown, hts⟩ (c_roomsOfC l D _ h0 la lc nb z2 z3 j (by first | omega | assumption) (by first | omega | assumption)) (cwV 1 hts g_c_buildBucketC_c_roomsOfC_50 rfl rfl rfl (by decide +kernel) ⟨(Nat.le_of_ble_eq_true rfl), (Nat.le_of_ble_eq_true rfl)⟩) (PcR_V (q0 := 0) hPc hKc rfl rfl) rfl rfl hl.1 rfl (lv_room (Nat.le_of_ble_eq_true rfl)) dX3_buildBucket_2 ⟨(Nat.le_of_ble_eq_true rfl), (Nat.le_of_ble_eq_true rfl)⟩) hS (fun q _ h => hFc q h) hFc (fun r1 uu tt H locs htt hvm hw hB hz1 hk1 hS => ?_)
  have hP := va_keep hP hk1
  try dsimp only at hw
  clear hB hz1 hk1 hFc hPc hKc
  obtain rfl : r1 = 0 := hw
  refine lv_istore (lv' := [(5, .int 0), (0, .ref h0), (1, .ref h1), (2, .ref h2), (3, .int (nI j)), (4, .int z5)]) hx hb dX3_buildBucket_5 hl (by decide) rfl (fun ls hl => ?_)
  refine lv_iload hx hb dX3_buildBucket_7 (lv_at hl 0 rfl) ?_
  refine lv_if_eq (tgt := 21) hx hb dX3_buildBucket_9 (by decide) (fun hc => ?_) (fun hc => absurd (by decide) hc)
  exact W.vret hx hb hr (fun t ht hW => ⟨⟨(), rfl, trivial, trivial⟩, hS.F ht⟩) hS.2.2 dX3_buildBucket_21

def own_c_buildAllC : List Cond := [.fieldLink RX9 28 "ClashFree$Table" "layout" "LClashFree$Layout;", .fieldLink RX9 97 "ClashFree$Layout" "buckets" "I", .fieldLink RX9 21 "ClashFree$Table" "keys" "LClashFree$Keys;", .fieldLink RX9 12 "ClashFree$Table" "draw" "LClashFree$Draw;", .fieldLink RX9 100 "ClashFree$Layout" "next" "[I", .methodLink RX9 104 yX3_buildBucket, .instanceMethod yX3_buildBucket, .selects RX3 yX3_buildBucket yX3_buildBucket, .initialized RX3, .fieldLink RX9 58 "ClashFree$Keys" "size" "I", .fieldLink RX9 39 "ClashFree$Table" "growth" "I", .fieldLink RX9 61 "ClashFree$Table" "limit" "I", .fieldLink RX9 64 "ClashFree$Table" "count" "I", .fieldLink RX9 51 "ClashFree$Table" "laid" "I", .fieldLink RX9 36 "ClashFree$Table" "spread" "I", .methodLink RX9 67 Lib.Math.max.name, .static Lib.Math.max.name, .initialized "java/lang/Math", .code Lib.Math.max.name Lib.Math.max.code 2 (some .int), .methodLink RX9 73 yX0_pair, .instanceMethod yX0_pair, .selects RX0 yX0_pair yX0_pair, .initialized RX0, .fieldLink RX9 76 "ClashFree$Draw" "a" "I", .fieldLink RX9 79 "ClashFree$Draw" "b" "I", .methodLink RX9 82 yX3_deal, .instanceMethod yX3_deal, .selects RX3 yX3_deal yX3_deal, .methodLink RX9 86 yX9_mostRooms, .instanceMethod yX9_mostRooms, .selects RX9 yX9_mostRooms yX9_mostRooms, .initialized RX9, .methodLink RX9 93 yX3_settle, .instanceMethod yX3_settle, .selects RX3 yX3_settle yX3_settle]
def wp_c_buildAllC : List Cond := .code yX9_buildAll cX9_buildAll 4 none :: (own_c_buildAllC ++ (wp_c_buildBucketC ++ (wp_c_X0_pair ++ (wp_c_deal ++ (wp_c_mostRooms ++ (wp_c_settle ++ (wsX90 ++ (wsX30 ++ (wsX20 ++ (wsX00 ++ ([] : List Cond)))))))))))
set_option maxRecDepth 20000 in
theorem inown_c_buildAllC : ∀ w ∈ own_c_buildAllC, w ∈ lw_tbl := mem_places [520, 180, 515, 512, 209, 596, 597, 598, 109, 473, 497, 500, 502, 510, 494, 560, 561, 118, 562, 563, 564, 565, 108, 152, 156, 571, 572, 573, 587, 588, 589, 116, 592, 593, 594] (by decide +kernel)
set_option maxRecDepth 20000 in
theorem in_c_buildAllC : ∀ w ∈ wp_c_buildAllC, w ∈ lw_tbl := List.forall_mem_cons.mpr ⟨List.mem_of_getElem? (i := 559) (by decide +kernel), List.forall_mem_append.mpr ⟨inown_c_buildAllC, List.forall_mem_append.mpr ⟨in_c_buildBucketC, List.forall_mem_append.mpr ⟨in_c_X0_pair, List.forall_mem_append.mpr ⟨in_c_deal, List.forall_mem_append.mpr ⟨in_c_mostRooms, List.forall_mem_append.mpr ⟨in_c_settle, List.forall_mem_append.mpr ⟨lwb_X9, List.forall_mem_append.mpr ⟨lwb_X3, List.forall_mem_append.mpr ⟨lwb_X2, List.forall_mem_append.mpr ⟨lwb_X0, fun _ h => absurd h List.not_mem_nil⟩⟩⟩⟩⟩⟩⟩⟩⟩⟩⟩
set_option maxRecDepth 20000 in
theorem good_c_buildAllC : wp_c_buildAllC.all goodWord = true := by decide +kernel
set_option maxRecDepth 20000 in
theorem g_c_buildAllC_c_buildBucketC_104 : GoodIn wp_c_buildAllC (wsV RX9 104 RX3 yX3_buildBucket wp_c_buildBucketC) := goodIn_sub (List.forall_mem_append.mpr ⟨List.forall_mem_cons.mpr ⟨(List.mem_of_getElem? (i := 6) rfl), List.forall_mem_cons.mpr ⟨(List.mem_of_getElem? (i := 7) rfl), List.forall_mem_cons.mpr ⟨(List.mem_of_getElem? (i := 8) rfl), List.forall_mem_cons.mpr ⟨(List.mem_of_getElem? (i := 9) rfl), fun _ h => absurd h List.not_mem_nil⟩⟩⟩⟩, (fun _ h => (List.mem_cons_of_mem _ (List.mem_append_right _ (List.mem_append_left _ h))))⟩) (by decide +kernel)
set_option maxRecDepth 20000 in
theorem g_c_buildAllC_c_X0_pair_73 : GoodIn wp_c_buildAllC (wsV RX9 73 RX0 yX0_pair wp_c_X0_pair) := goodIn_sub (List.forall_mem_append.mpr ⟨List.forall_mem_cons.mpr ⟨(List.mem_of_getElem? (i := 20) rfl), List.forall_mem_cons.mpr ⟨(List.mem_of_getElem? (i := 21) rfl), List.forall_mem_cons.mpr ⟨(List.mem_of_getElem? (i := 22) rfl), List.forall_mem_cons.mpr ⟨(List.mem_of_getElem? (i := 23) rfl), fun _ h => absurd h List.not_mem_nil⟩⟩⟩⟩, (fun _ h => (List.mem_cons_of_mem _ (List.mem_append_right _ (List.mem_append_right _ (List.mem_append_left _ h)))))⟩) (by decide +kernel)
set_option maxRecDepth 20000 in
theorem g_c_buildAllC_c_deal_82 : GoodIn wp_c_buildAllC (wsV RX9 82 RX3 yX3_deal wp_c_deal) := goodIn_sub (List.forall_mem_append.mpr ⟨List.forall_mem_cons.mpr ⟨(List.mem_of_getElem? (i := 26) rfl), List.forall_mem_cons.mpr ⟨(List.mem_of_getElem? (i := 27) rfl), List.forall_mem_cons.mpr ⟨(List.mem_of_getElem? (i := 28) rfl), List.forall_mem_cons.mpr ⟨(List.mem_of_getElem? (i := 9) rfl), fun _ h => absurd h List.not_mem_nil⟩⟩⟩⟩, (fun _ h => (List.mem_cons_of_mem _ (List.mem_append_right _ (List.mem_append_right _ (List.mem_append_right _ (List.mem_append_left _ h))))))⟩) (by decide +kernel)
set_option maxRecDepth 20000 in
theorem g_c_buildAllC_c_mostRooms_86 : GoodIn wp_c_buildAllC (wsV RX9 86 RX9 yX9_mostRooms wp_c_mostRooms) := goodIn_sub (List.forall_mem_append.mpr ⟨List.forall_mem_cons.mpr ⟨(List.mem_of_getElem? (i := 29) rfl), List.forall_mem_cons.mpr ⟨(List.mem_of_getElem? (i := 30) rfl), List.forall_mem_cons.mpr ⟨(List.mem_of_getElem? (i := 31) rfl), List.forall_mem_cons.mpr ⟨(List.mem_of_getElem? (i := 32) rfl), fun _ h => absurd h List.not_mem_nil⟩⟩⟩⟩, (fun _ h => (List.mem_cons_of_mem _ (List.mem_append_right _ (List.mem_append_right _ (List.mem_append_right _ (List.mem_append_right _ (List.mem_append_left _ h)))))))⟩) (by decide +kernel)
set_option maxRecDepth 20000 in
theorem g_c_buildAllC_c_settle_93 : GoodIn wp_c_buildAllC (wsV RX9 93 RX3 yX3_settle wp_c_settle) := goodIn_sub (List.forall_mem_append.mpr ⟨List.forall_mem_cons.mpr ⟨(List.mem_of_getElem? (i := 33) rfl), List.forall_mem_cons.mpr ⟨(List.mem_of_getElem? (i := 34) rfl), List.forall_mem_cons.mpr ⟨(List.mem_of_getElem? (i := 35) rfl), List.forall_mem_cons.mpr ⟨(List.mem_of_getElem? (i := 9) rfl), fun _ h => absurd h List.not_mem_nil⟩⟩⟩⟩, (fun _ h => (List.mem_cons_of_mem _ (List.mem_append_right _ (List.mem_append_right _ (List.mem_append_right _ (List.mem_append_right _ (List.mem_append_right _ (List.mem_append_left _ h))))))))⟩) (by decide +kernel)
set_option maxHeartbeats 4000000 in
set_option maxRecDepth 100000 in
theorem lp_bAllC (l : Launch) {p : Program} {e : Env} {s : State} {m : MethodId} {args : Array Value} {below : List Frame} {meth : Method} {c : Code} {Q : State → Prop} {A : Nat → Prop} (D : va_G) (h0 : Nat) (ta : Nat → Nat) (ka : Nat → Nat) (la : Nat → Nat) (lc : Nat → ClassId) (bn : Nat) (ns : Nat) (gr : Int32) (ds : Int64) (da : Int32) (db : Int32) (dn : Int32) (nb : Nat) (hn2 : nb < 2048) (hx : p.tables.exec = Jvm.exec) (hb : c.code = cX9_buildAll) (hml : c.maxLocals = 4) (hown : s.vm.findClass RX9 = some m.cls) (hts : ∀ w ∈ wp_c_buildAllC, w.before args s = true) (hA : ∀ q, s.heap.size ≤ q → A q) (hK : va_K D vwCl [(lc 5, .int), (lc 6, .int), (lc 12, .int)] s) (kx : ∀ (H : Heap) (locs : List Loc) (ls : Array Slot), va_P D vwCl [(h0, .inr (9, [.int (nI bn), .int (nI ns), .int gr, .int 4, .int 0, .int 0, .int 0, .int 0, .int 0, .ref (ta 9), .ref (ta 10), .ref (ta 11)])), (ta 9, .inr (0, [.long ds, .int da, .int db, .int dn])), (ta 10, .inr (2, [.int 0, .ref (ka 1), .ref (ka 2)])), (ta 11, .inr (3, [.int (nI nb), .int da, .int db, .int 0, .int 0, .ref (la 5), .ref (la 6), .ref (la 7), .ref (la 8), .ref (la 9), .ref (la 10), .ref (la 11), .ref (la 12)])), (la 5, .inl (lc 5, 2048, .inl (fun _ => 0))), (la 6, .inl (lc 6, 2048, .inl (fun _ => 0))), (la 12, .inl (lc 12, 2048, .inl (fun _ => 0)))] H → va_D A [(h0, .inr (9, [.int (nI bn), .int (nI ns), .int gr, .int 4, .int 0, .int 0, .int 0, .int 0, .int 0, .ref (ta 9), .ref (ta 10), .ref (ta 11)])), (ta 9, .inr (0, [.long ds, .int da, .int db, .int dn])), (ta 10, .inr (2, [.int 0, .ref (ka 1), .ref (ka 2)])), (ta 11, .inr (3, [.int (nI nb), .int da, .int db, .int 0, .int 0, .ref (la 5), .ref (la 6), .ref (la 7), .ref (la 8), .ref (la 9), .ref (la 10), .ref (la 11), .ref (la 12)])), (la 5, .inl (lc 5, 2048, .inl (fun _ => 0))), (la 6, .inl (lc 6, 2048, .inl (fun _ => 0))), (la 12, .inl (lc 12, 2048, .inl (fun _ => 0)))] → va_S A s.heap H locs → lv_has ls 4 [(0, .ref h0)] → W p l e ({ frames := 4, cells := 0, slots := 0, locals := 120 }) s m args below meth c H locs 0 0 Q (F0 m 204 ls [])) : ∀ (n j : Nat), j ≤ nb → nb < j + n → ∀ (H : Heap) (locs : List Loc) (ls : Array Slot), va_P D vwCl [(h0, .inr (9, [.int (nI bn), .int (nI ns), .int gr, .int 4, .int 0, .int 0, .int 0, .int 0, .int 0, .ref (ta 9), .ref (ta 10), .ref (ta 11)])), (ta 9, .inr (0, [.long ds, .int da, .int db, .int dn])), (ta 10, .inr (2, [.int 0, .ref (ka 1), .ref (ka 2)])), (ta 11, .inr (3, [.int (nI nb), .int da, .int db, .int 0, .int 0, .ref (la 5), .ref (la 6), .ref (la 7), .ref (la 8), .ref (la 9), .ref (la 10), .ref (la 11), .ref (la 12)])), (la 5, .inl (lc 5, 2048, .inl (fun _ => 0))), (la 6, .inl (lc 6, 2048, .inl (fun _ => 0))), (la 12, .inl (lc 12, 2048, .inl (fun _ => 0)))] H → va_D A [(h0, .inr (9, [.int (nI bn), .int (nI ns), .int gr, .int 4, .int 0, .int 0, .int 0, .int 0, .int 0, .ref (ta 9), .ref (ta 10), .ref (ta 11)])), (ta 9, .inr (0, [.long ds, .int da, .int db, .int dn])), (ta 10, .inr (2, [.int 0, .ref (ka 1), .ref (ka 2)])), (ta 11, .inr (3, [.int (nI nb), .int da, .int db, .int 0, .int 0, .ref (la 5), .ref (la 6), .ref (la 7), .ref (la 8), .ref (la 9), .ref (la 10), .ref (la 11), .ref (la 12)])), (la 5, .inl (lc 5, 2048, .inl (fun _ => 0))), (la 6, .inl (lc 6, 2048, .inl (fun _ => 0))), (la 12, .inl (lc 12, 2048, .inl (fun _ => 0)))] → va_S A s.heap H locs → lv_has ls 4 [(2, .int (nI j)), (0, .ref h0)] → W p l e ({ frames := 4, cells := 0, slots := 0, locals := 120 }) s m args below meth c H locs 0 0 Q (F0 m 162 ls []) := by
  have hin_X9 : ∀ w ∈ wsX90, w ∈ wp_c_buildAllC := fun _ h => (List.mem_cons_of_mem _ (List.mem_append_right _ (List.mem_append_right _ (List.mem_append_right _ (List.mem_append_right _ (List.mem_append_right _ (List.mem_append_right _ (List.mem_append_left _ h))))))))
  have hin_X3 : ∀ w ∈ wsX30, w ∈ wp_c_buildAllC := fun _ h => (List.mem_cons_of_mem _ (List.mem_append_right _ (List.mem_append_right _ (List.mem_append_right _ (List.mem_append_right _ (List.mem_append_right _ (List.mem_append_right _ (List.mem_append_right _ (List.mem_append_left _ h)))))))))
  have hin_X2 : ∀ w ∈ wsX20, w ∈ wp_c_buildAllC := fun _ h => (List.mem_cons_of_mem _ (List.mem_append_right _ (List.mem_append_right _ (List.mem_append_right _ (List.mem_append_right _ (List.mem_append_right _ (List.mem_append_right _ (List.mem_append_right _ (List.mem_append_right _ (List.mem_append_left _ h))))))))))
  have hin_X0 : ∀ w ∈ wsX00, w ∈ wp_c_buildAllC := fun _ h => (List.mem_cons_of_mem _ (List.mem_append_right _ (List.mem_append_right _ (List.mem_append_right _ (List.mem_append_right _ (List.mem_append_right _ (List.mem_append_right _ (List.mem_append_right _ (List.mem_append_right _ (List.mem_append_right _ (List.mem_append_left _ h)))))))))))
  intro n
  induction n with
  | zero =>
    intro j h1 h2
    exact absurd h2 (by omega)
  | succ n ih =>
    intro j hj hn H locs ls hP hD hS hl
    refine lv_iload_n hx hb dX9_buildAll_162 rfl (lv_at hl 0 rfl) ?_
    refine lv_aload_n hx hb dX9_buildAll_163 rfl (lv_at hl 1 rfl) ?_
    refine va_get (D := D) (ci := 9) (v := .ref (ta 11)) (C := RX9) (T := TX9) (N := 12) hx hb hts hin_X9 hown hK hP 0 rfl rfl 11 (by decide) (hts (.fieldLink RX9 28 "ClashFree$Table" "layout" "LClashFree$Layout;") (List.mem_of_getElem? (i := 1) rfl)) (fun _ h9 => h9) rfl dX9_buildAll_164 ?_
    refine va_get (D := D) (ci := 3) (v := .int (nI nb)) (C := RX3) (T := TX3) (N := 13) hx hb hts hin_X3 hown hK hP 3 rfl rfl 0 (by decide) (hts (.fieldLink RX9 97 "ClashFree$Layout" "buckets" "I") (List.mem_of_getElem? (i := 2) rfl)) (fun _ h9 => h9) rfl dX9_buildAll_167 ?_
    refine lv_icmp_ge (tgt := 204) hx hb dX9_buildAll_170 (by decide) (fun hc1 => ?_) (fun hc1 => ?_)
    ·
      exact kx H locs ls (hP.sub [0, 1, 2, 3, 4, 5, 6] rfl) (hD.sub [0, 1, 2, 3, 4, 5, 6] (by decide) rfl) hS (lv_sub hl [1] rfl)
    ·
      have hlt : j < nb := by
        rcases Nat.lt_or_ge j nb with q | q
        · exact q
        · exact absurd (nI_le q (by omega)) hc1
      refine lv_aload_n hx hb dX9_buildAll_173 rfl (lv_at hl 1 rfl) ?_
      refine va_get (D := D) (ci := 9) (v := .ref (ta 11)) (C := RX9) (T := TX9) (N := 12) hx hb hts hin_X9 hown hK hP 0 rfl rfl 11 (by decide) (hts (.fieldLink RX9 28 "ClashFree$Table" "layout" "LClashFree$Layout;") (List.mem_of_getElem? (i := 1) rfl)) (fun _ h9 => h9) rfl dX9_buildAll_174 ?_
      refine lv_aload_n hx hb dX9_buildAll_177 rfl (lv_at hl 1 rfl) ?_
      refine va_get (D := D) (ci := 9) (v := .ref (ta 10)) (C := RX9) (T := TX9) (N := 12) hx hb hts hin_X9 hown hK hP 0 rfl rfl 10 (by decide) (hts (.fieldLink RX9 21 "ClashFree$Table" "keys" "LClashFree$Keys;") (List.mem_of_getElem? (i := 3) rfl)) (fun _ h9 => h9) rfl dX9_buildAll_178 ?_
      refine lv_aload_n hx hb dX9_buildAll_181 rfl (lv_at hl 1 rfl) ?_
      refine va_get (D := D) (ci := 9) (v := .ref (ta 9)) (C := RX9) (T := TX9) (N := 12) hx hb hts hin_X9 hown hK hP 0 rfl rfl 9 (by decide) (hts (.fieldLink RX9 12 "ClashFree$Table" "draw" "LClashFree$Draw;") (List.mem_of_getElem? (i := 4) rfl)) (fun _ h9 => h9) rfl dX9_buildAll_182 ?_
      refine lv_iload_n hx hb dX9_buildAll_185 rfl (lv_at hl 0 rfl) ?_
      refine lv_aload_n hx hb dX9_buildAll_186 rfl (lv_at hl 1 rfl) ?_
      refine va_get (D := D) (ci := 9) (v := .ref (ta 11)) (C := RX9) (T := TX9) (N := 12) hx hb hts hin_X9 hown hK hP 0 rfl rfl 11 (by decide) (hts (.fieldLink RX9 28 "ClashFree$Table" "layout" "LClashFree$Layout;") (List.mem_of_getElem? (i := 1) rfl)) (fun _ h9 => h9) rfl dX9_buildAll_187 ?_
      refine va_get (D := D) (ci := 3) (v := .ref (la 12)) (C := RX3) (T := TX3) (N := 13) hx hb hts hin_X3 hown hK hP 3 rfl rfl 12 (by decide) (hts (.fieldLink RX9 100 "ClashFree$Layout" "next" "[I") (List.mem_of_getElem? (i := 5) rfl)) (fun _ h9 => h9) rfl dX9_buildAll_190 ?_
      refine lv_iload_n hx hb dX9_buildAll_193 rfl (lv_at hl 0 rfl) ?_
      refine va_iald hx hb hK hP 6 2 rfl rfl (vp_in_nI (by omega) (by decide)) dX9_buildAll_194 ?_
      refine lv_topi (fun v2 ev2 => ?_)
      obtain rfl : v2 = 0 := ev2.trans (rfl)
      have hPc := hP.sub (ws' := [(ta 11, .inr (3, [.int (nI nb), .int da, .int db, .int 0, .int 0, .ref (la 5), .ref (la 6), .ref (la 7), .ref (la 8), .ref (la 9), .ref (la 10), .ref (la 11), .ref (la 12)])), (la 6, .inl (lc 6, 2048, .inl (fun _ => 0)))]) [3, 5] rfl
      have hKc := hK.sub (tys' := [(lc 6, .int)]) [1] rfl
      have hFc := va_free0 hS hA
      refine va_callv (va_runV (As := [.ref (ta 10), .ref (ta 9), .int (nI j), .int 0]) (rest := []) ⟨hx, hb, hml, hown, hts⟩ (c_buildBucketC l D _ (ta 11) la lc nb da db j (ta 10) (ta 9) 0 (by first | omega | assumption) (by first | omega | assumption)) (cwV 4 hts g_c_buildAllC_c_buildBucketC_104 rfl rfl rfl (by decide +kernel) ⟨(Nat.le_of_ble_eq_true rfl), (Nat.le_of_ble_eq_true rfl)⟩) (PcR_V (q0 := 0) hPc hKc rfl rfl) rfl rfl hl.1 rfl (lv_room (Nat.le_of_ble_eq_true rfl)) dX9_buildAll_195 ⟨(Nat.le_of_ble_eq_true rfl), (Nat.le_of_ble_eq_true rfl)⟩) hS (fun q _ h => hFc q h) hFc (fun uu tt H locs htt hvm hw hB hz1 hk1 hS => ?_)
      have hP := va_keep hP hk1
      try dsimp only at hw
      clear hB hz1 hk1 hFc hPc hKc
      refine lv_iinc (v := nI (j + 1)) (lv' := [(2, .int (nI (j + 1))), (0, .ref h0)]) hx hb dX9_buildAll_198 hl (k := 0) rfl (nI_1 j) (by decide) rfl (fun ls hl => ?_)
      refine lv_goto (tgt := 162) hx hb dX9_buildAll_201 (by decide) ?_
      exact ih (j + 1) (by omega) (by omega) H locs ls (hP.sub [0, 1, 2, 3, 4, 5, 6] rfl) (hD.sub [0, 1, 2, 3, 4, 5, 6] (by decide) rfl) hS (lv_sub hl [0, 1] rfl)
set_option maxHeartbeats 4000000 in
set_option maxRecDepth 100000 in
theorem c_buildAllC (l : Launch) (D : va_G) (sz : Nat) (h0 : Nat) (ta : Nat → Nat) (ka : Nat → Nat) (la : Nat → Nat) (lc : Nat → ClassId) (bn : Nat) (ns : Nat) (gr : Int32) (y4 : Int64) (hbn : bn ≤ 64) (hs1 : 25 ≤ ns) (hs2 : ns ≤ 400) : Met l yX9_buildAll wp_c_buildAllC ({ frames := 4, cells := 0, slots := 0, locals := 120 }) (PcW D [.ref h0] sz [(h0, .inr (9, [.int (nI bn), .int (nI ns), .int gr, .int 0, .int 0, .int 0, .int 0, .int 0, .int 0, .ref (ta 9), .ref (ta 10), .ref (ta 11)])), (ta 9, .inr (0, [.long y4, .int 0, .int 0, .int 0])), (ta 10, .inr (2, [.int 0, .ref (ka 1), .ref (ka 2)])), (ta 11, .inr (3, [.int 0, .int 0, .int 0, .int 0, .int 0, .ref (la 5), .ref (la 6), .ref (la 7), .ref (la 8), .ref (la 9), .ref (la 10), .ref (la 11), .ref (la 12)])), (la 5, .inl (lc 5, 2048, .inl (fun _ => 0))), (la 6, .inl (lc 6, 2048, .inl (fun _ => 0))), (la 12, .inl (lc 12, 2048, .inl (fun _ => 0)))] [(lc 5, .int), (lc 6, .int), (lc 12, .int)]) (va_Qv (fun (_ : Unit) => True) (fun (_ : Unit) _ => True) (va_A [(h0, .inr (9, [.int (nI bn), .int (nI ns), .int gr, .int 0, .int 0, .int 0, .int 0, .int 0, .int 0, .ref (ta 9), .ref (ta 10), .ref (ta 11)])), (ta 9, .inr (0, [.long y4, .int 0, .int 0, .int 0])), (ta 10, .inr (2, [.int 0, .ref (ka 1), .ref (ka 2)])), (ta 11, .inr (3, [.int 0, .int 0, .int 0, .int 0, .int 0, .ref (la 5), .ref (la 6), .ref (la 7), .ref (la 8), .ref (la 9), .ref (la 10), .ref (la 11), .ref (la 12)])), (la 5, .inl (lc 5, 2048, .inl (fun _ => 0))), (la 6, .inl (lc 6, 2048, .inl (fun _ => 0))), (la 12, .inl (lc 12, 2048, .inl (fun _ => 0)))] sz)) 0 0 (va_A [(h0, .inr (9, [.int (nI bn), .int (nI ns), .int gr, .int 0, .int 0, .int 0, .int 0, .int 0, .int 0, .ref (ta 9), .ref (ta 10), .ref (ta 11)])), (ta 9, .inr (0, [.long y4, .int 0, .int 0, .int 0])), (ta 10, .inr (2, [.int 0, .ref (ka 1), .ref (ka 2)])), (ta 11, .inr (3, [.int 0, .int 0, .int 0, .int 0, .int 0, .ref (la 5), .ref (la 6), .ref (la 7), .ref (la 8), .ref (la 9), .ref (la 10), .ref (la 11), .ref (la 12)])), (la 5, .inl (lc 5, 2048, .inl (fun _ => 0))), (la 6, .inl (lc 6, 2048, .inl (fun _ => 0))), (la 12, .inl (lc 12, 2048, .inl (fun _ => 0)))] sz) := by
  refine Met.ofW (cc := cX9_buildAll) (maxL := 4) (ret := none) (by decide) rfl ?_
  intro p e s m args below meth c s₁ B hml hv
  obtain ⟨rfl, hsz, hP, hK, hD0⟩ := hv
  have hx := B.exec
  have hb := B.bytes
  have hr := B.returns
  have hts := atoms_spec (ws := wp_c_buildAllC) B.pre
  have hin_X9 : ∀ w ∈ wsX90, w ∈ wp_c_buildAllC := fun _ h => (List.mem_cons_of_mem _ (List.mem_append_right _ (List.mem_append_right _ (List.mem_append_right _ (List.mem_append_right _ (List.mem_append_right _ (List.mem_append_right _ (List.mem_append_left _ h))))))))
  have hin_X3 : ∀ w ∈ wsX30, w ∈ wp_c_buildAllC := fun _ h => (List.mem_cons_of_mem _ (List.mem_append_right _ (List.mem_append_right _ (List.mem_append_right _ (List.mem_append_right _ (List.mem_append_right _ (List.mem_append_right _ (List.mem_append_right _ (List.mem_append_left _ h)))))))))
  have hin_X2 : ∀ w ∈ wsX20, w ∈ wp_c_buildAllC := fun _ h => (List.mem_cons_of_mem _ (List.mem_append_right _ (List.mem_append_right _ (List.mem_append_right _ (List.mem_append_right _ (List.mem_append_right _ (List.mem_append_right _ (List.mem_append_right _ (List.mem_append_right _ (List.mem_append_left _ h))))))))))
  have hin_X0 : ∀ w ∈ wsX00, w ∈ wp_c_buildAllC := fun _ h => (List.mem_cons_of_mem _ (List.mem_append_right _ (List.mem_append_right _ (List.mem_append_right _ (List.mem_append_right _ (List.mem_append_right _ (List.mem_append_right _ (List.mem_append_right _ (List.mem_append_right _ (List.mem_append_right _ (List.mem_append_left _ h)))))))))))
  have hown : s.vm.findClass RX9 = some m.cls := findClass_of_methodNamed B.named
  have hlocks := B.notSynchronized
  subst hsz
  have hD := hD0.self (sz := s.heap.size)
  generalize hAe : va_A [(h0, .inr (9, [.int (nI bn), .int (nI ns), .int gr, .int 0, .int 0, .int 0, .int 0, .int 0, .int 0, .ref (ta 9), .ref (ta 10), .ref (ta 11)])), (ta 9, .inr (0, [.long y4, .int 0, .int 0, .int 0])), (ta 10, .inr (2, [.int 0, .ref (ka 1), .ref (ka 2)])), (ta 11, .inr (3, [.int 0, .int 0, .int 0, .int 0, .int 0, .ref (la 5), .ref (la 6), .ref (la 7), .ref (la 8), .ref (la 9), .ref (la 10), .ref (la 11), .ref (la 12)])), (la 5, .inl (lc 5, 2048, .inl (fun _ => 0))), (la 6, .inl (lc 6, 2048, .inl (fun _ => 0))), (la 12, .inl (lc 12, 2048, .inl (fun _ => 0)))] s.heap.size = A at hD ⊢
  have hA : ∀ q : Nat, s.heap.size ≤ q → A q := fun q h => by rw [← hAe]; exact Or.inr h
  have hS : va_S A s.heap s.heap [] := va_S.rf
  have hP : va_P D vwCl [(h0, .inr (9, [.int (nI bn), .int (nI ns), .int gr, .int 0, .int 0, .int 0, .int 0, .int 0, .int 0, .ref (ta 9), .ref (ta 10), .ref (ta 11)])), (ta 9, .inr (0, [.long y4, .int 0, .int 0, .int 0])), (ta 10, .inr (2, [.int 0, .ref (ka 1), .ref (ka 2)])), (ta 11, .inr (3, [.int 0, .int 0, .int 0, .int 0, .int 0, .ref (la 5), .ref (la 6), .ref (la 7), .ref (la 8), .ref (la 9), .ref (la 10), .ref (la 11), .ref (la 12)])), (la 5, .inl (lc 5, 2048, .inl (fun _ => 0))), (la 6, .inl (lc 6, 2048, .inl (fun _ => 0))), (la 12, .inl (lc 12, 2048, .inl (fun _ => 0)))] s.heap := hP
  have hl := lv_entry ([.ref h0]) (n := 4) (Nat.le_of_ble_eq_true rfl)
  rw [lg_entry_eq]
  generalize (lg_sl ([.ref h0]) ++ List.replicate (4 - (lg_sl ([.ref h0])).length) Slot.unset).toArray = ls at hl ⊢
  have hl : lv_has ls 4 [(0, .ref h0)] := hl
  refine lv_aload_n hx hb dX9_buildAll_0 rfl (lv_at hl 0 rfl) ?_
  refine lv_aload_n hx hb dX9_buildAll_1 rfl (lv_at hl 0 rfl) ?_
  refine va_get (D := D) (ci := 9) (v := .ref (ta 10)) (C := RX9) (T := TX9) (N := 12) hx hb hts hin_X9 hown hK hP 0 rfl rfl 10 (by decide) (hts (.fieldLink RX9 21 "ClashFree$Table" "keys" "LClashFree$Keys;") (List.mem_of_getElem? (i := 3) rfl)) (fun _ h9 => h9) rfl dX9_buildAll_2 ?_
  refine va_get (D := D) (ci := 2) (v := .int 0) (C := RX2) (T := TX2) (N := 3) hx hb hts hin_X2 hown hK hP 2 rfl rfl 0 (by decide) (hts (.fieldLink RX9 58 "ClashFree$Keys" "size" "I") (List.mem_of_getElem? (i := 10) rfl)) (fun _ h9 => h9) rfl dX9_buildAll_5 ?_
  refine lv_aload_n hx hb dX9_buildAll_8 rfl (lv_at hl 0 rfl) ?_
  refine va_get (D := D) (ci := 9) (v := .ref (ta 10)) (C := RX9) (T := TX9) (N := 12) hx hb hts hin_X9 hown hK hP 0 rfl rfl 10 (by decide) (hts (.fieldLink RX9 21 "ClashFree$Table" "keys" "LClashFree$Keys;") (List.mem_of_getElem? (i := 3) rfl)) (fun _ h9 => h9) rfl dX9_buildAll_9 ?_
  refine va_get (D := D) (ci := 2) (v := .int 0) (C := RX2) (T := TX2) (N := 3) hx hb hts hin_X2 hown hK hP 2 rfl rfl 0 (by decide) (hts (.fieldLink RX9 58 "ClashFree$Keys" "size" "I") (List.mem_of_getElem? (i := 10) rfl)) (fun _ h9 => h9) rfl dX9_buildAll_12 ?_
  refine lv_aload_n hx hb dX9_buildAll_15 rfl (lv_at hl 0 rfl) ?_
  refine va_get (D := D) (ci := 9) (v := .int gr) (C := RX9) (T := TX9) (N := 12) hx hb hts hin_X9 hown hK hP 0 rfl rfl 2 (by decide) (hts (.fieldLink RX9 39 "ClashFree$Table" "growth" "I") (List.mem_of_getElem? (i := 11) rfl)) (fun _ h9 => h9) rfl dX9_buildAll_16 ?_
  refine lv_imul hx hb dX9_buildAll_19 ?_
  refine lv_topi (fun v1 ev1 => ?_)
  obtain rfl : v1 = 0 := ev1.trans (by simp)
  refine lv_bipush (v := 100) hx hb dX9_buildAll_20 (by decide) ?_
  refine lv_idiv hx hb dX9_buildAll_22 (by decide) ?_
  refine lv_topi (fun v2 ev2 => ?_)
  obtain rfl : v2 = 0 := ev2.trans (by decide)
  refine lv_iadd hx hb dX9_buildAll_23 ?_
  refine lv_topi (fun v3 ev3 => ?_)
  obtain rfl : v3 = 0 := ev3.trans (by decide)
  refine lv_iconst (v := 4) hx hb dX9_buildAll_24 (by decide) ?_
  refine lv_iadd hx hb dX9_buildAll_25 ?_
  refine lv_topi (fun v4 ev4 => ?_)
  obtain rfl : v4 = 4 := ev4.trans (by decide)
  refine va_put (D := D) (ci := 9) (v := .int 4) (ty := .int) (C := RX9) (T := TX9) (N := 12) hx hb hts hin_X9 tyX9 tyX9_ok nmX9 hown hK hP hD hS 0 rfl rfl 3 (by decide) (hts (.fieldLink RX9 61 "ClashFree$Table" "limit" "I") (List.mem_of_getElem? (i := 12) rfl)) (fun _ h9 => h9) rfl (by decide +kernel) rfl rfl (Nat.le_of_ble_eq_true rfl) dX9_buildAll_26 (fun H locs hP hD hS => ?_)
  have hP : va_P D vwCl [(h0, .inr (9, [.int (nI bn), .int (nI ns), .int gr, .int 4, .int 0, .int 0, .int 0, .int 0, .int 0, .ref (ta 9), .ref (ta 10), .ref (ta 11)])), (ta 9, .inr (0, [.long y4, .int 0, .int 0, .int 0])), (ta 10, .inr (2, [.int 0, .ref (ka 1), .ref (ka 2)])), (ta 11, .inr (3, [.int 0, .int 0, .int 0, .int 0, .int 0, .ref (la 5), .ref (la 6), .ref (la 7), .ref (la 8), .ref (la 9), .ref (la 10), .ref (la 11), .ref (la 12)])), (la 5, .inl (lc 5, 2048, .inl (fun _ => 0))), (la 6, .inl (lc 6, 2048, .inl (fun _ => 0))), (la 12, .inl (lc 12, 2048, .inl (fun _ => 0)))] H := hP
  have hD : va_D A [(h0, .inr (9, [.int (nI bn), .int (nI ns), .int gr, .int 4, .int 0, .int 0, .int 0, .int 0, .int 0, .ref (ta 9), .ref (ta 10), .ref (ta 11)])), (ta 9, .inr (0, [.long y4, .int 0, .int 0, .int 0])), (ta 10, .inr (2, [.int 0, .ref (ka 1), .ref (ka 2)])), (ta 11, .inr (3, [.int 0, .int 0, .int 0, .int 0, .int 0, .ref (la 5), .ref (la 6), .ref (la 7), .ref (la 8), .ref (la 9), .ref (la 10), .ref (la 11), .ref (la 12)])), (la 5, .inl (lc 5, 2048, .inl (fun _ => 0))), (la 6, .inl (lc 6, 2048, .inl (fun _ => 0))), (la 12, .inl (lc 12, 2048, .inl (fun _ => 0)))] := hD
  refine lv_aload_n hx hb dX9_buildAll_29 rfl (lv_at hl 0 rfl) ?_
  refine lv_aload_n hx hb dX9_buildAll_30 rfl (lv_at hl 0 rfl) ?_
  refine va_get (D := D) (ci := 9) (v := .ref (ta 10)) (C := RX9) (T := TX9) (N := 12) hx hb hts hin_X9 hown hK hP 0 rfl rfl 10 (by decide) (hts (.fieldLink RX9 21 "ClashFree$Table" "keys" "LClashFree$Keys;") (List.mem_of_getElem? (i := 3) rfl)) (fun _ h9 => h9) rfl dX9_buildAll_31 ?_
  refine va_get (D := D) (ci := 2) (v := .int 0) (C := RX2) (T := TX2) (N := 3) hx hb hts hin_X2 hown hK hP 2 rfl rfl 0 (by decide) (hts (.fieldLink RX9 58 "ClashFree$Keys" "size" "I") (List.mem_of_getElem? (i := 10) rfl)) (fun _ h9 => h9) rfl dX9_buildAll_34 ?_
  refine va_put (D := D) (ci := 9) (v := .int 0) (ty := .int) (C := RX9) (T := TX9) (N := 12) hx hb hts hin_X9 tyX9 tyX9_ok nmX9 hown hK hP hD hS 0 rfl rfl 4 (by decide) (hts (.fieldLink RX9 64 "ClashFree$Table" "count" "I") (List.mem_of_getElem? (i := 13) rfl)) (fun _ h9 => h9) rfl (by decide +kernel) rfl rfl (Nat.le_of_ble_eq_true rfl) dX9_buildAll_37 (fun H locs hP hD hS => ?_)
  have hP : va_P D vwCl [(h0, .inr (9, [.int (nI bn), .int (nI ns), .int gr, .int 4, .int 0, .int 0, .int 0, .int 0, .int 0, .ref (ta 9), .ref (ta 10), .ref (ta 11)])), (ta 9, .inr (0, [.long y4, .int 0, .int 0, .int 0])), (ta 10, .inr (2, [.int 0, .ref (ka 1), .ref (ka 2)])), (ta 11, .inr (3, [.int 0, .int 0, .int 0, .int 0, .int 0, .ref (la 5), .ref (la 6), .ref (la 7), .ref (la 8), .ref (la 9), .ref (la 10), .ref (la 11), .ref (la 12)])), (la 5, .inl (lc 5, 2048, .inl (fun _ => 0))), (la 6, .inl (lc 6, 2048, .inl (fun _ => 0))), (la 12, .inl (lc 12, 2048, .inl (fun _ => 0)))] H := hP
  have hD : va_D A [(h0, .inr (9, [.int (nI bn), .int (nI ns), .int gr, .int 4, .int 0, .int 0, .int 0, .int 0, .int 0, .ref (ta 9), .ref (ta 10), .ref (ta 11)])), (ta 9, .inr (0, [.long y4, .int 0, .int 0, .int 0])), (ta 10, .inr (2, [.int 0, .ref (ka 1), .ref (ka 2)])), (ta 11, .inr (3, [.int 0, .int 0, .int 0, .int 0, .int 0, .ref (la 5), .ref (la 6), .ref (la 7), .ref (la 8), .ref (la 9), .ref (la 10), .ref (la 11), .ref (la 12)])), (la 5, .inl (lc 5, 2048, .inl (fun _ => 0))), (la 6, .inl (lc 6, 2048, .inl (fun _ => 0))), (la 12, .inl (lc 12, 2048, .inl (fun _ => 0)))] := hD
  refine lv_aload_n hx hb dX9_buildAll_40 rfl (lv_at hl 0 rfl) ?_
  refine lv_dup hx hb dX9_buildAll_41 rfl ?_
  refine va_get (D := D) (ci := 9) (v := .int 0) (C := RX9) (T := TX9) (N := 12) hx hb hts hin_X9 hown hK hP 0 rfl rfl 8 (by decide) (hts (.fieldLink RX9 51 "ClashFree$Table" "laid" "I") (List.mem_of_getElem? (i := 14) rfl)) (fun _ h9 => h9) rfl dX9_buildAll_42 ?_
  refine lv_aload_n hx hb dX9_buildAll_45 rfl (lv_at hl 0 rfl) ?_
  refine va_get (D := D) (ci := 9) (v := .ref (ta 10)) (C := RX9) (T := TX9) (N := 12) hx hb hts hin_X9 hown hK hP 0 rfl rfl 10 (by decide) (hts (.fieldLink RX9 21 "ClashFree$Table" "keys" "LClashFree$Keys;") (List.mem_of_getElem? (i := 3) rfl)) (fun _ h9 => h9) rfl dX9_buildAll_46 ?_
  refine va_get (D := D) (ci := 2) (v := .int 0) (C := RX2) (T := TX2) (N := 3) hx hb hts hin_X2 hown hK hP 2 rfl rfl 0 (by decide) (hts (.fieldLink RX9 58 "ClashFree$Keys" "size" "I") (List.mem_of_getElem? (i := 10) rfl)) (fun _ h9 => h9) rfl dX9_buildAll_49 ?_
  refine lv_iadd hx hb dX9_buildAll_52 ?_
  refine lv_topi (fun v5 ev5 => ?_)
  obtain rfl : v5 = 0 := ev5.trans (by decide)
  refine va_put (D := D) (ci := 9) (v := .int 0) (ty := .int) (C := RX9) (T := TX9) (N := 12) hx hb hts hin_X9 tyX9 tyX9_ok nmX9 hown hK hP hD hS 0 rfl rfl 8 (by decide) (hts (.fieldLink RX9 51 "ClashFree$Table" "laid" "I") (List.mem_of_getElem? (i := 14) rfl)) (fun _ h9 => h9) rfl (by decide +kernel) rfl rfl (Nat.le_of_ble_eq_true rfl) dX9_buildAll_53 (fun H locs hP hD hS => ?_)
  have hP : va_P D vwCl [(h0, .inr (9, [.int (nI bn), .int (nI ns), .int gr, .int 4, .int 0, .int 0, .int 0, .int 0, .int 0, .ref (ta 9), .ref (ta 10), .ref (ta 11)])), (ta 9, .inr (0, [.long y4, .int 0, .int 0, .int 0])), (ta 10, .inr (2, [.int 0, .ref (ka 1), .ref (ka 2)])), (ta 11, .inr (3, [.int 0, .int 0, .int 0, .int 0, .int 0, .ref (la 5), .ref (la 6), .ref (la 7), .ref (la 8), .ref (la 9), .ref (la 10), .ref (la 11), .ref (la 12)])), (la 5, .inl (lc 5, 2048, .inl (fun _ => 0))), (la 6, .inl (lc 6, 2048, .inl (fun _ => 0))), (la 12, .inl (lc 12, 2048, .inl (fun _ => 0)))] H := hP
  have hD : va_D A [(h0, .inr (9, [.int (nI bn), .int (nI ns), .int gr, .int 4, .int 0, .int 0, .int 0, .int 0, .int 0, .ref (ta 9), .ref (ta 10), .ref (ta 11)])), (ta 9, .inr (0, [.long y4, .int 0, .int 0, .int 0])), (ta 10, .inr (2, [.int 0, .ref (ka 1), .ref (ka 2)])), (ta 11, .inr (3, [.int 0, .int 0, .int 0, .int 0, .int 0, .ref (la 5), .ref (la 6), .ref (la 7), .ref (la 8), .ref (la 9), .ref (la 10), .ref (la 11), .ref (la 12)])), (la 5, .inl (lc 5, 2048, .inl (fun _ => 0))), (la 6, .inl (lc 6, 2048, .inl (fun _ => 0))), (la 12, .inl (lc 12, 2048, .inl (fun _ => 0)))] := hD
  refine lv_iconst (v := 1) hx hb dX9_buildAll_56 (by decide) ?_
  refine lv_aload_n hx hb dX9_buildAll_57 rfl (lv_at hl 0 rfl) ?_
  refine va_get (D := D) (ci := 9) (v := .int (nI ns)) (C := RX9) (T := TX9) (N := 12) hx hb hts hin_X9 hown hK hP 0 rfl rfl 1 (by decide) (hts (.fieldLink RX9 36 "ClashFree$Table" "spread" "I") (List.mem_of_getElem? (i := 15) rfl)) (fun _ h9 => h9) rfl dX9_buildAll_58 ?_
  refine lv_aload_n hx hb dX9_buildAll_61 rfl (lv_at hl 0 rfl) ?_
  refine va_get (D := D) (ci := 9) (v := .int 4) (C := RX9) (T := TX9) (N := 12) hx hb hts hin_X9 hown hK hP 0 rfl rfl 3 (by decide) (hts (.fieldLink RX9 61 "ClashFree$Table" "limit" "I") (List.mem_of_getElem? (i := 12) rfl)) (fun _ h9 => h9) rfl dX9_buildAll_62 ?_
  refine lv_imul hx hb dX9_buildAll_65 ?_
  refine lv_bipush (v := 100) hx hb dX9_buildAll_66 (by decide) ?_
  refine lv_idiv hx hb dX9_buildAll_68 (by decide) ?_
  refine lv_topi (fun v6 ev6 => ?_)
  obtain rfl : v6 = nI (ns * 4 / 100) := ev6.trans (sp4 ns hs2)
  refine va_mmax hx hb (hml.trans hl.1.symm) hown (hts (.methodLink RX9 67 Lib.Math.max.name) (List.mem_of_getElem? (i := 16) rfl)) (hts (.static Lib.Math.max.name) (List.mem_of_getElem? (i := 17) rfl)) (hts (.initialized "java/lang/Math") (List.mem_of_getElem? (i := 18) rfl)) (hts (.code Lib.Math.max.name Lib.Math.max.code 2 (some .int)) (List.mem_of_getElem? (i := 19) rfl)) (Nat.le_of_ble_eq_true rfl) (Nat.le_of_ble_eq_true rfl) (Nat.le_of_ble_eq_true rfl) (Nat.le_of_ble_eq_true rfl) dX9_buildAll_69 ?_
  refine lv_topi (fun v7 ev7 => ?_)
  obtain rfl : v7 = nI (ns * 4 / 100) := ev7.trans (mx1 (by omega) (by omega))
  refine lv_istore_n (lv' := [(1, .int (nI (ns * 4 / 100))), (0, .ref h0)]) hx hb dX9_buildAll_72 rfl hl (by decide) rfl (fun ls hl => ?_)
  refine lv_iconst (v := 1) hx hb dX9_buildAll_73 (by decide) ?_
  refine lv_istore_n (lv' := [(2, .int 1), (1, .int (nI (ns * 4 / 100))), (0, .ref h0)]) hx hb dX9_buildAll_74 rfl hl (by decide) rfl (fun ls hl => ?_)
  refine lv_iload_n hx hb dX9_buildAll_75 rfl (lv_at hl 0 rfl) ?_
  refine lv_sipush (v := 400) hx hb dX9_buildAll_76 (by decide) ?_
  refine lv_icmp_gt (tgt := 152) hx hb dX9_buildAll_79 (by decide) (fun hc => absurd hc (by decide)) (fun hc => ?_)
  refine lv_aload_n hx hb dX9_buildAll_82 rfl (lv_at hl 2 rfl) ?_
  refine va_get (D := D) (ci := 9) (v := .ref (ta 9)) (C := RX9) (T := TX9) (N := 12) hx hb hts hin_X9 hown hK hP 0 rfl rfl 9 (by decide) (hts (.fieldLink RX9 12 "ClashFree$Table" "draw" "LClashFree$Draw;") (List.mem_of_getElem? (i := 4) rfl)) (fun _ h9 => h9) rfl dX9_buildAll_83 ?_
  have hPc := hP.sub (ws' := [(ta 9, .inr (0, [.long y4, .int 0, .int 0, .int 0]))]) [1] rfl
  have hKc := hK.sub (tys' := []) [] rfl
  have hDc := hD.sub (ws' := [(ta 9, .inr (0, [.long y4, .int 0, .int 0, .int 0]))]) [1] (by decide) rfl
  have hFc := va_free (wc := [(ta 9, .inr (0, [.long y4, .int 0, .int 0, .int 0]))]) hD hS hA [1] rfl
  refine va_callv (va_runV (As := []) (rest := []) ⟨hx, hb, hml, hown, hts⟩ (c_X0_pair l D _ (ta 9) y4 0 0 0) (cwV 0 hts g_c_buildAllC_c_X0_pair_73 rfl rfl rfl (by decide +kernel) ⟨(Nat.le_of_ble_eq_true rfl), (Nat.le_of_ble_eq_true rfl)⟩) (PcW_V (q0 := 0) hPc hKc hDc rfl rfl) rfl rfl hl.1 rfl (lv_room (Nat.le_of_ble_eq_true rfl)) dX9_buildAll_86 ⟨(Nat.le_of_ble_eq_true rfl), (Nat.le_of_ble_eq_true rfl)⟩) hS (fun q _ h => hFc q h) hFc (fun uu tt H locs htt hvm hw hB hz1 hk1 hS => ?_)
  obtain ⟨ds9, da10, db11, dn12⟩ := uu
  obtain ⟨hP1, hK1, hD1⟩ := hB
  rw [htt] at hP1
  have hK1 := va_K.moved hvm.symm hK1
  have hP1 : va_P D vwCl [(ta 9, .inr (0, [.long ds9, .int da10, .int db11, .int dn12]))] H := hP1
  obtain ⟨hP, hD⟩ := va_join (wr := [(h0, .inr (9, [.int (nI bn), .int (nI ns), .int gr, .int 4, .int 0, .int 0, .int 0, .int 0, .int 0, .ref (ta 9), .ref (ta 10), .ref (ta 11)])), (ta 10, .inr (2, [.int 0, .ref (ka 1), .ref (ka 2)])), (ta 11, .inr (3, [.int 0, .int 0, .int 0, .int 0, .int 0, .ref (la 5), .ref (la 6), .ref (la 7), .ref (la 8), .ref (la 9), .ref (la 10), .ref (la 11), .ref (la 12)])), (la 5, .inl (lc 5, 2048, .inl (fun _ => 0))), (la 6, .inl (lc 6, 2048, .inl (fun _ => 0))), (la 12, .inl (lc 12, 2048, .inl (fun _ => 0)))]) (w1 := [(ta 9, .inr (0, [.long ds9, .int da10, .int db11, .int dn12]))]) hP hD [1] [0, 2, 3, 4, 5, 6] rfl rfl (by decide) (by decide) hk1 hFc hP1 hD1
  have hP : va_P D vwCl [(h0, .inr (9, [.int (nI bn), .int (nI ns), .int gr, .int 4, .int 0, .int 0, .int 0, .int 0, .int 0, .ref (ta 9), .ref (ta 10), .ref (ta 11)])), (ta 10, .inr (2, [.int 0, .ref (ka 1), .ref (ka 2)])), (ta 11, .inr (3, [.int 0, .int 0, .int 0, .int 0, .int 0, .ref (la 5), .ref (la 6), .ref (la 7), .ref (la 8), .ref (la 9), .ref (la 10), .ref (la 11), .ref (la 12)])), (la 5, .inl (lc 5, 2048, .inl (fun _ => 0))), (la 6, .inl (lc 6, 2048, .inl (fun _ => 0))), (la 12, .inl (lc 12, 2048, .inl (fun _ => 0))), (ta 9, .inr (0, [.long ds9, .int da10, .int db11, .int dn12]))] H := hP
  have hD : va_D A [(h0, .inr (9, [.int (nI bn), .int (nI ns), .int gr, .int 4, .int 0, .int 0, .int 0, .int 0, .int 0, .ref (ta 9), .ref (ta 10), .ref (ta 11)])), (ta 10, .inr (2, [.int 0, .ref (ka 1), .ref (ka 2)])), (ta 11, .inr (3, [.int 0, .int 0, .int 0, .int 0, .int 0, .ref (la 5), .ref (la 6), .ref (la 7), .ref (la 8), .ref (la 9), .ref (la 10), .ref (la 11), .ref (la 12)])), (la 5, .inl (lc 5, 2048, .inl (fun _ => 0))), (la 6, .inl (lc 6, 2048, .inl (fun _ => 0))), (la 12, .inl (lc 12, 2048, .inl (fun _ => 0))), (ta 9, .inr (0, [.long ds9, .int da10, .int db11, .int dn12]))] := hD
  try dsimp only at hw
  clear hz1 hk1 hFc hPc hKc hDc
  refine lv_aload_n hx hb dX9_buildAll_89 rfl (lv_at hl 2 rfl) ?_
  refine va_get (D := D) (ci := 9) (v := .ref (ta 11)) (C := RX9) (T := TX9) (N := 12) hx hb hts hin_X9 hown hK hP 0 rfl rfl 11 (by decide) (hts (.fieldLink RX9 28 "ClashFree$Table" "layout" "LClashFree$Layout;") (List.mem_of_getElem? (i := 1) rfl)) (fun _ h9 => h9) rfl dX9_buildAll_90 ?_
  refine lv_aload_n hx hb dX9_buildAll_93 rfl (lv_at hl 2 rfl) ?_
  refine va_get (D := D) (ci := 9) (v := .ref (ta 10)) (C := RX9) (T := TX9) (N := 12) hx hb hts hin_X9 hown hK hP 0 rfl rfl 10 (by decide) (hts (.fieldLink RX9 21 "ClashFree$Table" "keys" "LClashFree$Keys;") (List.mem_of_getElem? (i := 3) rfl)) (fun _ h9 => h9) rfl dX9_buildAll_94 ?_
  refine lv_aload_n hx hb dX9_buildAll_97 rfl (lv_at hl 2 rfl) ?_
  refine va_get (D := D) (ci := 9) (v := .ref (ta 9)) (C := RX9) (T := TX9) (N := 12) hx hb hts hin_X9 hown hK hP 0 rfl rfl 9 (by decide) (hts (.fieldLink RX9 12 "ClashFree$Table" "draw" "LClashFree$Draw;") (List.mem_of_getElem? (i := 4) rfl)) (fun _ h9 => h9) rfl dX9_buildAll_98 ?_
  refine va_get (D := D) (ci := 0) (v := .int da10) (C := RX0) (T := TX0) (N := 4) hx hb hts hin_X0 hown hK hP 6 rfl rfl 1 (by decide) (hts (.fieldLink RX9 76 "ClashFree$Draw" "a" "I") (List.mem_of_getElem? (i := 24) rfl)) (fun _ h9 => h9) rfl dX9_buildAll_101 ?_
  refine lv_aload_n hx hb dX9_buildAll_104 rfl (lv_at hl 2 rfl) ?_
  refine va_get (D := D) (ci := 9) (v := .ref (ta 9)) (C := RX9) (T := TX9) (N := 12) hx hb hts hin_X9 hown hK hP 0 rfl rfl 9 (by decide) (hts (.fieldLink RX9 12 "ClashFree$Table" "draw" "LClashFree$Draw;") (List.mem_of_getElem? (i := 4) rfl)) (fun _ h9 => h9) rfl dX9_buildAll_105 ?_
  refine va_get (D := D) (ci := 0) (v := .int db11) (C := RX0) (T := TX0) (N := 4) hx hb hts hin_X0 hown hK hP 6 rfl rfl 2 (by decide) (hts (.fieldLink RX9 79 "ClashFree$Draw" "b" "I") (List.mem_of_getElem? (i := 25) rfl)) (fun _ h9 => h9) rfl dX9_buildAll_108 ?_
  refine lv_iload_n hx hb dX9_buildAll_111 rfl (lv_at hl 1 rfl) ?_
  have hPc := hP.sub (ws' := [(ta 11, .inr (3, [.int 0, .int 0, .int 0, .int 0, .int 0, .ref (la 5), .ref (la 6), .ref (la 7), .ref (la 8), .ref (la 9), .ref (la 10), .ref (la 11), .ref (la 12)])), (ta 10, .inr (2, [.int 0, .ref (ka 1), .ref (ka 2)]))]) [2, 1] rfl
  have hKc := hK.sub (tys' := []) [] rfl
  have hDc := hD.sub (ws' := [(ta 11, .inr (3, [.int 0, .int 0, .int 0, .int 0, .int 0, .ref (la 5), .ref (la 6), .ref (la 7), .ref (la 8), .ref (la 9), .ref (la 10), .ref (la 11), .ref (la 12)])), (ta 10, .inr (2, [.int 0, .ref (ka 1), .ref (ka 2)]))]) [2, 1] (by decide) rfl
  have hFc := va_free (wc := [(ta 11, .inr (3, [.int 0, .int 0, .int 0, .int 0, .int 0, .ref (la 5), .ref (la 6), .ref (la 7), .ref (la 8), .ref (la 9), .ref (la 10), .ref (la 11), .ref (la 12)])), (ta 10, .inr (2, [.int 0, .ref (ka 1), .ref (ka 2)]))]) hD hS hA [2, 1] rfl
  refine va_calli (va_runV (As := [.ref (ta 10), .int da10, .int db11, .int (nI (ns * 4 / 100))]) (rest := []) ⟨hx, hb, hml, hown, hts⟩ (c_deal l D _ (ta 11) la (ta 10) ka da10 db11 (ns * 4 / 100) (by omega) (by omega)) (cwV 4 hts g_c_buildAllC_c_deal_82 rfl rfl rfl (by decide +kernel) ⟨(Nat.le_of_ble_eq_true rfl), (Nat.le_of_ble_eq_true rfl)⟩) (PcW_V (q0 := 0) hPc hKc hDc rfl rfl) rfl rfl hl.1 rfl (lv_room (Nat.le_of_ble_eq_true rfl)) dX9_buildAll_112 ⟨(Nat.le_of_ble_eq_true rfl), (Nat.le_of_ble_eq_true rfl)⟩) hS (fun q _ h => hFc q h) hFc (fun r13 uu tt H locs htt hvm hw hB hz1 hk1 hS => ?_)
  have hu := uu
  obtain ⟨hP1, hK1, hD1⟩ := hB
  rw [htt] at hP1
  have hK1 := va_K.moved hvm.symm hK1
  have hP1 : va_P D vwCl [(ta 11, .inr (3, [.int (nI (ns * 4 / 100)), .int da10, .int db11, .int 0, .int 0, .ref (la 5), .ref (la 6), .ref (la 7), .ref (la 8), .ref (la 9), .ref (la 10), .ref (la 11), .ref (la 12)])), (ta 10, .inr (2, [.int 0, .ref (ka 1), .ref (ka 2)]))] H := hP1
  obtain ⟨hP, hD⟩ := va_join (wr := [(h0, .inr (9, [.int (nI bn), .int (nI ns), .int gr, .int 4, .int 0, .int 0, .int 0, .int 0, .int 0, .ref (ta 9), .ref (ta 10), .ref (ta 11)])), (la 5, .inl (lc 5, 2048, .inl (fun _ => 0))), (la 6, .inl (lc 6, 2048, .inl (fun _ => 0))), (la 12, .inl (lc 12, 2048, .inl (fun _ => 0))), (ta 9, .inr (0, [.long ds9, .int da10, .int db11, .int dn12]))]) (w1 := [(ta 11, .inr (3, [.int (nI (ns * 4 / 100)), .int da10, .int db11, .int 0, .int 0, .ref (la 5), .ref (la 6), .ref (la 7), .ref (la 8), .ref (la 9), .ref (la 10), .ref (la 11), .ref (la 12)])), (ta 10, .inr (2, [.int 0, .ref (ka 1), .ref (ka 2)]))]) hP hD [2, 1] [0, 3, 4, 5, 6] rfl rfl (by decide) (by decide) hk1 hFc hP1 hD1
  have hP : va_P D vwCl [(h0, .inr (9, [.int (nI bn), .int (nI ns), .int gr, .int 4, .int 0, .int 0, .int 0, .int 0, .int 0, .ref (ta 9), .ref (ta 10), .ref (ta 11)])), (la 5, .inl (lc 5, 2048, .inl (fun _ => 0))), (la 6, .inl (lc 6, 2048, .inl (fun _ => 0))), (la 12, .inl (lc 12, 2048, .inl (fun _ => 0))), (ta 9, .inr (0, [.long ds9, .int da10, .int db11, .int dn12])), (ta 11, .inr (3, [.int (nI (ns * 4 / 100)), .int da10, .int db11, .int 0, .int 0, .ref (la 5), .ref (la 6), .ref (la 7), .ref (la 8), .ref (la 9), .ref (la 10), .ref (la 11), .ref (la 12)])), (ta 10, .inr (2, [.int 0, .ref (ka 1), .ref (ka 2)]))] H := hP
  have hD : va_D A [(h0, .inr (9, [.int (nI bn), .int (nI ns), .int gr, .int 4, .int 0, .int 0, .int 0, .int 0, .int 0, .ref (ta 9), .ref (ta 10), .ref (ta 11)])), (la 5, .inl (lc 5, 2048, .inl (fun _ => 0))), (la 6, .inl (lc 6, 2048, .inl (fun _ => 0))), (la 12, .inl (lc 12, 2048, .inl (fun _ => 0))), (ta 9, .inr (0, [.long ds9, .int da10, .int db11, .int dn12])), (ta 11, .inr (3, [.int (nI (ns * 4 / 100)), .int da10, .int db11, .int 0, .int 0, .ref (la 5), .ref (la 6), .ref (la 7), .ref (la 8), .ref (la 9), .ref (la 10), .ref (la 11), .ref (la 12)])), (ta 10, .inr (2, [.int 0, .ref (ka 1), .ref (ka 2)]))] := hD
  try dsimp only at hw
  clear hz1 hk1 hFc hPc hKc hDc
  obtain rfl : r13 = 0 := hw
  refine lv_istore_n (lv' := [(3, .int 0), (2, .int 1), (1, .int (nI (ns * 4 / 100))), (0, .ref h0)]) hx hb dX9_buildAll_115 rfl hl (by decide) rfl (fun ls hl => ?_)
  refine lv_iconst (v := 4) hx hb dX9_buildAll_116 (by decide) ?_
  refine lv_iload_n hx hb dX9_buildAll_117 rfl (lv_at hl 0 rfl) ?_
  refine lv_imul hx hb dX9_buildAll_118 ?_
  refine lv_topi (fun v14 ev14 => ?_)
  obtain rfl : v14 = 0 := ev14.trans (by decide)
  refine lv_aload_n hx hb dX9_buildAll_119 rfl (lv_at hl 3 rfl) ?_
  have hPc := hP.sub (ws' := [(h0, .inr (9, [.int (nI bn), .int (nI ns), .int gr, .int 4, .int 0, .int 0, .int 0, .int 0, .int 0, .ref (ta 9), .ref (ta 10), .ref (ta 11)]))]) [0] rfl
  have hKc := hK.sub (tys' := []) [] rfl
  have hFc := va_free0 hS hA
  refine va_calli (va_runV (As := []) (rest := [.int 0]) ⟨hx, hb, hml, hown, hts⟩ (c_mostRooms l D _ h0 ta bn ns gr) (cwV 0 hts g_c_buildAllC_c_mostRooms_86 rfl rfl rfl (by decide +kernel) ⟨(Nat.le_of_ble_eq_true rfl), (Nat.le_of_ble_eq_true rfl)⟩) (PcR_V (q0 := 0) hPc hKc rfl rfl) rfl rfl hl.1 rfl (lv_room (Nat.le_of_ble_eq_true rfl)) dX9_buildAll_120 ⟨(Nat.le_of_ble_eq_true rfl), (Nat.le_of_ble_eq_true rfl)⟩) hS (fun q _ h => hFc q h) hFc (fun r15 uu tt H locs htt hvm hw hB hz1 hk1 hS => ?_)
  have hP := va_keep hP hk1
  try dsimp only at hw
  clear hB hz1 hk1 hFc hPc hKc
  obtain rfl : r15 = nI (bn * 4) := hw
  refine lv_icmp_gt (tgt := 129) hx hb dX9_buildAll_123 (by decide) (fun hc => absurd hc (nI_nlt (a := bn * 4) (b := 0) (Nat.zero_le _) (by omega))) (fun hc => ?_)
  refine lv_goto (tgt := 152) hx hb dX9_buildAll_126 (by decide) ?_
  refine lv_aload_n hx hb dX9_buildAll_152 rfl (lv_at hl 3 rfl) ?_
  refine va_get (D := D) (ci := 9) (v := .ref (ta 11)) (C := RX9) (T := TX9) (N := 12) hx hb hts hin_X9 hown hK hP 0 rfl rfl 11 (by decide) (hts (.fieldLink RX9 28 "ClashFree$Table" "layout" "LClashFree$Layout;") (List.mem_of_getElem? (i := 1) rfl)) (fun _ h9 => h9) rfl dX9_buildAll_153 ?_
  refine lv_iconst (v := 2) hx hb dX9_buildAll_156 (by decide) ?_
  have hPc := hP.sub (ws' := [(ta 11, .inr (3, [.int (nI (ns * 4 / 100)), .int da10, .int db11, .int 0, .int 0, .ref (la 5), .ref (la 6), .ref (la 7), .ref (la 8), .ref (la 9), .ref (la 10), .ref (la 11), .ref (la 12)])), (la 5, .inl (lc 5, 2048, .inl (fun _ => 0))), (la 6, .inl (lc 6, 2048, .inl (fun _ => 0))), (la 12, .inl (lc 12, 2048, .inl (fun _ => 0)))]) [5, 1, 2, 3] rfl
  have hKc := hK.sub (tys' := [(lc 5, .int), (lc 6, .int), (lc 12, .int)]) [0, 1, 2] rfl
  have hDc := hD.sub (ws' := [(ta 11, .inr (3, [.int (nI (ns * 4 / 100)), .int da10, .int db11, .int 0, .int 0, .ref (la 5), .ref (la 6), .ref (la 7), .ref (la 8), .ref (la 9), .ref (la 10), .ref (la 11), .ref (la 12)])), (la 5, .inl (lc 5, 2048, .inl (fun _ => 0))), (la 6, .inl (lc 6, 2048, .inl (fun _ => 0))), (la 12, .inl (lc 12, 2048, .inl (fun _ => 0)))]) [5, 1, 2, 3] (by decide) rfl
  have hFc := va_free (wc := [(ta 11, .inr (3, [.int (nI (ns * 4 / 100)), .int da10, .int db11, .int 0, .int 0, .ref (la 5), .ref (la 6), .ref (la 7), .ref (la 8), .ref (la 9), .ref (la 10), .ref (la 11), .ref (la 12)])), (la 5, .inl (lc 5, 2048, .inl (fun _ => 0))), (la 6, .inl (lc 6, 2048, .inl (fun _ => 0))), (la 12, .inl (lc 12, 2048, .inl (fun _ => 0)))]) hD hS hA [5, 1, 2, 3] rfl
  refine va_callv (va_runV (As := [.int 2]) (rest := []) ⟨hx, hb, hml, hown, hts⟩ (c_settle l D _ (ta 11) la lc (ns * 4 / 100) da10 db11 (by omega)) (cwV 1 hts g_c_buildAllC_c_settle_93 rfl rfl rfl (by decide +kernel) ⟨(Nat.le_of_ble_eq_true rfl), (Nat.le_of_ble_eq_true rfl)⟩) (PcW_V (q0 := 0) hPc hKc hDc rfl rfl) rfl rfl hl.1 rfl (lv_room (Nat.le_of_ble_eq_true rfl)) dX9_buildAll_157 ⟨(Nat.le_of_ble_eq_true rfl), (Nat.le_of_ble_eq_true rfl)⟩) hS (fun q _ h => hFc q h) hFc (fun uu tt H locs htt hvm hw hB hz1 hk1 hS => ?_)
  have hu := uu
  obtain ⟨hP1, hK1, hD1⟩ := hB
  rw [htt] at hP1
  have hK1 := va_K.moved hvm.symm hK1
  have hP1 : va_P D vwCl [(ta 11, .inr (3, [.int (nI (ns * 4 / 100)), .int da10, .int db11, .int 0, .int 0, .ref (la 5), .ref (la 6), .ref (la 7), .ref (la 8), .ref (la 9), .ref (la 10), .ref (la 11), .ref (la 12)])), (la 5, .inl (lc 5, 2048, .inl (fun _ => 0))), (la 6, .inl (lc 6, 2048, .inl (fun _ => 0))), (la 12, .inl (lc 12, 2048, .inl (fun _ => 0)))] H := hP1
  obtain ⟨hP, hD⟩ := va_join (wr := [(h0, .inr (9, [.int (nI bn), .int (nI ns), .int gr, .int 4, .int 0, .int 0, .int 0, .int 0, .int 0, .ref (ta 9), .ref (ta 10), .ref (ta 11)])), (ta 9, .inr (0, [.long ds9, .int da10, .int db11, .int dn12])), (ta 10, .inr (2, [.int 0, .ref (ka 1), .ref (ka 2)]))]) (w1 := [(ta 11, .inr (3, [.int (nI (ns * 4 / 100)), .int da10, .int db11, .int 0, .int 0, .ref (la 5), .ref (la 6), .ref (la 7), .ref (la 8), .ref (la 9), .ref (la 10), .ref (la 11), .ref (la 12)])), (la 5, .inl (lc 5, 2048, .inl (fun _ => 0))), (la 6, .inl (lc 6, 2048, .inl (fun _ => 0))), (la 12, .inl (lc 12, 2048, .inl (fun _ => 0)))]) hP hD [5, 1, 2, 3] [0, 4, 6] rfl rfl (by decide) (by decide) hk1 hFc hP1 hD1
  have hP : va_P D vwCl [(h0, .inr (9, [.int (nI bn), .int (nI ns), .int gr, .int 4, .int 0, .int 0, .int 0, .int 0, .int 0, .ref (ta 9), .ref (ta 10), .ref (ta 11)])), (ta 9, .inr (0, [.long ds9, .int da10, .int db11, .int dn12])), (ta 10, .inr (2, [.int 0, .ref (ka 1), .ref (ka 2)])), (ta 11, .inr (3, [.int (nI (ns * 4 / 100)), .int da10, .int db11, .int 0, .int 0, .ref (la 5), .ref (la 6), .ref (la 7), .ref (la 8), .ref (la 9), .ref (la 10), .ref (la 11), .ref (la 12)])), (la 5, .inl (lc 5, 2048, .inl (fun _ => 0))), (la 6, .inl (lc 6, 2048, .inl (fun _ => 0))), (la 12, .inl (lc 12, 2048, .inl (fun _ => 0)))] H := hP
  have hD : va_D A [(h0, .inr (9, [.int (nI bn), .int (nI ns), .int gr, .int 4, .int 0, .int 0, .int 0, .int 0, .int 0, .ref (ta 9), .ref (ta 10), .ref (ta 11)])), (ta 9, .inr (0, [.long ds9, .int da10, .int db11, .int dn12])), (ta 10, .inr (2, [.int 0, .ref (ka 1), .ref (ka 2)])), (ta 11, .inr (3, [.int (nI (ns * 4 / 100)), .int da10, .int db11, .int 0, .int 0, .ref (la 5), .ref (la 6), .ref (la 7), .ref (la 8), .ref (la 9), .ref (la 10), .ref (la 11), .ref (la 12)])), (la 5, .inl (lc 5, 2048, .inl (fun _ => 0))), (la 6, .inl (lc 6, 2048, .inl (fun _ => 0))), (la 12, .inl (lc 12, 2048, .inl (fun _ => 0)))] := hD
  try dsimp only at hw
  clear hz1 hk1 hFc hPc hKc hDc
  refine lv_iconst (v := 0) hx hb dX9_buildAll_160 (by decide) ?_
  refine lv_istore_n (lv' := [(2, .int 0), (3, .int 0), (1, .int (nI (ns * 4 / 100))), (0, .ref h0)]) hx hb dX9_buildAll_161 rfl hl (by decide) rfl (fun ls hl => ?_)
  refine lp_bAllC l D h0 ta ka la lc bn ns gr ds9 da10 db11 dn12 (ns * 4 / 100) (by omega) hx hb hml hown hts hA (hK.sub [0, 1, 2] rfl) (fun H locs ls hP hD hS hl => ?_) ((ns * 4 / 100) + 1) 0 (by omega) (by omega) _ _ _ (hP.sub [0, 1, 2, 3, 4, 5, 6] rfl) (hD.sub [0, 1, 2, 3, 4, 5, 6] (by decide) rfl) hS (lv_sub hl [0, 3] rfl)
  have hP : va_P D vwCl [(h0, .inr (9, [.int (nI bn), .int (nI ns), .int gr, .int 4, .int 0, .int 0, .int 0, .int 0, .int 0, .ref (ta 9), .ref (ta 10), .ref (ta 11)])), (ta 9, .inr (0, [.long ds9, .int da10, .int db11, .int dn12])), (ta 10, .inr (2, [.int 0, .ref (ka 1), .ref (ka 2)])), (ta 11, .inr (3, [.int (nI (ns * 4 / 100)), .int da10, .int db11, .int 0, .int 0, .ref (la 5), .ref (la 6), .ref (la 7), .ref (la 8), .ref (la 9), .ref (la 10), .ref (la 11), .ref (la 12)])), (la 5, .inl (lc 5, 2048, .inl (fun _ => 0))), (la 6, .inl (lc 6, 2048, .inl (fun _ => 0))), (la 12, .inl (lc 12, 2048, .inl (fun _ => 0)))] H := hP
  have hD : va_D A [(h0, .inr (9, [.int (nI bn), .int (nI ns), .int gr, .int 4, .int 0, .int 0, .int 0, .int 0, .int 0, .ref (ta 9), .ref (ta 10), .ref (ta 11)])), (ta 9, .inr (0, [.long ds9, .int da10, .int db11, .int dn12])), (ta 10, .inr (2, [.int 0, .ref (ka 1), .ref (ka 2)])), (ta 11, .inr (3, [.int (nI (ns * 4 / 100)), .int da10, .int db11, .int 0, .int 0, .ref (la 5), .ref (la 6), .ref (la 7), .ref (la 8), .ref (la 9), .ref (la 10), .ref (la 11), .ref (la 12)])), (la 5, .inl (lc 5, 2048, .inl (fun _ => 0))), (la 6, .inl (lc 6, 2048, .inl (fun _ => 0))), (la 12, .inl (lc 12, 2048, .inl (fun _ => 0)))] := hD
  exact W.vret hx hb hr (fun t ht hW => ⟨⟨(), rfl, trivial, trivial⟩, hS.F ht⟩) hS.2.2 dX9_buildAll_204

def own_c_areSettings : List Cond := []
def wp_c_areSettings : List Cond := .code yX10_areSettings cX10_areSettings 3 (some .boolean) :: (own_c_areSettings ++ ([] : List Cond))
set_option maxRecDepth 20000 in
theorem inown_c_areSettings : ∀ w ∈ own_c_areSettings, w ∈ lw_tbl := mem_places [] (by decide +kernel)
set_option maxRecDepth 20000 in
theorem in_c_areSettings : ∀ w ∈ wp_c_areSettings, w ∈ lw_tbl := List.forall_mem_cons.mpr ⟨List.mem_of_getElem? (i := 454) (by decide +kernel), List.forall_mem_append.mpr ⟨inown_c_areSettings, fun _ h => absurd h List.not_mem_nil⟩⟩
set_option maxRecDepth 20000 in
theorem good_c_areSettings : wp_c_areSettings.all goodWord = true := by decide +kernel
set_option maxHeartbeats 4000000 in
set_option maxRecDepth 100000 in
theorem c_areSettings (l : Launch) (D : va_G) (sz : Nat) (z1 : Int32) (z2 : Int32) (z3 : Int32)  : Met l yX10_areSettings wp_c_areSettings ({ frames := 0, cells := 0, slots := 0, locals := 0 }) (PcR D [.int z1, .int z2, .int z3] sz [] []) (va_Qi (fun (r : Int32) (_ : Unit) => r = if okT z1 z2 z3 then 1 else 0) (fun (_ : Unit) _ => True) (va_A [] sz)) 0 0 (va_A [] sz) := by
  refine Met.ofW (cc := cX10_areSettings) (maxL := 3) (ret := (some .boolean)) (by decide) rfl ?_
  intro p e s m args below meth c s₁ B hml hv
  obtain ⟨rfl, hsz, hP, hK⟩ := hv
  have hx := B.exec
  have hb := B.bytes
  have hr := B.returns
  have hts := atoms_spec (ws := wp_c_areSettings) B.pre
  have hown : s.vm.findClass RX10 = some m.cls := findClass_of_methodNamed B.named
  have hlocks := B.notSynchronized
  subst hsz
  generalize hAe : va_A [] s.heap.size = A at ⊢
  have hA : ∀ q : Nat, s.heap.size ≤ q → A q := fun q h => by rw [← hAe]; exact Or.inr h
  have hS : va_S A s.heap s.heap [] := va_S.rf
  have hP : va_P D vwCl [] s.heap := hP
  have hl := lv_entry ([.int z1, .int z2, .int z3]) (n := 3) (Nat.le_of_ble_eq_true rfl)
  rw [lg_entry_eq]
  generalize (lg_sl ([.int z1, .int z2, .int z3]) ++ List.replicate (3 - (lg_sl ([.int z1, .int z2, .int z3])).length) Slot.unset).toArray = ls at hl ⊢
  have hl : lv_has ls 3 [(0, .int z1), (1, .int z2), (2, .int z3)] := hl
  refine lv_iload_n hx hb dX10_areSettings_0 rfl (lv_at hl 0 rfl) ?_
  refine lv_bipush (v := 8) hx hb dX10_areSettings_1 (by decide) ?_
  refine lv_icmp_lt (tgt := 40) hx hb dX10_areSettings_3 (by decide) (fun hc1 => ?_) (fun hc1 => ?_)
  ·
    refine lv_iconst (v := 0) hx hb dX10_areSettings_40 (by decide) ?_
    exact W.zret (v := 0) hx hb hr rfl (fun t ht hW => ⟨⟨0, (), rfl, (if_neg (fun q => absurd q.1 (Int32.not_le.mpr hc1))).symm, trivial⟩, hS.F ht⟩) hS.2.2 dX10_areSettings_41
  ·
    refine lv_iload_n hx hb dX10_areSettings_6 rfl (lv_at hl 0 rfl) ?_
    refine lv_bipush (v := 64) hx hb dX10_areSettings_7 (by decide) ?_
    refine lv_icmp_gt (tgt := 40) hx hb dX10_areSettings_9 (by decide) (fun hc2 => ?_) (fun hc2 => ?_)
    ·
      refine lv_iconst (v := 0) hx hb dX10_areSettings_40 (by decide) ?_
      exact W.zret (v := 0) hx hb hr rfl (fun t ht hW => ⟨⟨0, (), rfl, (if_neg (fun q => absurd q.2.1 (Int32.not_le.mpr hc2))).symm, trivial⟩, hS.F ht⟩) hS.2.2 dX10_areSettings_41
    ·
      refine lv_iload_n hx hb dX10_areSettings_12 rfl (lv_at hl 1 rfl) ?_
      refine lv_bipush (v := 25) hx hb dX10_areSettings_13 (by decide) ?_
      refine lv_icmp_lt (tgt := 40) hx hb dX10_areSettings_15 (by decide) (fun hc3 => ?_) (fun hc3 => ?_)
      ·
        refine lv_iconst (v := 0) hx hb dX10_areSettings_40 (by decide) ?_
        exact W.zret (v := 0) hx hb hr rfl (fun t ht hW => ⟨⟨0, (), rfl, (if_neg (fun q => absurd q.2.2.1 (Int32.not_le.mpr hc3))).symm, trivial⟩, hS.F ht⟩) hS.2.2 dX10_areSettings_41
      ·
        refine lv_iload_n hx hb dX10_areSettings_18 rfl (lv_at hl 1 rfl) ?_
        refine lv_sipush (v := 400) hx hb dX10_areSettings_19 (by decide) ?_
        refine lv_icmp_gt (tgt := 40) hx hb dX10_areSettings_22 (by decide) (fun hc4 => ?_) (fun hc4 => ?_)
        ·
          refine lv_iconst (v := 0) hx hb dX10_areSettings_40 (by decide) ?_
          exact W.zret (v := 0) hx hb hr rfl (fun t ht hW => ⟨⟨0, (), rfl, (if_neg (fun q => absurd q.2.2.2.1 (Int32.not_le.mpr hc4))).symm, trivial⟩, hS.F ht⟩) hS.2.2 dX10_areSettings_41
        ·
          refine lv_iload_n hx hb dX10_areSettings_25 rfl (lv_at hl 2 rfl) ?_
          refine lv_if_lt (tgt := 40) hx hb dX10_areSettings_26 (by decide) (fun hc5 => ?_) (fun hc5 => ?_)
          ·
            refine lv_iconst (v := 0) hx hb dX10_areSettings_40 (by decide) ?_
            exact W.zret (v := 0) hx hb hr rfl (fun t ht hW => ⟨⟨0, (), rfl, (if_neg (fun q => absurd q.2.2.2.2.1 (Int32.not_le.mpr hc5))).symm, trivial⟩, hS.F ht⟩) hS.2.2 dX10_areSettings_41
          ·
            refine lv_iload_n hx hb dX10_areSettings_29 rfl (lv_at hl 2 rfl) ?_
            refine lv_sipush (v := 200) hx hb dX10_areSettings_30 (by decide) ?_
            refine lv_icmp_gt (tgt := 40) hx hb dX10_areSettings_33 (by decide) (fun hc6 => ?_) (fun hc6 => ?_)
            ·
              refine lv_iconst (v := 0) hx hb dX10_areSettings_40 (by decide) ?_
              exact W.zret (v := 0) hx hb hr rfl (fun t ht hW => ⟨⟨0, (), rfl, (if_neg (fun q => absurd q.2.2.2.2.2 (Int32.not_le.mpr hc6))).symm, trivial⟩, hS.F ht⟩) hS.2.2 dX10_areSettings_41
            ·
              refine lv_iconst (v := 1) hx hb dX10_areSettings_36 (by decide) ?_
              refine lv_goto (tgt := 41) hx hb dX10_areSettings_37 (by decide) ?_
              exact W.zret (v := 1) hx hb hr rfl (fun t ht hW => ⟨⟨1, (), rfl, (if_pos ⟨Int32.not_lt.mp hc1, Int32.not_lt.mp hc2, Int32.not_lt.mp hc3, Int32.not_lt.mp hc4, Int32.not_lt.mp hc5, Int32.not_lt.mp hc6⟩).symm, trivial⟩, hS.F ht⟩) hS.2.2 dX10_areSettings_41

def own_c_X10_make : List Cond := [.methodLink RX10 55 yX10_isTableNumber, .static yX10_isTableNumber, .initialized RX10, .methodLink RX10 59 yX10_areSettings, .static yX10_areSettings, .methodLink RX10 63 yX10_slot, .instanceMethod yX10_slot, .selects RX10 yX10_slot yX10_slot, .methodLink RX10 67 yX9_begin, .instanceMethod yX9_begin, .selects RX9 yX9_begin yX9_begin, .initialized RX9, .methodLink RX10 71 yX9_buildAll, .instanceMethod yX9_buildAll, .selects RX9 yX9_buildAll yX9_buildAll]
def wp_c_X10_make : List Cond := .code yX10_make cX10_make 8 (some .int) :: (own_c_X10_make ++ (wp_c_isTN ++ (wp_c_areSettings ++ (wp_c_slot ++ (wp_c_X9_begin ++ (wp_c_buildAllC ++ ([] : List Cond)))))))
set_option maxRecDepth 20000 in
theorem inown_c_X10_make : ∀ w ∈ own_c_X10_make, w ∈ lw_tbl := mem_places [449, 450, 106, 452, 453, 455, 457, 0, 548, 549, 550, 116, 556, 557, 558] (by decide +kernel)
set_option maxRecDepth 20000 in
theorem in_c_X10_make : ∀ w ∈ wp_c_X10_make, w ∈ lw_tbl := List.forall_mem_cons.mpr ⟨List.mem_of_getElem? (i := 448) (by decide +kernel), List.forall_mem_append.mpr ⟨inown_c_X10_make, List.forall_mem_append.mpr ⟨in_c_isTN, List.forall_mem_append.mpr ⟨in_c_areSettings, List.forall_mem_append.mpr ⟨in_c_slot, List.forall_mem_append.mpr ⟨in_c_X9_begin, List.forall_mem_append.mpr ⟨in_c_buildAllC, fun _ h => absurd h List.not_mem_nil⟩⟩⟩⟩⟩⟩⟩
set_option maxRecDepth 20000 in
theorem good_c_X10_make : wp_c_X10_make.all goodWord = true := by decide +kernel
set_option maxRecDepth 20000 in
theorem g_c_X10_make_c_isTN_55 : GoodIn wp_c_X10_make (va_wsS RX10 55 yX10_isTableNumber wp_c_isTN) := goodIn_sub (List.forall_mem_append.mpr ⟨List.forall_mem_cons.mpr ⟨(List.mem_of_getElem? (i := 1) rfl), List.forall_mem_cons.mpr ⟨(List.mem_of_getElem? (i := 2) rfl), List.forall_mem_cons.mpr ⟨(List.mem_of_getElem? (i := 3) rfl), fun _ h => absurd h List.not_mem_nil⟩⟩⟩, (fun _ h => (List.mem_cons_of_mem _ (List.mem_append_right _ (List.mem_append_left _ h))))⟩) (by decide +kernel)
set_option maxRecDepth 20000 in
theorem g_c_X10_make_c_areSettings_59 : GoodIn wp_c_X10_make (va_wsS RX10 59 yX10_areSettings wp_c_areSettings) := goodIn_sub (List.forall_mem_append.mpr ⟨List.forall_mem_cons.mpr ⟨(List.mem_of_getElem? (i := 4) rfl), List.forall_mem_cons.mpr ⟨(List.mem_of_getElem? (i := 5) rfl), List.forall_mem_cons.mpr ⟨(List.mem_of_getElem? (i := 3) rfl), fun _ h => absurd h List.not_mem_nil⟩⟩⟩, (fun _ h => (List.mem_cons_of_mem _ (List.mem_append_right _ (List.mem_append_right _ (List.mem_append_left _ h)))))⟩) (by decide +kernel)
set_option maxRecDepth 20000 in
theorem g_c_X10_make_c_slot_63 : GoodIn wp_c_X10_make (wsV RX10 63 RX10 yX10_slot wp_c_slot) := goodIn_sub (List.forall_mem_append.mpr ⟨List.forall_mem_cons.mpr ⟨(List.mem_of_getElem? (i := 6) rfl), List.forall_mem_cons.mpr ⟨(List.mem_of_getElem? (i := 7) rfl), List.forall_mem_cons.mpr ⟨(List.mem_of_getElem? (i := 8) rfl), List.forall_mem_cons.mpr ⟨(List.mem_of_getElem? (i := 3) rfl), fun _ h => absurd h List.not_mem_nil⟩⟩⟩⟩, (fun _ h => (List.mem_cons_of_mem _ (List.mem_append_right _ (List.mem_append_right _ (List.mem_append_right _ (List.mem_append_left _ h))))))⟩) (by decide +kernel)
set_option maxRecDepth 20000 in
theorem g_c_X10_make_c_X9_begin_67 : GoodIn wp_c_X10_make (wsV RX10 67 RX9 yX9_begin wp_c_X9_begin) := goodIn_sub (List.forall_mem_append.mpr ⟨List.forall_mem_cons.mpr ⟨(List.mem_of_getElem? (i := 9) rfl), List.forall_mem_cons.mpr ⟨(List.mem_of_getElem? (i := 10) rfl), List.forall_mem_cons.mpr ⟨(List.mem_of_getElem? (i := 11) rfl), List.forall_mem_cons.mpr ⟨(List.mem_of_getElem? (i := 12) rfl), fun _ h => absurd h List.not_mem_nil⟩⟩⟩⟩, (fun _ h => (List.mem_cons_of_mem _ (List.mem_append_right _ (List.mem_append_right _ (List.mem_append_right _ (List.mem_append_right _ (List.mem_append_left _ h)))))))⟩) (by decide +kernel)
set_option maxRecDepth 20000 in
theorem g_c_X10_make_c_buildAllC_71 : GoodIn wp_c_X10_make (wsV RX10 71 RX9 yX9_buildAll wp_c_buildAllC) := goodIn_sub (List.forall_mem_append.mpr ⟨List.forall_mem_cons.mpr ⟨(List.mem_of_getElem? (i := 13) rfl), List.forall_mem_cons.mpr ⟨(List.mem_of_getElem? (i := 14) rfl), List.forall_mem_cons.mpr ⟨(List.mem_of_getElem? (i := 15) rfl), List.forall_mem_cons.mpr ⟨(List.mem_of_getElem? (i := 12) rfl), fun _ h => absurd h List.not_mem_nil⟩⟩⟩⟩, (fun _ h => (List.mem_cons_of_mem _ (List.mem_append_right _ (List.mem_append_right _ (List.mem_append_right _ (List.mem_append_right _ (List.mem_append_right _ (List.mem_append_left _ h))))))))⟩) (by decide +kernel)
set_option maxHeartbeats 4000000 in
set_option maxRecDepth 100000 in
theorem c_X10_make (l : Launch) (D : va_G) (sz : Nat) (h0 : Nat) (ca : Nat → Nat) (cT : ClassId) (tp : Int32) (z1 : Int32) (z2 : Int32) (z3 : Int32) (z4 : Int32) (y5 : Int64)  : Met l yX10_make wp_c_X10_make ({ frames := 5, cells := 14, slots := 11072, locals := 143 }) (PcWN D [.ref h0, .int z1, .int z2, .int z3, .int z4, .long y5] sz [(h0, .inr (10, [.ref (ca 0), .ref (ca 1), .int tp, .ref (ca 3), .ref (ca 4), .ref (ca 5), .ref (ca 6)])), (ca 0, .inl (cT, 4, .inr (.inr (.inr (.inr (fun _ => none))))))] [(cT, .object RX9)]) (va_Qi (fun (r : Int32) (_ : Unit) => r = mkF z1 z2 z3 z4) (fun (_ : Unit) _ => True) (va_A [(h0, .inr (10, [.ref (ca 0), .ref (ca 1), .int tp, .ref (ca 3), .ref (ca 4), .ref (ca 5), .ref (ca 6)])), (ca 0, .inl (cT, 4, .inr (.inr (.inr (.inr (fun _ => none))))))] sz)) 14 11072 (va_A [(h0, .inr (10, [.ref (ca 0), .ref (ca 1), .int tp, .ref (ca 3), .ref (ca 4), .ref (ca 5), .ref (ca 6)])), (ca 0, .inl (cT, 4, .inr (.inr (.inr (.inr (fun _ => none))))))] sz) := by
  refine Met.ofW (cc := cX10_make) (maxL := 8) (ret := (some .int)) (by decide) rfl ?_
  intro p e s m args below meth c s₁ B hml hv
  obtain ⟨rfl, hsz, hP, hK, hD0, hN⟩ := hv
  have hx := B.exec
  have hb := B.bytes
  have hr := B.returns
  have hts := atoms_spec (ws := wp_c_X10_make) B.pre
  have hown : s.vm.findClass RX10 = some m.cls := findClass_of_methodNamed B.named
  have hlocks := B.notSynchronized
  subst hsz
  have hD := hD0.self (sz := s.heap.size)
  generalize hAe : va_A [(h0, .inr (10, [.ref (ca 0), .ref (ca 1), .int tp, .ref (ca 3), .ref (ca 4), .ref (ca 5), .ref (ca 6)])), (ca 0, .inl (cT, 4, .inr (.inr (.inr (.inr (fun _ => none))))))] s.heap.size = A at hD ⊢
  have hA : ∀ q : Nat, s.heap.size ≤ q → A q := fun q h => by rw [← hAe]; exact Or.inr h
  have hS : va_S A s.heap s.heap [] := va_S.rf
  have hP : va_P D vwCl [(h0, .inr (10, [.ref (ca 0), .ref (ca 1), .int tp, .ref (ca 3), .ref (ca 4), .ref (ca 5), .ref (ca 6)])), (ca 0, .inl (cT, 4, .inr (.inr (.inr (.inr (fun _ => none))))))] s.heap := hP
  have hl := lv_entry ([.ref h0, .int z1, .int z2, .int z3, .int z4, .long y5]) (n := 8) (Nat.le_of_ble_eq_true rfl)
  rw [lg_entry_eq]
  generalize (lg_sl ([.ref h0, .int z1, .int z2, .int z3, .int z4, .long y5]) ++ List.replicate (8 - (lg_sl ([.ref h0, .int z1, .int z2, .int z3, .int z4, .long y5])).length) Slot.unset).toArray = ls at hl ⊢
  have hl : lv_has ls 8 [(0, .ref h0), (1, .int z1), (2, .int z2), (3, .int z3), (4, .int z4), (5, .long y5)] := hl
  refine lv_iload_n hx hb dX10_make_0 rfl (lv_at hl 1 rfl) ?_
  have hPc := hP.sub (ws' := []) [] rfl
  have hKc := hK.sub (tys' := []) [] rfl
  have hFc := va_free0 hS hA
  refine va_calli (va_runS (As := [.int z1]) (rest := []) ⟨hx, hb, hml, hown, hts⟩ (c_isTN l D _ z1) (va_cwS 1 hts g_c_X10_make_c_isTN_55 rfl rfl rfl (by decide +kernel) ⟨(Nat.le_of_ble_eq_true rfl), (Nat.le_of_ble_eq_true rfl)⟩) (PcR_S hPc hKc) rfl rfl hl.1 rfl (lv_room (Nat.le_of_ble_eq_true rfl)) dX10_make_1 ⟨(Nat.le_of_ble_eq_true rfl), (Nat.le_of_ble_eq_true rfl)⟩) hS (fun q _ h => hFc q h) hFc (fun r1 uu tt H locs htt hvm hw hB hz1 hk1 hS => ?_)
  have hP := va_keep hP hk1
  try dsimp only at hw
  clear hB hz1 hk1 hFc hPc hKc
  have hw_r1 := hw
  refine lv_if_eq (tgt := 17) hx hb dX10_make_4 (by decide) (fun hc2 => ?_) (fun hc2 => ?_)
  ·
    have hno := mkF_a (s := z3) (t := z1) (b := z2) (g := z4) (ifF (by rw [← hw_r1]; exact hc2))
    refine lv_bipush (v := (-2)) hx hb dX10_make_17 (by decide) ?_
    refine W.widen (k := 14) (n := 11072) (Nat.le_of_ble_eq_true rfl) (Nat.le_of_ble_eq_true rfl) ?_
    exact W.iret (v := (-2)) hx hb hr (fun t ht hW => ⟨⟨(-2), (), rfl, hno.symm, trivial⟩, hS.F ht⟩) hS.2.2 dX10_make_19
  ·
    have hg0 := ifT (by rw [← hw_r1]; exact hc2)
    refine lv_iload_n hx hb dX10_make_7 rfl (lv_at hl 2 rfl) ?_
    refine lv_iload_n hx hb dX10_make_8 rfl (lv_at hl 3 rfl) ?_
    refine lv_iload hx hb dX10_make_9 (lv_at hl 4 rfl) ?_
    have hPc := hP.sub (ws' := []) [] rfl
    have hKc := hK.sub (tys' := []) [] rfl
    have hFc := va_free0 hS hA
    refine va_calli (va_runS (As := [.int z2, .int z3, .int z4]) (rest := []) ⟨hx, hb, hml, hown, hts⟩ (c_areSettings l D _ z2 z3 z4) (va_cwS 3 hts g_c_X10_make_c_areSettings_59 rfl rfl rfl (by decide +kernel) ⟨(Nat.le_of_ble_eq_true rfl), (Nat.le_of_ble_eq_true rfl)⟩) (PcR_S hPc hKc) rfl rfl hl.1 rfl (lv_room (Nat.le_of_ble_eq_true rfl)) dX10_make_11 ⟨(Nat.le_of_ble_eq_true rfl), (Nat.le_of_ble_eq_true rfl)⟩) hS (fun q _ h => hFc q h) hFc (fun r3 uu tt H locs htt hvm hw hB hz1 hk1 hS => ?_)
    have hP := va_keep hP hk1
    try dsimp only at hw
    clear hB hz1 hk1 hFc hPc hKc
    have hw_r3 := hw
    refine lv_if_ne (tgt := 20) hx hb dX10_make_14 (by decide) (fun hc4 => ?_) (fun hc4 => ?_)
    ·
      have hg1 := ifT (by rw [← hw_r3]; exact hc4)
      have hok := mkF_1 (b := z2) (s := z3) (g := z4) hg0 ⟨hg1.1, hg1.2.1⟩ ⟨hg1.2.2.1, hg1.2.2.2.1⟩ ⟨hg1.2.2.2.2.1, hg1.2.2.2.2.2⟩
      obtain ⟨k, hk, rfl⟩ := in04 hg0
      obtain ⟨bn, hbn, rfl, -⟩ := inI (n := 64) (by decide) (by decide) hg1.1 hg1.2.1
      obtain ⟨ns, hs2, rfl, hs1⟩ := inI (n := 400) (by decide) (by decide) hg1.2.2.1 hg1.2.2.2.1
      have hs1 : 25 ≤ ns := by
        have e25 : (25 : Int32).toInt = 25 := by decide
        omega
      refine lv_aload_n hx hb dX10_make_20 rfl (lv_at hl 0 rfl) ?_
      refine lv_iload_n hx hb dX10_make_21 rfl (lv_at hl 1 rfl) ?_
      have hPc := hP.sub (ws' := [(h0, .inr (10, [.ref (ca 0), .ref (ca 1), .int tp, .ref (ca 3), .ref (ca 4), .ref (ca 5), .ref (ca 6)])), (ca 0, .inl (cT, 4, .inr (.inr (.inr (.inr (fun _ => none))))))]) [0, 1] rfl
      have hKc := hK.sub (tys' := [(cT, .object RX9)]) [0] rfl
      have hDc := hD.sub (ws' := [(h0, .inr (10, [.ref (ca 0), .ref (ca 1), .int tp, .ref (ca 3), .ref (ca 4), .ref (ca 5), .ref (ca 6)])), (ca 0, .inl (cT, 4, .inr (.inr (.inr (.inr (fun _ => none))))))]) [0, 1] (by decide) rfl
      have hFc := va_free (wc := [(h0, .inr (10, [.ref (ca 0), .ref (ca 1), .int tp, .ref (ca 3), .ref (ca 4), .ref (ca 5), .ref (ca 6)])), (ca 0, .inl (cT, 4, .inr (.inr (.inr (.inr (fun _ => none))))))]) hD hS hA [0, 1] rfl
      refine va_callr (va_runV (As := [.int (nI k)]) (rest := []) ⟨hx, hb, hml, hown, hts⟩ (c_slot l D _ h0 ca cT tp k (by first | omega | assumption)) (cwV 1 hts g_c_X10_make_c_slot_63 rfl rfl rfl (by decide +kernel) ⟨(Nat.le_of_ble_eq_true rfl), (Nat.le_of_ble_eq_true rfl)⟩) (PcWN_V (q0 := 0) hPc hKc hDc hN rfl rfl) rfl rfl hl.1 rfl (lv_room (Nat.le_of_ble_eq_true rfl)) dX10_make_22 ⟨(Nat.le_of_ble_eq_true rfl), (Nat.le_of_ble_eq_true rfl)⟩) hS (fun q _ h => hFc q h) hFc (fun uu r5 tt H locs htt hvm hw hB hz1 hk1 hS => ?_)
      obtain ⟨ta6, ka7, la8, lc9⟩ := uu
      obtain ⟨hP1, hK1, hD1⟩ := hB
      rw [htt] at hP1
      have hK1 := va_K.moved hvm.symm hK1
      have hP1 : va_P D vwCl [(r5, .inr (9, [.int 0, .int 0, .int 0, .int 0, .int 0, .int 0, .int 0, .int 0, .int 0, .ref (ta6 9), .ref (ta6 10), .ref (ta6 11)])), (ta6 9, .inr (0, [.long 0, .int 0, .int 0, .int 0])), (ta6 10, .inr (2, [.int 0, .ref (ka7 1), .ref (ka7 2)])), (ta6 11, .inr (3, [.int 0, .int 0, .int 0, .int 0, .int 0, .ref (la8 5), .ref (la8 6), .ref (la8 7), .ref (la8 8), .ref (la8 9), .ref (la8 10), .ref (la8 11), .ref (la8 12)])), (la8 5, .inl (lc9 5, 2048, .inl (fun _ => 0))), (la8 6, .inl (lc9 6, 2048, .inl (fun _ => 0))), (la8 12, .inl (lc9 12, 2048, .inl (fun _ => 0)))] H := hP1
      obtain ⟨hP, hD⟩ := va_join (wr := []) (w1 := [(r5, .inr (9, [.int 0, .int 0, .int 0, .int 0, .int 0, .int 0, .int 0, .int 0, .int 0, .ref (ta6 9), .ref (ta6 10), .ref (ta6 11)])), (ta6 9, .inr (0, [.long 0, .int 0, .int 0, .int 0])), (ta6 10, .inr (2, [.int 0, .ref (ka7 1), .ref (ka7 2)])), (ta6 11, .inr (3, [.int 0, .int 0, .int 0, .int 0, .int 0, .ref (la8 5), .ref (la8 6), .ref (la8 7), .ref (la8 8), .ref (la8 9), .ref (la8 10), .ref (la8 11), .ref (la8 12)])), (la8 5, .inl (lc9 5, 2048, .inl (fun _ => 0))), (la8 6, .inl (lc9 6, 2048, .inl (fun _ => 0))), (la8 12, .inl (lc9 12, 2048, .inl (fun _ => 0)))]) hP hD [0, 1] [] rfl rfl (by decide) (by decide) hk1 hFc hP1 hD1
      have hK : va_K D vwCl [(cT, .object RX9), (lc9 5, .int), (lc9 6, .int), (lc9 12, .int)] s := hK.app (hK1.sub (tys' := [(lc9 5, .int), (lc9 6, .int), (lc9 12, .int)]) [0, 1, 2] rfl)
      have hP : va_P D vwCl [(r5, .inr (9, [.int 0, .int 0, .int 0, .int 0, .int 0, .int 0, .int 0, .int 0, .int 0, .ref (ta6 9), .ref (ta6 10), .ref (ta6 11)])), (ta6 9, .inr (0, [.long 0, .int 0, .int 0, .int 0])), (ta6 10, .inr (2, [.int 0, .ref (ka7 1), .ref (ka7 2)])), (ta6 11, .inr (3, [.int 0, .int 0, .int 0, .int 0, .int 0, .ref (la8 5), .ref (la8 6), .ref (la8 7), .ref (la8 8), .ref (la8 9), .ref (la8 10), .ref (la8 11), .ref (la8 12)])), (la8 5, .inl (lc9 5, 2048, .inl (fun _ => 0))), (la8 6, .inl (lc9 6, 2048, .inl (fun _ => 0))), (la8 12, .inl (lc9 12, 2048, .inl (fun _ => 0)))] H := hP
      have hD : va_D A [(r5, .inr (9, [.int 0, .int 0, .int 0, .int 0, .int 0, .int 0, .int 0, .int 0, .int 0, .ref (ta6 9), .ref (ta6 10), .ref (ta6 11)])), (ta6 9, .inr (0, [.long 0, .int 0, .int 0, .int 0])), (ta6 10, .inr (2, [.int 0, .ref (ka7 1), .ref (ka7 2)])), (ta6 11, .inr (3, [.int 0, .int 0, .int 0, .int 0, .int 0, .ref (la8 5), .ref (la8 6), .ref (la8 7), .ref (la8 8), .ref (la8 9), .ref (la8 10), .ref (la8 11), .ref (la8 12)])), (la8 5, .inl (lc9 5, 2048, .inl (fun _ => 0))), (la8 6, .inl (lc9 6, 2048, .inl (fun _ => 0))), (la8 12, .inl (lc9 12, 2048, .inl (fun _ => 0)))] := hD
      refine W.widen (k := 14) (n := 11072) (Nat.le_of_ble_eq_true rfl) (Nat.le_of_ble_eq_true rfl) ?_
      try dsimp only at hw
      clear hz1 hk1 hFc hPc hKc hDc
      refine lv_astore (lv' := [(7, .ref r5), (0, .ref h0), (1, .int (nI k)), (2, .int (nI bn)), (3, .int (nI ns)), (4, .int z4), (5, .long y5)]) hx hb dX10_make_25 hl (by decide) rfl (fun ls hl => ?_)
      refine lv_aload hx hb dX10_make_27 (lv_at hl 0 rfl) ?_
      refine lv_iload_n hx hb dX10_make_29 rfl (lv_at hl 3 rfl) ?_
      refine lv_iload_n hx hb dX10_make_30 rfl (lv_at hl 4 rfl) ?_
      refine lv_iload hx hb dX10_make_31 (lv_at hl 5 rfl) ?_
      refine lv_lload hx hb dX10_make_33 (lv_at hl 6 rfl) ?_
      have hPc := hP.sub (ws' := [(r5, .inr (9, [.int 0, .int 0, .int 0, .int 0, .int 0, .int 0, .int 0, .int 0, .int 0, .ref (ta6 9), .ref (ta6 10), .ref (ta6 11)])), (ta6 9, .inr (0, [.long 0, .int 0, .int 0, .int 0])), (ta6 10, .inr (2, [.int 0, .ref (ka7 1), .ref (ka7 2)]))]) [0, 1, 2] rfl
      have hKc := hK.sub (tys' := []) [] rfl
      have hDc := hD.sub (ws' := [(r5, .inr (9, [.int 0, .int 0, .int 0, .int 0, .int 0, .int 0, .int 0, .int 0, .int 0, .ref (ta6 9), .ref (ta6 10), .ref (ta6 11)])), (ta6 9, .inr (0, [.long 0, .int 0, .int 0, .int 0])), (ta6 10, .inr (2, [.int 0, .ref (ka7 1), .ref (ka7 2)]))]) [0, 1, 2] (by decide) rfl
      have hFc := va_free (wc := [(r5, .inr (9, [.int 0, .int 0, .int 0, .int 0, .int 0, .int 0, .int 0, .int 0, .int 0, .ref (ta6 9), .ref (ta6 10), .ref (ta6 11)])), (ta6 9, .inr (0, [.long 0, .int 0, .int 0, .int 0])), (ta6 10, .inr (2, [.int 0, .ref (ka7 1), .ref (ka7 2)]))]) hD hS hA [0, 1, 2] rfl
      refine va_callv (va_runV (As := [.int (nI bn), .int (nI ns), .int z4, .long y5]) (rest := []) ⟨hx, hb, hml, hown, hts⟩ (c_X9_begin l D _ r5 ta6 ka7 (nI bn) (nI ns) z4 y5) (cwV 4 hts g_c_X10_make_c_X9_begin_67 rfl rfl rfl (by decide +kernel) ⟨(Nat.le_of_ble_eq_true rfl), (Nat.le_of_ble_eq_true rfl)⟩) (PcW_V (q0 := 0) hPc hKc hDc rfl rfl) rfl rfl hl.1 rfl (lv_room (Nat.le_of_ble_eq_true rfl)) dX10_make_35 ⟨(Nat.le_of_ble_eq_true rfl), (Nat.le_of_ble_eq_true rfl)⟩) hS (fun q _ h => hFc q h) hFc (fun uu tt H locs htt hvm hw hB hz1 hk1 hS => ?_)
      have hu := uu
      obtain ⟨hP1, hK1, hD1⟩ := hB
      rw [htt] at hP1
      have hK1 := va_K.moved hvm.symm hK1
      have hP1 : va_P D vwCl [(r5, .inr (9, [.int (nI bn), .int (nI ns), .int z4, .int 0, .int 0, .int 0, .int 0, .int 0, .int 0, .ref (ta6 9), .ref (ta6 10), .ref (ta6 11)])), (ta6 9, .inr (0, [.long y5, .int 0, .int 0, .int 0])), (ta6 10, .inr (2, [.int 0, .ref (ka7 1), .ref (ka7 2)]))] H := hP1
      obtain ⟨hP, hD⟩ := va_join (wr := [(ta6 11, .inr (3, [.int 0, .int 0, .int 0, .int 0, .int 0, .ref (la8 5), .ref (la8 6), .ref (la8 7), .ref (la8 8), .ref (la8 9), .ref (la8 10), .ref (la8 11), .ref (la8 12)])), (la8 5, .inl (lc9 5, 2048, .inl (fun _ => 0))), (la8 6, .inl (lc9 6, 2048, .inl (fun _ => 0))), (la8 12, .inl (lc9 12, 2048, .inl (fun _ => 0)))]) (w1 := [(r5, .inr (9, [.int (nI bn), .int (nI ns), .int z4, .int 0, .int 0, .int 0, .int 0, .int 0, .int 0, .ref (ta6 9), .ref (ta6 10), .ref (ta6 11)])), (ta6 9, .inr (0, [.long y5, .int 0, .int 0, .int 0])), (ta6 10, .inr (2, [.int 0, .ref (ka7 1), .ref (ka7 2)]))]) hP hD [0, 1, 2] [3, 4, 5, 6] rfl rfl (by decide) (by decide) hk1 hFc hP1 hD1
      have hP : va_P D vwCl [(ta6 11, .inr (3, [.int 0, .int 0, .int 0, .int 0, .int 0, .ref (la8 5), .ref (la8 6), .ref (la8 7), .ref (la8 8), .ref (la8 9), .ref (la8 10), .ref (la8 11), .ref (la8 12)])), (la8 5, .inl (lc9 5, 2048, .inl (fun _ => 0))), (la8 6, .inl (lc9 6, 2048, .inl (fun _ => 0))), (la8 12, .inl (lc9 12, 2048, .inl (fun _ => 0))), (r5, .inr (9, [.int (nI bn), .int (nI ns), .int z4, .int 0, .int 0, .int 0, .int 0, .int 0, .int 0, .ref (ta6 9), .ref (ta6 10), .ref (ta6 11)])), (ta6 9, .inr (0, [.long y5, .int 0, .int 0, .int 0])), (ta6 10, .inr (2, [.int 0, .ref (ka7 1), .ref (ka7 2)]))] H := hP
      have hD : va_D A [(ta6 11, .inr (3, [.int 0, .int 0, .int 0, .int 0, .int 0, .ref (la8 5), .ref (la8 6), .ref (la8 7), .ref (la8 8), .ref (la8 9), .ref (la8 10), .ref (la8 11), .ref (la8 12)])), (la8 5, .inl (lc9 5, 2048, .inl (fun _ => 0))), (la8 6, .inl (lc9 6, 2048, .inl (fun _ => 0))), (la8 12, .inl (lc9 12, 2048, .inl (fun _ => 0))), (r5, .inr (9, [.int (nI bn), .int (nI ns), .int z4, .int 0, .int 0, .int 0, .int 0, .int 0, .int 0, .ref (ta6 9), .ref (ta6 10), .ref (ta6 11)])), (ta6 9, .inr (0, [.long y5, .int 0, .int 0, .int 0])), (ta6 10, .inr (2, [.int 0, .ref (ka7 1), .ref (ka7 2)]))] := hD
      try dsimp only at hw
      clear hz1 hk1 hFc hPc hKc hDc
      refine lv_aload hx hb dX10_make_38 (lv_at hl 0 rfl) ?_
      have hPc := hP.sub (ws' := [(r5, .inr (9, [.int (nI bn), .int (nI ns), .int z4, .int 0, .int 0, .int 0, .int 0, .int 0, .int 0, .ref (ta6 9), .ref (ta6 10), .ref (ta6 11)])), (ta6 9, .inr (0, [.long y5, .int 0, .int 0, .int 0])), (ta6 10, .inr (2, [.int 0, .ref (ka7 1), .ref (ka7 2)])), (ta6 11, .inr (3, [.int 0, .int 0, .int 0, .int 0, .int 0, .ref (la8 5), .ref (la8 6), .ref (la8 7), .ref (la8 8), .ref (la8 9), .ref (la8 10), .ref (la8 11), .ref (la8 12)])), (la8 5, .inl (lc9 5, 2048, .inl (fun _ => 0))), (la8 6, .inl (lc9 6, 2048, .inl (fun _ => 0))), (la8 12, .inl (lc9 12, 2048, .inl (fun _ => 0)))]) [4, 5, 6, 0, 1, 2, 3] rfl
      have hKc := hK.sub (tys' := [(lc9 5, .int), (lc9 6, .int), (lc9 12, .int)]) [1, 2, 3] rfl
      have hDc := hD.sub (ws' := [(r5, .inr (9, [.int (nI bn), .int (nI ns), .int z4, .int 0, .int 0, .int 0, .int 0, .int 0, .int 0, .ref (ta6 9), .ref (ta6 10), .ref (ta6 11)])), (ta6 9, .inr (0, [.long y5, .int 0, .int 0, .int 0])), (ta6 10, .inr (2, [.int 0, .ref (ka7 1), .ref (ka7 2)])), (ta6 11, .inr (3, [.int 0, .int 0, .int 0, .int 0, .int 0, .ref (la8 5), .ref (la8 6), .ref (la8 7), .ref (la8 8), .ref (la8 9), .ref (la8 10), .ref (la8 11), .ref (la8 12)])), (la8 5, .inl (lc9 5, 2048, .inl (fun _ => 0))), (la8 6, .inl (lc9 6, 2048, .inl (fun _ => 0))), (la8 12, .inl (lc9 12, 2048, .inl (fun _ => 0)))]) [4, 5, 6, 0, 1, 2, 3] (by decide) rfl
      have hFc := va_free (wc := [(r5, .inr (9, [.int (nI bn), .int (nI ns), .int z4, .int 0, .int 0, .int 0, .int 0, .int 0, .int 0, .ref (ta6 9), .ref (ta6 10), .ref (ta6 11)])), (ta6 9, .inr (0, [.long y5, .int 0, .int 0, .int 0])), (ta6 10, .inr (2, [.int 0, .ref (ka7 1), .ref (ka7 2)])), (ta6 11, .inr (3, [.int 0, .int 0, .int 0, .int 0, .int 0, .ref (la8 5), .ref (la8 6), .ref (la8 7), .ref (la8 8), .ref (la8 9), .ref (la8 10), .ref (la8 11), .ref (la8 12)])), (la8 5, .inl (lc9 5, 2048, .inl (fun _ => 0))), (la8 6, .inl (lc9 6, 2048, .inl (fun _ => 0))), (la8 12, .inl (lc9 12, 2048, .inl (fun _ => 0)))]) hD hS hA [4, 5, 6, 0, 1, 2, 3] rfl
      refine va_callv (va_runV (As := []) (rest := []) ⟨hx, hb, hml, hown, hts⟩ (c_buildAllC l D _ r5 ta6 ka7 la8 lc9 bn ns z4 y5 (by omega) (by omega) (by omega)) (cwV 0 hts g_c_X10_make_c_buildAllC_71 rfl rfl rfl (by decide +kernel) ⟨(Nat.le_of_ble_eq_true rfl), (Nat.le_of_ble_eq_true rfl)⟩) (PcW_V (q0 := 0) hPc hKc hDc rfl rfl) rfl rfl hl.1 rfl (lv_room (Nat.le_of_ble_eq_true rfl)) dX10_make_40 ⟨(Nat.le_of_ble_eq_true rfl), (Nat.le_of_ble_eq_true rfl)⟩) hS (fun q _ h => hFc q h) hFc (fun uu tt H locs htt hvm hw hB hz1 hk1 hS => ?_)
      obtain ⟨hP, hD⟩ := va_join (wr := []) (w1 := []) hP hD [4, 5, 6, 0, 1, 2, 3] [] rfl rfl (by decide) (by decide) hk1 hFc va_P_nil va_D_nil
      have hP : va_P D vwCl [] H := hP
      have hD : va_D A [] := hD
      try dsimp only at hw
      clear hB hz1 hk1 hFc hPc hKc hDc
      refine lv_iconst (v := 1) hx hb dX10_make_43 (by decide) ?_
      exact W.iret (v := 1) hx hb hr (fun t ht hW => ⟨⟨1, (), rfl, hok.symm, trivial⟩, hS.F ht⟩) hS.2.2 dX10_make_44
    ·
      have hno := mkF_o (s := z3) (t := z1) (b := z2) (g := z4) (ifF (by rw [← hw_r3]; exact hc4))
      refine lv_bipush (v := (-2)) hx hb dX10_make_17 (by decide) ?_
      refine W.widen (k := 14) (n := 11072) (Nat.le_of_ble_eq_true rfl) (Nat.le_of_ble_eq_true rfl) ?_
      exact W.iret (v := (-2)) hx hb hr (fun t ht hW => ⟨⟨(-2), (), rfl, hno.symm, trivial⟩, hS.F ht⟩) hS.2.2 dX10_make_19

