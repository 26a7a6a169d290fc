theorem dX11_isEmpty_0 : decode cX11_isEmpty 0 = .ok (.sipush 160, 3) := by decide +kernel
theorem dX11_isEmpty_3 : decode cX11_isEmpty 3 = .ok (.iload_n 1, 1) := by decide +kernel
theorem dX11_isEmpty_4 : decode cX11_isEmpty 4 = .ok (.imul, 1) := by decide +kernel
theorem dX11_isEmpty_5 : decode cX11_isEmpty 5 = .ok (.istore 4, 2) := by decide +kernel
theorem dX11_isEmpty_7 : decode cX11_isEmpty 7 = .ok (.iload 4, 2) := by decide +kernel
theorem dX11_isEmpty_9 : decode cX11_isEmpty 9 = .ok (.sipush 160, 3) := by decide +kernel
theorem dX11_isEmpty_12 : decode cX11_isEmpty 12 = .ok (.iload_n 1, 1) := by decide +kernel
theorem dX11_isEmpty_13 : decode cX11_isEmpty 13 = .ok (.imul, 1) := by decide +kernel
theorem dX11_isEmpty_14 : decode cX11_isEmpty 14 = .ok (.aload_n 0, 1) := by decide +kernel
theorem dX11_isEmpty_15 : decode cX11_isEmpty 15 = .ok (.iload_n 1, 1) := by decide +kernel
theorem dX11_isEmpty_16 : decode cX11_isEmpty 16 = .ok (.invokevirtual 95, 3) := by decide +kernel
theorem dX11_isEmpty_19 : decode cX11_isEmpty 19 = .ok (.iadd, 1) := by decide +kernel
theorem dX11_isEmpty_20 : decode cX11_isEmpty 20 = .ok (.if_icmp .ge 33, 3) := by decide +kernel
theorem dX11_isEmpty_23 : decode cX11_isEmpty 23 = .ok (.aload_n 0, 1) := by decide +kernel
theorem dX11_isEmpty_24 : decode cX11_isEmpty 24 = .ok (.getfield 24, 3) := by decide +kernel
theorem dX11_isEmpty_27 : decode cX11_isEmpty 27 = .ok (.iload 4, 2) := by decide +kernel
theorem dX11_isEmpty_29 : decode cX11_isEmpty 29 = .ok (.iaload, 1) := by decide +kernel
theorem dX11_isEmpty_30 : decode cX11_isEmpty 30 = .ok (.iload_n 2, 1) := by decide +kernel
theorem dX11_isEmpty_31 : decode cX11_isEmpty 31 = .ok (.if_icmp .ne 16, 3) := by decide +kernel
theorem dX11_isEmpty_34 : decode cX11_isEmpty 34 = .ok (.aload_n 0, 1) := by decide +kernel
theorem dX11_isEmpty_35 : decode cX11_isEmpty 35 = .ok (.getfield 27, 3) := by decide +kernel
theorem dX11_isEmpty_38 : decode cX11_isEmpty 38 = .ok (.iload 4, 2) := by decide +kernel
theorem dX11_isEmpty_40 : decode cX11_isEmpty 40 = .ok (.iaload, 1) := by decide +kernel
theorem dX11_isEmpty_41 : decode cX11_isEmpty 41 = .ok (.iload_n 3, 1) := by decide +kernel
theorem dX11_isEmpty_42 : decode cX11_isEmpty 42 = .ok (.if_icmp .ne 5, 3) := by decide +kernel
theorem dX11_isEmpty_45 : decode cX11_isEmpty 45 = .ok (.iconst 0, 1) := by decide +kernel
theorem dX11_isEmpty_46 : decode cX11_isEmpty 46 = .ok (.ireturn, 1) := by decide +kernel
theorem dX11_isEmpty_47 : decode cX11_isEmpty 47 = .ok (.iinc 4 1, 3) := by decide +kernel
theorem dX11_isEmpty_50 : decode cX11_isEmpty 50 = .ok (.goto (-43), 3) := by decide +kernel
theorem dX11_isEmpty_53 : decode cX11_isEmpty 53 = .ok (.iconst 1, 1) := by decide +kernel
theorem dX11_isEmpty_54 : decode cX11_isEmpty 54 = .ok (.ireturn, 1) := by decide +kernel
def own_c_isEmpty : List Cond := [.methodLink RX11 95 yX11_manyOf, .instanceMethod yX11_manyOf, .selects RX11 yX11_manyOf yX11_manyOf, .initialized RX11, .fieldLink RX11 24 "ClashFreeModel" "inBucket" "[I", .fieldLink RX11 27 "ClashFreeModel" "inRoom" "[I"]
def wp_c_isEmpty : List Cond := .code yX11_isEmpty cX11_isEmpty 5 (some .boolean) :: (own_c_isEmpty ++ (wp_c_manyOf ++ (wsX110 ++ ([] : List Cond))))
set_option maxRecDepth 20000 in
theorem inown_c_isEmpty : ∀ w ∈ own_c_isEmpty, w ∈ lw_tbl := mem_places [1396, 1398, 40, 115, 1222, 1223] (by decide +kernel)
set_option maxRecDepth 20000 in
theorem in_c_isEmpty : ∀ w ∈ wp_c_isEmpty, w ∈ lw_tbl := List.forall_mem_cons.mpr ⟨List.mem_of_getElem? (i := 1496) (by decide +kernel), List.forall_mem_append.mpr ⟨inown_c_isEmpty, List.forall_mem_append.mpr ⟨in_c_manyOf, List.forall_mem_append.mpr ⟨lwb_X11, fun _ h => absurd h List.not_mem_nil⟩⟩⟩⟩
set_option maxRecDepth 20000 in
theorem good_c_isEmpty : wp_c_isEmpty.all goodWord = true := by decide +kernel
set_option maxRecDepth 20000 in
theorem g_c_isEmpty_c_manyOf_95 : GoodIn wp_c_isEmpty (wsV RX11 95 RX11 yX11_manyOf wp_c_manyOf) := goodIn_sub (List.forall_mem_append.mpr ⟨List.forall_mem_cons.mpr ⟨(List.mem_of_getElem? (i := 1) rfl), List.forall_mem_cons.mpr ⟨(List.mem_of_getElem? (i := 2) rfl), List.forall_mem_cons.mpr ⟨(List.mem_of_getElem? (i := 3) rfl), List.forall_mem_cons.mpr ⟨(List.mem_of_getElem? (i := 4) rfl), fun _ h => absurd h List.not_mem_nil⟩⟩⟩⟩, (fun _ h => (List.mem_cons_of_mem _ (List.mem_append_right _ (List.mem_append_left _ h))))⟩) (by decide +kernel)
set_option maxHeartbeats 4000000 in
set_option maxRecDepth 100000 in
theorem lp_isEmpty (l : Launch) {p : Program} {e : Env} {s : State} {m : MethodId} {args : Array Value} {below : List Frame} {meth : Method} {c : Code} {Q : State → Prop} {A : Nat → Prop} (D : va_G) (h0 : Nat) (a : Nat → Nat) (cm : Nat → ClassId) (i : Nat → Int32) (g : Nat → Int64) (fn : Nat → Int64) (fb : Nat → Int32) (fr : Nat → Int32) (k : Nat) (cn : Nat) (z2 : Int32) (z3 : Int32) (hk : k < 5) (h1 : fn (17 * k + 1) = lN cn) (hcn : cn ≤ 160) (hx : p.tables.exec = Jvm.exec) (hb : c.code = cX11_isEmpty) (hml : c.maxLocals = 5) (hown : s.vm.findClass RX11 = some m.cls) (hts : ∀ w ∈ wp_c_isEmpty, w.before args s = true) (hA : ∀ q, s.heap.size ≤ q → A q) (hK : va_K D vwCl [(cm 3, .long), (cm 6, .int), (cm 7, .int)] s) (kx53 : ∀ (x : Nat), (x ≤ cn) → ∀ (H : Heap) (locs : List Loc) (ls : Array Slot), va_P D vwCl [(h0, .inr (11, gM a i g)), (a 3, .inl (cm 3, 85, .inr (.inl fn))), (a 6, .inl (cm 6, 800, .inl fb)), (a 7, .inl (cm 7, 800, .inl fr))] H → va_S A s.heap H locs → lv_has ls 5 [(0, .ref h0)] → W p l e ({ frames := 3, cells := 0, slots := 0, locals := 80 }) s m args below meth c H locs 0 0 Q (F0 m 53 ls [])) (kx45 : ∀ (x : Nat), (x ≤ cn) → ∀ (H : Heap) (locs : List Loc) (ls : Array Slot), va_P D vwCl [(h0, .inr (11, gM a i g)), (a 3, .inl (cm 3, 85, .inr (.inl fn))), (a 6, .inl (cm 6, 800, .inl fb)), (a 7, .inl (cm 7, 800, .inl fr))] H → va_S A s.heap H locs → lv_has ls 5 [(0, .ref h0)] → W p l e ({ frames := 3, cells := 0, slots := 0, locals := 80 }) s m args below meth c H locs 0 0 Q (F0 m 45 ls [])) : ∀ (N : Nat), ∀ (x : Nat), (x ≤ cn) → cn - x < N → ∀ (H : Heap) (locs : List Loc) (ls : Array Slot), va_P D vwCl [(h0, .inr (11, gM a i g)), (a 3, .inl (cm 3, 85, .inr (.inl fn))), (a 6, .inl (cm 6, 800, .inl fb)), (a 7, .inl (cm 7, 800, .inl fr))] H → va_S A s.heap H locs → lv_has ls 5 [(4, .int (nI (160 * k + x))), (0, .ref h0), (1, .int (nI k)), (2, .int z2), (3, .int z3)] → W p l e ({ frames := 3, cells := 0, slots := 0, locals := 80 }) s m args below meth c H locs 0 0 Q (F0 m 7 ls []) := by
  have hin_X11 : ∀ w ∈ wsX110, w ∈ wp_c_isEmpty := fun _ h => (List.mem_cons_of_mem _ (List.mem_append_right _ (List.mem_append_right _ (List.mem_append_left _ h))))
  intro N
  induction N with
  | zero =>
    intro x hx2 hm
    exact absurd hm (Nat.not_lt_zero _)
  | succ N ih =>
    intro x hx2 hm H locs ls hP hS hl
    refine lv_iload hx hb dX11_isEmpty_7 (lv_at hl 0 rfl) ?_
    refine lv_sipush (v := 160) hx hb dX11_isEmpty_9 (by decide) ?_
    refine lv_iload_n hx hb dX11_isEmpty_12 rfl (lv_at hl 2 rfl) ?_
    refine lv_imul hx hb dX11_isEmpty_13 ?_
    refine lv_aload_n hx hb dX11_isEmpty_14 rfl (lv_at hl 1 rfl) ?_
    refine lv_iload_n hx hb dX11_isEmpty_15 rfl (lv_at hl 2 rfl) ?_
    have hPc := hP.sub (ws' := [(h0, .inr (11, gM a i g)), (a 3, .inl (cm 3, 85, .inr (.inl fn)))]) [0, 1] rfl
    have hKc := hK.sub (tys' := [(cm 3, .long)]) [0] rfl
    have hFc := va_free0 hS hA
    refine va_calli (va_runV (As := [.int (nI k)]) (rest := [.int (160 * (nI k)), .int (nI (160 * k + x))]) ⟨hx, hb, hml, hown, hts⟩ (c_manyOf l D _ h0 a cm i g fn k cn (by first | assumption | omega) h1) (cwV 1 hts g_c_isEmpty_c_manyOf_95 rfl rfl rfl (by decide +kernel) ⟨(Nat.le_of_ble_eq_true rfl), (Nat.le_of_ble_eq_true rfl)⟩) (PcR_V (q0 := 0) hPc hKc rfl rfl) rfl rfl hl.1 rfl (lv_room (Nat.le_of_ble_eq_true rfl)) dX11_isEmpty_16 ⟨(Nat.le_of_ble_eq_true rfl), (Nat.le_of_ble_eq_true rfl)⟩) hS (fun q _ h => hFc q h) hFc (fun r1 uu tt H locs htt hvm hw hB hz1 hk1 hS => ?_)
    have hP := va_keep hP hk1
    try dsimp only at hw
    clear hB hz1 hk1 hFc hPc hKc
    obtain rfl : r1 = nI cn := hw
    refine lv_iadd hx hb dX11_isEmpty_19 ?_
    refine lv_topi (fun v2 ev2 => ?_)
    obtain rfl : v2 = nI (160 * k + cn) := ev2.trans (ix160 k _)
    refine lv_icmp_ge (tgt := 53) hx hb dX11_isEmpty_20 (by decide) (fun hc3 => ?_) (fun hc3 => ?_)
    ·
      have hge_x : cn ≤ x := by
        have := (nI_leI (a := 160 * k + cn) (b := 160 * k + x) (by omega) (by omega)).mp hc3
        omega
      exact kx53 x (hx2) H locs ls (hP.sub [0, 1, 2, 3] rfl) hS (lv_sub hl [1] rfl)
    ·
      have hlt_x : x < cn := by
        rcases Nat.lt_or_ge x cn with z | z
        · exact z
        · exact absurd (nI_le (show 160 * k + cn ≤ 160 * k + x by omega) (by omega)) hc3
      refine lv_aload_n hx hb dX11_isEmpty_23 rfl (lv_at hl 1 rfl) ?_
      refine va_get (D := D) (ci := 11) (v := .ref (a 6)) (C := RX11) (T := TX11) (N := 47) hx hb hts hin_X11 hown hK hP 0 rfl rfl 6 (by decide) (hts (.fieldLink RX11 24 "ClashFreeModel" "inBucket" "[I") (List.mem_of_getElem? (i := 5) rfl)) (fun _ h9 => h9) rfl dX11_isEmpty_24 ?_
      refine lv_iload hx hb dX11_isEmpty_27 (lv_at hl 0 rfl) ?_
      refine va_iald hx hb hK hP 2 1 rfl rfl (vp_in_nI (by omega) (by decide)) dX11_isEmpty_29 ?_
      refine lv_topi (fun v4 ev4 => ?_)
      refine lv_iload_n hx hb dX11_isEmpty_30 rfl (lv_at hl 3 rfl) ?_
      refine lv_icmp_ne (tgt := 47) hx hb dX11_isEmpty_31 (by decide) (fun hc5 => ?_) (fun hc5 => ?_)
      ·
        refine lv_iinc (v := nI (160 * k + (x + 1))) (lv' := [(4, .int (nI (160 * k + (x + 1)))), (0, .ref h0), (1, .int (nI k)), (2, .int z2), (3, .int z3)]) hx hb dX11_isEmpty_47 hl (k := 0) rfl (nI_1 _) (by decide) rfl (fun ls hl => ?_)
        refine lv_goto (tgt := 7) hx hb dX11_isEmpty_50 (by decide) ?_
        exact ih (x + 1) (by omega) (by omega) H locs ls (hP.sub [0, 1, 2, 3] rfl) hS (lv_sub hl [0, 1, 2, 3, 4] rfl)
      ·
        refine lv_aload_n hx hb dX11_isEmpty_34 rfl (lv_at hl 1 rfl) ?_
        refine va_get (D := D) (ci := 11) (v := .ref (a 7)) (C := RX11) (T := TX11) (N := 47) hx hb hts hin_X11 hown hK hP 0 rfl rfl 7 (by decide) (hts (.fieldLink RX11 27 "ClashFreeModel" "inRoom" "[I") (List.mem_of_getElem? (i := 6) rfl)) (fun _ h9 => h9) rfl dX11_isEmpty_35 ?_
        refine lv_iload hx hb dX11_isEmpty_38 (lv_at hl 0 rfl) ?_
        refine va_iald hx hb hK hP 3 2 rfl rfl (vp_in_nI (by omega) (by decide)) dX11_isEmpty_40 ?_
        refine lv_topi (fun v6 ev6 => ?_)
        refine lv_iload_n hx hb dX11_isEmpty_41 rfl (lv_at hl 4 rfl) ?_
        refine lv_icmp_ne (tgt := 47) hx hb dX11_isEmpty_42 (by decide) (fun hc7 => ?_) (fun hc7 => ?_)
        ·
          refine lv_iinc (v := nI (160 * k + (x + 1))) (lv' := [(4, .int (nI (160 * k + (x + 1)))), (0, .ref h0), (1, .int (nI k)), (2, .int z2), (3, .int z3)]) hx hb dX11_isEmpty_47 hl (k := 0) rfl (nI_1 _) (by decide) rfl (fun ls hl => ?_)
          refine lv_goto (tgt := 7) hx hb dX11_isEmpty_50 (by decide) ?_
          exact ih (x + 1) (by omega) (by omega) H locs ls (hP.sub [0, 1, 2, 3] rfl) hS (lv_sub hl [0, 1, 2, 3, 4] rfl)
        ·
          exact kx45 x (hx2) H locs ls (hP.sub [0, 1, 2, 3] rfl) hS (lv_sub hl [1] rfl)
set_option maxHeartbeats 4000000 in
set_option maxRecDepth 100000 in
theorem c_isEmpty (l : Launch) (D : va_G) (sz : Nat) (h0 : Nat) (a : Nat → Nat) (cm : Nat → ClassId) (i : Nat → Int32) (g : Nat → Int64) (fn : Nat → Int64) (fb : Nat → Int32) (fr : Nat → Int32) (k : Nat) (cn : Nat) (z2 : Int32) (z3 : Int32) (hk : k < 5) (h1 : fn (17 * k + 1) = lN cn) (hcn : cn ≤ 160) : Met l yX11_isEmpty wp_c_isEmpty ({ frames := 3, cells := 0, slots := 0, locals := 80 }) (PcR D [.ref h0, .int (nI k), .int z2, .int z3] sz [(h0, .inr (11, gM a i g)), (a 3, .inl (cm 3, 85, .inr (.inl fn))), (a 6, .inl (cm 6, 800, .inl fb)), (a 7, .inl (cm 7, 800, .inl fr))] [(cm 3, .long), (cm 6, .int), (cm 7, .int)]) (va_Qi (fun (r : Int32) (u : Unit) => r = 0 ∨ r = 1) (fun (_ : Unit) _ => True) (va_A [] sz)) 0 0 (va_A [] sz) := by
  refine Met.ofW (cc := cX11_isEmpty) (maxL := 5) (ret := (some .boolean)) (by decide) rfl ?_
  intro p e s m args below meth c s₁ B hml hv
  obtain ⟨rfl, hsz, hP, hK⟩ := hv
  have hx := B.exec
  have hb := B.bytes
  have hr := B.returns
  have hts := atoms_spec (ws := wp_c_isEmpty) B.pre
  have hin_X11 : ∀ w ∈ wsX110, w ∈ wp_c_isEmpty := fun _ h => (List.mem_cons_of_mem _ (List.mem_append_right _ (List.mem_append_right _ (List.mem_append_left _ h))))
  have hown : s.vm.findClass RX11 = some m.cls := findClass_of_methodNamed B.named
  have hlocks := B.notSynchronized
  subst hsz
  generalize hAe : va_A [] s.heap.size = A at ⊢
  have hA : ∀ q : Nat, s.heap.size ≤ q → A q := fun q h => by rw [← hAe]; exact Or.inr h
  have hS : va_S A s.heap s.heap [] := va_S.rf
  have hP : va_P D vwCl [(h0, .inr (11, gM a i g)), (a 3, .inl (cm 3, 85, .inr (.inl fn))), (a 6, .inl (cm 6, 800, .inl fb)), (a 7, .inl (cm 7, 800, .inl fr))] s.heap := hP
  have hl := lv_entry ([.ref h0, .int (nI k), .int z2, .int z3]) (n := 5) (Nat.le_of_ble_eq_true rfl)
  rw [lg_entry_eq]
  generalize (lg_sl ([.ref h0, .int (nI k), .int z2, .int z3]) ++ List.replicate (5 - (lg_sl ([.ref h0, .int (nI k), .int z2, .int z3])).length) Slot.unset).toArray = ls at hl ⊢
  have hl : lv_has ls 5 [(0, .ref h0), (1, .int (nI k)), (2, .int z2), (3, .int z3)] := hl
  refine lv_sipush (v := 160) hx hb dX11_isEmpty_0 (by decide) ?_
  refine lv_iload_n hx hb dX11_isEmpty_3 rfl (lv_at hl 1 rfl) ?_
  refine lv_imul hx hb dX11_isEmpty_4 ?_
  refine lv_topi (fun v1 ev1 => ?_)
  obtain rfl : v1 = nI (160 * k + 0) := ev1.trans (pk_mul 160 k)
  refine lv_istore (lv' := [(4, .int (nI (160 * k + 0))), (0, .ref h0), (1, .int (nI k)), (2, .int z2), (3, .int z3)]) hx hb dX11_isEmpty_5 hl (by decide) rfl (fun ls hl => ?_)
  refine lp_isEmpty l D h0 a cm i g fn fb fr k cn z2 z3 (hk) (h1) (hcn) hx hb hml hown hts hA (hK.sub [0, 1, 2] rfl) ?_ ?_ (cn + 1) 0 (Nat.zero_le _) (by omega) _ _ _ (hP.sub [0, 1, 2, 3] rfl) hS (lv_sub hl [0, 1, 2, 3, 4] rfl)
  ·
    intro x_2 hx2_3 H locs ls hP hS hl
    refine lv_iconst (v := 1) hx hb dX11_isEmpty_53 (by decide) ?_
    exact W.zret (v := 1) hx hb hr rfl (fun t ht hW => ⟨⟨1, (), rfl, Or.inr rfl, trivial⟩, hS.F ht⟩) hS.2.2 dX11_isEmpty_54
  ·
    intro x_4 hx2_5 H locs ls hP hS hl
    refine lv_iconst (v := 0) hx hb dX11_isEmpty_45 (by decide) ?_
    exact W.zret (v := 0) hx hb hr rfl (fun t ht hW => ⟨⟨0, (), rfl, Or.inl rfl, trivial⟩, hS.F ht⟩) hS.2.2 dX11_isEmpty_46

