theorem dX11_roomsAhead_0 : decode cX11_roomsAhead 0 = .ok (.iconst 0, 1) := by decide +kernel
theorem dX11_roomsAhead_1 : decode cX11_roomsAhead 1 = .ok (.istore_n 2, 1) := by decide +kernel
theorem dX11_roomsAhead_2 : decode cX11_roomsAhead 2 = .ok (.iconst 0, 1) := by decide +kernel
theorem dX11_roomsAhead_3 : decode cX11_roomsAhead 3 = .ok (.istore_n 3, 1) := by decide +kernel
theorem dX11_roomsAhead_4 : decode cX11_roomsAhead 4 = .ok (.iload_n 3, 1) := by decide +kernel
theorem dX11_roomsAhead_5 : decode cX11_roomsAhead 5 = .ok (.iload_n 1, 1) := by decide +kernel
theorem dX11_roomsAhead_6 : decode cX11_roomsAhead 6 = .ok (.if_icmp .ge 18, 3) := by decide +kernel
theorem dX11_roomsAhead_9 : decode cX11_roomsAhead 9 = .ok (.iload_n 2, 1) := by decide +kernel
theorem dX11_roomsAhead_10 : decode cX11_roomsAhead 10 = .ok (.aload_n 0, 1) := by decide +kernel
theorem dX11_roomsAhead_11 : decode cX11_roomsAhead 11 = .ok (.iconst 4, 1) := by decide +kernel
theorem dX11_roomsAhead_12 : decode cX11_roomsAhead 12 = .ok (.iload_n 3, 1) := by decide +kernel
theorem dX11_roomsAhead_13 : decode cX11_roomsAhead 13 = .ok (.invokevirtual 137, 3) := by decide +kernel
theorem dX11_roomsAhead_16 : decode cX11_roomsAhead 16 = .ok (.iadd, 1) := by decide +kernel
theorem dX11_roomsAhead_17 : decode cX11_roomsAhead 17 = .ok (.istore_n 2, 1) := by decide +kernel
theorem dX11_roomsAhead_18 : decode cX11_roomsAhead 18 = .ok (.iinc 3 1, 3) := by decide +kernel
theorem dX11_roomsAhead_21 : decode cX11_roomsAhead 21 = .ok (.goto (-17), 3) := by decide +kernel
theorem dX11_roomsAhead_24 : decode cX11_roomsAhead 24 = .ok (.iload_n 2, 1) := by decide +kernel
theorem dX11_roomsAhead_25 : decode cX11_roomsAhead 25 = .ok (.ireturn, 1) := by decide +kernel
theorem dX11_frozenRoom_0 : decode cX11_frozenRoom 0 = .ok (.aload_n 0, 1) := by decide +kernel
theorem dX11_frozenRoom_1 : decode cX11_frozenRoom 1 = .ok (.aload_n 0, 1) := by decide +kernel
theorem dX11_frozenRoom_2 : decode cX11_frozenRoom 2 = .ok (.getfield 24, 3) := by decide +kernel
theorem dX11_frozenRoom_5 : decode cX11_frozenRoom 5 = .ok (.sipush 640, 3) := by decide +kernel
theorem dX11_frozenRoom_8 : decode cX11_frozenRoom 8 = .ok (.iload_n 1, 1) := by decide +kernel
theorem dX11_frozenRoom_9 : decode cX11_frozenRoom 9 = .ok (.iadd, 1) := by decide +kernel
theorem dX11_frozenRoom_10 : decode cX11_frozenRoom 10 = .ok (.iaload, 1) := by decide +kernel
theorem dX11_frozenRoom_11 : decode cX11_frozenRoom 11 = .ok (.invokevirtual 265, 3) := by decide +kernel
theorem dX11_frozenRoom_14 : decode cX11_frozenRoom 14 = .ok (.aload_n 0, 1) := by decide +kernel
theorem dX11_frozenRoom_15 : decode cX11_frozenRoom 15 = .ok (.getfield 27, 3) := by decide +kernel
theorem dX11_frozenRoom_18 : decode cX11_frozenRoom 18 = .ok (.sipush 640, 3) := by decide +kernel
theorem dX11_frozenRoom_21 : decode cX11_frozenRoom 21 = .ok (.iload_n 1, 1) := by decide +kernel
theorem dX11_frozenRoom_22 : decode cX11_frozenRoom 22 = .ok (.iadd, 1) := by decide +kernel
theorem dX11_frozenRoom_23 : decode cX11_frozenRoom 23 = .ok (.iaload, 1) := by decide +kernel
theorem dX11_frozenRoom_24 : decode cX11_frozenRoom 24 = .ok (.iadd, 1) := by decide +kernel
theorem dX11_frozenRoom_25 : decode cX11_frozenRoom 25 = .ok (.ireturn, 1) := by decide +kernel
def own_c_roomsAhead : List Cond := [.methodLink RX11 137 yX11_roomsOf, .instanceMethod yX11_roomsOf, .selects RX11 yX11_roomsOf yX11_roomsOf, .initialized RX11]
def wp_c_roomsAhead : List Cond := .code yX11_roomsAhead cX11_roomsAhead 4 (some .int) :: (own_c_roomsAhead ++ (wp_c_roomsOf ++ ([] : List Cond)))
set_option maxRecDepth 20000 in
theorem inown_c_roomsAhead : ∀ w ∈ own_c_roomsAhead, w ∈ lw_tbl := mem_places [1437, 1439, 48, 115] (by decide +kernel)
set_option maxRecDepth 20000 in
theorem in_c_roomsAhead : ∀ w ∈ wp_c_roomsAhead, w ∈ lw_tbl := List.forall_mem_cons.mpr ⟨List.mem_of_getElem? (i := 1632) (by decide +kernel), List.forall_mem_append.mpr ⟨inown_c_roomsAhead, List.forall_mem_append.mpr ⟨in_c_roomsOf, fun _ h => absurd h List.not_mem_nil⟩⟩⟩
set_option maxRecDepth 20000 in
theorem good_c_roomsAhead : wp_c_roomsAhead.all goodWord = true := by decide +kernel
set_option maxRecDepth 20000 in
theorem g_c_roomsAhead_c_roomsOf_137 : GoodIn wp_c_roomsAhead (wsV RX11 137 RX11 yX11_roomsOf wp_c_roomsOf) := goodIn_sub (List.forall_mem_append.mpr ⟨List.forall_mem_cons.mpr ⟨(List.mem_of_getElem? (i := 1) rfl), List.forall_mem_cons.mpr ⟨(List.mem_of_getElem? (i := 2) rfl), List.forall_mem_cons.mpr ⟨(List.mem_of_getElem? (i := 3) rfl), List.forall_mem_cons.mpr ⟨(List.mem_of_getElem? (i := 4) rfl), fun _ h => absurd h List.not_mem_nil⟩⟩⟩⟩, (fun _ h => (List.mem_cons_of_mem _ (List.mem_append_right _ (List.mem_append_left _ h))))⟩) (by decide +kernel)
set_option maxHeartbeats 4000000 in
set_option maxRecDepth 100000 in
theorem lp_ra (l : Launch) {p : Program} {e : Env} {s : State} {m : MethodId} {args : Array Value} {below : List Frame} {meth : Method} {c : Code} {Q : State → Prop} {A : Nat → Prop} (D : va_G) (h0 : Nat) (a : Nat → Nat) (cm : Nat → ClassId) (i : Nat → Int32) (g : Nat → Int64) (ff : Nat → Int32) (nq : Nat) (cn : Nat) (nb : Nat) (J : Nat → Nat) (hq : nq ≤ nb) (hn2 : nb ≤ 2048) (hr2 : ∀ b, b < nb → ff (2048 * 4 + b) = nI (1 * cntJ J cn b)) (hx : p.tables.exec = Jvm.exec) (hb : c.code = cX11_roomsAhead) (hml : c.maxLocals = 4) (hown : s.vm.findClass RX11 = some m.cls) (hts : ∀ w ∈ wp_c_roomsAhead, w.before args s = true) (hA : ∀ q, s.heap.size ≤ q → A q) (hK : va_K D vwCl [(cm 8, .int)] s) (kx24 : ∀ (j : Nat), ∀ (su : Int32), (j ≤ nq) → ∀ (H : Heap) (locs : List Loc) (ls : Array Slot), va_P D vwCl [(h0, .inr (11, gM a i g)), (a 8, .inl (cm 8, 10240, .inl ff))] H → va_S A s.heap H locs → lv_has ls 4 [(2, .int su)] → W p l e ({ frames := 3, cells := 0, slots := 0, locals := 40 }) s m args below meth c H locs 0 0 Q (F0 m 24 ls [])) : ∀ (N : Nat), ∀ (j : Nat), ∀ (su : Int32), (j ≤ nq) → nq - j < N → ∀ (H : Heap) (locs : List Loc) (ls : Array Slot), va_P D vwCl [(h0, .inr (11, gM a i g)), (a 8, .inl (cm 8, 10240, .inl ff))] H → va_S A s.heap H locs → lv_has ls 4 [(3, .int (nI j)), (2, .int su), (0, .ref h0), (1, .int (nI nq))] → W p l e ({ frames := 3, cells := 0, slots := 0, locals := 40 }) s m args below meth c H locs 0 0 Q (F0 m 4 ls []) := by
  intro N
  induction N with
  | zero =>
    intro j su hj1 hm
    exact absurd hm (Nat.not_lt_zero _)
  | succ N ih =>
    intro j su hj1 hm H locs ls hP hS hl
    refine lv_iload_n hx hb dX11_roomsAhead_4 rfl (lv_at hl 0 rfl) ?_
    refine lv_iload_n hx hb dX11_roomsAhead_5 rfl (lv_at hl 3 rfl) ?_
    refine lv_icmp_ge (tgt := 24) hx hb dX11_roomsAhead_6 (by decide) (fun hc1 => ?_) (fun hc1 => ?_)
    ·
      exact kx24 j su (hj1) H locs ls (hP.sub [0, 1] rfl) hS (lv_sub hl [1] rfl)
    ·
      have hlt_j : j < nq := by
        rcases Nat.lt_or_ge j nq with z | z
        · exact z
        · exact absurd (nI_le z (by omega)) hc1
      refine lv_iload_n hx hb dX11_roomsAhead_9 rfl (lv_at hl 1 rfl) ?_
      refine lv_aload_n hx hb dX11_roomsAhead_10 rfl (lv_at hl 2 rfl) ?_
      refine lv_iconst (v := 4) hx hb dX11_roomsAhead_11 (by decide) ?_
      refine lv_iload_n hx hb dX11_roomsAhead_12 rfl (lv_at hl 0 rfl) ?_
      have hPc := hP.sub (ws' := [(h0, .inr (11, gM a i g)), (a 8, .inl (cm 8, 10240, .inl ff))]) [0, 1] rfl
      have hKc := hK.sub (tys' := [(cm 8, .int)]) [0] rfl
      have hFc := va_free0 hS hA
      refine va_calli (va_runV (As := [.int (nI 4), .int (nI j)]) (rest := [.int su]) ⟨hx, hb, hml, hown, hts⟩ (c_roomsOf l D _ h0 a cm i g ff 4 j (1 * cntJ J cn j) (by first | assumption | omega) (by first | assumption | omega) (hr2 j (by omega))) (cwV 2 hts g_c_roomsAhead_c_roomsOf_137 rfl rfl rfl (by decide +kernel) ⟨(Nat.le_of_ble_eq_true rfl), (Nat.le_of_ble_eq_true rfl)⟩) (PcR_V (q0 := 0) hPc hKc rfl rfl) rfl rfl hl.1 rfl (lv_room (Nat.le_of_ble_eq_true rfl)) dX11_roomsAhead_13 ⟨(Nat.le_of_ble_eq_true rfl), (Nat.le_of_ble_eq_true rfl)⟩) hS (fun q _ h => hFc q h) hFc (fun r2 uu tt H locs htt hvm hw hB hz1 hk1 hS => ?_)
      have hP := va_keep hP hk1
      try dsimp only at hw
      clear hB hz1 hk1 hFc hPc hKc
      obtain rfl : r2 = nI ((1 * cntJ J cn j) * (1 * cntJ J cn j)) := hw
      refine lv_iadd hx hb dX11_roomsAhead_16 ?_
      refine lv_topi (fun v3 ev3 => ?_)
      refine lv_istore_n (lv' := [(2, .int v3), (3, .int (nI j)), (0, .ref h0), (1, .int (nI nq))]) hx hb dX11_roomsAhead_17 rfl hl (by decide) rfl (fun ls hl => ?_)
      refine lv_iinc (v := nI (j + 1)) (lv' := [(3, .int (nI (j + 1))), (2, .int v3), (0, .ref h0), (1, .int (nI nq))]) hx hb dX11_roomsAhead_18 hl (k := 1) rfl (nI_1 j) (by decide) rfl (fun ls hl => ?_)
      refine lv_goto (tgt := 4) hx hb dX11_roomsAhead_21 (by decide) ?_
      exact ih (j + 1) v3 (by omega) (by omega) H locs ls (hP.sub [0, 1] rfl) hS (lv_sub hl [0, 1, 2, 3] rfl)
set_option maxHeartbeats 4000000 in
set_option maxRecDepth 100000 in
theorem c_roomsAhead (l : Launch) (D : va_G) (sz : Nat) (h0 : Nat) (a : Nat → Nat) (cm : Nat → ClassId) (i : Nat → Int32) (g : Nat → Int64) (ff : Nat → Int32) (nq : Nat) (cn : Nat) (nb : Nat) (J : Nat → Nat) (hq : nq ≤ nb) (hn2 : nb ≤ 2048) (hr2 : ∀ b, b < nb → ff (2048 * 4 + b) = nI (1 * cntJ J cn b)) : Met l yX11_roomsAhead wp_c_roomsAhead ({ frames := 3, cells := 0, slots := 0, locals := 40 }) (PcR D [.ref h0, .int (nI nq)] sz [(h0, .inr (11, gM a i g)), (a 8, .inl (cm 8, 10240, .inl ff))] [(cm 8, .int)]) (va_Qi (fun (r : Int32) (u : Unit) => True) (fun (_ : Unit) _ => True) (va_A [] sz)) 0 0 (va_A [] sz) := by
  refine Met.ofW (cc := cX11_roomsAhead) (maxL := 4) (ret := (some .int)) (by decide) rfl ?_
  intro p e s m args below meth c s₁ B hml hv
  obtain ⟨rfl, hsz, hP, hK⟩ := hv
  have hx := B.exec
  have hb := B.bytes
  have hr := B.returns
  have hts := atoms_spec (ws := wp_c_roomsAhead) B.pre
  have hown : s.vm.findClass RX11 = some m.cls := findClass_of_methodNamed B.named
  have hlocks := B.notSynchronized
  subst hsz
  generalize hAe : va_A [] s.heap.size = A at ⊢
  have hA : ∀ q : Nat, s.heap.size ≤ q → A q := fun q h => by rw [← hAe]; exact Or.inr h
  have hS : va_S A s.heap s.heap [] := va_S.rf
  have hP : va_P D vwCl [(h0, .inr (11, gM a i g)), (a 8, .inl (cm 8, 10240, .inl ff))] s.heap := hP
  have hl := lv_entry ([.ref h0, .int (nI nq)]) (n := 4) (Nat.le_of_ble_eq_true rfl)
  rw [lg_entry_eq]
  generalize (lg_sl ([.ref h0, .int (nI nq)]) ++ List.replicate (4 - (lg_sl ([.ref h0, .int (nI nq)])).length) Slot.unset).toArray = ls at hl ⊢
  have hl : lv_has ls 4 [(0, .ref h0), (1, .int (nI nq))] := hl
  refine lv_iconst (v := 0) hx hb dX11_roomsAhead_0 (by decide) ?_
  refine lv_istore_n (lv' := [(2, .int 0), (0, .ref h0), (1, .int (nI nq))]) hx hb dX11_roomsAhead_1 rfl hl (by decide) rfl (fun ls hl => ?_)
  refine lv_iconst (v := 0) hx hb dX11_roomsAhead_2 (by decide) ?_
  refine lv_istore_n (lv' := [(3, .int 0), (2, .int 0), (0, .ref h0), (1, .int (nI nq))]) hx hb dX11_roomsAhead_3 rfl hl (by decide) rfl (fun ls hl => ?_)
  refine lp_ra l D h0 a cm i g ff nq cn nb J (hq) (hn2) (hr2) hx hb hml hown hts hA (hK.sub [0] rfl) ?_ (nq + 1) 0 0 (Nat.zero_le _) (by omega) _ _ _ (hP.sub [0, 1] rfl) hS (lv_sub hl [0, 1, 2, 3] rfl)
  intro j_1 su_2 hj1_3 H locs ls hP hS hl
  refine lv_iload_n hx hb dX11_roomsAhead_24 rfl (lv_at hl 0 rfl) ?_
  exact W.iret (v := su_2) hx hb hr (fun t ht hW => ⟨⟨su_2, (), rfl, trivial, trivial⟩, hS.F ht⟩) hS.2.2 dX11_roomsAhead_25

def own_c_frozenRoom : List Cond := [.fieldLink RX11 24 "ClashFreeModel" "inBucket" "[I", .methodLink RX11 265 yX11_roomsAhead, .instanceMethod yX11_roomsAhead, .selects RX11 yX11_roomsAhead yX11_roomsAhead, .initialized RX11, .fieldLink RX11 27 "ClashFreeModel" "inRoom" "[I"]
def wp_c_frozenRoom : List Cond := .code yX11_frozenRoom cX11_frozenRoom 2 (some .int) :: (own_c_frozenRoom ++ (wp_c_roomsAhead ++ (wsX110 ++ ([] : List Cond))))
set_option maxRecDepth 20000 in
theorem inown_c_frozenRoom : ∀ w ∈ own_c_frozenRoom, w ∈ lw_tbl := mem_places [1222, 1629, 1631, 70, 115, 1223] (by decide +kernel)
set_option maxRecDepth 20000 in
theorem in_c_frozenRoom : ∀ w ∈ wp_c_frozenRoom, w ∈ lw_tbl := List.forall_mem_cons.mpr ⟨List.mem_of_getElem? (i := 1628) (by decide +kernel), List.forall_mem_append.mpr ⟨inown_c_frozenRoom, List.forall_mem_append.mpr ⟨in_c_roomsAhead, List.forall_mem_append.mpr ⟨lwb_X11, fun _ h => absurd h List.not_mem_nil⟩⟩⟩⟩
set_option maxRecDepth 20000 in
theorem good_c_frozenRoom : wp_c_frozenRoom.all goodWord = true := by decide +kernel
set_option maxRecDepth 20000 in
theorem g_c_frozenRoom_c_roomsAhead_265 : GoodIn wp_c_frozenRoom (wsV RX11 265 RX11 yX11_roomsAhead wp_c_roomsAhead) := goodIn_sub (List.forall_mem_append.mpr ⟨List.forall_mem_cons.mpr ⟨(List.mem_of_getElem? (i := 2) rfl), List.forall_mem_cons.mpr ⟨(List.mem_of_getElem? (i := 3) rfl), List.forall_mem_cons.mpr ⟨(List.mem_of_getElem? (i := 4) rfl), List.forall_mem_cons.mpr ⟨(List.mem_of_getElem? (i := 5) rfl), fun _ h => absurd h List.not_mem_nil⟩⟩⟩⟩, (fun _ h => (List.mem_cons_of_mem _ (List.mem_append_right _ (List.mem_append_left _ h))))⟩) (by decide +kernel)
set_option maxHeartbeats 4000000 in
set_option maxRecDepth 100000 in
theorem c_frozenRoom (l : Launch) (D : va_G) (sz : Nat) (h0 : Nat) (a : Nat → Nat) (cm : Nat → ClassId) (i : Nat → Int32) (g : Nat → Int64) (fb : Nat → Int32) (fr : Nat → Int32) (ff : Nat → Int32) (y : Nat) (cn : Nat) (nb : Nat) (J : Nat → Nat) (hy : y < cn) (hcn : cn ≤ 160) (hn2 : nb ≤ 2048) (hBk : BkS 4 fb cn nb J) (hr2 : ∀ b, b < nb → ff (2048 * 4 + b) = nI (1 * cntJ J cn b)) : Met l yX11_frozenRoom wp_c_frozenRoom ({ frames := 4, cells := 0, slots := 0, locals := 63 }) (PcR D [.ref h0, .int (nI y)] sz [(h0, .inr (11, gM a i g)), (a 6, .inl (cm 6, 800, .inl fb)), (a 7, .inl (cm 7, 800, .inl fr)), (a 8, .inl (cm 8, 10240, .inl ff))] [(cm 6, .int), (cm 7, .int), (cm 8, .int)]) (va_Qi (fun (r : Int32) (u : Unit) => True) (fun (_ : Unit) _ => True) (va_A [] sz)) 0 0 (va_A [] sz) := by
  refine Met.ofW (cc := cX11_frozenRoom) (maxL := 2) (ret := (some .int)) (by decide) rfl ?_
  intro p e s m args below meth c s₁ B hml hv
  obtain ⟨rfl, hsz, hP, hK⟩ := hv
  have hx := B.exec
  have hb := B.bytes
  have hr := B.returns
  have hts := atoms_spec (ws := wp_c_frozenRoom) B.pre
  have hin_X11 : ∀ w ∈ wsX110, w ∈ wp_c_frozenRoom := fun _ h => (List.mem_cons_of_mem _ (List.mem_append_right _ (List.mem_append_right _ (List.mem_append_left _ h))))
  have hown : s.vm.findClass RX11 = some m.cls := findClass_of_methodNamed B.named
  have hlocks := B.notSynchronized
  subst hsz
  generalize hAe : va_A [] s.heap.size = A at ⊢
  have hA : ∀ q : Nat, s.heap.size ≤ q → A q := fun q h => by rw [← hAe]; exact Or.inr h
  have hS : va_S A s.heap s.heap [] := va_S.rf
  have hP : va_P D vwCl [(h0, .inr (11, gM a i g)), (a 6, .inl (cm 6, 800, .inl fb)), (a 7, .inl (cm 7, 800, .inl fr)), (a 8, .inl (cm 8, 10240, .inl ff))] s.heap := hP
  have hl := lv_entry ([.ref h0, .int (nI y)]) (n := 2) (Nat.le_of_ble_eq_true rfl)
  rw [lg_entry_eq]
  generalize (lg_sl ([.ref h0, .int (nI y)]) ++ List.replicate (2 - (lg_sl ([.ref h0, .int (nI y)])).length) Slot.unset).toArray = ls at hl ⊢
  have hl : lv_has ls 2 [(0, .ref h0), (1, .int (nI y))] := hl
  refine lv_aload_n hx hb dX11_frozenRoom_0 rfl (lv_at hl 0 rfl) ?_
  refine lv_aload_n hx hb dX11_frozenRoom_1 rfl (lv_at hl 0 rfl) ?_
  refine va_get (D := D) (ci := 11) (v := .ref (a 6)) (C := RX11) (T := TX11) (N := 47) hx hb hts hin_X11 hown hK hP 0 rfl rfl 6 (by decide) (hts (.fieldLink RX11 24 "ClashFreeModel" "inBucket" "[I") (List.mem_of_getElem? (i := 1) rfl)) (fun _ h9 => h9) rfl dX11_frozenRoom_2 ?_
  refine lv_sipush (v := 640) hx hb dX11_frozenRoom_5 (by decide) ?_
  refine lv_iload_n hx hb dX11_frozenRoom_8 rfl (lv_at hl 1 rfl) ?_
  refine lv_iadd hx hb dX11_frozenRoom_9 ?_
  refine lv_topi (fun v1 ev1 => ?_)
  obtain rfl : v1 = nI (160 * 4 + y) := ev1.trans (nI_add 640 y)
  refine va_iald hx hb hK hP 1 0 rfl rfl (vp_in_nI (by omega) (by decide)) dX11_frozenRoom_10 ?_
  refine lv_topi (fun v2 ev2 => ?_)
  obtain rfl : v2 = nI (J y) := ev2.trans (by rw [nI_clamp (by omega)]; exact (hBk y hy).1)
  have hPc := hP.sub (ws' := [(h0, .inr (11, gM a i g)), (a 8, .inl (cm 8, 10240, .inl ff))]) [0, 3] rfl
  have hKc := hK.sub (tys' := [(cm 8, .int)]) [2] rfl
  have hFc := va_free0 hS hA
  refine va_calli (va_runV (As := [.int (nI (J y))]) (rest := []) ⟨hx, hb, hml, hown, hts⟩ (c_roomsAhead l D _ h0 a cm i g ff (J y) cn nb J (Nat.le_of_lt (hBk y hy).2) hn2 hr2) (cwV 1 hts g_c_frozenRoom_c_roomsAhead_265 rfl rfl rfl (by decide +kernel) ⟨(Nat.le_of_ble_eq_true rfl), (Nat.le_of_ble_eq_true rfl)⟩) (PcR_V (q0 := 0) hPc hKc rfl rfl) rfl rfl hl.1 rfl (lv_room (Nat.le_of_ble_eq_true rfl)) dX11_frozenRoom_11 ⟨(Nat.le_of_ble_eq_true rfl), (Nat.le_of_ble_eq_true rfl)⟩) hS (fun q _ h => hFc q h) hFc (fun r3 uu tt H locs htt hvm hw hB hz1 hk1 hS => ?_)
  have hP := va_keep hP hk1
  try dsimp only at hw
  clear hB hz1 hk1 hFc hPc hKc
  refine lv_aload_n hx hb dX11_frozenRoom_14 rfl (lv_at hl 0 rfl) ?_
  refine va_get (D := D) (ci := 11) (v := .ref (a 7)) (C := RX11) (T := TX11) (N := 47) hx hb hts hin_X11 hown hK hP 0 rfl rfl 7 (by decide) (hts (.fieldLink RX11 27 "ClashFreeModel" "inRoom" "[I") (List.mem_of_getElem? (i := 6) rfl)) (fun _ h9 => h9) rfl dX11_frozenRoom_15 ?_
  refine lv_sipush (v := 640) hx hb dX11_frozenRoom_18 (by decide) ?_
  refine lv_iload_n hx hb dX11_frozenRoom_21 rfl (lv_at hl 1 rfl) ?_
  refine lv_iadd hx hb dX11_frozenRoom_22 ?_
  refine lv_topi (fun v4 ev4 => ?_)
  obtain rfl : v4 = nI (160 * 4 + y) := ev4.trans (nI_add 640 y)
  refine va_iald hx hb hK hP 2 1 rfl rfl (vp_in_nI (by omega) (by decide)) dX11_frozenRoom_23 ?_
  refine lv_topi (fun v5 ev5 => ?_)
  refine lv_iadd hx hb dX11_frozenRoom_24 ?_
  refine lv_topi (fun v6 ev6 => ?_)
  exact W.iret (v := v6) hx hb hr (fun t ht hW => ⟨⟨v6, (), rfl, trivial, trivial⟩, hS.F ht⟩) hS.2.2 dX11_frozenRoom_25

