theorem dX11_octet1_0 : decode cX11_octet1 0 = .ok (.aload_n 0, 1) := by decide +kernel
theorem dX11_octet1_1 : decode cX11_octet1 1 = .ok (.getfield 70, 3) := by decide +kernel
theorem dX11_octet1_4 : decode cX11_octet1 4 = .ok (.aload_n 0, 1) := by decide +kernel
theorem dX11_octet1_5 : decode cX11_octet1 5 = .ok (.getfield 437, 3) := by decide +kernel
theorem dX11_octet1_8 : decode cX11_octet1 8 = .ok (.lload_n 1, 1) := by decide +kernel
theorem dX11_octet1_9 : decode cX11_octet1 9 = .ok (.ldc2_w 440, 3) := by decide +kernel
theorem dX11_octet1_12 : decode cX11_octet1 12 = .ok (.land, 1) := by decide +kernel
theorem dX11_octet1_13 : decode cX11_octet1 13 = .ok (.l2i, 1) := by decide +kernel
theorem dX11_octet1_14 : decode cX11_octet1 14 = .ok (.iastore, 1) := by decide +kernel
theorem dX11_octet1_15 : decode cX11_octet1 15 = .ok (.aload_n 0, 1) := by decide +kernel
theorem dX11_octet1_16 : decode cX11_octet1 16 = .ok (.dup, 1) := by decide +kernel
theorem dX11_octet1_17 : decode cX11_octet1 17 = .ok (.getfield 437, 3) := by decide +kernel
theorem dX11_octet1_20 : decode cX11_octet1 20 = .ok (.iconst 1, 1) := by decide +kernel
theorem dX11_octet1_21 : decode cX11_octet1 21 = .ok (.iadd, 1) := by decide +kernel
theorem dX11_octet1_22 : decode cX11_octet1 22 = .ok (.putfield 437, 3) := by decide +kernel
theorem dX11_octet1_25 : decode cX11_octet1 25 = .ok (.return_, 1) := by decide +kernel
theorem dX11_octetsOf_0 : decode cX11_octetsOf 0 = .ok (.bipush 8, 2) := by decide +kernel
theorem dX11_octetsOf_2 : decode cX11_octetsOf 2 = .ok (.iload_n 3, 1) := by decide +kernel
theorem dX11_octetsOf_3 : decode cX11_octetsOf 3 = .ok (.imul, 1) := by decide +kernel
theorem dX11_octetsOf_4 : decode cX11_octetsOf 4 = .ok (.bipush 8, 2) := by decide +kernel
theorem dX11_octetsOf_6 : decode cX11_octetsOf 6 = .ok (.isub, 1) := by decide +kernel
theorem dX11_octetsOf_7 : decode cX11_octetsOf 7 = .ok (.istore 4, 2) := by decide +kernel
theorem dX11_octetsOf_9 : decode cX11_octetsOf 9 = .ok (.iload 4, 2) := by decide +kernel
theorem dX11_octetsOf_11 : decode cX11_octetsOf 11 = .ok (.ifCond .lt 17, 3) := by decide +kernel
theorem dX11_octetsOf_14 : decode cX11_octetsOf 14 = .ok (.aload_n 0, 1) := by decide +kernel
theorem dX11_octetsOf_15 : decode cX11_octetsOf 15 = .ok (.lload_n 1, 1) := by decide +kernel
theorem dX11_octetsOf_16 : decode cX11_octetsOf 16 = .ok (.iload 4, 2) := by decide +kernel
theorem dX11_octetsOf_18 : decode cX11_octetsOf 18 = .ok (.lshr, 1) := by decide +kernel
theorem dX11_octetsOf_19 : decode cX11_octetsOf 19 = .ok (.invokevirtual 442, 3) := by decide +kernel
theorem dX11_octetsOf_22 : decode cX11_octetsOf 22 = .ok (.iinc 4 (-8), 3) := by decide +kernel
theorem dX11_octetsOf_25 : decode cX11_octetsOf 25 = .ok (.goto (-16), 3) := by decide +kernel
theorem dX11_octetsOf_28 : decode cX11_octetsOf 28 = .ok (.return_, 1) := by decide +kernel
def bF (f : Nat → Int32) (x : Nat) : Nat → Int64
  | 0 => 0
  | q + 1 => (bF f x q) <<< ((Int32.toInt64 8) &&& 63) ||| Int32.toInt64 (f (x + q) &&& 255)
def own_c_octet1 : List Cond := [.fieldLink RX11 70 "ClashFreeModel" "octets" "[I", .fieldLink RX11 437 "ClashFreeModel" "octetMany" "I", .constantLong RX11 440 (255)]
def wp_c_octet1 : List Cond := .code yX11_octet1 cX11_octet1 3 none :: (own_c_octet1 ++ (wsX110 ++ ([] : List Cond)))
set_option maxRecDepth 20000 in
theorem inown_c_octet1 : ∀ w ∈ own_c_octet1, w ∈ lw_tbl := mem_places [1261, 1262, 1802] (by decide +kernel)
set_option maxRecDepth 20000 in
theorem in_c_octet1 : ∀ w ∈ wp_c_octet1, w ∈ lw_tbl := List.forall_mem_cons.mpr ⟨List.mem_of_getElem? (i := 1801) (by decide +kernel), List.forall_mem_append.mpr ⟨inown_c_octet1, List.forall_mem_append.mpr ⟨lwb_X11, fun _ h => absurd h List.not_mem_nil⟩⟩⟩
set_option maxRecDepth 20000 in
theorem good_c_octet1 : wp_c_octet1.all goodWord = true := by decide +kernel
set_option maxHeartbeats 4000000 in
set_option maxRecDepth 100000 in
theorem c_octet1 (l : Launch) (D : va_G) (sz : Nat) (h0 : Nat) (a : Nat → Nat) (cm : Nat → ClassId) (i : Nat → Int32) (g : Nat → Int64) (fy : Nat → Int32) (v : Int64) (no : Nat) (htp : i 46 = nI no) (htp2 : no + 1 ≤ 1400) : Met l yX11_octet1 wp_c_octet1 ({ frames := 0, cells := 0, slots := 0, locals := 0 }) (PcW D [.ref h0, .long v] sz [(h0, .inr (11, gM a i g)), (a 45, .inl (cm 45, 1400, .inl fy))] [(cm 45, .int)]) (va_Qv (fun (u : (Nat → Int32) × (Int32)) => u.2 = nI (no + 1)) (fun (u : (Nat → Int32) × (Int32)) t => va_P D vwCl [(h0, .inr (11, gM a (upd i 46 u.2) g)), (a 45, .inl (cm 45, 1400, .inl u.1))] t.heap ∧ va_K D vwCl [(cm 45, .int)] t ∧ va_D (va_A [(h0, .inr (11, gM a i g)), (a 45, .inl (cm 45, 1400, .inl fy))] sz) [(h0, .inr (11, gM a (upd i 46 u.2) g)), (a 45, .inl (cm 45, 1400, .inl u.1))]) (va_A [(h0, .inr (11, gM a i g)), (a 45, .inl (cm 45, 1400, .inl fy))] sz)) 0 0 (va_A [(h0, .inr (11, gM a i g)), (a 45, .inl (cm 45, 1400, .inl fy))] sz) := by
  refine Met.ofW (cc := cX11_octet1) (maxL := 3) (ret := none) (by decide) rfl ?_
  intro p e s m args below meth c s₁ B hml hv
  obtain ⟨rfl, hsz, hP, hK, hD0⟩ := hv
  have hx := B.exec
  have hb := B.bytes
  have hr := B.returns
  have hts := atoms_spec (ws := wp_c_octet1) B.pre
  have hin_X11 : ∀ w ∈ wsX110, w ∈ wp_c_octet1 := fun _ h => (List.mem_cons_of_mem _ (List.mem_append_right _ (List.mem_append_left _ h)))
  have hown : s.vm.findClass RX11 = some m.cls := findClass_of_methodNamed B.named
  have hlocks := B.notSynchronized
  subst hsz
  have hD := hD0.self (sz := s.heap.size)
  generalize hAe : va_A [(h0, .inr (11, gM a i g)), (a 45, .inl (cm 45, 1400, .inl fy))] s.heap.size = A at hD ⊢
  have hA : ∀ q : Nat, s.heap.size ≤ q → A q := fun q h => by rw [← hAe]; exact Or.inr h
  have hS : va_S A s.heap s.heap [] := va_S.rf
  have hP : va_P D vwCl [(h0, .inr (11, gM a i g)), (a 45, .inl (cm 45, 1400, .inl fy))] s.heap := hP
  have hl := lv_entry ([.ref h0, .long v]) (n := 3) (Nat.le_of_ble_eq_true rfl)
  rw [lg_entry_eq]
  generalize (lg_sl ([.ref h0, .long v]) ++ List.replicate (3 - (lg_sl ([.ref h0, .long v])).length) Slot.unset).toArray = ls at hl ⊢
  have hl : lv_has ls 3 [(0, .ref h0), (1, .long v)] := hl
  refine lv_aload_n hx hb dX11_octet1_0 rfl (lv_at hl 0 rfl) ?_
  refine va_get (D := D) (ci := 11) (v := .ref (a 45)) (C := RX11) (T := TX11) (N := 47) hx hb hts hin_X11 hown hK hP 0 rfl rfl 45 (by decide) (hts (.fieldLink RX11 70 "ClashFreeModel" "octets" "[I") (List.mem_of_getElem? (i := 1) rfl)) (fun _ h9 => h9) rfl dX11_octet1_1 ?_
  refine lv_aload_n hx hb dX11_octet1_4 rfl (lv_at hl 0 rfl) ?_
  refine va_get (D := D) (ci := 11) (v := .int (i 46)) (C := RX11) (T := TX11) (N := 47) hx hb hts hin_X11 hown hK hP 0 rfl rfl 46 (by decide) (hts (.fieldLink RX11 437 "ClashFreeModel" "octetMany" "I") (List.mem_of_getElem? (i := 2) rfl)) (fun _ h9 => h9) rfl dX11_octet1_5 ?_
  refine lv_topi (fun v1 ev1 => ?_)
  obtain rfl : v1 = nI no := ev1.trans (htp)
  refine lv_lload_n hx hb dX11_octet1_8 rfl (lv_at hl 1 rfl) ?_
  refine lv_ldc2 (v := 255) hx hb hown (hts (.constantLong RX11 440 (255)) (List.mem_of_getElem? (i := 3) rfl)) dX11_octet1_9 ?_
  refine lv_land hx hb dX11_octet1_12 ?_
  refine lv_topl (fun v2 ev2 => ?_)
  refine lv_l2i hx hb dX11_octet1_13 rfl ?_
  refine lv_topi (fun v3 ev3 => ?_)
  refine va_iast hx hb hK hP hD hS 1 0 rfl rfl (vp_in_nI (by omega) (by decide)) dX11_octet1_14 (fun H locs hP hD hS => ?_)
  have hP : va_P D vwCl [(h0, .inr (11, gM a i g)), (a 45, .inl (cm 45, 1400, .inl (upd fy (Int32.toNatClampNeg (nI no)) v3)))] H := hP
  have hD : va_D A [(h0, .inr (11, gM a i g)), (a 45, .inl (cm 45, 1400, .inl (upd fy (Int32.toNatClampNeg (nI no)) v3)))] := hD
  generalize upd fy (Int32.toNatClampNeg (nI no)) v3 = g4 at hP hD
  refine lv_aload_n hx hb dX11_octet1_15 rfl (lv_at hl 0 rfl) ?_
  refine lv_dup hx hb dX11_octet1_16 rfl ?_
  refine va_get (D := D) (ci := 11) (v := .int (i 46)) (C := RX11) (T := TX11) (N := 47) hx hb hts hin_X11 hown hK hP 0 rfl rfl 46 (by decide) (hts (.fieldLink RX11 437 "ClashFreeModel" "octetMany" "I") (List.mem_of_getElem? (i := 2) rfl)) (fun _ h9 => h9) rfl dX11_octet1_17 ?_
  refine lv_topi (fun v5 ev5 => ?_)
  obtain rfl : v5 = nI no := ev5.trans (htp)
  refine lv_iconst (v := 1) hx hb dX11_octet1_20 (by decide) ?_
  refine lv_iadd hx hb dX11_octet1_21 ?_
  refine lv_topi (fun v6 ev6 => ?_)
  obtain rfl : v6 = nI (no + 1) := ev6.trans (nI_1 _)
  refine va_put (D := D) (ci := 11) (v := .int (nI (no + 1))) (ty := .int) (C := RX11) (T := TX11) (N := 47) hx hb hts hin_X11 tyX11 tyX11_ok nmX11 hown hK hP hD hS 0 rfl rfl 46 (by decide) (hts (.fieldLink RX11 437 "ClashFreeModel" "octetMany" "I") (List.mem_of_getElem? (i := 2) rfl)) (fun _ h9 => h9) rfl (by decide +kernel) rfl rfl (Nat.le_of_ble_eq_true rfl) dX11_octet1_22 (fun H locs hP hD hS => ?_)
  have hP : va_P D vwCl [(h0, .inr (11, gM a (upd i 46 (nI (no + 1))) g)), (a 45, .inl (cm 45, 1400, .inl g4))] H := hP
  have hD : va_D A [(h0, .inr (11, gM a (upd i 46 (nI (no + 1))) g)), (a 45, .inl (cm 45, 1400, .inl g4))] := hD
  exact W.vret hx hb hr (fun t ht hW => ⟨⟨(g4, (nI (no + 1))), rfl, rfl, by rw [ht]; exact hP.sub [0, 1] rfl, va_K.moved hW.alike (hK.sub [0] rfl), hD.sub [0, 1] (by decide) rfl⟩, hS.F ht⟩) hS.2.2 dX11_octet1_25

def own_c_octetsOf : List Cond := [.methodLink RX11 442 yX11_octet1, .instanceMethod yX11_octet1, .selects RX11 yX11_octet1 yX11_octet1, .initialized RX11]
def wp_c_octetsOf : List Cond := .code yX11_octetsOf cX11_octetsOf 5 none :: (own_c_octetsOf ++ (wp_c_octet1 ++ ([] : List Cond)))
set_option maxRecDepth 20000 in
theorem inown_c_octetsOf : ∀ w ∈ own_c_octetsOf, w ∈ lw_tbl := mem_places [1798, 1800, 102, 115] (by decide +kernel)
set_option maxRecDepth 20000 in
theorem in_c_octetsOf : ∀ w ∈ wp_c_octetsOf, w ∈ lw_tbl := List.forall_mem_cons.mpr ⟨List.mem_of_getElem? (i := 1797) (by decide +kernel), List.forall_mem_append.mpr ⟨inown_c_octetsOf, List.forall_mem_append.mpr ⟨in_c_octet1, fun _ h => absurd h List.not_mem_nil⟩⟩⟩
set_option maxRecDepth 20000 in
theorem good_c_octetsOf : wp_c_octetsOf.all goodWord = true := by decide +kernel
set_option maxRecDepth 20000 in
theorem g_c_octetsOf_c_octet1_442 : GoodIn wp_c_octetsOf (wsV RX11 442 RX11 yX11_octet1 wp_c_octet1) := goodIn_sub (List.forall_mem_append.mpr ⟨List.forall_mem_cons.mpr ⟨(List.mem_of_getElem? (i := 1) rfl), List.forall_mem_cons.mpr ⟨(List.mem_of_getElem? (i := 2) rfl), List.forall_mem_cons.mpr ⟨(List.mem_of_getElem? (i := 3) rfl), List.forall_mem_cons.mpr ⟨(List.mem_of_getElem? (i := 4) rfl), fun _ h => absurd h List.not_mem_nil⟩⟩⟩⟩, (fun _ h => (List.mem_cons_of_mem _ (List.mem_append_right _ (List.mem_append_left _ h))))⟩) (by decide +kernel)
set_option maxHeartbeats 4000000 in
set_option maxRecDepth 100000 in
theorem c_octetsOf (l : Launch) (D : va_G) (sz : Nat) (h0 : Nat) (a : Nat → Nat) (cm : Nat → ClassId) (i : Nat → Int32) (g : Nat → Int64) (fy : Nat → Int32) (v : Int64) (no : Nat) (q : Nat) (htp : i 46 = nI no) (htp2 : no + q ≤ 1400) (hq : q = 1 ∨ q = 2 ∨ q = 4 ∨ q = 8) : Met l yX11_octetsOf wp_c_octetsOf ({ frames := 1, cells := 0, slots := 0, locals := 22 }) (PcW D [.ref h0, .long v, .int (nI q)] sz [(h0, .inr (11, gM a i g)), (a 45, .inl (cm 45, 1400, .inl fy))] [(cm 45, .int)]) (va_Qv (fun (u : (Nat → Int32) × (Int32)) => u.2 = nI (no + q)) (fun (u : (Nat → Int32) × (Int32)) t => va_P D vwCl [(h0, .inr (11, gM a (upd i 46 u.2) g)), (a 45, .inl (cm 45, 1400, .inl u.1))] t.heap ∧ va_K D vwCl [(cm 45, .int)] t ∧ va_D (va_A [(h0, .inr (11, gM a i g)), (a 45, .inl (cm 45, 1400, .inl fy))] sz) [(h0, .inr (11, gM a (upd i 46 u.2) g)), (a 45, .inl (cm 45, 1400, .inl u.1))]) (va_A [(h0, .inr (11, gM a i g)), (a 45, .inl (cm 45, 1400, .inl fy))] sz)) 0 0 (va_A [(h0, .inr (11, gM a i g)), (a 45, .inl (cm 45, 1400, .inl fy))] sz) := by
  refine Met.ofW (cc := cX11_octetsOf) (maxL := 5) (ret := none) (by decide) rfl ?_
  intro p e s m args below meth c s₁ B hml hv
  obtain ⟨rfl, hsz, hP, hK, hD0⟩ := hv
  have hx := B.exec
  have hb := B.bytes
  have hr := B.returns
  have hts := atoms_spec (ws := wp_c_octetsOf) B.pre
  have hown : s.vm.findClass RX11 = some m.cls := findClass_of_methodNamed B.named
  have hlocks := B.notSynchronized
  subst hsz
  have hD := hD0.self (sz := s.heap.size)
  generalize hAe : va_A [(h0, .inr (11, gM a i g)), (a 45, .inl (cm 45, 1400, .inl fy))] s.heap.size = A at hD ⊢
  have hA : ∀ q : Nat, s.heap.size ≤ q → A q := fun q h => by rw [← hAe]; exact Or.inr h
  have hS : va_S A s.heap s.heap [] := va_S.rf
  have hP : va_P D vwCl [(h0, .inr (11, gM a i g)), (a 45, .inl (cm 45, 1400, .inl fy))] s.heap := hP
  have hl := lv_entry ([.ref h0, .long v, .int (nI q)]) (n := 5) (Nat.le_of_ble_eq_true rfl)
  rw [lg_entry_eq]
  generalize (lg_sl ([.ref h0, .long v, .int (nI q)]) ++ List.replicate (5 - (lg_sl ([.ref h0, .long v, .int (nI q)])).length) Slot.unset).toArray = ls at hl ⊢
  have hl : lv_has ls 5 [(0, .ref h0), (1, .long v), (3, .int (nI q))] := hl
  rcases hq with rfl | rfl | rfl | rfl
  ·
    have hl : lv_has ls 5 [(0, .ref h0), (1, .long v), (3, .int 1)] := hl
    refine lv_bipush (v := 8) hx hb dX11_octetsOf_0 (by decide) ?_
    refine lv_iload_n hx hb dX11_octetsOf_2 rfl (lv_at hl 2 rfl) ?_
    refine lv_imul hx hb dX11_octetsOf_3 ?_
    refine lv_topi (fun v1 ev1 => ?_)
    obtain rfl : v1 = 8 := ev1.trans (by decide)
    refine lv_bipush (v := 8) hx hb dX11_octetsOf_4 (by decide) ?_
    refine lv_isub hx hb dX11_octetsOf_6 ?_
    refine lv_topi (fun v2 ev2 => ?_)
    obtain rfl : v2 = 0 := ev2.trans (by decide)
    refine lv_istore (lv' := [(4, .int 0), (0, .ref h0), (1, .long v), (3, .int 1)]) hx hb dX11_octetsOf_7 hl (by decide) rfl (fun ls hl => ?_)
    refine lv_iload hx hb dX11_octetsOf_9 (lv_at hl 0 rfl) ?_
    refine lv_if_lt (tgt := 28) hx hb dX11_octetsOf_11 (by decide) (fun hc => absurd hc (by decide)) (fun hc => ?_)
    refine lv_aload_n hx hb dX11_octetsOf_14 rfl (lv_at hl 1 rfl) ?_
    refine lv_lload_n hx hb dX11_octetsOf_15 rfl (lv_at hl 2 rfl) ?_
    refine lv_iload hx hb dX11_octetsOf_16 (lv_at hl 0 rfl) ?_
    refine lv_lshr hx hb dX11_octetsOf_18 rfl ?_
    refine lv_topl (fun v3 ev3 => ?_)
    have hPc := hP.sub (ws' := [(h0, .inr (11, gM a i g)), (a 45, .inl (cm 45, 1400, .inl fy))]) [0, 1] rfl
    have hKc := hK.sub (tys' := [(cm 45, .int)]) [0] rfl
    have hDc := hD.sub (ws' := [(h0, .inr (11, gM a i g)), (a 45, .inl (cm 45, 1400, .inl fy))]) [0, 1] (by decide) rfl
    have hFc := va_free (wc := [(h0, .inr (11, gM a i g)), (a 45, .inl (cm 45, 1400, .inl fy))]) hD hS hA [0, 1] rfl
    refine va_callv (va_runV (As := [.long v3]) (rest := []) ⟨hx, hb, hml, hown, hts⟩ (c_octet1 l D _ h0 a cm i g fy v3 no htp (by omega)) (cwV 1 hts g_c_octetsOf_c_octet1_442 rfl rfl rfl (by decide +kernel) ⟨(Nat.le_of_ble_eq_true rfl), (Nat.le_of_ble_eq_true rfl)⟩) (PcW_V (q0 := 0) hPc hKc hDc rfl rfl) rfl rfl hl.1 rfl (lv_room (Nat.le_of_ble_eq_true rfl)) dX11_octetsOf_19 ⟨(Nat.le_of_ble_eq_true rfl), (Nat.le_of_ble_eq_true rfl)⟩) hS (fun q _ h => hFc q h) hFc (fun uu tt H locs htt hvm hw hB hz1 hk1 hS => ?_)
    obtain ⟨w5, w6⟩ := uu
    obtain ⟨hP1, hK1, hD1⟩ := hB
    rw [htt] at hP1
    have hK1 := va_K.moved hvm.symm hK1
    have hP1 : va_P D vwCl [(h0, .inr (11, gM a (upd i 46 w6) g)), (a 45, .inl (cm 45, 1400, .inl w5))] H := hP1
    obtain ⟨hP, hD⟩ := va_join (wr := []) (w1 := [(h0, .inr (11, gM a (upd i 46 w6) g)), (a 45, .inl (cm 45, 1400, .inl w5))]) hP hD [0, 1] [] rfl rfl (by decide) (by decide) hk1 hFc hP1 hD1
    have hP : va_P D vwCl [(h0, .inr (11, gM a (upd i 46 w6) g)), (a 45, .inl (cm 45, 1400, .inl w5))] H := hP
    have hD : va_D A [(h0, .inr (11, gM a (upd i 46 w6) g)), (a 45, .inl (cm 45, 1400, .inl w5))] := hD
    try dsimp only at hw
    clear hz1 hk1 hFc hPc hKc hDc
    obtain rfl := hw
    have hP : va_P D vwCl [(h0, .inr (11, gM a (upd i 46 (nI (no + 1))) g)), (a 45, .inl (cm 45, 1400, .inl w5))] H := hP
    have hD : va_D A [(h0, .inr (11, gM a (upd i 46 (nI (no + 1))) g)), (a 45, .inl (cm 45, 1400, .inl w5))] := hD
    refine lv_iinc (v := (-8)) (lv' := [(4, .int (-8)), (0, .ref h0), (1, .long v), (3, .int 1)]) hx hb dX11_octetsOf_22 hl (k := 0) rfl (by decide) (by decide) rfl (fun ls hl => ?_)
    refine lv_goto (tgt := 9) hx hb dX11_octetsOf_25 (by decide) ?_
    refine lv_iload hx hb dX11_octetsOf_9 (lv_at hl 0 rfl) ?_
    refine lv_if_lt (tgt := 28) hx hb dX11_octetsOf_11 (by decide) (fun hc => ?_) (fun hc => absurd (by decide) hc)
    exact W.vret hx hb hr (fun t ht hW => ⟨⟨(w5, (nI (no + 1))), rfl, rfl, by rw [ht]; exact hP.sub [0, 1] rfl, va_K.moved hW.alike (hK.sub [0] rfl), hD.sub [0, 1] (by decide) rfl⟩, hS.F ht⟩) hS.2.2 dX11_octetsOf_28
  ·
    have hl : lv_has ls 5 [(0, .ref h0), (1, .long v), (3, .int 2)] := hl
    refine lv_bipush (v := 8) hx hb dX11_octetsOf_0 (by decide) ?_
    refine lv_iload_n hx hb dX11_octetsOf_2 rfl (lv_at hl 2 rfl) ?_
    refine lv_imul hx hb dX11_octetsOf_3 ?_
    refine lv_topi (fun v7 ev7 => ?_)
    obtain rfl : v7 = 16 := ev7.trans (by decide)
    refine lv_bipush (v := 8) hx hb dX11_octetsOf_4 (by decide) ?_
    refine lv_isub hx hb dX11_octetsOf_6 ?_
    refine lv_topi (fun v8 ev8 => ?_)
    obtain rfl : v8 = 8 := ev8.trans (by decide)
    refine lv_istore (lv' := [(4, .int 8), (0, .ref h0), (1, .long v), (3, .int 2)]) hx hb dX11_octetsOf_7 hl (by decide) rfl (fun ls hl => ?_)
    refine lv_iload hx hb dX11_octetsOf_9 (lv_at hl 0 rfl) ?_
    refine lv_if_lt (tgt := 28) hx hb dX11_octetsOf_11 (by decide) (fun hc => absurd hc (by decide)) (fun hc => ?_)
    refine lv_aload_n hx hb dX11_octetsOf_14 rfl (lv_at hl 1 rfl) ?_
    refine lv_lload_n hx hb dX11_octetsOf_15 rfl (lv_at hl 2 rfl) ?_
    refine lv_iload hx hb dX11_octetsOf_16 (lv_at hl 0 rfl) ?_
    refine lv_lshr hx hb dX11_octetsOf_18 rfl ?_
    refine lv_topl (fun v9 ev9 => ?_)
    have hPc := hP.sub (ws' := [(h0, .inr (11, gM a i g)), (a 45, .inl (cm 45, 1400, .inl fy))]) [0, 1] rfl
    have hKc := hK.sub (tys' := [(cm 45, .int)]) [0] rfl
    have hDc := hD.sub (ws' := [(h0, .inr (11, gM a i g)), (a 45, .inl (cm 45, 1400, .inl fy))]) [0, 1] (by decide) rfl
    have hFc := va_free (wc := [(h0, .inr (11, gM a i g)), (a 45, .inl (cm 45, 1400, .inl fy))]) hD hS hA [0, 1] rfl
    refine va_callv (va_runV (As := [.long v9]) (rest := []) ⟨hx, hb, hml, hown, hts⟩ (c_octet1 l D _ h0 a cm i g fy v9 no htp (by omega)) (cwV 1 hts g_c_octetsOf_c_octet1_442 rfl rfl rfl (by decide +kernel) ⟨(Nat.le_of_ble_eq_true rfl), (Nat.le_of_ble_eq_true rfl)⟩) (PcW_V (q0 := 0) hPc hKc hDc rfl rfl) rfl rfl hl.1 rfl (lv_room (Nat.le_of_ble_eq_true rfl)) dX11_octetsOf_19 ⟨(Nat.le_of_ble_eq_true rfl), (Nat.le_of_ble_eq_true rfl)⟩) hS (fun q _ h => hFc q h) hFc (fun uu tt H locs htt hvm hw hB hz1 hk1 hS => ?_)
    obtain ⟨w11, w12⟩ := uu
    obtain ⟨hP1, hK1, hD1⟩ := hB
    rw [htt] at hP1
    have hK1 := va_K.moved hvm.symm hK1
    have hP1 : va_P D vwCl [(h0, .inr (11, gM a (upd i 46 w12) g)), (a 45, .inl (cm 45, 1400, .inl w11))] H := hP1
    obtain ⟨hP, hD⟩ := va_join (wr := []) (w1 := [(h0, .inr (11, gM a (upd i 46 w12) g)), (a 45, .inl (cm 45, 1400, .inl w11))]) hP hD [0, 1] [] rfl rfl (by decide) (by decide) hk1 hFc hP1 hD1
    have hP : va_P D vwCl [(h0, .inr (11, gM a (upd i 46 w12) g)), (a 45, .inl (cm 45, 1400, .inl w11))] H := hP
    have hD : va_D A [(h0, .inr (11, gM a (upd i 46 w12) g)), (a 45, .inl (cm 45, 1400, .inl w11))] := hD
    try dsimp only at hw
    clear hz1 hk1 hFc hPc hKc hDc
    obtain rfl := hw
    have hP : va_P D vwCl [(h0, .inr (11, gM a (upd i 46 (nI (no + 1))) g)), (a 45, .inl (cm 45, 1400, .inl w11))] H := hP
    have hD : va_D A [(h0, .inr (11, gM a (upd i 46 (nI (no + 1))) g)), (a 45, .inl (cm 45, 1400, .inl w11))] := hD
    refine lv_iinc (v := 0) (lv' := [(4, .int 0), (0, .ref h0), (1, .long v), (3, .int 2)]) hx hb dX11_octetsOf_22 hl (k := 0) rfl (by decide) (by decide) rfl (fun ls hl => ?_)
    refine lv_goto (tgt := 9) hx hb dX11_octetsOf_25 (by decide) ?_
    refine lv_iload hx hb dX11_octetsOf_9 (lv_at hl 0 rfl) ?_
    refine lv_if_lt (tgt := 28) hx hb dX11_octetsOf_11 (by decide) (fun hc => absurd hc (by decide)) (fun hc => ?_)
    refine lv_aload_n hx hb dX11_octetsOf_14 rfl (lv_at hl 1 rfl) ?_
    refine lv_lload_n hx hb dX11_octetsOf_15 rfl (lv_at hl 2 rfl) ?_
    refine lv_iload hx hb dX11_octetsOf_16 (lv_at hl 0 rfl) ?_
    refine lv_lshr hx hb dX11_octetsOf_18 rfl ?_
    refine lv_topl (fun v13 ev13 => ?_)
    have hPc := hP.sub (ws' := [(h0, .inr (11, gM a (upd i 46 (nI (no + 1))) g)), (a 45, .inl (cm 45, 1400, .inl w11))]) [0, 1] rfl
    have hKc := hK.sub (tys' := [(cm 45, .int)]) [0] rfl
    have hDc := hD.sub (ws' := [(h0, .inr (11, gM a (upd i 46 (nI (no + 1))) g)), (a 45, .inl (cm 45, 1400, .inl w11))]) [0, 1] (by decide) rfl
    have hFc := va_free (wc := [(h0, .inr (11, gM a (upd i 46 (nI (no + 1))) g)), (a 45, .inl (cm 45, 1400, .inl w11))]) hD hS hA [0, 1] rfl
    refine va_callv (va_runV (As := [.long v13]) (rest := []) ⟨hx, hb, hml, hown, hts⟩ (c_octet1 l D _ h0 a cm (upd i 46 (nI (no + 1))) g w11 v13 (no + 1) rfl (by omega)) (cwV 1 hts g_c_octetsOf_c_octet1_442 rfl rfl rfl (by decide +kernel) ⟨(Nat.le_of_ble_eq_true rfl), (Nat.le_of_ble_eq_true rfl)⟩) (PcW_V (q0 := 0) hPc hKc hDc rfl rfl) rfl rfl hl.1 rfl (lv_room (Nat.le_of_ble_eq_true rfl)) dX11_octetsOf_19 ⟨(Nat.le_of_ble_eq_true rfl), (Nat.le_of_ble_eq_true rfl)⟩) hS (fun q _ h => hFc q h) hFc (fun uu tt H locs htt hvm hw hB hz1 hk1 hS => ?_)
    obtain ⟨w15, w16⟩ := uu
    obtain ⟨hP1, hK1, hD1⟩ := hB
    rw [htt] at hP1
    have hK1 := va_K.moved hvm.symm hK1
    have hP1 : va_P D vwCl [(h0, .inr (11, gM a (upd i 46 w16) g)), (a 45, .inl (cm 45, 1400, .inl w15))] H := hP1
    obtain ⟨hP, hD⟩ := va_join (wr := []) (w1 := [(h0, .inr (11, gM a (upd i 46 w16) g)), (a 45, .inl (cm 45, 1400, .inl w15))]) hP hD [0, 1] [] rfl rfl (by decide) (by decide) hk1 hFc hP1 hD1
    have hP : va_P D vwCl [(h0, .inr (11, gM a (upd i 46 w16) g)), (a 45, .inl (cm 45, 1400, .inl w15))] H := hP
    have hD : va_D A [(h0, .inr (11, gM a (upd i 46 w16) g)), (a 45, .inl (cm 45, 1400, .inl w15))] := hD
    try dsimp only at hw
    clear hz1 hk1 hFc hPc hKc hDc
    obtain rfl := hw
    have hP : va_P D vwCl [(h0, .inr (11, gM a (upd i 46 (nI (no + 2))) g)), (a 45, .inl (cm 45, 1400, .inl w15))] H := hP
    have hD : va_D A [(h0, .inr (11, gM a (upd i 46 (nI (no + 2))) g)), (a 45, .inl (cm 45, 1400, .inl w15))] := hD
    refine lv_iinc (v := (-8)) (lv' := [(4, .int (-8)), (0, .ref h0), (1, .long v), (3, .int 2)]) hx hb dX11_octetsOf_22 hl (k := 0) rfl (by decide) (by decide) rfl (fun ls hl => ?_)
    refine lv_goto (tgt := 9) hx hb dX11_octetsOf_25 (by decide) ?_
    refine lv_iload hx hb dX11_octetsOf_9 (lv_at hl 0 rfl) ?_
    refine lv_if_lt (tgt := 28) hx hb dX11_octetsOf_11 (by decide) (fun hc => ?_) (fun hc => absurd (by decide) hc)
    exact W.vret hx hb hr (fun t ht hW => ⟨⟨(w15, (nI (no + 2))), rfl, rfl, by rw [ht]; exact hP.sub [0, 1] rfl, va_K.moved hW.alike (hK.sub [0] rfl), hD.sub [0, 1] (by decide) rfl⟩, hS.F ht⟩) hS.2.2 dX11_octetsOf_28
  ·
    have hl : lv_has ls 5 [(0, .ref h0), (1, .long v), (3, .int 4)] := hl
    refine lv_bipush (v := 8) hx hb dX11_octetsOf_0 (by decide) ?_
    refine lv_iload_n hx hb dX11_octetsOf_2 rfl (lv_at hl 2 rfl) ?_
    refine lv_imul hx hb dX11_octetsOf_3 ?_
    refine lv_topi (fun v17 ev17 => ?_)
    obtain rfl : v17 = 32 := ev17.trans (by decide)
    refine lv_bipush (v := 8) hx hb dX11_octetsOf_4 (by decide) ?_
    refine lv_isub hx hb dX11_octetsOf_6 ?_
    refine lv_topi (fun v18 ev18 => ?_)
    obtain rfl : v18 = 24 := ev18.trans (by decide)
    refine lv_istore (lv' := [(4, .int 24), (0, .ref h0), (1, .long v), (3, .int 4)]) hx hb dX11_octetsOf_7 hl (by decide) rfl (fun ls hl => ?_)
    refine lv_iload hx hb dX11_octetsOf_9 (lv_at hl 0 rfl) ?_
    refine lv_if_lt (tgt := 28) hx hb dX11_octetsOf_11 (by decide) (fun hc => absurd hc (by decide)) (fun hc => ?_)
    refine lv_aload_n hx hb dX11_octetsOf_14 rfl (lv_at hl 1 rfl) ?_
    refine lv_lload_n hx hb dX11_octetsOf_15 rfl (lv_at hl 2 rfl) ?_
    refine lv_iload hx hb dX11_octetsOf_16 (lv_at hl 0 rfl) ?_
    refine lv_lshr hx hb dX11_octetsOf_18 rfl ?_
    refine lv_topl (fun v19 ev19 => ?_)
    have hPc := hP.sub (ws' := [(h0, .inr (11, gM a i g)), (a 45, .inl (cm 45, 1400, .inl fy))]) [0, 1] rfl
    have hKc := hK.sub (tys' := [(cm 45, .int)]) [0] rfl
    have hDc := hD.sub (ws' := [(h0, .inr (11, gM a i g)), (a 45, .inl (cm 45, 1400, .inl fy))]) [0, 1] (by decide) rfl
    have hFc := va_free (wc := [(h0, .inr (11, gM a i g)), (a 45, .inl (cm 45, 1400, .inl fy))]) hD hS hA [0, 1] rfl
    refine va_callv (va_runV (As := [.long v19]) (rest := []) ⟨hx, hb, hml, hown, hts⟩ (c_octet1 l D _ h0 a cm i g fy v19 no htp (by omega)) (cwV 1 hts g_c_octetsOf_c_octet1_442 rfl rfl rfl (by decide +kernel) ⟨(Nat.le_of_ble_eq_true rfl), (Nat.le_of_ble_eq_true rfl)⟩) (PcW_V (q0 := 0) hPc hKc hDc rfl rfl) rfl rfl hl.1 rfl (lv_room (Nat.le_of_ble_eq_true rfl)) dX11_octetsOf_19 ⟨(Nat.le_of_ble_eq_true rfl), (Nat.le_of_ble_eq_true rfl)⟩) hS (fun q _ h => hFc q h) hFc (fun uu tt H locs htt hvm hw hB hz1 hk1 hS => ?_)
    obtain ⟨w21, w22⟩ := uu
    obtain ⟨hP1, hK1, hD1⟩ := hB
    rw [htt] at hP1
    have hK1 := va_K.moved hvm.symm hK1
    have hP1 : va_P D vwCl [(h0, .inr (11, gM a (upd i 46 w22) g)), (a 45, .inl (cm 45, 1400, .inl w21))] H := hP1
    obtain ⟨hP, hD⟩ := va_join (wr := []) (w1 := [(h0, .inr (11, gM a (upd i 46 w22) g)), (a 45, .inl (cm 45, 1400, .inl w21))]) hP hD [0, 1] [] rfl rfl (by decide) (by decide) hk1 hFc hP1 hD1
    have hP : va_P D vwCl [(h0, .inr (11, gM a (upd i 46 w22) g)), (a 45, .inl (cm 45, 1400, .inl w21))] H := hP
    have hD : va_D A [(h0, .inr (11, gM a (upd i 46 w22) g)), (a 45, .inl (cm 45, 1400, .inl w21))] := hD
    try dsimp only at hw
    clear hz1 hk1 hFc hPc hKc hDc
    obtain rfl := hw
    have hP : va_P D vwCl [(h0, .inr (11, gM a (upd i 46 (nI (no + 1))) g)), (a 45, .inl (cm 45, 1400, .inl w21))] H := hP
    have hD : va_D A [(h0, .inr (11, gM a (upd i 46 (nI (no + 1))) g)), (a 45, .inl (cm 45, 1400, .inl w21))] := hD
    refine lv_iinc (v := 16) (lv' := [(4, .int 16), (0, .ref h0), (1, .long v), (3, .int 4)]) hx hb dX11_octetsOf_22 hl (k := 0) rfl (by decide) (by decide) rfl (fun ls hl => ?_)
    refine lv_goto (tgt := 9) hx hb dX11_octetsOf_25 (by decide) ?_
    refine lv_iload hx hb dX11_octetsOf_9 (lv_at hl 0 rfl) ?_
    refine lv_if_lt (tgt := 28) hx hb dX11_octetsOf_11 (by decide) (fun hc => absurd hc (by decide)) (fun hc => ?_)
    refine lv_aload_n hx hb dX11_octetsOf_14 rfl (lv_at hl 1 rfl) ?_
    refine lv_lload_n hx hb dX11_octetsOf_15 rfl (lv_at hl 2 rfl) ?_
    refine lv_iload hx hb dX11_octetsOf_16 (lv_at hl 0 rfl) ?_
    refine lv_lshr hx hb dX11_octetsOf_18 rfl ?_
    refine lv_topl (fun v23 ev23 => ?_)
    have hPc := hP.sub (ws' := [(h0, .inr (11, gM a (upd i 46 (nI (no + 1))) g)), (a 45, .inl (cm 45, 1400, .inl w21))]) [0, 1] rfl
    have hKc := hK.sub (tys' := [(cm 45, .int)]) [0] rfl
    have hDc := hD.sub (ws' := [(h0, .inr (11, gM a (upd i 46 (nI (no + 1))) g)), (a 45, .inl (cm 45, 1400, .inl w21))]) [0, 1] (by decide) rfl
    have hFc := va_free (wc := [(h0, .inr (11, gM a (upd i 46 (nI (no + 1))) g)), (a 45, .inl (cm 45, 1400, .inl w21))]) hD hS hA [0, 1] rfl
    refine va_callv (va_runV (As := [.long v23]) (rest := []) ⟨hx, hb, hml, hown, hts⟩ (c_octet1 l D _ h0 a cm (upd i 46 (nI (no + 1))) g w21 v23 (no + 1) rfl (by omega)) (cwV 1 hts g_c_octetsOf_c_octet1_442 rfl rfl rfl (by decide +kernel) ⟨(Nat.le_of_ble_eq_true rfl), (Nat.le_of_ble_eq_true rfl)⟩) (PcW_V (q0 := 0) hPc hKc hDc rfl rfl) rfl rfl hl.1 rfl (lv_room (Nat.le_of_ble_eq_true rfl)) dX11_octetsOf_19 ⟨(Nat.le_of_ble_eq_true rfl), (Nat.le_of_ble_eq_true rfl)⟩) hS (fun q _ h => hFc q h) hFc (fun uu tt H locs htt hvm hw hB hz1 hk1 hS => ?_)
    obtain ⟨w25, w26⟩ := uu
    obtain ⟨hP1, hK1, hD1⟩ := hB
    rw [htt] at hP1
    have hK1 := va_K.moved hvm.symm hK1
    have hP1 : va_P D vwCl [(h0, .inr (11, gM a (upd i 46 w26) g)), (a 45, .inl (cm 45, 1400, .inl w25))] H := hP1
    obtain ⟨hP, hD⟩ := va_join (wr := []) (w1 := [(h0, .inr (11, gM a (upd i 46 w26) g)), (a 45, .inl (cm 45, 1400, .inl w25))]) hP hD [0, 1] [] rfl rfl (by decide) (by decide) hk1 hFc hP1 hD1
    have hP : va_P D vwCl [(h0, .inr (11, gM a (upd i 46 w26) g)), (a 45, .inl (cm 45, 1400, .inl w25))] H := hP
    have hD : va_D A [(h0, .inr (11, gM a (upd i 46 w26) g)), (a 45, .inl (cm 45, 1400, .inl w25))] := hD
    try dsimp only at hw
    clear hz1 hk1 hFc hPc hKc hDc
    obtain rfl := hw
    have hP : va_P D vwCl [(h0, .inr (11, gM a (upd i 46 (nI (no + 2))) g)), (a 45, .inl (cm 45, 1400, .inl w25))] H := hP
    have hD : va_D A [(h0, .inr (11, gM a (upd i 46 (nI (no + 2))) g)), (a 45, .inl (cm 45, 1400, .inl w25))] := hD
    refine lv_iinc (v := 8) (lv' := [(4, .int 8), (0, .ref h0), (1, .long v), (3, .int 4)]) hx hb dX11_octetsOf_22 hl (k := 0) rfl (by decide) (by decide) rfl (fun ls hl => ?_)
    refine lv_goto (tgt := 9) hx hb dX11_octetsOf_25 (by decide) ?_
    refine lv_iload hx hb dX11_octetsOf_9 (lv_at hl 0 rfl) ?_
    refine lv_if_lt (tgt := 28) hx hb dX11_octetsOf_11 (by decide) (fun hc => absurd hc (by decide)) (fun hc => ?_)
    refine lv_aload_n hx hb dX11_octetsOf_14 rfl (lv_at hl 1 rfl) ?_
    refine lv_lload_n hx hb dX11_octetsOf_15 rfl (lv_at hl 2 rfl) ?_
    refine lv_iload hx hb dX11_octetsOf_16 (lv_at hl 0 rfl) ?_
    refine lv_lshr hx hb dX11_octetsOf_18 rfl ?_
    refine lv_topl (fun v27 ev27 => ?_)
    have hPc := hP.sub (ws' := [(h0, .inr (11, gM a (upd i 46 (nI (no + 2))) g)), (a 45, .inl (cm 45, 1400, .inl w25))]) [0, 1] rfl
    have hKc := hK.sub (tys' := [(cm 45, .int)]) [0] rfl
    have hDc := hD.sub (ws' := [(h0, .inr (11, gM a (upd i 46 (nI (no + 2))) g)), (a 45, .inl (cm 45, 1400, .inl w25))]) [0, 1] (by decide) rfl
    have hFc := va_free (wc := [(h0, .inr (11, gM a (upd i 46 (nI (no + 2))) g)), (a 45, .inl (cm 45, 1400, .inl w25))]) hD hS hA [0, 1] rfl
    refine va_callv (va_runV (As := [.long v27]) (rest := []) ⟨hx, hb, hml, hown, hts⟩ (c_octet1 l D _ h0 a cm (upd i 46 (nI (no + 2))) g w25 v27 (no + 2) rfl (by omega)) (cwV 1 hts g_c_octetsOf_c_octet1_442 rfl rfl rfl (by decide +kernel) ⟨(Nat.le_of_ble_eq_true rfl), (Nat.le_of_ble_eq_true rfl)⟩) (PcW_V (q0 := 0) hPc hKc hDc rfl rfl) rfl rfl hl.1 rfl (lv_room (Nat.le_of_ble_eq_true rfl)) dX11_octetsOf_19 ⟨(Nat.le_of_ble_eq_true rfl), (Nat.le_of_ble_eq_true rfl)⟩) hS (fun q _ h => hFc q h) hFc (fun uu tt H locs htt hvm hw hB hz1 hk1 hS => ?_)
    obtain ⟨w29, w30⟩ := uu
    obtain ⟨hP1, hK1, hD1⟩ := hB
    rw [htt] at hP1
    have hK1 := va_K.moved hvm.symm hK1
    have hP1 : va_P D vwCl [(h0, .inr (11, gM a (upd i 46 w30) g)), (a 45, .inl (cm 45, 1400, .inl w29))] H := hP1
    obtain ⟨hP, hD⟩ := va_join (wr := []) (w1 := [(h0, .inr (11, gM a (upd i 46 w30) g)), (a 45, .inl (cm 45, 1400, .inl w29))]) hP hD [0, 1] [] rfl rfl (by decide) (by decide) hk1 hFc hP1 hD1
    have hP : va_P D vwCl [(h0, .inr (11, gM a (upd i 46 w30) g)), (a 45, .inl (cm 45, 1400, .inl w29))] H := hP
    have hD : va_D A [(h0, .inr (11, gM a (upd i 46 w30) g)), (a 45, .inl (cm 45, 1400, .inl w29))] := hD
    try dsimp only at hw
    clear hz1 hk1 hFc hPc hKc hDc
    obtain rfl := hw
    have hP : va_P D vwCl [(h0, .inr (11, gM a (upd i 46 (nI (no + 3))) g)), (a 45, .inl (cm 45, 1400, .inl w29))] H := hP
    have hD : va_D A [(h0, .inr (11, gM a (upd i 46 (nI (no + 3))) g)), (a 45, .inl (cm 45, 1400, .inl w29))] := hD
    refine lv_iinc (v := 0) (lv' := [(4, .int 0), (0, .ref h0), (1, .long v), (3, .int 4)]) hx hb dX11_octetsOf_22 hl (k := 0) rfl (by decide) (by decide) rfl (fun ls hl => ?_)
    refine lv_goto (tgt := 9) hx hb dX11_octetsOf_25 (by decide) ?_
    refine lv_iload hx hb dX11_octetsOf_9 (lv_at hl 0 rfl) ?_
    refine lv_if_lt (tgt := 28) hx hb dX11_octetsOf_11 (by decide) (fun hc => absurd hc (by decide)) (fun hc => ?_)
    refine lv_aload_n hx hb dX11_octetsOf_14 rfl (lv_at hl 1 rfl) ?_
    refine lv_lload_n hx hb dX11_octetsOf_15 rfl (lv_at hl 2 rfl) ?_
    refine lv_iload hx hb dX11_octetsOf_16 (lv_at hl 0 rfl) ?_
    refine lv_lshr hx hb dX11_octetsOf_18 rfl ?_
    refine lv_topl (fun v31 ev31 => ?_)
    have hPc := hP.sub (ws' := [(h0, .inr (11, gM a (upd i 46 (nI (no + 3))) g)), (a 45, .inl (cm 45, 1400, .inl w29))]) [0, 1] rfl
    have hKc := hK.sub (tys' := [(cm 45, .int)]) [0] rfl
    have hDc := hD.sub (ws' := [(h0, .inr (11, gM a (upd i 46 (nI (no + 3))) g)), (a 45, .inl (cm 45, 1400, .inl w29))]) [0, 1] (by decide) rfl
    have hFc := va_free (wc := [(h0, .inr (11, gM a (upd i 46 (nI (no + 3))) g)), (a 45, .inl (cm 45, 1400, .inl w29))]) hD hS hA [0, 1] rfl
    refine va_callv (va_runV (As := [.long v31]) (rest := []) ⟨hx, hb, hml, hown, hts⟩ (c_octet1 l D _ h0 a cm (upd i 46 (nI (no + 3))) g w29 v31 (no + 3) rfl (by omega)) (cwV 1 hts g_c_octetsOf_c_octet1_442 rfl rfl rfl (by decide +kernel) ⟨(Nat.le_of_ble_eq_true rfl), (Nat.le_of_ble_eq_true rfl)⟩) (PcW_V (q0 := 0) hPc hKc hDc rfl rfl) rfl rfl hl.1 rfl (lv_room (Nat.le_of_ble_eq_true rfl)) dX11_octetsOf_19 ⟨(Nat.le_of_ble_eq_true rfl), (Nat.le_of_ble_eq_true rfl)⟩) hS (fun q _ h => hFc q h) hFc (fun uu tt H locs htt hvm hw hB hz1 hk1 hS => ?_)
    obtain ⟨w33, w34⟩ := uu
    obtain ⟨hP1, hK1, hD1⟩ := hB
    rw [htt] at hP1
    have hK1 := va_K.moved hvm.symm hK1
    have hP1 : va_P D vwCl [(h0, .inr (11, gM a (upd i 46 w34) g)), (a 45, .inl (cm 45, 1400, .inl w33))] H := hP1
    obtain ⟨hP, hD⟩ := va_join (wr := []) (w1 := [(h0, .inr (11, gM a (upd i 46 w34) g)), (a 45, .inl (cm 45, 1400, .inl w33))]) hP hD [0, 1] [] rfl rfl (by decide) (by decide) hk1 hFc hP1 hD1
    have hP : va_P D vwCl [(h0, .inr (11, gM a (upd i 46 w34) g)), (a 45, .inl (cm 45, 1400, .inl w33))] H := hP
    have hD : va_D A [(h0, .inr (11, gM a (upd i 46 w34) g)), (a 45, .inl (cm 45, 1400, .inl w33))] := hD
    try dsimp only at hw
    clear hz1 hk1 hFc hPc hKc hDc
    obtain rfl := hw
    have hP : va_P D vwCl [(h0, .inr (11, gM a (upd i 46 (nI (no + 4))) g)), (a 45, .inl (cm 45, 1400, .inl w33))] H := hP
    have hD : va_D A [(h0, .inr (11, gM a (upd i 46 (nI (no + 4))) g)), (a 45, .inl (cm 45, 1400, .inl w33))] := hD
    refine lv_iinc (v := (-8)) (lv' := [(4, .int (-8)), (0, .ref h0), (1, .long v), (3, .int 4)]) hx hb dX11_octetsOf_22 hl (k := 0) rfl (by decide) (by decide) rfl (fun ls hl => ?_)
    refine lv_goto (tgt := 9) hx hb dX11_octetsOf_25 (by decide) ?_
    refine lv_iload hx hb dX11_octetsOf_9 (lv_at hl 0 rfl) ?_
    refine lv_if_lt (tgt := 28) hx hb dX11_octetsOf_11 (by decide) (fun hc => ?_) (fun hc => absurd (by decide) hc)
    exact W.vret hx hb hr (fun t ht hW => ⟨⟨(w33, (nI (no + 4))), rfl, rfl, by rw [ht]; exact hP.sub [0, 1] rfl, va_K.moved hW.alike (hK.sub [0] rfl), hD.sub [0, 1] (by decide) rfl⟩, hS.F ht⟩) hS.2.2 dX11_octetsOf_28
  ·
    have hl : lv_has ls 5 [(0, .ref h0), (1, .long v), (3, .int 8)] := hl
    refine lv_bipush (v := 8) hx hb dX11_octetsOf_0 (by decide) ?_
    refine lv_iload_n hx hb dX11_octetsOf_2 rfl (lv_at hl 2 rfl) ?_
    refine lv_imul hx hb dX11_octetsOf_3 ?_
    refine lv_topi (fun v35 ev35 => ?_)
    obtain rfl : v35 = 64 := ev35.trans (by decide)
    refine lv_bipush (v := 8) hx hb dX11_octetsOf_4 (by decide) ?_
    refine lv_isub hx hb dX11_octetsOf_6 ?_
    refine lv_topi (fun v36 ev36 => ?_)
    obtain rfl : v36 = 56 := ev36.trans (by decide)
    refine lv_istore (lv' := [(4, .int 56), (0, .ref h0), (1, .long v), (3, .int 8)]) hx hb dX11_octetsOf_7 hl (by decide) rfl (fun ls hl => ?_)
    refine lv_iload hx hb dX11_octetsOf_9 (lv_at hl 0 rfl) ?_
    refine lv_if_lt (tgt := 28) hx hb dX11_octetsOf_11 (by decide) (fun hc => absurd hc (by decide)) (fun hc => ?_)
    refine lv_aload_n hx hb dX11_octetsOf_14 rfl (lv_at hl 1 rfl) ?_
    refine lv_lload_n hx hb dX11_octetsOf_15 rfl (lv_at hl 2 rfl) ?_
    refine lv_iload hx hb dX11_octetsOf_16 (lv_at hl 0 rfl) ?_
    refine lv_lshr hx hb dX11_octetsOf_18 rfl ?_
    refine lv_topl (fun v37 ev37 => ?_)
    have hPc := hP.sub (ws' := [(h0, .inr (11, gM a i g)), (a 45, .inl (cm 45, 1400, .inl fy))]) [0, 1] rfl
    have hKc := hK.sub (tys' := [(cm 45, .int)]) [0] rfl
    have hDc := hD.sub (ws' := [(h0, .inr (11, gM a i g)), (a 45, .inl (cm 45, 1400, .inl fy))]) [0, 1] (by decide) rfl
    have hFc := va_free (wc := [(h0, .inr (11, gM a i g)), (a 45, .inl (cm 45, 1400, .inl fy))]) hD hS hA [0, 1] rfl
    refine va_callv (va_runV (As := [.long v37]) (rest := []) ⟨hx, hb, hml, hown, hts⟩ (c_octet1 l D _ h0 a cm i g fy v37 no htp (by omega)) (cwV 1 hts g_c_octetsOf_c_octet1_442 rfl rfl rfl (by decide +kernel) ⟨(Nat.le_of_ble_eq_true rfl), (Nat.le_of_ble_eq_true rfl)⟩) (PcW_V (q0 := 0) hPc hKc hDc rfl rfl) rfl rfl hl.1 rfl (lv_room (Nat.le_of_ble_eq_true rfl)) dX11_octetsOf_19 ⟨(Nat.le_of_ble_eq_true rfl), (Nat.le_of_ble_eq_true rfl)⟩) hS (fun q _ h => hFc q h) hFc (fun uu tt H locs htt hvm hw hB hz1 hk1 hS => ?_)
    obtain ⟨w39, w40⟩ := uu
    obtain ⟨hP1, hK1, hD1⟩ := hB
    rw [htt] at hP1
    have hK1 := va_K.moved hvm.symm hK1
    have hP1 : va_P D vwCl [(h0, .inr (11, gM a (upd i 46 w40) g)), (a 45, .inl (cm 45, 1400, .inl w39))] H := hP1
    obtain ⟨hP, hD⟩ := va_join (wr := []) (w1 := [(h0, .inr (11, gM a (upd i 46 w40) g)), (a 45, .inl (cm 45, 1400, .inl w39))]) hP hD [0, 1] [] rfl rfl (by decide) (by decide) hk1 hFc hP1 hD1
    have hP : va_P D vwCl [(h0, .inr (11, gM a (upd i 46 w40) g)), (a 45, .inl (cm 45, 1400, .inl w39))] H := hP
    have hD : va_D A [(h0, .inr (11, gM a (upd i 46 w40) g)), (a 45, .inl (cm 45, 1400, .inl w39))] := hD
    try dsimp only at hw
    clear hz1 hk1 hFc hPc hKc hDc
    obtain rfl := hw
    have hP : va_P D vwCl [(h0, .inr (11, gM a (upd i 46 (nI (no + 1))) g)), (a 45, .inl (cm 45, 1400, .inl w39))] H := hP
    have hD : va_D A [(h0, .inr (11, gM a (upd i 46 (nI (no + 1))) g)), (a 45, .inl (cm 45, 1400, .inl w39))] := hD
    refine lv_iinc (v := 48) (lv' := [(4, .int 48), (0, .ref h0), (1, .long v), (3, .int 8)]) hx hb dX11_octetsOf_22 hl (k := 0) rfl (by decide) (by decide) rfl (fun ls hl => ?_)
    refine lv_goto (tgt := 9) hx hb dX11_octetsOf_25 (by decide) ?_
    refine lv_iload hx hb dX11_octetsOf_9 (lv_at hl 0 rfl) ?_
    refine lv_if_lt (tgt := 28) hx hb dX11_octetsOf_11 (by decide) (fun hc => absurd hc (by decide)) (fun hc => ?_)
    refine lv_aload_n hx hb dX11_octetsOf_14 rfl (lv_at hl 1 rfl) ?_
    refine lv_lload_n hx hb dX11_octetsOf_15 rfl (lv_at hl 2 rfl) ?_
    refine lv_iload hx hb dX11_octetsOf_16 (lv_at hl 0 rfl) ?_
    refine lv_lshr hx hb dX11_octetsOf_18 rfl ?_
    refine lv_topl (fun v41 ev41 => ?_)
    have hPc := hP.sub (ws' := [(h0, .inr (11, gM a (upd i 46 (nI (no + 1))) g)), (a 45, .inl (cm 45, 1400, .inl w39))]) [0, 1] rfl
    have hKc := hK.sub (tys' := [(cm 45, .int)]) [0] rfl
    have hDc := hD.sub (ws' := [(h0, .inr (11, gM a (upd i 46 (nI (no + 1))) g)), (a 45, .inl (cm 45, 1400, .inl w39))]) [0, 1] (by decide) rfl
    have hFc := va_free (wc := [(h0, .inr (11, gM a (upd i 46 (nI (no + 1))) g)), (a 45, .inl (cm 45, 1400, .inl w39))]) hD hS hA [0, 1] rfl
    refine va_callv (va_runV (As := [.long v41]) (rest := []) ⟨hx, hb, hml, hown, hts⟩ (c_octet1 l D _ h0 a cm (upd i 46 (nI (no + 1))) g w39 v41 (no + 1) rfl (by omega)) (cwV 1 hts g_c_octetsOf_c_octet1_442 rfl rfl rfl (by decide +kernel) ⟨(Nat.le_of_ble_eq_true rfl), (Nat.le_of_ble_eq_true rfl)⟩) (PcW_V (q0 := 0) hPc hKc hDc rfl rfl) rfl rfl hl.1 rfl (lv_room (Nat.le_of_ble_eq_true rfl)) dX11_octetsOf_19 ⟨(Nat.le_of_ble_eq_true rfl), (Nat.le_of_ble_eq_true rfl)⟩) hS (fun q _ h => hFc q h) hFc (fun uu tt H locs htt hvm hw hB hz1 hk1 hS => ?_)
    obtain ⟨w43, w44⟩ := uu
    obtain ⟨hP1, hK1, hD1⟩ := hB
    rw [htt] at hP1
    have hK1 := va_K.moved hvm.symm hK1
    have hP1 : va_P D vwCl [(h0, .inr (11, gM a (upd i 46 w44) g)), (a 45, .inl (cm 45, 1400, .inl w43))] H := hP1
    obtain ⟨hP, hD⟩ := va_join (wr := []) (w1 := [(h0, .inr (11, gM a (upd i 46 w44) g)), (a 45, .inl (cm 45, 1400, .inl w43))]) hP hD [0, 1] [] rfl rfl (by decide) (by decide) hk1 hFc hP1 hD1
    have hP : va_P D vwCl [(h0, .inr (11, gM a (upd i 46 w44) g)), (a 45, .inl (cm 45, 1400, .inl w43))] H := hP
    have hD : va_D A [(h0, .inr (11, gM a (upd i 46 w44) g)), (a 45, .inl (cm 45, 1400, .inl w43))] := hD
    try dsimp only at hw
    clear hz1 hk1 hFc hPc hKc hDc
    obtain rfl := hw
    have hP : va_P D vwCl [(h0, .inr (11, gM a (upd i 46 (nI (no + 2))) g)), (a 45, .inl (cm 45, 1400, .inl w43))] H := hP
    have hD : va_D A [(h0, .inr (11, gM a (upd i 46 (nI (no + 2))) g)), (a 45, .inl (cm 45, 1400, .inl w43))] := hD
    refine lv_iinc (v := 40) (lv' := [(4, .int 40), (0, .ref h0), (1, .long v), (3, .int 8)]) hx hb dX11_octetsOf_22 hl (k := 0) rfl (by decide) (by decide) rfl (fun ls hl => ?_)
    refine lv_goto (tgt := 9) hx hb dX11_octetsOf_25 (by decide) ?_
    refine lv_iload hx hb dX11_octetsOf_9 (lv_at hl 0 rfl) ?_
    refine lv_if_lt (tgt := 28) hx hb dX11_octetsOf_11 (by decide) (fun hc => absurd hc (by decide)) (fun hc => ?_)
    refine lv_aload_n hx hb dX11_octetsOf_14 rfl (lv_at hl 1 rfl) ?_
    refine lv_lload_n hx hb dX11_octetsOf_15 rfl (lv_at hl 2 rfl) ?_
    refine lv_iload hx hb dX11_octetsOf_16 (lv_at hl 0 rfl) ?_
    refine lv_lshr hx hb dX11_octetsOf_18 rfl ?_
    refine lv_topl (fun v45 ev45 => ?_)
    have hPc := hP.sub (ws' := [(h0, .inr (11, gM a (upd i 46 (nI (no + 2))) g)), (a 45, .inl (cm 45, 1400, .inl w43))]) [0, 1] rfl
    have hKc := hK.sub (tys' := [(cm 45, .int)]) [0] rfl
    have hDc := hD.sub (ws' := [(h0, .inr (11, gM a (upd i 46 (nI (no + 2))) g)), (a 45, .inl (cm 45, 1400, .inl w43))]) [0, 1] (by decide) rfl
    have hFc := va_free (wc := [(h0, .inr (11, gM a (upd i 46 (nI (no + 2))) g)), (a 45, .inl (cm 45, 1400, .inl w43))]) hD hS hA [0, 1] rfl
    refine va_callv (va_runV (As := [.long v45]) (rest := []) ⟨hx, hb, hml, hown, hts⟩ (c_octet1 l D _ h0 a cm (upd i 46 (nI (no + 2))) g w43 v45 (no + 2) rfl (by omega)) (cwV 1 hts g_c_octetsOf_c_octet1_442 rfl rfl rfl (by decide +kernel) ⟨(Nat.le_of_ble_eq_true rfl), (Nat.le_of_ble_eq_true rfl)⟩) (PcW_V (q0 := 0) hPc hKc hDc rfl rfl) rfl rfl hl.1 rfl (lv_room (Nat.le_of_ble_eq_true rfl)) dX11_octetsOf_19 ⟨(Nat.le_of_ble_eq_true rfl), (Nat.le_of_ble_eq_true rfl)⟩) hS (fun q _ h => hFc q h) hFc (fun uu tt H locs htt hvm hw hB hz1 hk1 hS => ?_)
    obtain ⟨w47, w48⟩ := uu
    obtain ⟨hP1, hK1, hD1⟩ := hB
    rw [htt] at hP1
    have hK1 := va_K.moved hvm.symm hK1
    have hP1 : va_P D vwCl [(h0, .inr (11, gM a (upd i 46 w48) g)), (a 45, .inl (cm 45, 1400, .inl w47))] H := hP1
    obtain ⟨hP, hD⟩ := va_join (wr := []) (w1 := [(h0, .inr (11, gM a (upd i 46 w48) g)), (a 45, .inl (cm 45, 1400, .inl w47))]) hP hD [0, 1] [] rfl rfl (by decide) (by decide) hk1 hFc hP1 hD1
    have hP : va_P D vwCl [(h0, .inr (11, gM a (upd i 46 w48) g)), (a 45, .inl (cm 45, 1400, .inl w47))] H := hP
    have hD : va_D A [(h0, .inr (11, gM a (upd i 46 w48) g)), (a 45, .inl (cm 45, 1400, .inl w47))] := hD
    try dsimp only at hw
    clear hz1 hk1 hFc hPc hKc hDc
    obtain rfl := hw
    have hP : va_P D vwCl [(h0, .inr (11, gM a (upd i 46 (nI (no + 3))) g)), (a 45, .inl (cm 45, 1400, .inl w47))] H := hP
    have hD : va_D A [(h0, .inr (11, gM a (upd i 46 (nI (no + 3))) g)), (a 45, .inl (cm 45, 1400, .inl w47))] := hD
    refine lv_iinc (v := 32) (lv' := [(4, .int 32), (0, .ref h0), (1, .long v), (3, .int 8)]) hx hb dX11_octetsOf_22 hl (k := 0) rfl (by decide) (by decide) rfl (fun ls hl => ?_)
    refine lv_goto (tgt := 9) hx hb dX11_octetsOf_25 (by decide) ?_
    refine lv_iload hx hb dX11_octetsOf_9 (lv_at hl 0 rfl) ?_
    refine lv_if_lt (tgt := 28) hx hb dX11_octetsOf_11 (by decide) (fun hc => absurd hc (by decide)) (fun hc => ?_)
    refine lv_aload_n hx hb dX11_octetsOf_14 rfl (lv_at hl 1 rfl) ?_
    refine lv_lload_n hx hb dX11_octetsOf_15 rfl (lv_at hl 2 rfl) ?_
    refine lv_iload hx hb dX11_octetsOf_16 (lv_at hl 0 rfl) ?_
    refine lv_lshr hx hb dX11_octetsOf_18 rfl ?_
    refine lv_topl (fun v49 ev49 => ?_)
    have hPc := hP.sub (ws' := [(h0, .inr (11, gM a (upd i 46 (nI (no + 3))) g)), (a 45, .inl (cm 45, 1400, .inl w47))]) [0, 1] rfl
    have hKc := hK.sub (tys' := [(cm 45, .int)]) [0] rfl
    have hDc := hD.sub (ws' := [(h0, .inr (11, gM a (upd i 46 (nI (no + 3))) g)), (a 45, .inl (cm 45, 1400, .inl w47))]) [0, 1] (by decide) rfl
    have hFc := va_free (wc := [(h0, .inr (11, gM a (upd i 46 (nI (no + 3))) g)), (a 45, .inl (cm 45, 1400, .inl w47))]) hD hS hA [0, 1] rfl
    refine va_callv (va_runV (As := [.long v49]) (rest := []) ⟨hx, hb, hml, hown, hts⟩ (c_octet1 l D _ h0 a cm (upd i 46 (nI (no + 3))) g w47 v49 (no + 3) rfl (by omega)) (cwV 1 hts g_c_octetsOf_c_octet1_442 rfl rfl rfl (by decide +kernel) ⟨(Nat.le_of_ble_eq_true rfl), (Nat.le_of_ble_eq_true rfl)⟩) (PcW_V (q0 := 0) hPc hKc hDc rfl rfl) rfl rfl hl.1 rfl (lv_room (Nat.le_of_ble_eq_true rfl)) dX11_octetsOf_19 ⟨(Nat.le_of_ble_eq_true rfl), (Nat.le_of_ble_eq_true rfl)⟩) hS (fun q _ h => hFc q h) hFc (fun uu tt H locs htt hvm hw hB hz1 hk1 hS => ?_)
    obtain ⟨w51, w52⟩ := uu
    obtain ⟨hP1, hK1, hD1⟩ := hB
    rw [htt] at hP1
    have hK1 := va_K.moved hvm.symm hK1
    have hP1 : va_P D vwCl [(h0, .inr (11, gM a (upd i 46 w52) g)), (a 45, .inl (cm 45, 1400, .inl w51))] H := hP1
    obtain ⟨hP, hD⟩ := va_join (wr := []) (w1 := [(h0, .inr (11, gM a (upd i 46 w52) g)), (a 45, .inl (cm 45, 1400, .inl w51))]) hP hD [0, 1] [] rfl rfl (by decide) (by decide) hk1 hFc hP1 hD1
    have hP : va_P D vwCl [(h0, .inr (11, gM a (upd i 46 w52) g)), (a 45, .inl (cm 45, 1400, .inl w51))] H := hP
    have hD : va_D A [(h0, .inr (11, gM a (upd i 46 w52) g)), (a 45, .inl (cm 45, 1400, .inl w51))] := hD
    try dsimp only at hw
    clear hz1 hk1 hFc hPc hKc hDc
    obtain rfl := hw
    have hP : va_P D vwCl [(h0, .inr (11, gM a (upd i 46 (nI (no + 4))) g)), (a 45, .inl (cm 45, 1400, .inl w51))] H := hP
    have hD : va_D A [(h0, .inr (11, gM a (upd i 46 (nI (no + 4))) g)), (a 45, .inl (cm 45, 1400, .inl w51))] := hD
    refine lv_iinc (v := 24) (lv' := [(4, .int 24), (0, .ref h0), (1, .long v), (3, .int 8)]) hx hb dX11_octetsOf_22 hl (k := 0) rfl (by decide) (by decide) rfl (fun ls hl => ?_)
    refine lv_goto (tgt := 9) hx hb dX11_octetsOf_25 (by decide) ?_
    refine lv_iload hx hb dX11_octetsOf_9 (lv_at hl 0 rfl) ?_
    refine lv_if_lt (tgt := 28) hx hb dX11_octetsOf_11 (by decide) (fun hc => absurd hc (by decide)) (fun hc => ?_)
    refine lv_aload_n hx hb dX11_octetsOf_14 rfl (lv_at hl 1 rfl) ?_
    refine lv_lload_n hx hb dX11_octetsOf_15 rfl (lv_at hl 2 rfl) ?_
    refine lv_iload hx hb dX11_octetsOf_16 (lv_at hl 0 rfl) ?_
    refine lv_lshr hx hb dX11_octetsOf_18 rfl ?_
    refine lv_topl (fun v53 ev53 => ?_)
    have hPc := hP.sub (ws' := [(h0, .inr (11, gM a (upd i 46 (nI (no + 4))) g)), (a 45, .inl (cm 45, 1400, .inl w51))]) [0, 1] rfl
    have hKc := hK.sub (tys' := [(cm 45, .int)]) [0] rfl
    have hDc := hD.sub (ws' := [(h0, .inr (11, gM a (upd i 46 (nI (no + 4))) g)), (a 45, .inl (cm 45, 1400, .inl w51))]) [0, 1] (by decide) rfl
    have hFc := va_free (wc := [(h0, .inr (11, gM a (upd i 46 (nI (no + 4))) g)), (a 45, .inl (cm 45, 1400, .inl w51))]) hD hS hA [0, 1] rfl
    refine va_callv (va_runV (As := [.long v53]) (rest := []) ⟨hx, hb, hml, hown, hts⟩ (c_octet1 l D _ h0 a cm (upd i 46 (nI (no + 4))) g w51 v53 (no + 4) rfl (by omega)) (cwV 1 hts g_c_octetsOf_c_octet1_442 rfl rfl rfl (by decide +kernel) ⟨(Nat.le_of_ble_eq_true rfl), (Nat.le_of_ble_eq_true rfl)⟩) (PcW_V (q0 := 0) hPc hKc hDc rfl rfl) rfl rfl hl.1 rfl (lv_room (Nat.le_of_ble_eq_true rfl)) dX11_octetsOf_19 ⟨(Nat.le_of_ble_eq_true rfl), (Nat.le_of_ble_eq_true rfl)⟩) hS (fun q _ h => hFc q h) hFc (fun uu tt H locs htt hvm hw hB hz1 hk1 hS => ?_)
    obtain ⟨w55, w56⟩ := uu
    obtain ⟨hP1, hK1, hD1⟩ := hB
    rw [htt] at hP1
    have hK1 := va_K.moved hvm.symm hK1
    have hP1 : va_P D vwCl [(h0, .inr (11, gM a (upd i 46 w56) g)), (a 45, .inl (cm 45, 1400, .inl w55))] H := hP1
    obtain ⟨hP, hD⟩ := va_join (wr := []) (w1 := [(h0, .inr (11, gM a (upd i 46 w56) g)), (a 45, .inl (cm 45, 1400, .inl w55))]) hP hD [0, 1] [] rfl rfl (by decide) (by decide) hk1 hFc hP1 hD1
    have hP : va_P D vwCl [(h0, .inr (11, gM a (upd i 46 w56) g)), (a 45, .inl (cm 45, 1400, .inl w55))] H := hP
    have hD : va_D A [(h0, .inr (11, gM a (upd i 46 w56) g)), (a 45, .inl (cm 45, 1400, .inl w55))] := hD
    try dsimp only at hw
    clear hz1 hk1 hFc hPc hKc hDc
    obtain rfl := hw
    have hP : va_P D vwCl [(h0, .inr (11, gM a (upd i 46 (nI (no + 5))) g)), (a 45, .inl (cm 45, 1400, .inl w55))] H := hP
    have hD : va_D A [(h0, .inr (11, gM a (upd i 46 (nI (no + 5))) g)), (a 45, .inl (cm 45, 1400, .inl w55))] := hD
    refine lv_iinc (v := 16) (lv' := [(4, .int 16), (0, .ref h0), (1, .long v), (3, .int 8)]) hx hb dX11_octetsOf_22 hl (k := 0) rfl (by decide) (by decide) rfl (fun ls hl => ?_)
    refine lv_goto (tgt := 9) hx hb dX11_octetsOf_25 (by decide) ?_
    refine lv_iload hx hb dX11_octetsOf_9 (lv_at hl 0 rfl) ?_
    refine lv_if_lt (tgt := 28) hx hb dX11_octetsOf_11 (by decide) (fun hc => absurd hc (by decide)) (fun hc => ?_)
    refine lv_aload_n hx hb dX11_octetsOf_14 rfl (lv_at hl 1 rfl) ?_
    refine lv_lload_n hx hb dX11_octetsOf_15 rfl (lv_at hl 2 rfl) ?_
    refine lv_iload hx hb dX11_octetsOf_16 (lv_at hl 0 rfl) ?_
    refine lv_lshr hx hb dX11_octetsOf_18 rfl ?_
    refine lv_topl (fun v57 ev57 => ?_)
    have hPc := hP.sub (ws' := [(h0, .inr (11, gM a (upd i 46 (nI (no + 5))) g)), (a 45, .inl (cm 45, 1400, .inl w55))]) [0, 1] rfl
    have hKc := hK.sub (tys' := [(cm 45, .int)]) [0] rfl
    have hDc := hD.sub (ws' := [(h0, .inr (11, gM a (upd i 46 (nI (no + 5))) g)), (a 45, .inl (cm 45, 1400, .inl w55))]) [0, 1] (by decide) rfl
    have hFc := va_free (wc := [(h0, .inr (11, gM a (upd i 46 (nI (no + 5))) g)), (a 45, .inl (cm 45, 1400, .inl w55))]) hD hS hA [0, 1] rfl
    refine va_callv (va_runV (As := [.long v57]) (rest := []) ⟨hx, hb, hml, hown, hts⟩ (c_octet1 l D _ h0 a cm (upd i 46 (nI (no + 5))) g w55 v57 (no + 5) rfl (by omega)) (cwV 1 hts g_c_octetsOf_c_octet1_442 rfl rfl rfl (by decide +kernel) ⟨(Nat.le_of_ble_eq_true rfl), (Nat.le_of_ble_eq_true rfl)⟩) (PcW_V (q0 := 0) hPc hKc hDc rfl rfl) rfl rfl hl.1 rfl (lv_room (Nat.le_of_ble_eq_true rfl)) dX11_octetsOf_19 ⟨(Nat.le_of_ble_eq_true rfl), (Nat.le_of_ble_eq_true rfl)⟩) hS (fun q _ h => hFc q h) hFc (fun uu tt H locs htt hvm hw hB hz1 hk1 hS => ?_)
    obtain ⟨w59, w60⟩ := uu
    obtain ⟨hP1, hK1, hD1⟩ := hB
    rw [htt] at hP1
    have hK1 := va_K.moved hvm.symm hK1
    have hP1 : va_P D vwCl [(h0, .inr (11, gM a (upd i 46 w60) g)), (a 45, .inl (cm 45, 1400, .inl w59))] H := hP1
    obtain ⟨hP, hD⟩ := va_join (wr := []) (w1 := [(h0, .inr (11, gM a (upd i 46 w60) g)), (a 45, .inl (cm 45, 1400, .inl w59))]) hP hD [0, 1] [] rfl rfl (by decide) (by decide) hk1 hFc hP1 hD1
    have hP : va_P D vwCl [(h0, .inr (11, gM a (upd i 46 w60) g)), (a 45, .inl (cm 45, 1400, .inl w59))] H := hP
    have hD : va_D A [(h0, .inr (11, gM a (upd i 46 w60) g)), (a 45, .inl (cm 45, 1400, .inl w59))] := hD
    try dsimp only at hw
    clear hz1 hk1 hFc hPc hKc hDc
    obtain rfl := hw
    have hP : va_P D vwCl [(h0, .inr (11, gM a (upd i 46 (nI (no + 6))) g)), (a 45, .inl (cm 45, 1400, .inl w59))] H := hP
    have hD : va_D A [(h0, .inr (11, gM a (upd i 46 (nI (no + 6))) g)), (a 45, .inl (cm 45, 1400, .inl w59))] := hD
    refine lv_iinc (v := 8) (lv' := [(4, .int 8), (0, .ref h0), (1, .long v), (3, .int 8)]) hx hb dX11_octetsOf_22 hl (k := 0) rfl (by decide) (by decide) rfl (fun ls hl => ?_)
    refine lv_goto (tgt := 9) hx hb dX11_octetsOf_25 (by decide) ?_
    refine lv_iload hx hb dX11_octetsOf_9 (lv_at hl 0 rfl) ?_
    refine lv_if_lt (tgt := 28) hx hb dX11_octetsOf_11 (by decide) (fun hc => absurd hc (by decide)) (fun hc => ?_)
    refine lv_aload_n hx hb dX11_octetsOf_14 rfl (lv_at hl 1 rfl) ?_
    refine lv_lload_n hx hb dX11_octetsOf_15 rfl (lv_at hl 2 rfl) ?_
    refine lv_iload hx hb dX11_octetsOf_16 (lv_at hl 0 rfl) ?_
    refine lv_lshr hx hb dX11_octetsOf_18 rfl ?_
    refine lv_topl (fun v61 ev61 => ?_)
    have hPc := hP.sub (ws' := [(h0, .inr (11, gM a (upd i 46 (nI (no + 6))) g)), (a 45, .inl (cm 45, 1400, .inl w59))]) [0, 1] rfl
    have hKc := hK.sub (tys' := [(cm 45, .int)]) [0] rfl
    have hDc := hD.sub (ws' := [(h0, .inr (11, gM a (upd i 46 (nI (no + 6))) g)), (a 45, .inl (cm 45, 1400, .inl w59))]) [0, 1] (by decide) rfl
    have hFc := va_free (wc := [(h0, .inr (11, gM a (upd i 46 (nI (no + 6))) g)), (a 45, .inl (cm 45, 1400, .inl w59))]) hD hS hA [0, 1] rfl
    refine va_callv (va_runV (As := [.long v61]) (rest := []) ⟨hx, hb, hml, hown, hts⟩ (c_octet1 l D _ h0 a cm (upd i 46 (nI (no + 6))) g w59 v61 (no + 6) rfl (by omega)) (cwV 1 hts g_c_octetsOf_c_octet1_442 rfl rfl rfl (by decide +kernel) ⟨(Nat.le_of_ble_eq_true rfl), (Nat.le_of_ble_eq_true rfl)⟩) (PcW_V (q0 := 0) hPc hKc hDc rfl rfl) rfl rfl hl.1 rfl (lv_room (Nat.le_of_ble_eq_true rfl)) dX11_octetsOf_19 ⟨(Nat.le_of_ble_eq_true rfl), (Nat.le_of_ble_eq_true rfl)⟩) hS (fun q _ h => hFc q h) hFc (fun uu tt H locs htt hvm hw hB hz1 hk1 hS => ?_)
    obtain ⟨w63, w64⟩ := uu
    obtain ⟨hP1, hK1, hD1⟩ := hB
    rw [htt] at hP1
    have hK1 := va_K.moved hvm.symm hK1
    have hP1 : va_P D vwCl [(h0, .inr (11, gM a (upd i 46 w64) g)), (a 45, .inl (cm 45, 1400, .inl w63))] H := hP1
    obtain ⟨hP, hD⟩ := va_join (wr := []) (w1 := [(h0, .inr (11, gM a (upd i 46 w64) g)), (a 45, .inl (cm 45, 1400, .inl w63))]) hP hD [0, 1] [] rfl rfl (by decide) (by decide) hk1 hFc hP1 hD1
    have hP : va_P D vwCl [(h0, .inr (11, gM a (upd i 46 w64) g)), (a 45, .inl (cm 45, 1400, .inl w63))] H := hP
    have hD : va_D A [(h0, .inr (11, gM a (upd i 46 w64) g)), (a 45, .inl (cm 45, 1400, .inl w63))] := hD
    try dsimp only at hw
    clear hz1 hk1 hFc hPc hKc hDc
    obtain rfl := hw
    have hP : va_P D vwCl [(h0, .inr (11, gM a (upd i 46 (nI (no + 7))) g)), (a 45, .inl (cm 45, 1400, .inl w63))] H := hP
    have hD : va_D A [(h0, .inr (11, gM a (upd i 46 (nI (no + 7))) g)), (a 45, .inl (cm 45, 1400, .inl w63))] := hD
    refine lv_iinc (v := 0) (lv' := [(4, .int 0), (0, .ref h0), (1, .long v), (3, .int 8)]) hx hb dX11_octetsOf_22 hl (k := 0) rfl (by decide) (by decide) rfl (fun ls hl => ?_)
    refine lv_goto (tgt := 9) hx hb dX11_octetsOf_25 (by decide) ?_
    refine lv_iload hx hb dX11_octetsOf_9 (lv_at hl 0 rfl) ?_
    refine lv_if_lt (tgt := 28) hx hb dX11_octetsOf_11 (by decide) (fun hc => absurd hc (by decide)) (fun hc => ?_)
    refine lv_aload_n hx hb dX11_octetsOf_14 rfl (lv_at hl 1 rfl) ?_
    refine lv_lload_n hx hb dX11_octetsOf_15 rfl (lv_at hl 2 rfl) ?_
    refine lv_iload hx hb dX11_octetsOf_16 (lv_at hl 0 rfl) ?_
    refine lv_lshr hx hb dX11_octetsOf_18 rfl ?_
    refine lv_topl (fun v65 ev65 => ?_)
    have hPc := hP.sub (ws' := [(h0, .inr (11, gM a (upd i 46 (nI (no + 7))) g)), (a 45, .inl (cm 45, 1400, .inl w63))]) [0, 1] rfl
    have hKc := hK.sub (tys' := [(cm 45, .int)]) [0] rfl
    have hDc := hD.sub (ws' := [(h0, .inr (11, gM a (upd i 46 (nI (no + 7))) g)), (a 45, .inl (cm 45, 1400, .inl w63))]) [0, 1] (by decide) rfl
    have hFc := va_free (wc := [(h0, .inr (11, gM a (upd i 46 (nI (no + 7))) g)), (a 45, .inl (cm 45, 1400, .inl w63))]) hD hS hA [0, 1] rfl
    refine va_callv (va_runV (As := [.long v65]) (rest := []) ⟨hx, hb, hml, hown, hts⟩ (c_octet1 l D _ h0 a cm (upd i 46 (nI (no + 7))) g w63 v65 (no + 7) rfl (by omega)) (cwV 1 hts g_c_octetsOf_c_octet1_442 rfl rfl rfl (by decide +kernel) ⟨(Nat.le_of_ble_eq_true rfl), (Nat.le_of_ble_eq_true rfl)⟩) (PcW_V (q0 := 0) hPc hKc hDc rfl rfl) rfl rfl hl.1 rfl (lv_room (Nat.le_of_ble_eq_true rfl)) dX11_octetsOf_19 ⟨(Nat.le_of_ble_eq_true rfl), (Nat.le_of_ble_eq_true rfl)⟩) hS (fun q _ h => hFc q h) hFc (fun uu tt H locs htt hvm hw hB hz1 hk1 hS => ?_)
    obtain ⟨w67, w68⟩ := uu
    obtain ⟨hP1, hK1, hD1⟩ := hB
    rw [htt] at hP1
    have hK1 := va_K.moved hvm.symm hK1
    have hP1 : va_P D vwCl [(h0, .inr (11, gM a (upd i 46 w68) g)), (a 45, .inl (cm 45, 1400, .inl w67))] H := hP1
    obtain ⟨hP, hD⟩ := va_join (wr := []) (w1 := [(h0, .inr (11, gM a (upd i 46 w68) g)), (a 45, .inl (cm 45, 1400, .inl w67))]) hP hD [0, 1] [] rfl rfl (by decide) (by decide) hk1 hFc hP1 hD1
    have hP : va_P D vwCl [(h0, .inr (11, gM a (upd i 46 w68) g)), (a 45, .inl (cm 45, 1400, .inl w67))] H := hP
    have hD : va_D A [(h0, .inr (11, gM a (upd i 46 w68) g)), (a 45, .inl (cm 45, 1400, .inl w67))] := hD
    try dsimp only at hw
    clear hz1 hk1 hFc hPc hKc hDc
    obtain rfl := hw
    have hP : va_P D vwCl [(h0, .inr (11, gM a (upd i 46 (nI (no + 8))) g)), (a 45, .inl (cm 45, 1400, .inl w67))] H := hP
    have hD : va_D A [(h0, .inr (11, gM a (upd i 46 (nI (no + 8))) g)), (a 45, .inl (cm 45, 1400, .inl w67))] := hD
    refine lv_iinc (v := (-8)) (lv' := [(4, .int (-8)), (0, .ref h0), (1, .long v), (3, .int 8)]) hx hb dX11_octetsOf_22 hl (k := 0) rfl (by decide) (by decide) rfl (fun ls hl => ?_)
    refine lv_goto (tgt := 9) hx hb dX11_octetsOf_25 (by decide) ?_
    refine lv_iload hx hb dX11_octetsOf_9 (lv_at hl 0 rfl) ?_
    refine lv_if_lt (tgt := 28) hx hb dX11_octetsOf_11 (by decide) (fun hc => ?_) (fun hc => absurd (by decide) hc)
    exact W.vret hx hb hr (fun t ht hW => ⟨⟨(w67, (nI (no + 8))), rfl, rfl, by rw [ht]; exact hP.sub [0, 1] rfl, va_K.moved hW.alike (hK.sub [0] rfl), hD.sub [0, 1] (by decide) rfl⟩, hS.F ht⟩) hS.2.2 dX11_octetsOf_28

