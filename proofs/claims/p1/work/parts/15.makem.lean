theorem mkF_1 {t b s g : Int32} (h0 : 0 ≤ t ∧ t < 4) (h1 : 8 ≤ b ∧ b ≤ 64) (h2 : 25 ≤ s ∧ s ≤ 400) (h3 : 0 ≤ g ∧ g ≤ 200) : mkF t b s g = 1 := by
  unfold mkF
  rw [if_pos ⟨h0, h1.1, h1.2, h2.1, h2.2, h3.1, h3.2⟩]
theorem mkF_a {t b s g : Int32} (h : ¬ (0 ≤ t ∧ t < 4)) : mkF t b s g = -2 := by
  unfold mkF
  rw [if_neg (fun q => h q.1)]
theorem mkF_b {t b s g : Int32} (h : ¬ (8 ≤ b ∧ b ≤ 64)) : mkF t b s g = -2 := by
  unfold mkF
  rw [if_neg (fun q => h ⟨q.2.1, q.2.2.1⟩)]
theorem mkF_c {t b s g : Int32} (h : ¬ (25 ≤ s ∧ s ≤ 400)) : mkF t b s g = -2 := by
  unfold mkF
  rw [if_neg (fun q => h ⟨q.2.2.2.1, q.2.2.2.2.1⟩)]
theorem mkF_d {t b s g : Int32} (h : ¬ (0 ≤ g ∧ g ≤ 200)) : mkF t b s g = -2 := by
  unfold mkF
  rw [if_neg (fun q => h ⟨q.2.2.2.2.2.1, q.2.2.2.2.2.2⟩)]
theorem in04 {t : Int32} (h : (0 : Int32) ≤ t ∧ t < 4) : ∃ k : Nat, k < 4 ∧ t = nI k := isIn04 (by rw [if_pos (isIn04c.mpr h)]; decide)
abbrev okT (b s g : Int32) : Prop := 8 ≤ b ∧ b ≤ 64 ∧ 25 ≤ s ∧ s ≤ 400 ∧ 0 ≤ g ∧ g ≤ 200
theorem mkF_o {t b s g : Int32} (h : ¬ okT b s g) : mkF t b s g = -2 := by
  unfold mkF
  rw [if_neg (fun q => h q.2)]
def own_c_lays : List Cond := [.fieldLink RX11 13 "ClashFreeModel" "n" "[J"]
def wp_c_lays : List Cond := .code yX11_lays cX11_lays 5 none :: (own_c_lays ++ (wsX110 ++ ([] : List Cond)))
set_option maxRecDepth 20000 in
theorem inown_c_lays : ∀ w ∈ own_c_lays, w ∈ lw_tbl := mem_places [1219] (by decide +kernel)
set_option maxRecDepth 20000 in
theorem in_c_lays : ∀ w ∈ wp_c_lays, w ∈ lw_tbl := List.forall_mem_cons.mpr ⟨List.mem_of_getElem? (i := 1391) (by decide +kernel), List.forall_mem_append.mpr ⟨inown_c_lays, List.forall_mem_append.mpr ⟨lwb_X11, fun _ h => absurd h List.not_mem_nil⟩⟩⟩
set_option maxRecDepth 20000 in
theorem good_c_lays : wp_c_lays.all goodWord = true := by decide +kernel
set_option maxHeartbeats 4000000 in
set_option maxRecDepth 100000 in
theorem c_lays (l : Launch) (D : va_G) (sz : Nat) (h0 : Nat) (a : Nat → Nat) (cN : ClassId) (tp : Int32) (sd : Int64) (pa : Int64) (pb : Int64) (dr : Int32) (k : Nat) (w : Nat) (f : Nat → Int64) (v : Int64) (hk : k < 5) (hw : w < 17) : Met l yX11_lays wp_c_lays ({ frames := 0, cells := 0, slots := 0, locals := 0 }) (PcW D [.ref h0, .int (nI k), .int (nI w), .long v] sz [(h0, .inr (11, fM a tp sd pa pb dr)), (a 3, .inl (cN, 85, .inr (.inl f)))] [(cN, .long)]) (va_Qv (fun (u : Nat → Int64) => u (17 * k + w) = v ∧ ∀ i, i ≠ w → u (17 * k + i) = f (17 * k + i)) (fun (u : Nat → Int64) t => va_P D vwCl [(h0, .inr (11, fM a tp sd pa pb dr)), (a 3, .inl (cN, 85, .inr (.inl u)))] t.heap ∧ va_K D vwCl [(cN, .long)] t ∧ va_D (va_A [(h0, .inr (11, fM a tp sd pa pb dr)), (a 3, .inl (cN, 85, .inr (.inl f)))] sz) [(h0, .inr (11, fM a tp sd pa pb dr)), (a 3, .inl (cN, 85, .inr (.inl u)))]) (va_A [(h0, .inr (11, fM a tp sd pa pb dr)), (a 3, .inl (cN, 85, .inr (.inl f)))] sz)) 0 0 (va_A [(h0, .inr (11, fM a tp sd pa pb dr)), (a 3, .inl (cN, 85, .inr (.inl f)))] sz) := by
  refine Met.ofW (cc := cX11_lays) (maxL := 5) (ret := none) (by decide) rfl ?_
  intro p e s m args below meth c s₁ B hml hv
  obtain ⟨rfl, hsz, hP, hK, hD0⟩ := hv
  have hx := B.exec
  have hb := B.bytes
  have hr := B.returns
  have hts := atoms_spec (ws := wp_c_lays) B.pre
  have hin_X11 : ∀ w ∈ wsX110, w ∈ wp_c_lays := fun _ h => (List.mem_cons_of_mem _ (List.mem_append_right _ (List.mem_append_left _ h)))
  have hown : s.vm.findClass RX11 = some m.cls := findClass_of_methodNamed B.named
  have hlocks := B.notSynchronized
  subst hsz
  have hD := hD0.self (sz := s.heap.size)
  generalize hAe : va_A [(h0, .inr (11, fM a tp sd pa pb dr)), (a 3, .inl (cN, 85, .inr (.inl f)))] s.heap.size = A at hD ⊢
  have hA : ∀ q : Nat, s.heap.size ≤ q → A q := fun q h => by rw [← hAe]; exact Or.inr h
  have hS : va_S A s.heap s.heap [] := va_S.rf
  have hP : va_P D vwCl [(h0, .inr (11, fM a tp sd pa pb dr)), (a 3, .inl (cN, 85, .inr (.inl f)))] s.heap := hP
  have hl := lv_entry ([.ref h0, .int (nI k), .int (nI w), .long v]) (n := 5) (Nat.le_of_ble_eq_true rfl)
  rw [lg_entry_eq]
  generalize (lg_sl ([.ref h0, .int (nI k), .int (nI w), .long v]) ++ List.replicate (5 - (lg_sl ([.ref h0, .int (nI k), .int (nI w), .long v])).length) Slot.unset).toArray = ls at hl ⊢
  have hl : lv_has ls 5 [(0, .ref h0), (1, .int (nI k)), (2, .int (nI w)), (3, .long v)] := hl
  refine lv_aload_n hx hb dX11_lays_0 rfl (lv_at hl 0 rfl) ?_
  refine va_get (D := D) (ci := 11) (v := .ref (a 3)) (C := RX11) (T := TX11) (N := 47) hx hb hts hin_X11 hown hK hP 0 rfl rfl 3 (by decide) (hts (.fieldLink RX11 13 "ClashFreeModel" "n" "[J") (List.mem_of_getElem? (i := 1) rfl)) (fun _ h9 => h9) rfl dX11_lays_1 ?_
  refine lv_bipush (v := 17) hx hb dX11_lays_4 (by decide) ?_
  refine lv_iload_n hx hb dX11_lays_6 rfl (lv_at hl 1 rfl) ?_
  refine lv_imul hx hb dX11_lays_7 ?_
  refine lv_iload_n hx hb dX11_lays_8 rfl (lv_at hl 2 rfl) ?_
  refine lv_iadd hx hb dX11_lays_9 ?_
  refine lv_topi (fun v1 ev1 => ?_)
  obtain rfl : v1 = nI (17 * k + w) := ev1.trans (ix17 k w)
  refine lv_lload_n hx hb dX11_lays_10 rfl (lv_at hl 3 rfl) ?_
  refine va_last hx hb hK hP hD hS 1 0 rfl rfl (vp_in_nI (by omega) (by decide)) dX11_lays_11 (fun H locs hP hD hS => ?_)
  have hP : va_P D vwCl [(h0, .inr (11, fM a tp sd pa pb dr)), (a 3, .inl (cN, 85, .inr (.inl (vp_updL f (Int32.toNatClampNeg (nI (17 * k + w))) v))))] H := hP
  have hD : va_D A [(h0, .inr (11, fM a tp sd pa pb dr)), (a 3, .inl (cN, 85, .inr (.inl (vp_updL f (Int32.toNatClampNeg (nI (17 * k + w))) v))))] := hD
  rw [show (vp_updL f (Int32.toNatClampNeg (nI (17 * k + w))) v) = (vp_updL f (17 * k + w) v) from by rw [nI_clamp (by omega)]] at hP hD
  exact W.vret hx hb hr (fun t ht hW => ⟨⟨vp_updL f (17 * k + w) v, rfl, ⟨updL_s _ _ _, fun i h => updL_n _ _ _ _ _ h⟩, by rw [ht]; exact hP.sub [0, 1] rfl, va_K.moved hW.alike (hK.sub [0] rfl), hD.sub [0, 1] (by decide) rfl⟩, hS.F ht⟩) hS.2.2 dX11_lays_12

def own_c_adds : List Cond := [.fieldLink RX11 13 "ClashFreeModel" "n" "[J"]
def wp_c_adds : List Cond := .code yX11_adds cX11_adds 5 none :: (own_c_adds ++ (wsX110 ++ ([] : List Cond)))
set_option maxRecDepth 20000 in
theorem inown_c_adds : ∀ w ∈ own_c_adds, w ∈ lw_tbl := mem_places [1219] (by decide +kernel)
set_option maxRecDepth 20000 in
theorem in_c_adds : ∀ w ∈ wp_c_adds, w ∈ lw_tbl := List.forall_mem_cons.mpr ⟨List.mem_of_getElem? (i := 1461) (by decide +kernel), List.forall_mem_append.mpr ⟨inown_c_adds, List.forall_mem_append.mpr ⟨lwb_X11, fun _ h => absurd h List.not_mem_nil⟩⟩⟩
set_option maxRecDepth 20000 in
theorem good_c_adds : wp_c_adds.all goodWord = true := by decide +kernel
set_option maxHeartbeats 4000000 in
set_option maxRecDepth 100000 in
theorem c_adds (l : Launch) (D : va_G) (sz : Nat) (h0 : Nat) (a : Nat → Nat) (cN : ClassId) (tp : Int32) (sd : Int64) (pa : Int64) (pb : Int64) (dr : Int32) (k : Nat) (w : Nat) (f : Nat → Int64) (v : Int64) (hk : k < 5) (hw : w < 17) : Met l yX11_adds wp_c_adds ({ frames := 0, cells := 0, slots := 0, locals := 0 }) (PcW D [.ref h0, .int (nI k), .int (nI w), .long v] sz [(h0, .inr (11, fM a tp sd pa pb dr)), (a 3, .inl (cN, 85, .inr (.inl f)))] [(cN, .long)]) (va_Qv (fun (_ : Nat → Int64) => True) (fun (u : Nat → Int64) t => va_P D vwCl [(h0, .inr (11, fM a tp sd pa pb dr)), (a 3, .inl (cN, 85, .inr (.inl u)))] t.heap ∧ va_K D vwCl [(cN, .long)] t ∧ va_D (va_A [(h0, .inr (11, fM a tp sd pa pb dr)), (a 3, .inl (cN, 85, .inr (.inl f)))] sz) [(h0, .inr (11, fM a tp sd pa pb dr)), (a 3, .inl (cN, 85, .inr (.inl u)))]) (va_A [(h0, .inr (11, fM a tp sd pa pb dr)), (a 3, .inl (cN, 85, .inr (.inl f)))] sz)) 0 0 (va_A [(h0, .inr (11, fM a tp sd pa pb dr)), (a 3, .inl (cN, 85, .inr (.inl f)))] sz) := by
  refine Met.ofW (cc := cX11_adds) (maxL := 5) (ret := none) (by decide) rfl ?_
  intro p e s m args below meth c s₁ B hml hv
  obtain ⟨rfl, hsz, hP, hK, hD0⟩ := hv
  have hx := B.exec
  have hb := B.bytes
  have hr := B.returns
  have hts := atoms_spec (ws := wp_c_adds) B.pre
  have hin_X11 : ∀ w ∈ wsX110, w ∈ wp_c_adds := fun _ h => (List.mem_cons_of_mem _ (List.mem_append_right _ (List.mem_append_left _ h)))
  have hown : s.vm.findClass RX11 = some m.cls := findClass_of_methodNamed B.named
  have hlocks := B.notSynchronized
  subst hsz
  have hD := hD0.self (sz := s.heap.size)
  generalize hAe : va_A [(h0, .inr (11, fM a tp sd pa pb dr)), (a 3, .inl (cN, 85, .inr (.inl f)))] s.heap.size = A at hD ⊢
  have hA : ∀ q : Nat, s.heap.size ≤ q → A q := fun q h => by rw [← hAe]; exact Or.inr h
  have hS : va_S A s.heap s.heap [] := va_S.rf
  have hP : va_P D vwCl [(h0, .inr (11, fM a tp sd pa pb dr)), (a 3, .inl (cN, 85, .inr (.inl f)))] s.heap := hP
  have hl := lv_entry ([.ref h0, .int (nI k), .int (nI w), .long v]) (n := 5) (Nat.le_of_ble_eq_true rfl)
  rw [lg_entry_eq]
  generalize (lg_sl ([.ref h0, .int (nI k), .int (nI w), .long v]) ++ List.replicate (5 - (lg_sl ([.ref h0, .int (nI k), .int (nI w), .long v])).length) Slot.unset).toArray = ls at hl ⊢
  have hl : lv_has ls 5 [(0, .ref h0), (1, .int (nI k)), (2, .int (nI w)), (3, .long v)] := hl
  refine lv_aload_n hx hb dX11_adds_0 rfl (lv_at hl 0 rfl) ?_
  refine va_get (D := D) (ci := 11) (v := .ref (a 3)) (C := RX11) (T := TX11) (N := 47) hx hb hts hin_X11 hown hK hP 0 rfl rfl 3 (by decide) (hts (.fieldLink RX11 13 "ClashFreeModel" "n" "[J") (List.mem_of_getElem? (i := 1) rfl)) (fun _ h9 => h9) rfl dX11_adds_1 ?_
  refine lv_bipush (v := 17) hx hb dX11_adds_4 (by decide) ?_
  refine lv_iload_n hx hb dX11_adds_6 rfl (lv_at hl 1 rfl) ?_
  refine lv_imul hx hb dX11_adds_7 ?_
  refine lv_iload_n hx hb dX11_adds_8 rfl (lv_at hl 2 rfl) ?_
  refine lv_iadd hx hb dX11_adds_9 ?_
  refine lv_topi (fun v1 ev1 => ?_)
  obtain rfl : v1 = nI (17 * k + w) := ev1.trans (ix17 k w)
  refine lv_dup2_11 hx hb dX11_adds_10 rfl rfl ?_
  refine va_lald hx hb hK hP 1 0 rfl rfl (vp_in_nI (by omega) (by decide)) dX11_adds_11 ?_
  refine lv_topl (fun v2 ev2 => ?_)
  obtain rfl : v2 = f (17 * k + w) := ev2.trans (by rw [nI_clamp (by omega)])
  refine lv_lload_n hx hb dX11_adds_12 rfl (lv_at hl 3 rfl) ?_
  refine lv_ladd hx hb dX11_adds_13 ?_
  refine lv_topl (fun v3 ev3 => ?_)
  refine va_last hx hb hK hP hD hS 1 0 rfl rfl (vp_in_nI (by omega) (by decide)) dX11_adds_14 (fun H locs hP hD hS => ?_)
  have hP : va_P D vwCl [(h0, .inr (11, fM a tp sd pa pb dr)), (a 3, .inl (cN, 85, .inr (.inl (vp_updL f (Int32.toNatClampNeg (nI (17 * k + w))) v3))))] H := hP
  have hD : va_D A [(h0, .inr (11, fM a tp sd pa pb dr)), (a 3, .inl (cN, 85, .inr (.inl (vp_updL f (Int32.toNatClampNeg (nI (17 * k + w))) v3))))] := hD
  generalize vp_updL f (Int32.toNatClampNeg (nI (17 * k + w))) v3 = g4 at hP hD
  exact W.vret hx hb hr (fun t ht hW => ⟨⟨g4, rfl, trivial, by rw [ht]; exact hP.sub [0, 1] rfl, va_K.moved hW.alike (hK.sub [0] rfl), hD.sub [0, 1] (by decide) rfl⟩, hS.F ht⟩) hS.2.2 dX11_adds_15

def own_c_manyOf0 : List Cond := [.methodLink RX11 89 yX11_of, .instanceMethod yX11_of, .selects RX11 yX11_of yX11_of, .initialized RX11]
def wp_c_manyOf0 : List Cond := .code yX11_manyOf cX11_manyOf 2 (some .int) :: (own_c_manyOf0 ++ (wp_c_of ++ ([] : List Cond)))
set_option maxRecDepth 20000 in
theorem inown_c_manyOf0 : ∀ w ∈ own_c_manyOf0, w ∈ lw_tbl := mem_places [1400, 1402, 41, 115] (by decide +kernel)
set_option maxRecDepth 20000 in
theorem in_c_manyOf0 : ∀ w ∈ wp_c_manyOf0, w ∈ lw_tbl := List.forall_mem_cons.mpr ⟨List.mem_of_getElem? (i := 1399) (by decide +kernel), List.forall_mem_append.mpr ⟨inown_c_manyOf0, List.forall_mem_append.mpr ⟨in_c_of, fun _ h => absurd h List.not_mem_nil⟩⟩⟩
set_option maxRecDepth 20000 in
theorem good_c_manyOf0 : wp_c_manyOf0.all goodWord = true := by decide +kernel
set_option maxRecDepth 20000 in
theorem g_c_manyOf0_c_of_89 : GoodIn wp_c_manyOf0 (wsV RX11 89 RX11 yX11_of wp_c_of) := goodIn_sub (List.forall_mem_append.mpr ⟨List.forall_mem_cons.mpr ⟨(List.mem_of_getElem? (i := 1) rfl), List.forall_mem_cons.mpr ⟨(List.mem_of_getElem? (i := 2) rfl), List.forall_mem_cons.mpr ⟨(List.mem_of_getElem? (i := 3) rfl), List.forall_mem_cons.mpr ⟨(List.mem_of_getElem? (i := 4) rfl), fun _ h => absurd h List.not_mem_nil⟩⟩⟩⟩, (fun _ h => (List.mem_cons_of_mem _ (List.mem_append_right _ (List.mem_append_left _ h))))⟩) (by decide +kernel)
set_option maxHeartbeats 4000000 in
set_option maxRecDepth 100000 in
theorem c_manyOf0 (l : Launch) (D : va_G) (sz : Nat) (h0 : Nat) (a : Nat → Nat) (cN : ClassId) (tp : Int32) (sd : Int64) (pa : Int64) (pb : Int64) (dr : Int32) (k : Nat) (f : Nat → Int64) (hk : k < 5) (h1 : f (17 * k + 1) = 0) : Met l yX11_manyOf wp_c_manyOf0 ({ frames := 1, cells := 0, slots := 0, locals := 22 }) (PcR D [.ref h0, .int (nI k)] sz [(h0, .inr (11, fM a tp sd pa pb dr)), (a 3, .inl (cN, 85, .inr (.inl f)))] [(cN, .long)]) (va_Qi (fun (r : Int32) (_ : Unit) => r = 0) (fun (_ : Unit) _ => True) (va_A [] sz)) 0 0 (va_A [] sz) := by
  refine Met.ofW (cc := cX11_manyOf) (maxL := 2) (ret := (some .int)) (by decide) rfl ?_
  intro p e s m args below meth c s₁ B hml hv
  obtain ⟨rfl, hsz, hP, hK⟩ := hv
  have hx := B.exec
  have hb := B.bytes
  have hr := B.returns
  have hts := atoms_spec (ws := wp_c_manyOf0) B.pre
  have hown : s.vm.findClass RX11 = some m.cls := findClass_of_methodNamed B.named
  have hlocks := B.notSynchronized
  subst hsz
  generalize hAe : va_A [] s.heap.size = A at ⊢
  have hA : ∀ q : Nat, s.heap.size ≤ q → A q := fun q h => by rw [← hAe]; exact Or.inr h
  have hS : va_S A s.heap s.heap [] := va_S.rf
  have hP : va_P D vwCl [(h0, .inr (11, fM a tp sd pa pb dr)), (a 3, .inl (cN, 85, .inr (.inl f)))] s.heap := hP
  have hl := lv_entry ([.ref h0, .int (nI k)]) (n := 2) (Nat.le_of_ble_eq_true rfl)
  rw [lg_entry_eq]
  generalize (lg_sl ([.ref h0, .int (nI k)]) ++ List.replicate (2 - (lg_sl ([.ref h0, .int (nI k)])).length) Slot.unset).toArray = ls at hl ⊢
  have hl : lv_has ls 2 [(0, .ref h0), (1, .int (nI k))] := hl
  refine lv_aload_n hx hb dX11_manyOf_0 rfl (lv_at hl 0 rfl) ?_
  refine lv_iload_n hx hb dX11_manyOf_1 rfl (lv_at hl 1 rfl) ?_
  refine lv_iconst (v := 1) hx hb dX11_manyOf_2 (by decide) ?_
  have hPc := hP.sub (ws' := [(h0, .inr (11, fM a tp sd pa pb dr)), (a 3, .inl (cN, 85, .inr (.inl f)))]) [0, 1] rfl
  have hKc := hK.sub (tys' := [(cN, .long)]) [0] rfl
  have hFc := va_free0 hS hA
  refine va_calll (va_runV (As := [.int (nI k), .int (nI 1)]) (rest := []) ⟨hx, hb, hml, hown, hts⟩ (c_of l D _ h0 a cN tp sd pa pb dr k 1 f (by first | omega | assumption) (by first | omega | assumption)) (cwV 2 hts g_c_manyOf0_c_of_89 rfl rfl rfl (by decide +kernel) ⟨(Nat.le_of_ble_eq_true rfl), (Nat.le_of_ble_eq_true rfl)⟩) (PcR_V (q0 := 0) hPc hKc rfl rfl) rfl rfl hl.1 rfl (lv_room (Nat.le_of_ble_eq_true rfl)) dX11_manyOf_3 ⟨(Nat.le_of_ble_eq_true rfl), (Nat.le_of_ble_eq_true rfl)⟩) hS (fun q _ h => hFc q h) hFc (fun r1 uu tt H locs htt hvm hw hB hz1 hk1 hS => ?_)
  have hP := va_keep hP hk1
  try dsimp only at hw
  clear hB hz1 hk1 hFc hPc hKc
  obtain rfl : r1 = f (17 * k + 1) := hw
  refine lv_topl (fun v2 ev2 => ?_)
  obtain rfl : v2 = 0 := ev2.trans (h1)
  refine lv_l2i (v := 0) hx hb dX11_manyOf_6 (by decide) ?_
  exact W.iret (v := 0) hx hb hr (fun t ht hW => ⟨⟨0, (), rfl, rfl, trivial⟩, hS.F ht⟩) hS.2.2 dX11_manyOf_7

def own_c_bucketsM : List Cond := [.methodLink RX11 89 yX11_of, .instanceMethod yX11_of, .selects RX11 yX11_of yX11_of, .initialized RX11]
def wp_c_bucketsM : List Cond := .code yX11_buckets cX11_buckets 2 (some .int) :: (own_c_bucketsM ++ (wp_c_of ++ ([] : List Cond)))
set_option maxRecDepth 20000 in
theorem inown_c_bucketsM : ∀ w ∈ own_c_bucketsM, w ∈ lw_tbl := mem_places [1400, 1402, 41, 115] (by decide +kernel)
set_option maxRecDepth 20000 in
theorem in_c_bucketsM : ∀ w ∈ wp_c_bucketsM, w ∈ lw_tbl := List.forall_mem_cons.mpr ⟨List.mem_of_getElem? (i := 1429) (by decide +kernel), List.forall_mem_append.mpr ⟨inown_c_bucketsM, List.forall_mem_append.mpr ⟨in_c_of, fun _ h => absurd h List.not_mem_nil⟩⟩⟩
set_option maxRecDepth 20000 in
theorem good_c_bucketsM : wp_c_bucketsM.all goodWord = true := by decide +kernel
set_option maxRecDepth 20000 in
theorem g_c_bucketsM_c_of_89 : GoodIn wp_c_bucketsM (wsV RX11 89 RX11 yX11_of wp_c_of) := goodIn_sub (List.forall_mem_append.mpr ⟨List.forall_mem_cons.mpr ⟨(List.mem_of_getElem? (i := 1) rfl), List.forall_mem_cons.mpr ⟨(List.mem_of_getElem? (i := 2) rfl), List.forall_mem_cons.mpr ⟨(List.mem_of_getElem? (i := 3) rfl), List.forall_mem_cons.mpr ⟨(List.mem_of_getElem? (i := 4) rfl), fun _ h => absurd h List.not_mem_nil⟩⟩⟩⟩, (fun _ h => (List.mem_cons_of_mem _ (List.mem_append_right _ (List.mem_append_left _ h))))⟩) (by decide +kernel)
set_option maxHeartbeats 4000000 in
set_option maxRecDepth 100000 in
theorem c_bucketsM (l : Launch) (D : va_G) (sz : Nat) (h0 : Nat) (a : Nat → Nat) (cN : ClassId) (tp : Int32) (sd : Int64) (pa : Int64) (pb : Int64) (dr : Int32) (k : Nat) (f : Nat → Int64) (n : Nat) (hk : k < 5) (h4 : f (17 * k + 4) = lN n) : Met l yX11_buckets wp_c_bucketsM ({ frames := 1, cells := 0, slots := 0, locals := 22 }) (PcR D [.ref h0, .int (nI k)] sz [(h0, .inr (11, fM a tp sd pa pb dr)), (a 3, .inl (cN, 85, .inr (.inl f)))] [(cN, .long)]) (va_Qi (fun (r : Int32) (_ : Unit) => r = nI n) (fun (_ : Unit) _ => True) (va_A [] sz)) 0 0 (va_A [] sz) := by
  refine Met.ofW (cc := cX11_buckets) (maxL := 2) (ret := (some .int)) (by decide) rfl ?_
  intro p e s m args below meth c s₁ B hml hv
  obtain ⟨rfl, hsz, hP, hK⟩ := hv
  have hx := B.exec
  have hb := B.bytes
  have hr := B.returns
  have hts := atoms_spec (ws := wp_c_bucketsM) B.pre
  have hown : s.vm.findClass RX11 = some m.cls := findClass_of_methodNamed B.named
  have hlocks := B.notSynchronized
  subst hsz
  generalize hAe : va_A [] s.heap.size = A at ⊢
  have hA : ∀ q : Nat, s.heap.size ≤ q → A q := fun q h => by rw [← hAe]; exact Or.inr h
  have hS : va_S A s.heap s.heap [] := va_S.rf
  have hP : va_P D vwCl [(h0, .inr (11, fM a tp sd pa pb dr)), (a 3, .inl (cN, 85, .inr (.inl f)))] s.heap := hP
  have hl := lv_entry ([.ref h0, .int (nI k)]) (n := 2) (Nat.le_of_ble_eq_true rfl)
  rw [lg_entry_eq]
  generalize (lg_sl ([.ref h0, .int (nI k)]) ++ List.replicate (2 - (lg_sl ([.ref h0, .int (nI k)])).length) Slot.unset).toArray = ls at hl ⊢
  have hl : lv_has ls 2 [(0, .ref h0), (1, .int (nI k))] := hl
  refine lv_aload_n hx hb dX11_buckets_0 rfl (lv_at hl 0 rfl) ?_
  refine lv_iload_n hx hb dX11_buckets_1 rfl (lv_at hl 1 rfl) ?_
  refine lv_iconst (v := 4) hx hb dX11_buckets_2 (by decide) ?_
  have hPc := hP.sub (ws' := [(h0, .inr (11, fM a tp sd pa pb dr)), (a 3, .inl (cN, 85, .inr (.inl f)))]) [0, 1] rfl
  have hKc := hK.sub (tys' := [(cN, .long)]) [0] rfl
  have hFc := va_free0 hS hA
  refine va_calll (va_runV (As := [.int (nI k), .int (nI 4)]) (rest := []) ⟨hx, hb, hml, hown, hts⟩ (c_of l D _ h0 a cN tp sd pa pb dr k 4 f (by first | omega | assumption) (by first | omega | assumption)) (cwV 2 hts g_c_bucketsM_c_of_89 rfl rfl rfl (by decide +kernel) ⟨(Nat.le_of_ble_eq_true rfl), (Nat.le_of_ble_eq_true rfl)⟩) (PcR_V (q0 := 0) hPc hKc rfl rfl) rfl rfl hl.1 rfl (lv_room (Nat.le_of_ble_eq_true rfl)) dX11_buckets_3 ⟨(Nat.le_of_ble_eq_true rfl), (Nat.le_of_ble_eq_true rfl)⟩) hS (fun q _ h => hFc q h) hFc (fun r1 uu tt H locs htt hvm hw hB hz1 hk1 hS => ?_)
  have hP := va_keep hP hk1
  try dsimp only at hw
  clear hB hz1 hk1 hFc hPc hKc
  obtain rfl : r1 = f (17 * k + 4) := hw
  refine lv_topl (fun v2 ev2 => ?_)
  obtain rfl : v2 = lN n := ev2.trans (h4)
  refine lv_l2i hx hb dX11_buckets_6 rfl ?_
  refine lv_topi (fun v3 ev3 => ?_)
  obtain rfl : v3 = nI n := ev3.trans (lN_i n)
  exact W.iret (v := nI n) hx hb hr (fun t ht hW => ⟨⟨nI n, (), rfl, rfl, trivial⟩, hS.F ht⟩) hS.2.2 dX11_buckets_7

def own_c_takesSeed : List Cond := [.methodLink RX11 89 yX11_of, .instanceMethod yX11_of, .selects RX11 yX11_of yX11_of, .initialized RX11, .fieldLink RX11 105 "ClashFreeModel" "seed" "J", .fieldLink RX11 123 "ClashFreeModel" "drawn" "I"]
def wp_c_takesSeed : List Cond := .code yX11_takesSeed cX11_takesSeed 2 none :: (own_c_takesSeed ++ (wp_c_of ++ (wsX110 ++ ([] : List Cond))))
set_option maxRecDepth 20000 in
theorem inown_c_takesSeed : ∀ w ∈ own_c_takesSeed, w ∈ lw_tbl := mem_places [1400, 1402, 41, 115, 1228, 1231] (by decide +kernel)
set_option maxRecDepth 20000 in
theorem in_c_takesSeed : ∀ w ∈ wp_c_takesSeed, w ∈ lw_tbl := List.forall_mem_cons.mpr ⟨List.mem_of_getElem? (i := 1409) (by decide +kernel), List.forall_mem_append.mpr ⟨inown_c_takesSeed, List.forall_mem_append.mpr ⟨in_c_of, List.forall_mem_append.mpr ⟨lwb_X11, fun _ h => absurd h List.not_mem_nil⟩⟩⟩⟩
set_option maxRecDepth 20000 in
theorem good_c_takesSeed : wp_c_takesSeed.all goodWord = true := by decide +kernel
set_option maxRecDepth 20000 in
theorem g_c_takesSeed_c_of_89 : GoodIn wp_c_takesSeed (wsV RX11 89 RX11 yX11_of wp_c_of) := goodIn_sub (List.forall_mem_append.mpr ⟨List.forall_mem_cons.mpr ⟨(List.mem_of_getElem? (i := 1) rfl), List.forall_mem_cons.mpr ⟨(List.mem_of_getElem? (i := 2) rfl), List.forall_mem_cons.mpr ⟨(List.mem_of_getElem? (i := 3) rfl), List.forall_mem_cons.mpr ⟨(List.mem_of_getElem? (i := 4) rfl), fun _ h => absurd h List.not_mem_nil⟩⟩⟩⟩, (fun _ h => (List.mem_cons_of_mem _ (List.mem_append_right _ (List.mem_append_left _ h))))⟩) (by decide +kernel)
set_option maxHeartbeats 4000000 in
set_option maxRecDepth 100000 in
theorem c_takesSeed (l : Launch) (D : va_G) (sz : Nat) (h0 : Nat) (a : Nat → Nat) (cN : ClassId) (tp : Int32) (sd : Int64) (pa : Int64) (pb : Int64) (dr : Int32) (k : Nat) (f : Nat → Int64) (hk : k < 5) : Met l yX11_takesSeed wp_c_takesSeed ({ frames := 1, cells := 0, slots := 0, locals := 22 }) (PcW D [.ref h0, .int (nI k)] sz [(h0, .inr (11, fM a tp sd pa pb dr)), (a 3, .inl (cN, 85, .inr (.inl f)))] [(cN, .long)]) (va_Qv (fun (_ : Unit) => True) (fun (u : Unit) t => va_P D vwCl [(h0, .inr (11, fM a tp (f (17 * k + 13)) pa pb 0)), (a 3, .inl (cN, 85, .inr (.inl f)))] t.heap ∧ va_K D vwCl [(cN, .long)] t ∧ va_D (va_A [(h0, .inr (11, fM a tp sd pa pb dr)), (a 3, .inl (cN, 85, .inr (.inl f)))] sz) [(h0, .inr (11, fM a tp (f (17 * k + 13)) pa pb 0)), (a 3, .inl (cN, 85, .inr (.inl f)))]) (va_A [(h0, .inr (11, fM a tp sd pa pb dr)), (a 3, .inl (cN, 85, .inr (.inl f)))] sz)) 0 0 (va_A [(h0, .inr (11, fM a tp sd pa pb dr)), (a 3, .inl (cN, 85, .inr (.inl f)))] sz) := by
  refine Met.ofW (cc := cX11_takesSeed) (maxL := 2) (ret := none) (by decide) rfl ?_
  intro p e s m args below meth c s₁ B hml hv
  obtain ⟨rfl, hsz, hP, hK, hD0⟩ := hv
  have hx := B.exec
  have hb := B.bytes
  have hr := B.returns
  have hts := atoms_spec (ws := wp_c_takesSeed) B.pre
  have hin_X11 : ∀ w ∈ wsX110, w ∈ wp_c_takesSeed := fun _ h => (List.mem_cons_of_mem _ (List.mem_append_right _ (List.mem_append_right _ (List.mem_append_left _ h))))
  have hown : s.vm.findClass RX11 = some m.cls := findClass_of_methodNamed B.named
  have hlocks := B.notSynchronized
  subst hsz
  have hD := hD0.self (sz := s.heap.size)
  generalize hAe : va_A [(h0, .inr (11, fM a tp sd pa pb dr)), (a 3, .inl (cN, 85, .inr (.inl f)))] s.heap.size = A at hD ⊢
  have hA : ∀ q : Nat, s.heap.size ≤ q → A q := fun q h => by rw [← hAe]; exact Or.inr h
  have hS : va_S A s.heap s.heap [] := va_S.rf
  have hP : va_P D vwCl [(h0, .inr (11, fM a tp sd pa pb dr)), (a 3, .inl (cN, 85, .inr (.inl f)))] s.heap := hP
  have hl := lv_entry ([.ref h0, .int (nI k)]) (n := 2) (Nat.le_of_ble_eq_true rfl)
  rw [lg_entry_eq]
  generalize (lg_sl ([.ref h0, .int (nI k)]) ++ List.replicate (2 - (lg_sl ([.ref h0, .int (nI k)])).length) Slot.unset).toArray = ls at hl ⊢
  have hl : lv_has ls 2 [(0, .ref h0), (1, .int (nI k))] := hl
  refine lv_aload_n hx hb dX11_takesSeed_0 rfl (lv_at hl 0 rfl) ?_
  refine lv_aload_n hx hb dX11_takesSeed_1 rfl (lv_at hl 0 rfl) ?_
  refine lv_iload_n hx hb dX11_takesSeed_2 rfl (lv_at hl 1 rfl) ?_
  refine lv_bipush (v := 13) hx hb dX11_takesSeed_3 (by decide) ?_
  have hPc := hP.sub (ws' := [(h0, .inr (11, fM a tp sd pa pb dr)), (a 3, .inl (cN, 85, .inr (.inl f)))]) [0, 1] rfl
  have hKc := hK.sub (tys' := [(cN, .long)]) [0] rfl
  have hFc := va_free0 hS hA
  refine va_calll (va_runV (As := [.int (nI k), .int (nI 13)]) (rest := [.ref h0]) ⟨hx, hb, hml, hown, hts⟩ (c_of l D _ h0 a cN tp sd pa pb dr k 13 f (by first | omega | assumption) (by first | omega | assumption)) (cwV 2 hts g_c_takesSeed_c_of_89 rfl rfl rfl (by decide +kernel) ⟨(Nat.le_of_ble_eq_true rfl), (Nat.le_of_ble_eq_true rfl)⟩) (PcR_V (q0 := 0) hPc hKc rfl rfl) rfl rfl hl.1 rfl (lv_room (Nat.le_of_ble_eq_true rfl)) dX11_takesSeed_5 ⟨(Nat.le_of_ble_eq_true rfl), (Nat.le_of_ble_eq_true rfl)⟩) hS (fun q _ h => hFc q h) hFc (fun r1 uu tt H locs htt hvm hw hB hz1 hk1 hS => ?_)
  have hP := va_keep hP hk1
  try dsimp only at hw
  clear hB hz1 hk1 hFc hPc hKc
  obtain rfl : r1 = f (17 * k + 13) := hw
  refine va_put (D := D) (ci := 11) (v := .long (f (17 * k + 13))) (ty := .long) (C := RX11) (T := TX11) (N := 47) hx hb hts hin_X11 tyX11 tyX11_ok nmX11 hown hK hP hD hS 0 rfl rfl 12 (by decide) (hts (.fieldLink RX11 105 "ClashFreeModel" "seed" "J") (List.mem_of_getElem? (i := 5) rfl)) (fun _ h9 => h9) rfl (by decide +kernel) rfl rfl (Nat.le_of_ble_eq_true rfl) dX11_takesSeed_8 (fun H locs hP hD hS => ?_)
  have hP : va_P D vwCl [(h0, .inr (11, fM a tp (f (17 * k + 13)) pa pb dr)), (a 3, .inl (cN, 85, .inr (.inl f)))] H := hP
  have hD : va_D A [(h0, .inr (11, fM a tp (f (17 * k + 13)) pa pb dr)), (a 3, .inl (cN, 85, .inr (.inl f)))] := hD
  refine lv_aload_n hx hb dX11_takesSeed_11 rfl (lv_at hl 0 rfl) ?_
  refine lv_iconst (v := 0) hx hb dX11_takesSeed_12 (by decide) ?_
  refine va_put (D := D) (ci := 11) (v := .int 0) (ty := .int) (C := RX11) (T := TX11) (N := 47) hx hb hts hin_X11 tyX11 tyX11_ok nmX11 hown hK hP hD hS 0 rfl rfl 15 (by decide) (hts (.fieldLink RX11 123 "ClashFreeModel" "drawn" "I") (List.mem_of_getElem? (i := 6) rfl)) (fun _ h9 => h9) rfl (by decide +kernel) rfl rfl (Nat.le_of_ble_eq_true rfl) dX11_takesSeed_13 (fun H locs hP hD hS => ?_)
  have hP : va_P D vwCl [(h0, .inr (11, fM a tp (f (17 * k + 13)) pa pb 0)), (a 3, .inl (cN, 85, .inr (.inl f)))] H := hP
  have hD : va_D A [(h0, .inr (11, fM a tp (f (17 * k + 13)) pa pb 0)), (a 3, .inl (cN, 85, .inr (.inl f)))] := hD
  exact W.vret hx hb hr (fun t ht hW => ⟨⟨(), rfl, trivial, by rw [ht]; exact hP.sub [0, 1] rfl, va_K.moved hW.alike (hK.sub [0] rfl), hD.sub [0, 1] (by decide) rfl⟩, hS.F ht⟩) hS.2.2 dX11_takesSeed_16

def own_c_draw : List Cond := [.fieldLink RX11 105 "ClashFreeModel" "seed" "J", .constantLong RX11 109 (6364136223846793005), .constantLong RX11 111 (1442695040888963407)]
def wp_c_draw : List Cond := .code yX11_draw cX11_draw 3 (some .long) :: (own_c_draw ++ (wsX110 ++ ([] : List Cond)))
set_option maxRecDepth 20000 in
theorem inown_c_draw : ∀ w ∈ own_c_draw, w ∈ lw_tbl := mem_places [1228, 1419, 1420] (by decide +kernel)
set_option maxRecDepth 20000 in
theorem in_c_draw : ∀ w ∈ wp_c_draw, w ∈ lw_tbl := List.forall_mem_cons.mpr ⟨List.mem_of_getElem? (i := 1418) (by decide +kernel), List.forall_mem_append.mpr ⟨inown_c_draw, List.forall_mem_append.mpr ⟨lwb_X11, fun _ h => absurd h List.not_mem_nil⟩⟩⟩
set_option maxRecDepth 20000 in
theorem good_c_draw : wp_c_draw.all goodWord = true := by decide +kernel
set_option maxHeartbeats 4000000 in
set_option maxRecDepth 100000 in
theorem c_draw (l : Launch) (D : va_G) (sz : Nat) (h0 : Nat) (a : Nat → Nat) (tp : Int32) (sd : Int64) (pa : Int64) (pb : Int64) (dr : Int32) (am : Int64) (ham : ¬ am = 0) : Met l yX11_draw wp_c_draw ({ frames := 0, cells := 0, slots := 0, locals := 0 }) (PcW D [.ref h0, .long am] sz [(h0, .inr (11, fM a tp sd pa pb dr))] []) (va_Ql (fun (_ : Int64) (_ : Int64) => True) (fun (u : Int64) t => va_P D vwCl [(h0, .inr (11, fM a tp u pa pb dr))] t.heap ∧ va_K D vwCl [] t ∧ va_D (va_A [(h0, .inr (11, fM a tp sd pa pb dr))] sz) [(h0, .inr (11, fM a tp u pa pb dr))]) (va_A [(h0, .inr (11, fM a tp sd pa pb dr))] sz)) 0 0 (va_A [(h0, .inr (11, fM a tp sd pa pb dr))] sz) := by
  refine Met.ofW (cc := cX11_draw) (maxL := 3) (ret := (some .long)) (by decide) rfl ?_
  intro p e s m args below meth c s₁ B hml hv
  obtain ⟨rfl, hsz, hP, hK, hD0⟩ := hv
  have hx := B.exec
  have hb := B.bytes
  have hr := B.returns
  have hts := atoms_spec (ws := wp_c_draw) B.pre
  have hin_X11 : ∀ w ∈ wsX110, w ∈ wp_c_draw := fun _ h => (List.mem_cons_of_mem _ (List.mem_append_right _ (List.mem_append_left _ h)))
  have hown : s.vm.findClass RX11 = some m.cls := findClass_of_methodNamed B.named
  have hlocks := B.notSynchronized
  subst hsz
  have hD := hD0.self (sz := s.heap.size)
  generalize hAe : va_A [(h0, .inr (11, fM a tp sd pa pb dr))] s.heap.size = A at hD ⊢
  have hA : ∀ q : Nat, s.heap.size ≤ q → A q := fun q h => by rw [← hAe]; exact Or.inr h
  have hS : va_S A s.heap s.heap [] := va_S.rf
  have hP : va_P D vwCl [(h0, .inr (11, fM a tp sd pa pb dr))] s.heap := hP
  have hl := lv_entry ([.ref h0, .long am]) (n := 3) (Nat.le_of_ble_eq_true rfl)
  rw [lg_entry_eq]
  generalize (lg_sl ([.ref h0, .long am]) ++ List.replicate (3 - (lg_sl ([.ref h0, .long am])).length) Slot.unset).toArray = ls at hl ⊢
  have hl : lv_has ls 3 [(0, .ref h0), (1, .long am)] := hl
  refine lv_aload_n hx hb dX11_draw_0 rfl (lv_at hl 0 rfl) ?_
  refine lv_aload_n hx hb dX11_draw_1 rfl (lv_at hl 0 rfl) ?_
  refine va_get (D := D) (ci := 11) (v := .long sd) (C := RX11) (T := TX11) (N := 47) hx hb hts hin_X11 hown hK hP 0 rfl rfl 12 (by decide) (hts (.fieldLink RX11 105 "ClashFreeModel" "seed" "J") (List.mem_of_getElem? (i := 1) rfl)) (fun _ h9 => h9) rfl dX11_draw_2 ?_
  refine lv_ldc2 (v := 6364136223846793005) hx hb hown (hts (.constantLong RX11 109 (6364136223846793005)) (List.mem_of_getElem? (i := 2) rfl)) dX11_draw_5 ?_
  refine lv_lmul hx hb dX11_draw_8 ?_
  refine lv_topl (fun v1 ev1 => ?_)
  refine lv_ldc2 (v := 1442695040888963407) hx hb hown (hts (.constantLong RX11 111 (1442695040888963407)) (List.mem_of_getElem? (i := 3) rfl)) dX11_draw_9 ?_
  refine lv_ladd hx hb dX11_draw_12 ?_
  refine lv_topl (fun v2 ev2 => ?_)
  refine va_put (D := D) (ci := 11) (v := .long v2) (ty := .long) (C := RX11) (T := TX11) (N := 47) hx hb hts hin_X11 tyX11 tyX11_ok nmX11 hown hK hP hD hS 0 rfl rfl 12 (by decide) (hts (.fieldLink RX11 105 "ClashFreeModel" "seed" "J") (List.mem_of_getElem? (i := 1) rfl)) (fun _ h9 => h9) rfl (by decide +kernel) rfl rfl (Nat.le_of_ble_eq_true rfl) dX11_draw_13 (fun H locs hP hD hS => ?_)
  have hP : va_P D vwCl [(h0, .inr (11, fM a tp v2 pa pb dr))] H := hP
  have hD : va_D A [(h0, .inr (11, fM a tp v2 pa pb dr))] := hD
  refine lv_aload_n hx hb dX11_draw_16 rfl (lv_at hl 0 rfl) ?_
  refine va_get (D := D) (ci := 11) (v := .long v2) (C := RX11) (T := TX11) (N := 47) hx hb hts hin_X11 hown hK hP 0 rfl rfl 12 (by decide) (hts (.fieldLink RX11 105 "ClashFreeModel" "seed" "J") (List.mem_of_getElem? (i := 1) rfl)) (fun _ h9 => h9) rfl dX11_draw_17 ?_
  refine lv_bipush (v := 33) hx hb dX11_draw_20 (by decide) ?_
  refine lv_lushr hx hb dX11_draw_22 rfl ?_
  refine lv_topl (fun v3 ev3 => ?_)
  refine lv_lload_n hx hb dX11_draw_23 rfl (lv_at hl 1 rfl) ?_
  refine lv_lrem hx hb dX11_draw_24 ham ?_
  refine lv_topl (fun v4 ev4 => ?_)
  exact W.lret (v := v4) hx hb hr (fun t ht hW => ⟨⟨v4, v2, rfl, trivial, by rw [ht]; exact hP.sub [0] rfl, va_K.moved hW.alike (hK.sub [] rfl), hD.sub [0] (by decide) rfl⟩, hS.F ht⟩) hS.2.2 dX11_draw_25

def own_c_drawsPair : List Cond := [.constantLong RX11 93 (2147483646), .methodLink RX11 113 yX11_draw, .instanceMethod yX11_draw, .selects RX11 yX11_draw yX11_draw, .initialized RX11, .fieldLink RX11 117 "ClashFreeModel" "pairA" "J", .constantLong RX11 103 (2147483647), .fieldLink RX11 120 "ClashFreeModel" "pairB" "J", .fieldLink RX11 123 "ClashFreeModel" "drawn" "I"]
def wp_c_drawsPair : List Cond := .code yX11_drawsPair cX11_drawsPair 1 none :: (own_c_drawsPair ++ (wp_c_draw ++ (wsX110 ++ ([] : List Cond))))
set_option maxRecDepth 20000 in
theorem inown_c_drawsPair : ∀ w ∈ own_c_drawsPair, w ∈ lw_tbl := mem_places [1414, 1415, 1417, 44, 115, 1229, 1421, 1230, 1231] (by decide +kernel)
set_option maxRecDepth 20000 in
theorem in_c_drawsPair : ∀ w ∈ wp_c_drawsPair, w ∈ lw_tbl := List.forall_mem_cons.mpr ⟨List.mem_of_getElem? (i := 1413) (by decide +kernel), List.forall_mem_append.mpr ⟨inown_c_drawsPair, List.forall_mem_append.mpr ⟨in_c_draw, List.forall_mem_append.mpr ⟨lwb_X11, fun _ h => absurd h List.not_mem_nil⟩⟩⟩⟩
set_option maxRecDepth 20000 in
theorem good_c_drawsPair : wp_c_drawsPair.all goodWord = true := by decide +kernel
set_option maxRecDepth 20000 in
theorem g_c_drawsPair_c_draw_113 : GoodIn wp_c_drawsPair (wsV RX11 113 RX11 yX11_draw wp_c_draw) := goodIn_sub (List.forall_mem_append.mpr ⟨List.forall_mem_cons.mpr ⟨(List.mem_of_getElem? (i := 2) rfl), List.forall_mem_cons.mpr ⟨(List.mem_of_getElem? (i := 3) rfl), List.forall_mem_cons.mpr ⟨(List.mem_of_getElem? (i := 4) rfl), List.forall_mem_cons.mpr ⟨(List.mem_of_getElem? (i := 5) rfl), fun _ h => absurd h List.not_mem_nil⟩⟩⟩⟩, (fun _ h => (List.mem_cons_of_mem _ (List.mem_append_right _ (List.mem_append_left _ h))))⟩) (by decide +kernel)
set_option maxHeartbeats 4000000 in
set_option maxRecDepth 100000 in
theorem c_drawsPair (l : Launch) (D : va_G) (sz : Nat) (h0 : Nat) (a : Nat → Nat) (tp : Int32) (sd : Int64) (pa : Int64) (pb : Int64) (dr : Int32)  : Met l yX11_drawsPair wp_c_drawsPair ({ frames := 1, cells := 0, slots := 0, locals := 22 }) (PcW D [.ref h0] sz [(h0, .inr (11, fM a tp sd pa pb dr))] []) (va_Qv (fun (_ : Int64 × Int64 × Int64 × Int32) => True) (fun (u : Int64 × Int64 × Int64 × Int32) t => va_P D vwCl [(h0, .inr (11, fM a tp u.1 u.2.1 u.2.2.1 u.2.2.2))] t.heap ∧ va_K D vwCl [] t ∧ va_D (va_A [(h0, .inr (11, fM a tp sd pa pb dr))] sz) [(h0, .inr (11, fM a tp u.1 u.2.1 u.2.2.1 u.2.2.2))]) (va_A [(h0, .inr (11, fM a tp sd pa pb dr))] sz)) 0 0 (va_A [(h0, .inr (11, fM a tp sd pa pb dr))] sz) := by
  refine Met.ofW (cc := cX11_drawsPair) (maxL := 1) (ret := none) (by decide) rfl ?_
  intro p e s m args below meth c s₁ B hml hv
  obtain ⟨rfl, hsz, hP, hK, hD0⟩ := hv
  have hx := B.exec
  have hb := B.bytes
  have hr := B.returns
  have hts := atoms_spec (ws := wp_c_drawsPair) B.pre
  have hin_X11 : ∀ w ∈ wsX110, w ∈ wp_c_drawsPair := fun _ h => (List.mem_cons_of_mem _ (List.mem_append_right _ (List.mem_append_right _ (List.mem_append_left _ h))))
  have hown : s.vm.findClass RX11 = some m.cls := findClass_of_methodNamed B.named
  have hlocks := B.notSynchronized
  subst hsz
  have hD := hD0.self (sz := s.heap.size)
  generalize hAe : va_A [(h0, .inr (11, fM a tp sd pa pb dr))] s.heap.size = A at hD ⊢
  have hA : ∀ q : Nat, s.heap.size ≤ q → A q := fun q h => by rw [← hAe]; exact Or.inr h
  have hS : va_S A s.heap s.heap [] := va_S.rf
  have hP : va_P D vwCl [(h0, .inr (11, fM a tp sd pa pb dr))] s.heap := hP
  have hl := lv_entry ([.ref h0]) (n := 1) (Nat.le_of_ble_eq_true rfl)
  rw [lg_entry_eq]
  generalize (lg_sl ([.ref h0]) ++ List.replicate (1 - (lg_sl ([.ref h0])).length) Slot.unset).toArray = ls at hl ⊢
  have hl : lv_has ls 1 [(0, .ref h0)] := hl
  refine lv_aload_n hx hb dX11_drawsPair_0 rfl (lv_at hl 0 rfl) ?_
  refine lv_lconst (v := 1) hx hb dX11_drawsPair_1 (by decide) ?_
  refine lv_aload_n hx hb dX11_drawsPair_2 rfl (lv_at hl 0 rfl) ?_
  refine lv_ldc2 (v := 2147483646) hx hb hown (hts (.constantLong RX11 93 (2147483646)) (List.mem_of_getElem? (i := 1) rfl)) dX11_drawsPair_3 ?_
  have hPc := hP.sub (ws' := [(h0, .inr (11, fM a tp sd pa pb dr))]) [0] rfl
  have hKc := hK.sub (tys' := []) [] rfl
  have hDc := hD.sub (ws' := [(h0, .inr (11, fM a tp sd pa pb dr))]) [0] (by decide) rfl
  have hFc := va_free (wc := [(h0, .inr (11, fM a tp sd pa pb dr))]) hD hS hA [0] rfl
  refine va_calll (va_runV (As := [.long 2147483646]) (rest := [.long 1, .ref h0]) ⟨hx, hb, hml, hown, hts⟩ (c_draw l D _ h0 a tp sd pa pb dr 2147483646 (by decide)) (cwV 1 hts g_c_drawsPair_c_draw_113 rfl rfl rfl (by decide +kernel) ⟨(Nat.le_of_ble_eq_true rfl), (Nat.le_of_ble_eq_true rfl)⟩) (PcW_V (q0 := 0) hPc hKc hDc rfl rfl) rfl rfl hl.1 rfl (lv_room (Nat.le_of_ble_eq_true rfl)) dX11_drawsPair_6 ⟨(Nat.le_of_ble_eq_true rfl), (Nat.le_of_ble_eq_true rfl)⟩) hS (fun q _ h => hFc q h) hFc (fun r1 uu tt H locs htt hvm hw hB hz1 hk1 hS => ?_)
  obtain ⟨sd2, rfl⟩ : ∃ z, z = uu := ⟨_, rfl⟩
  obtain ⟨hP1, hK1, hD1⟩ := hB
  rw [htt] at hP1
  have hK1 := va_K.moved hvm.symm hK1
  have hP1 : va_P D vwCl [(h0, .inr (11, fM a tp sd2 pa pb dr))] H := hP1
  obtain ⟨hP, hD⟩ := va_join (wr := []) (w1 := [(h0, .inr (11, fM a tp sd2 pa pb dr))]) hP hD [0] [] rfl rfl (by decide) (by decide) hk1 hFc hP1 hD1
  have hP : va_P D vwCl [(h0, .inr (11, fM a tp sd2 pa pb dr))] H := hP
  have hD : va_D A [(h0, .inr (11, fM a tp sd2 pa pb dr))] := hD
  try dsimp only at hw
  clear hz1 hk1 hFc hPc hKc hDc
  refine lv_ladd hx hb dX11_drawsPair_9 ?_
  refine lv_topl (fun v3 ev3 => ?_)
  refine va_put (D := D) (ci := 11) (v := .long v3) (ty := .long) (C := RX11) (T := TX11) (N := 47) hx hb hts hin_X11 tyX11 tyX11_ok nmX11 hown hK hP hD hS 0 rfl rfl 13 (by decide) (hts (.fieldLink RX11 117 "ClashFreeModel" "pairA" "J") (List.mem_of_getElem? (i := 6) rfl)) (fun _ h9 => h9) rfl (by decide +kernel) rfl rfl (Nat.le_of_ble_eq_true rfl) dX11_drawsPair_10 (fun H locs hP hD hS => ?_)
  have hP : va_P D vwCl [(h0, .inr (11, fM a tp sd2 v3 pb dr))] H := hP
  have hD : va_D A [(h0, .inr (11, fM a tp sd2 v3 pb dr))] := hD
  refine lv_aload_n hx hb dX11_drawsPair_13 rfl (lv_at hl 0 rfl) ?_
  refine lv_aload_n hx hb dX11_drawsPair_14 rfl (lv_at hl 0 rfl) ?_
  refine lv_ldc2 (v := 2147483647) hx hb hown (hts (.constantLong RX11 103 (2147483647)) (List.mem_of_getElem? (i := 7) rfl)) dX11_drawsPair_15 ?_
  have hPc := hP.sub (ws' := [(h0, .inr (11, fM a tp sd2 v3 pb dr))]) [0] rfl
  have hKc := hK.sub (tys' := []) [] rfl
  have hDc := hD.sub (ws' := [(h0, .inr (11, fM a tp sd2 v3 pb dr))]) [0] (by decide) rfl
  have hFc := va_free (wc := [(h0, .inr (11, fM a tp sd2 v3 pb dr))]) hD hS hA [0] rfl
  refine va_calll (va_runV (As := [.long 2147483647]) (rest := [.ref h0]) ⟨hx, hb, hml, hown, hts⟩ (c_draw l D _ h0 a tp sd2 v3 pb dr 2147483647 (by decide)) (cwV 1 hts g_c_drawsPair_c_draw_113 rfl rfl rfl (by decide +kernel) ⟨(Nat.le_of_ble_eq_true rfl), (Nat.le_of_ble_eq_true rfl)⟩) (PcW_V (q0 := 0) hPc hKc hDc rfl rfl) rfl rfl hl.1 rfl (lv_room (Nat.le_of_ble_eq_true rfl)) dX11_drawsPair_18 ⟨(Nat.le_of_ble_eq_true rfl), (Nat.le_of_ble_eq_true rfl)⟩) hS (fun q _ h => hFc q h) hFc (fun r4 uu tt H locs htt hvm hw hB hz1 hk1 hS => ?_)
  obtain ⟨sd5, rfl⟩ : ∃ z, z = uu := ⟨_, rfl⟩
  obtain ⟨hP1, hK1, hD1⟩ := hB
  rw [htt] at hP1
  have hK1 := va_K.moved hvm.symm hK1
  have hP1 : va_P D vwCl [(h0, .inr (11, fM a tp sd5 v3 pb dr))] H := hP1
  obtain ⟨hP, hD⟩ := va_join (wr := []) (w1 := [(h0, .inr (11, fM a tp sd5 v3 pb dr))]) hP hD [0] [] rfl rfl (by decide) (by decide) hk1 hFc hP1 hD1
  have hP : va_P D vwCl [(h0, .inr (11, fM a tp sd5 v3 pb dr))] H := hP
  have hD : va_D A [(h0, .inr (11, fM a tp sd5 v3 pb dr))] := hD
  try dsimp only at hw
  clear hz1 hk1 hFc hPc hKc hDc
  refine va_put (D := D) (ci := 11) (v := .long r4) (ty := .long) (C := RX11) (T := TX11) (N := 47) hx hb hts hin_X11 tyX11 tyX11_ok nmX11 hown hK hP hD hS 0 rfl rfl 14 (by decide) (hts (.fieldLink RX11 120 "ClashFreeModel" "pairB" "J") (List.mem_of_getElem? (i := 8) rfl)) (fun _ h9 => h9) rfl (by decide +kernel) rfl rfl (Nat.le_of_ble_eq_true rfl) dX11_drawsPair_21 (fun H locs hP hD hS => ?_)
  have hP : va_P D vwCl [(h0, .inr (11, fM a tp sd5 v3 r4 dr))] H := hP
  have hD : va_D A [(h0, .inr (11, fM a tp sd5 v3 r4 dr))] := hD
  refine lv_aload_n hx hb dX11_drawsPair_24 rfl (lv_at hl 0 rfl) ?_
  refine lv_dup hx hb dX11_drawsPair_25 rfl ?_
  refine va_get (D := D) (ci := 11) (v := .int dr) (C := RX11) (T := TX11) (N := 47) hx hb hts hin_X11 hown hK hP 0 rfl rfl 15 (by decide) (hts (.fieldLink RX11 123 "ClashFreeModel" "drawn" "I") (List.mem_of_getElem? (i := 9) rfl)) (fun _ h9 => h9) rfl dX11_drawsPair_26 ?_
  refine lv_iconst (v := 1) hx hb dX11_drawsPair_29 (by decide) ?_
  refine lv_iadd hx hb dX11_drawsPair_30 ?_
  refine lv_topi (fun v6 ev6 => ?_)
  refine va_put (D := D) (ci := 11) (v := .int v6) (ty := .int) (C := RX11) (T := TX11) (N := 47) hx hb hts hin_X11 tyX11 tyX11_ok nmX11 hown hK hP hD hS 0 rfl rfl 15 (by decide) (hts (.fieldLink RX11 123 "ClashFreeModel" "drawn" "I") (List.mem_of_getElem? (i := 9) rfl)) (fun _ h9 => h9) rfl (by decide +kernel) rfl rfl (Nat.le_of_ble_eq_true rfl) dX11_drawsPair_31 (fun H locs hP hD hS => ?_)
  have hP : va_P D vwCl [(h0, .inr (11, fM a tp sd5 v3 r4 v6))] H := hP
  have hD : va_D A [(h0, .inr (11, fM a tp sd5 v3 r4 v6))] := hD
  exact W.vret hx hb hr (fun t ht hW => ⟨⟨(sd5, v3, r4, v6), rfl, trivial, by rw [ht]; exact hP.sub [0] rfl, va_K.moved hW.alike (hK.sub [] rfl), hD.sub [0] (by decide) rfl⟩, hS.F ht⟩) hS.2.2 dX11_drawsPair_34

def own_c_laysSeed : List Cond := [.fieldLink RX11 105 "ClashFreeModel" "seed" "J", .methodLink RX11 126 yX11_lays, .instanceMethod yX11_lays, .selects RX11 yX11_lays yX11_lays, .initialized RX11, .fieldLink RX11 123 "ClashFreeModel" "drawn" "I", .methodLink RX11 130 yX11_adds, .instanceMethod yX11_adds, .selects RX11 yX11_adds yX11_adds]
def wp_c_laysSeed : List Cond := .code yX11_laysSeed cX11_laysSeed 2 none :: (own_c_laysSeed ++ (wp_c_lays ++ (wp_c_adds ++ (wsX110 ++ ([] : List Cond)))))
set_option maxRecDepth 20000 in
theorem inown_c_laysSeed : ∀ w ∈ own_c_laysSeed, w ∈ lw_tbl := mem_places [1228, 1388, 1390, 38, 115, 1231, 1458, 1460, 53] (by decide +kernel)
set_option maxRecDepth 20000 in
theorem in_c_laysSeed : ∀ w ∈ wp_c_laysSeed, w ∈ lw_tbl := List.forall_mem_cons.mpr ⟨List.mem_of_getElem? (i := 1457) (by decide +kernel), List.forall_mem_append.mpr ⟨inown_c_laysSeed, List.forall_mem_append.mpr ⟨in_c_lays, List.forall_mem_append.mpr ⟨in_c_adds, List.forall_mem_append.mpr ⟨lwb_X11, fun _ h => absurd h List.not_mem_nil⟩⟩⟩⟩⟩
set_option maxRecDepth 20000 in
theorem good_c_laysSeed : wp_c_laysSeed.all goodWord = true := by decide +kernel
set_option maxRecDepth 20000 in
theorem g_c_laysSeed_c_lays_126 : GoodIn wp_c_laysSeed (wsV RX11 126 RX11 yX11_lays wp_c_lays) := goodIn_sub (List.forall_mem_append.mpr ⟨List.forall_mem_cons.mpr ⟨(List.mem_of_getElem? (i := 2) rfl), List.forall_mem_cons.mpr ⟨(List.mem_of_getElem? (i := 3) rfl), List.forall_mem_cons.mpr ⟨(List.mem_of_getElem? (i := 4) rfl), List.forall_mem_cons.mpr ⟨(List.mem_of_getElem? (i := 5) rfl), fun _ h => absurd h List.not_mem_nil⟩⟩⟩⟩, (fun _ h => (List.mem_cons_of_mem _ (List.mem_append_right _ (List.mem_append_left _ h))))⟩) (by decide +kernel)
set_option maxRecDepth 20000 in
theorem g_c_laysSeed_c_adds_130 : GoodIn wp_c_laysSeed (wsV RX11 130 RX11 yX11_adds wp_c_adds) := goodIn_sub (List.forall_mem_append.mpr ⟨List.forall_mem_cons.mpr ⟨(List.mem_of_getElem? (i := 7) rfl), List.forall_mem_cons.mpr ⟨(List.mem_of_getElem? (i := 8) rfl), List.forall_mem_cons.mpr ⟨(List.mem_of_getElem? (i := 9) rfl), List.forall_mem_cons.mpr ⟨(List.mem_of_getElem? (i := 5) rfl), fun _ h => absurd h List.not_mem_nil⟩⟩⟩⟩, (fun _ h => (List.mem_cons_of_mem _ (List.mem_append_right _ (List.mem_append_right _ (List.mem_append_left _ h)))))⟩) (by decide +kernel)
set_option maxHeartbeats 4000000 in
set_option maxRecDepth 100000 in
theorem c_laysSeed (l : Launch) (D : va_G) (sz : Nat) (h0 : Nat) (a : Nat → Nat) (cN : ClassId) (tp : Int32) (sd : Int64) (pa : Int64) (pb : Int64) (dr : Int32) (k : Nat) (f : Nat → Int64) (hk : k < 5) : Met l yX11_laysSeed wp_c_laysSeed ({ frames := 1, cells := 0, slots := 0, locals := 24 }) (PcW D [.ref h0, .int (nI k)] sz [(h0, .inr (11, fM a tp sd pa pb dr)), (a 3, .inl (cN, 85, .inr (.inl f)))] [(cN, .long)]) (va_Qv (fun (_ : Nat → Int64) => True) (fun (u : Nat → Int64) t => va_P D vwCl [(h0, .inr (11, fM a tp sd pa pb dr)), (a 3, .inl (cN, 85, .inr (.inl u)))] t.heap ∧ va_K D vwCl [(cN, .long)] t ∧ va_D (va_A [(h0, .inr (11, fM a tp sd pa pb dr)), (a 3, .inl (cN, 85, .inr (.inl f)))] sz) [(h0, .inr (11, fM a tp sd pa pb dr)), (a 3, .inl (cN, 85, .inr (.inl u)))]) (va_A [(h0, .inr (11, fM a tp sd pa pb dr)), (a 3, .inl (cN, 85, .inr (.inl f)))] sz)) 0 0 (va_A [(h0, .inr (11, fM a tp sd pa pb dr)), (a 3, .inl (cN, 85, .inr (.inl f)))] sz) := by
  refine Met.ofW (cc := cX11_laysSeed) (maxL := 2) (ret := none) (by decide) rfl ?_
  intro p e s m args below meth c s₁ B hml hv
  obtain ⟨rfl, hsz, hP, hK, hD0⟩ := hv
  have hx := B.exec
  have hb := B.bytes
  have hr := B.returns
  have hts := atoms_spec (ws := wp_c_laysSeed) B.pre
  have hin_X11 : ∀ w ∈ wsX110, w ∈ wp_c_laysSeed := fun _ h => (List.mem_cons_of_mem _ (List.mem_append_right _ (List.mem_append_right _ (List.mem_append_right _ (List.mem_append_left _ h)))))
  have hown : s.vm.findClass RX11 = some m.cls := findClass_of_methodNamed B.named
  have hlocks := B.notSynchronized
  subst hsz
  have hD := hD0.self (sz := s.heap.size)
  generalize hAe : va_A [(h0, .inr (11, fM a tp sd pa pb dr)), (a 3, .inl (cN, 85, .inr (.inl f)))] s.heap.size = A at hD ⊢
  have hA : ∀ q : Nat, s.heap.size ≤ q → A q := fun q h => by rw [← hAe]; exact Or.inr h
  have hS : va_S A s.heap s.heap [] := va_S.rf
  have hP : va_P D vwCl [(h0, .inr (11, fM a tp sd pa pb dr)), (a 3, .inl (cN, 85, .inr (.inl f)))] s.heap := hP
  have hl := lv_entry ([.ref h0, .int (nI k)]) (n := 2) (Nat.le_of_ble_eq_true rfl)
  rw [lg_entry_eq]
  generalize (lg_sl ([.ref h0, .int (nI k)]) ++ List.replicate (2 - (lg_sl ([.ref h0, .int (nI k)])).length) Slot.unset).toArray = ls at hl ⊢
  have hl : lv_has ls 2 [(0, .ref h0), (1, .int (nI k))] := hl
  refine lv_aload_n hx hb dX11_laysSeed_0 rfl (lv_at hl 0 rfl) ?_
  refine lv_iload_n hx hb dX11_laysSeed_1 rfl (lv_at hl 1 rfl) ?_
  refine lv_bipush (v := 13) hx hb dX11_laysSeed_2 (by decide) ?_
  refine lv_aload_n hx hb dX11_laysSeed_4 rfl (lv_at hl 0 rfl) ?_
  refine va_get (D := D) (ci := 11) (v := .long sd) (C := RX11) (T := TX11) (N := 47) hx hb hts hin_X11 hown hK hP 0 rfl rfl 12 (by decide) (hts (.fieldLink RX11 105 "ClashFreeModel" "seed" "J") (List.mem_of_getElem? (i := 1) rfl)) (fun _ h9 => h9) rfl dX11_laysSeed_5 ?_
  have hPc := hP.sub (ws' := [(h0, .inr (11, fM a tp sd pa pb dr)), (a 3, .inl (cN, 85, .inr (.inl f)))]) [0, 1] rfl
  have hKc := hK.sub (tys' := [(cN, .long)]) [0] rfl
  have hDc := hD.sub (ws' := [(h0, .inr (11, fM a tp sd pa pb dr)), (a 3, .inl (cN, 85, .inr (.inl f)))]) [0, 1] (by decide) rfl
  have hFc := va_free (wc := [(h0, .inr (11, fM a tp sd pa pb dr)), (a 3, .inl (cN, 85, .inr (.inl f)))]) hD hS hA [0, 1] rfl
  refine va_callv (va_runV (As := [.int (nI k), .int (nI 13), .long sd]) (rest := []) ⟨hx, hb, hml, hown, hts⟩ (c_lays l D _ h0 a cN tp sd pa pb dr k 13 f sd (by first | omega | assumption) (by first | omega | assumption)) (cwV 3 hts g_c_laysSeed_c_lays_126 rfl rfl rfl (by decide +kernel) ⟨(Nat.le_of_ble_eq_true rfl), (Nat.le_of_ble_eq_true rfl)⟩) (PcW_V (q0 := 0) hPc hKc hDc rfl rfl) rfl rfl hl.1 rfl (lv_room (Nat.le_of_ble_eq_true rfl)) dX11_laysSeed_8 ⟨(Nat.le_of_ble_eq_true rfl), (Nat.le_of_ble_eq_true rfl)⟩) hS (fun q _ h => hFc q h) hFc (fun uu tt H locs htt hvm hw hB hz1 hk1 hS => ?_)
  obtain ⟨g2, rfl⟩ : ∃ z, z = uu := ⟨_, rfl⟩
  obtain ⟨hP1, hK1, hD1⟩ := hB
  rw [htt] at hP1
  have hK1 := va_K.moved hvm.symm hK1
  have hP1 : va_P D vwCl [(h0, .inr (11, fM a tp sd pa pb dr)), (a 3, .inl (cN, 85, .inr (.inl g2)))] H := hP1
  obtain ⟨hP, hD⟩ := va_join (wr := []) (w1 := [(h0, .inr (11, fM a tp sd pa pb dr)), (a 3, .inl (cN, 85, .inr (.inl g2)))]) hP hD [0, 1] [] rfl rfl (by decide) (by decide) hk1 hFc hP1 hD1
  have hP : va_P D vwCl [(h0, .inr (11, fM a tp sd pa pb dr)), (a 3, .inl (cN, 85, .inr (.inl g2)))] H := hP
  have hD : va_D A [(h0, .inr (11, fM a tp sd pa pb dr)), (a 3, .inl (cN, 85, .inr (.inl g2)))] := hD
  try dsimp only at hw
  clear hz1 hk1 hFc hPc hKc hDc
  have hL3 := hw
  refine lv_aload_n hx hb dX11_laysSeed_11 rfl (lv_at hl 0 rfl) ?_
  refine lv_iload_n hx hb dX11_laysSeed_12 rfl (lv_at hl 1 rfl) ?_
  refine lv_bipush (v := 9) hx hb dX11_laysSeed_13 (by decide) ?_
  refine lv_aload_n hx hb dX11_laysSeed_15 rfl (lv_at hl 0 rfl) ?_
  refine va_get (D := D) (ci := 11) (v := .int dr) (C := RX11) (T := TX11) (N := 47) hx hb hts hin_X11 hown hK hP 0 rfl rfl 15 (by decide) (hts (.fieldLink RX11 123 "ClashFreeModel" "drawn" "I") (List.mem_of_getElem? (i := 6) rfl)) (fun _ h9 => h9) rfl dX11_laysSeed_16 ?_
  refine lv_i2l hx hb dX11_laysSeed_19 rfl ?_
  have hPc := hP.sub (ws' := [(h0, .inr (11, fM a tp sd pa pb dr)), (a 3, .inl (cN, 85, .inr (.inl g2)))]) [0, 1] rfl
  have hKc := hK.sub (tys' := [(cN, .long)]) [0] rfl
  have hDc := hD.sub (ws' := [(h0, .inr (11, fM a tp sd pa pb dr)), (a 3, .inl (cN, 85, .inr (.inl g2)))]) [0, 1] (by decide) rfl
  have hFc := va_free (wc := [(h0, .inr (11, fM a tp sd pa pb dr)), (a 3, .inl (cN, 85, .inr (.inl g2)))]) hD hS hA [0, 1] rfl
  refine va_callv (va_runV (As := [.int (nI k), .int (nI 9), .long (Int32.toInt64 dr)]) (rest := []) ⟨hx, hb, hml, hown, hts⟩ (c_adds l D _ h0 a cN tp sd pa pb dr k 9 g2 (Int32.toInt64 dr) (by first | omega | assumption) (by first | omega | assumption)) (cwV 3 hts g_c_laysSeed_c_adds_130 rfl rfl rfl (by decide +kernel) ⟨(Nat.le_of_ble_eq_true rfl), (Nat.le_of_ble_eq_true rfl)⟩) (PcW_V (q0 := 0) hPc hKc hDc rfl rfl) rfl rfl hl.1 rfl (lv_room (Nat.le_of_ble_eq_true rfl)) dX11_laysSeed_20 ⟨(Nat.le_of_ble_eq_true rfl), (Nat.le_of_ble_eq_true rfl)⟩) hS (fun q _ h => hFc q h) hFc (fun uu tt H locs htt hvm hw hB hz1 hk1 hS => ?_)
  obtain ⟨g5, rfl⟩ : ∃ z, z = uu := ⟨_, rfl⟩
  obtain ⟨hP1, hK1, hD1⟩ := hB
  rw [htt] at hP1
  have hK1 := va_K.moved hvm.symm hK1
  have hP1 : va_P D vwCl [(h0, .inr (11, fM a tp sd pa pb dr)), (a 3, .inl (cN, 85, .inr (.inl g5)))] H := hP1
  obtain ⟨hP, hD⟩ := va_join (wr := []) (w1 := [(h0, .inr (11, fM a tp sd pa pb dr)), (a 3, .inl (cN, 85, .inr (.inl g5)))]) hP hD [0, 1] [] rfl rfl (by decide) (by decide) hk1 hFc hP1 hD1
  have hP : va_P D vwCl [(h0, .inr (11, fM a tp sd pa pb dr)), (a 3, .inl (cN, 85, .inr (.inl g5)))] H := hP
  have hD : va_D A [(h0, .inr (11, fM a tp sd pa pb dr)), (a 3, .inl (cN, 85, .inr (.inl g5)))] := hD
  try dsimp only at hw
  clear hz1 hk1 hFc hPc hKc hDc
  exact W.vret hx hb hr (fun t ht hW => ⟨⟨g5, rfl, trivial, by rw [ht]; exact hP.sub [0, 1] rfl, va_K.moved hW.alike (hK.sub [0] rfl), hD.sub [0, 1] (by decide) rfl⟩, hS.F ht⟩) hS.2.2 dX11_laysSeed_23

def own_c_roomsOfM : List Cond := [.fieldLink RX11 30 "ClashFreeModel" "roofs" "[I"]
def wp_c_roomsOfM : List Cond := .code yX11_roomsOf cX11_roomsOf 4 (some .int) :: (own_c_roomsOfM ++ (wsX110 ++ ([] : List Cond)))
set_option maxRecDepth 20000 in
theorem inown_c_roomsOfM : ∀ w ∈ own_c_roomsOfM, w ∈ lw_tbl := mem_places [1224] (by decide +kernel)
set_option maxRecDepth 20000 in
theorem in_c_roomsOfM : ∀ w ∈ wp_c_roomsOfM, w ∈ lw_tbl := List.forall_mem_cons.mpr ⟨List.mem_of_getElem? (i := 1440) (by decide +kernel), List.forall_mem_append.mpr ⟨inown_c_roomsOfM, List.forall_mem_append.mpr ⟨lwb_X11, fun _ h => absurd h List.not_mem_nil⟩⟩⟩
set_option maxRecDepth 20000 in
theorem good_c_roomsOfM : wp_c_roomsOfM.all goodWord = true := by decide +kernel
set_option maxHeartbeats 4000000 in
set_option maxRecDepth 100000 in
theorem c_roomsOfM (l : Launch) (D : va_G) (sz : Nat) (h0 : Nat) (a : Nat → Nat) (tp : Int32) (sd : Int64) (pa : Int64) (pb : Int64) (dr : Int32) (cR : ClassId) (k : Nat) (j : Nat) (hk : k < 5) (hj : j < 2048) : Met l yX11_roomsOf wp_c_roomsOfM ({ frames := 0, cells := 0, slots := 0, locals := 0 }) (PcR D [.ref h0, .int (nI k), .int (nI j)] sz [(h0, .inr (11, fM a tp sd pa pb dr)), (a 8, .inl (cR, 10240, .inl (fun _ => 0)))] [(cR, .int)]) (va_Qi (fun (r : Int32) (_ : Unit) => r = 0) (fun (_ : Unit) _ => True) (va_A [] sz)) 0 0 (va_A [] sz) := by
  refine Met.ofW (cc := cX11_roomsOf) (maxL := 4) (ret := (some .int)) (by decide) rfl ?_
  intro p e s m args below meth c s₁ B hml hv
  obtain ⟨rfl, hsz, hP, hK⟩ := hv
  have hx := B.exec
  have hb := B.bytes
  have hr := B.returns
  have hts := atoms_spec (ws := wp_c_roomsOfM) B.pre
  have hin_X11 : ∀ w ∈ wsX110, w ∈ wp_c_roomsOfM := fun _ h => (List.mem_cons_of_mem _ (List.mem_append_right _ (List.mem_append_left _ h)))
  have hown : s.vm.findClass RX11 = some m.cls := findClass_of_methodNamed B.named
  have hlocks := B.notSynchronized
  subst hsz
  generalize hAe : va_A [] s.heap.size = A at ⊢
  have hA : ∀ q : Nat, s.heap.size ≤ q → A q := fun q h => by rw [← hAe]; exact Or.inr h
  have hS : va_S A s.heap s.heap [] := va_S.rf
  have hP : va_P D vwCl [(h0, .inr (11, fM a tp sd pa pb dr)), (a 8, .inl (cR, 10240, .inl (fun _ => 0)))] s.heap := hP
  have hl := lv_entry ([.ref h0, .int (nI k), .int (nI j)]) (n := 4) (Nat.le_of_ble_eq_true rfl)
  rw [lg_entry_eq]
  generalize (lg_sl ([.ref h0, .int (nI k), .int (nI j)]) ++ List.replicate (4 - (lg_sl ([.ref h0, .int (nI k), .int (nI j)])).length) Slot.unset).toArray = ls at hl ⊢
  have hl : lv_has ls 4 [(0, .ref h0), (1, .int (nI k)), (2, .int (nI j))] := hl
  refine lv_aload_n hx hb dX11_roomsOf_0 rfl (lv_at hl 0 rfl) ?_
  refine va_get (D := D) (ci := 11) (v := .ref (a 8)) (C := RX11) (T := TX11) (N := 47) hx hb hts hin_X11 hown hK hP 0 rfl rfl 8 (by decide) (hts (.fieldLink RX11 30 "ClashFreeModel" "roofs" "[I") (List.mem_of_getElem? (i := 1) rfl)) (fun _ h9 => h9) rfl dX11_roomsOf_1 ?_
  refine lv_sipush (v := 2048) hx hb dX11_roomsOf_4 (by decide) ?_
  refine lv_iload_n hx hb dX11_roomsOf_7 rfl (lv_at hl 1 rfl) ?_
  refine lv_imul hx hb dX11_roomsOf_8 ?_
  refine lv_iload_n hx hb dX11_roomsOf_9 rfl (lv_at hl 2 rfl) ?_
  refine lv_iadd hx hb dX11_roomsOf_10 ?_
  refine lv_topi (fun v1 ev1 => ?_)
  obtain rfl : v1 = nI (2048 * k + j) := ev1.trans (ix2048 k j)
  refine va_iald hx hb hK hP 1 0 rfl rfl (vp_in_nI (by omega) (by decide)) dX11_roomsOf_11 ?_
  refine lv_topi (fun v2 ev2 => ?_)
  obtain rfl : v2 = 0 := ev2.trans (rfl)
  refine lv_istore_n (lv' := [(3, .int 0), (0, .ref h0), (1, .int (nI k)), (2, .int (nI j))]) hx hb dX11_roomsOf_12 rfl hl (by decide) rfl (fun ls hl => ?_)
  refine lv_iload_n hx hb dX11_roomsOf_13 rfl (lv_at hl 0 rfl) ?_
  refine lv_iload_n hx hb dX11_roomsOf_14 rfl (lv_at hl 0 rfl) ?_
  refine lv_imul hx hb dX11_roomsOf_15 ?_
  refine lv_topi (fun v3 ev3 => ?_)
  obtain rfl : v3 = 0 := ev3.trans (by decide)
  exact W.iret (v := 0) hx hb hr (fun t ht hW => ⟨⟨0, (), rfl, rfl, trivial⟩, hS.F ht⟩) hS.2.2 dX11_roomsOf_16

def own_c_buildsBucketM : List Cond := [.methodLink RX11 137 yX11_roomsOf, .instanceMethod yX11_roomsOf, .selects RX11 yX11_roomsOf yX11_roomsOf, .initialized RX11]
def wp_c_buildsBucketM : List Cond := .code yX11_buildsBucket cX11_buildsBucket 5 none :: (own_c_buildsBucketM ++ (wp_c_roomsOfM ++ ([] : List Cond)))
set_option maxRecDepth 20000 in
theorem inown_c_buildsBucketM : ∀ w ∈ own_c_buildsBucketM, w ∈ lw_tbl := mem_places [1437, 1439, 48, 115] (by decide +kernel)
set_option maxRecDepth 20000 in
theorem in_c_buildsBucketM : ∀ w ∈ wp_c_buildsBucketM, w ∈ lw_tbl := List.forall_mem_cons.mpr ⟨List.mem_of_getElem? (i := 1445) (by decide +kernel), List.forall_mem_append.mpr ⟨inown_c_buildsBucketM, List.forall_mem_append.mpr ⟨in_c_roomsOfM, fun _ h => absurd h List.not_mem_nil⟩⟩⟩
set_option maxRecDepth 20000 in
theorem good_c_buildsBucketM : wp_c_buildsBucketM.all goodWord = true := by decide +kernel
set_option maxRecDepth 20000 in
theorem g_c_buildsBucketM_c_roomsOfM_137 : GoodIn wp_c_buildsBucketM (wsV RX11 137 RX11 yX11_roomsOf wp_c_roomsOfM) := goodIn_sub (List.forall_mem_append.mpr ⟨List.forall_mem_cons.mpr ⟨(List.mem_of_getElem? (i := 1) rfl), List.forall_mem_cons.mpr ⟨(List.mem_of_getElem? (i := 2) rfl), List.forall_mem_cons.mpr ⟨(List.mem_of_getElem? (i := 3) rfl), List.forall_mem_cons.mpr ⟨(List.mem_of_getElem? (i := 4) rfl), fun _ h => absurd h List.not_mem_nil⟩⟩⟩⟩, (fun _ h => (List.mem_cons_of_mem _ (List.mem_append_right _ (List.mem_append_left _ h))))⟩) (by decide +kernel)
set_option maxHeartbeats 4000000 in
set_option maxRecDepth 100000 in
theorem c_buildsBucketM (l : Launch) (D : va_G) (sz : Nat) (h0 : Nat) (a : Nat → Nat) (tp : Int32) (sd : Int64) (pa : Int64) (pb : Int64) (dr : Int32) (cR : ClassId) (k : Nat) (j : Nat) (hk : k < 5) (hj : j < 2048) : Met l yX11_buildsBucket wp_c_buildsBucketM ({ frames := 1, cells := 0, slots := 0, locals := 23 }) (PcR D [.ref h0, .int (nI k), .int (nI j)] sz [(h0, .inr (11, fM a tp sd pa pb dr)), (a 8, .inl (cR, 10240, .inl (fun _ => 0)))] [(cR, .int)]) (va_Qv (fun (_ : Unit) => True) (fun (_ : Unit) _ => True) (va_A [] sz)) 0 0 (va_A [] sz) := by
  refine Met.ofW (cc := cX11_buildsBucket) (maxL := 5) (ret := none) (by decide) rfl ?_
  intro p e s m args below meth c s₁ B hml hv
  obtain ⟨rfl, hsz, hP, hK⟩ := hv
  have hx := B.exec
  have hb := B.bytes
  have hr := B.returns
  have hts := atoms_spec (ws := wp_c_buildsBucketM) B.pre
  have hown : s.vm.findClass RX11 = some m.cls := findClass_of_methodNamed B.named
  have hlocks := B.notSynchronized
  subst hsz
  generalize hAe : va_A [] s.heap.size = A at ⊢
  have hA : ∀ q : Nat, s.heap.size ≤ q → A q := fun q h => by rw [← hAe]; exact Or.inr h
  have hS : va_S A s.heap s.heap [] := va_S.rf
  have hP : va_P D vwCl [(h0, .inr (11, fM a tp sd pa pb dr)), (a 8, .inl (cR, 10240, .inl (fun _ => 0)))] s.heap := hP
  have hl := lv_entry ([.ref h0, .int (nI k), .int (nI j)]) (n := 5) (Nat.le_of_ble_eq_true rfl)
  rw [lg_entry_eq]
  generalize (lg_sl ([.ref h0, .int (nI k), .int (nI j)]) ++ List.replicate (5 - (lg_sl ([.ref h0, .int (nI k), .int (nI j)])).length) Slot.unset).toArray = ls at hl ⊢
  have hl : lv_has ls 5 [(0, .ref h0), (1, .int (nI k)), (2, .int (nI j))] := hl
  refine lv_aload_n hx hb dX11_buildsBucket_0 rfl (lv_at hl 0 rfl) ?_
  refine lv_iload_n hx hb dX11_buildsBucket_1 rfl (lv_at hl 1 rfl) ?_
  refine lv_iload_n hx hb dX11_buildsBucket_2 rfl (lv_at hl 2 rfl) ?_
  have hPc := hP.sub (ws' := [(h0, .inr (11, fM a tp sd pa pb dr)), (a 8, .inl (cR, 10240, .inl (fun _ => 0)))]) [0, 1] rfl
  have hKc := hK.sub (tys' := [(cR, .int)]) [0] rfl
  have hFc := va_free0 hS hA
  refine va_calli (va_runV (As := [.int (nI k), .int (nI j)]) (rest := []) ⟨hx, hb, hml, hown, hts⟩ (c_roomsOfM l D _ h0 a tp sd pa pb dr cR k j (by first | omega | assumption) (by first | omega | assumption)) (cwV 2 hts g_c_buildsBucketM_c_roomsOfM_137 rfl rfl rfl (by decide +kernel) ⟨(Nat.le_of_ble_eq_true rfl), (Nat.le_of_ble_eq_true rfl)⟩) (PcR_V (q0 := 0) hPc hKc rfl rfl) rfl rfl hl.1 rfl (lv_room (Nat.le_of_ble_eq_true rfl)) dX11_buildsBucket_3 ⟨(Nat.le_of_ble_eq_true rfl), (Nat.le_of_ble_eq_true rfl)⟩) hS (fun q _ h => hFc q h) hFc (fun r1 uu tt H locs htt hvm hw hB hz1 hk1 hS => ?_)
  have hP := va_keep hP hk1
  try dsimp only at hw
  clear hB hz1 hk1 hFc hPc hKc
  obtain rfl : r1 = 0 := hw
  refine lv_if_ne (tgt := 10) hx hb dX11_buildsBucket_6 (by decide) (fun hc => absurd (by decide) hc) (fun hc => ?_)
  exact W.vret hx hb hr (fun t ht hW => ⟨⟨(), rfl, trivial, trivial⟩, hS.F ht⟩) hS.2.2 dX11_buildsBucket_9

def own_c_parts : List Cond := [.methodLink RX11 152 yX11_buckets, .instanceMethod yX11_buckets, .selects RX11 yX11_buckets yX11_buckets, .initialized RX11, .fieldLink RX11 33 "ClashFreeModel" "has" "[I", .fieldLink RX11 30 "ClashFreeModel" "roofs" "[I", .methodLink RX11 137 yX11_roomsOf, .instanceMethod yX11_roomsOf, .selects RX11 yX11_roomsOf yX11_roomsOf, .methodLink RX11 126 yX11_lays, .instanceMethod yX11_lays, .selects RX11 yX11_lays yX11_lays, .methodLink RX11 95 yX11_manyOf, .instanceMethod yX11_manyOf, .selects RX11 yX11_manyOf yX11_manyOf]
def wp_c_parts : List Cond := .code yX11_parts cX11_parts 10 (some .long) :: (own_c_parts ++ (wp_c_bucketsM ++ (wp_c_roomsOfM ++ (wp_c_lays ++ (wp_c_manyOf0 ++ (wsX110 ++ ([] : List Cond)))))))
set_option maxRecDepth 20000 in
theorem inown_c_parts : ∀ w ∈ own_c_parts, w ∈ lw_tbl := mem_places [1426, 1428, 46, 115, 1225, 1224, 1437, 1439, 48, 1388, 1390, 38, 1396, 1398, 40] (by decide +kernel)
set_option maxRecDepth 20000 in
theorem in_c_parts : ∀ w ∈ wp_c_parts, w ∈ lw_tbl := List.forall_mem_cons.mpr ⟨List.mem_of_getElem? (i := 1425) (by decide +kernel), List.forall_mem_append.mpr ⟨inown_c_parts, List.forall_mem_append.mpr ⟨in_c_bucketsM, List.forall_mem_append.mpr ⟨in_c_roomsOfM, List.forall_mem_append.mpr ⟨in_c_lays, List.forall_mem_append.mpr ⟨in_c_manyOf0, List.forall_mem_append.mpr ⟨lwb_X11, fun _ h => absurd h List.not_mem_nil⟩⟩⟩⟩⟩⟩⟩
set_option maxRecDepth 20000 in
theorem good_c_parts : wp_c_parts.all goodWord = true := by decide +kernel
set_option maxRecDepth 20000 in
theorem g_c_parts_c_bucketsM_152 : GoodIn wp_c_parts (wsV RX11 152 RX11 yX11_buckets wp_c_bucketsM) := goodIn_sub (List.forall_mem_append.mpr ⟨List.forall_mem_cons.mpr ⟨(List.mem_of_getElem? (i := 1) rfl), List.forall_mem_cons.mpr ⟨(List.mem_of_getElem? (i := 2) rfl), List.forall_mem_cons.mpr ⟨(List.mem_of_getElem? (i := 3) rfl), List.forall_mem_cons.mpr ⟨(List.mem_of_getElem? (i := 4) rfl), fun _ h => absurd h List.not_mem_nil⟩⟩⟩⟩, (fun _ h => (List.mem_cons_of_mem _ (List.mem_append_right _ (List.mem_append_left _ h))))⟩) (by decide +kernel)
set_option maxRecDepth 20000 in
theorem g_c_parts_c_roomsOfM_137 : GoodIn wp_c_parts (wsV RX11 137 RX11 yX11_roomsOf wp_c_roomsOfM) := goodIn_sub (List.forall_mem_append.mpr ⟨List.forall_mem_cons.mpr ⟨(List.mem_of_getElem? (i := 7) rfl), List.forall_mem_cons.mpr ⟨(List.mem_of_getElem? (i := 8) rfl), List.forall_mem_cons.mpr ⟨(List.mem_of_getElem? (i := 9) rfl), List.forall_mem_cons.mpr ⟨(List.mem_of_getElem? (i := 4) rfl), fun _ h => absurd h List.not_mem_nil⟩⟩⟩⟩, (fun _ h => (List.mem_cons_of_mem _ (List.mem_append_right _ (List.mem_append_right _ (List.mem_append_left _ h)))))⟩) (by decide +kernel)
set_option maxRecDepth 20000 in
theorem g_c_parts_c_lays_126 : GoodIn wp_c_parts (wsV RX11 126 RX11 yX11_lays wp_c_lays) := goodIn_sub (List.forall_mem_append.mpr ⟨List.forall_mem_cons.mpr ⟨(List.mem_of_getElem? (i := 10) rfl), List.forall_mem_cons.mpr ⟨(List.mem_of_getElem? (i := 11) rfl), List.forall_mem_cons.mpr ⟨(List.mem_of_getElem? (i := 12) rfl), List.forall_mem_cons.mpr ⟨(List.mem_of_getElem? (i := 4) rfl), fun _ h => absurd h List.not_mem_nil⟩⟩⟩⟩, (fun _ h => (List.mem_cons_of_mem _ (List.mem_append_right _ (List.mem_append_right _ (List.mem_append_right _ (List.mem_append_left _ h))))))⟩) (by decide +kernel)
set_option maxRecDepth 20000 in
theorem g_c_parts_c_manyOf0_95 : GoodIn wp_c_parts (wsV RX11 95 RX11 yX11_manyOf wp_c_manyOf0) := goodIn_sub (List.forall_mem_append.mpr ⟨List.forall_mem_cons.mpr ⟨(List.mem_of_getElem? (i := 13) rfl), List.forall_mem_cons.mpr ⟨(List.mem_of_getElem? (i := 14) rfl), List.forall_mem_cons.mpr ⟨(List.mem_of_getElem? (i := 15) rfl), List.forall_mem_cons.mpr ⟨(List.mem_of_getElem? (i := 4) rfl), fun _ h => absurd h List.not_mem_nil⟩⟩⟩⟩, (fun _ h => (List.mem_cons_of_mem _ (List.mem_append_right _ (List.mem_append_right _ (List.mem_append_right _ (List.mem_append_right _ (List.mem_append_left _ h)))))))⟩) (by decide +kernel)
set_option maxHeartbeats 4000000 in
set_option maxRecDepth 100000 in
theorem lp_parts1 (l : Launch) {p : Program} {e : Env} {s : State} {m : MethodId} {args : Array Value} {below : List Frame} {meth : Method} {c : Code} {Q : State → Prop} {A : Nat → Prop} (D : va_G) (h0 : Nat) (a : Nat → Nat) (cN : ClassId) (tp : Int32) (sd : Int64) (pa : Int64) (pb : Int64) (dr : Int32) (cR : ClassId) (cH : ClassId) (k : Nat) (f : Nat → Int64) (nb : Nat) (ya : Int64) (yb : Int64) (hk : k < 4) (h1 : f (17 * k + 1) = 0) (h4 : f (17 * k + 4) = lN nb) (hn : nb < 2048) (hx : p.tables.exec = Jvm.exec) (hb : c.code = cX11_parts) (hml : c.maxLocals = 10) (hown : s.vm.findClass RX11 = some m.cls) (hts : ∀ w ∈ wp_c_parts, w.before args s = true) (hA : ∀ q, s.heap.size ≤ q → A q) (hK : va_K D vwCl [(cN, .long), (cR, .int), (cH, .int)] s) (kx : ∀ (H : Heap) (locs : List Loc) (ls : Array Slot), va_P D vwCl [(h0, .inr (11, fM a tp sd pa pb dr)), (a 3, .inl (cN, 85, .inr (.inl f))), (a 8, .inl (cR, 10240, .inl (fun _ => 0))), (a 9, .inl (cH, 10240, .inl (fun _ => 0)))] H → va_D A [(h0, .inr (11, fM a tp sd pa pb dr)), (a 3, .inl (cN, 85, .inr (.inl f))), (a 8, .inl (cR, 10240, .inl (fun _ => 0))), (a 9, .inl (cH, 10240, .inl (fun _ => 0)))] → va_S A s.heap H locs → lv_has ls 10 [(0, .ref h0), (1, .int (nI k)), (2, .long ya), (4, .long yb), (6, .int 2)] → W p l e ({ frames := 4, cells := 0, slots := 0, locals := 120 }) s m args below meth c H locs 0 0 Q (F0 m 50 ls [])) : ∀ (n j : Nat), j ≤ nb → nb < j + n → ∀ (H : Heap) (locs : List Loc) (ls : Array Slot), va_P D vwCl [(h0, .inr (11, fM a tp sd pa pb dr)), (a 3, .inl (cN, 85, .inr (.inl f))), (a 8, .inl (cR, 10240, .inl (fun _ => 0))), (a 9, .inl (cH, 10240, .inl (fun _ => 0)))] H → va_D A [(h0, .inr (11, fM a tp sd pa pb dr)), (a 3, .inl (cN, 85, .inr (.inl f))), (a 8, .inl (cR, 10240, .inl (fun _ => 0))), (a 9, .inl (cH, 10240, .inl (fun _ => 0)))] → va_S A s.heap H locs → lv_has ls 10 [(7, .int (nI j)), (0, .ref h0), (1, .int (nI k)), (2, .long ya), (4, .long yb), (6, .int 2)] → W p l e ({ frames := 4, cells := 0, slots := 0, locals := 120 }) s m args below meth c H locs 0 0 Q (F0 m 20 ls []) := by
  have hin_X11 : ∀ w ∈ wsX110, w ∈ wp_c_parts := fun _ h => (List.mem_cons_of_mem _ (List.mem_append_right _ (List.mem_append_right _ (List.mem_append_right _ (List.mem_append_right _ (List.mem_append_right _ (List.mem_append_left _ h)))))))
  intro n
  induction n with
  | zero =>
    intro j h1 h2
    exact absurd h2 (by omega)
  | succ n ih =>
    intro j hj hn H locs ls hP hD hS hl
    refine lv_iload hx hb dX11_parts_20 (lv_at hl 0 rfl) ?_
    refine lv_aload_n hx hb dX11_parts_22 rfl (lv_at hl 1 rfl) ?_
    refine lv_iload_n hx hb dX11_parts_23 rfl (lv_at hl 2 rfl) ?_
    have hPc := hP.sub (ws' := [(h0, .inr (11, fM a tp sd pa pb dr)), (a 3, .inl (cN, 85, .inr (.inl f)))]) [0, 1] rfl
    have hKc := hK.sub (tys' := [(cN, .long)]) [0] rfl
    have hFc := va_free0 hS hA
    refine va_calli (va_runV (As := [.int (nI k)]) (rest := [.int (nI j)]) ⟨hx, hb, hml, hown, hts⟩ (c_bucketsM l D _ h0 a cN tp sd pa pb dr k f nb (by first | omega | assumption) h4) (cwV 1 hts g_c_parts_c_bucketsM_152 rfl rfl rfl (by decide +kernel) ⟨(Nat.le_of_ble_eq_true rfl), (Nat.le_of_ble_eq_true rfl)⟩) (PcR_V (q0 := 0) hPc hKc rfl rfl) rfl rfl hl.1 rfl (lv_room (Nat.le_of_ble_eq_true rfl)) dX11_parts_24 ⟨(Nat.le_of_ble_eq_true rfl), (Nat.le_of_ble_eq_true rfl)⟩) hS (fun q _ h => hFc q h) hFc (fun r1 uu tt H locs htt hvm hw hB hz1 hk1 hS => ?_)
    have hP := va_keep hP hk1
    try dsimp only at hw
    clear hB hz1 hk1 hFc hPc hKc
    obtain rfl : r1 = nI nb := hw
    refine lv_icmp_ge (tgt := 50) hx hb dX11_parts_27 (by decide) (fun hc2 => ?_) (fun hc2 => ?_)
    ·
      exact kx H locs ls (hP.sub [0, 1, 2, 3] rfl) (hD.sub [0, 1, 2, 3] (by decide) rfl) hS (lv_sub hl [1, 2, 3, 4, 5] rfl)
    ·
      have hlt : j < nb := by
        rcases Nat.lt_or_ge j nb with q | q
        · exact q
        · exact absurd (nI_le q (by omega)) hc2
      refine lv_aload_n hx hb dX11_parts_30 rfl (lv_at hl 1 rfl) ?_
      refine va_get (D := D) (ci := 11) (v := .ref (a 9)) (C := RX11) (T := TX11) (N := 47) hx hb hts hin_X11 hown hK hP 0 rfl rfl 9 (by decide) (hts (.fieldLink RX11 33 "ClashFreeModel" "has" "[I") (List.mem_of_getElem? (i := 5) rfl)) (fun _ h9 => h9) rfl dX11_parts_31 ?_
      refine lv_sipush (v := 2048) hx hb dX11_parts_34 (by decide) ?_
      refine lv_iload_n hx hb dX11_parts_37 rfl (lv_at hl 2 rfl) ?_
      refine lv_imul hx hb dX11_parts_38 ?_
      refine lv_iload hx hb dX11_parts_39 (lv_at hl 0 rfl) ?_
      refine lv_iadd hx hb dX11_parts_41 ?_
      refine lv_topi (fun v3 ev3 => ?_)
      obtain rfl : v3 = nI (2048 * k + j) := ev3.trans (ix2048 k j)
      refine lv_iconst (v := 0) hx hb dX11_parts_42 (by decide) ?_
      refine va_iast hx hb hK hP hD hS 3 2 rfl rfl (vp_in_nI (by omega) (by decide)) dX11_parts_43 (fun H locs hP hD hS => ?_)
      have hP : va_P D vwCl [(h0, .inr (11, fM a tp sd pa pb dr)), (a 3, .inl (cN, 85, .inr (.inl f))), (a 8, .inl (cR, 10240, .inl (fun _ => 0))), (a 9, .inl (cH, 10240, .inl (upd (fun _ => 0) (Int32.toNatClampNeg (nI (2048 * k + j))) 0)))] H := hP
      have hD : va_D A [(h0, .inr (11, fM a tp sd pa pb dr)), (a 3, .inl (cN, 85, .inr (.inl f))), (a 8, .inl (cR, 10240, .inl (fun _ => 0))), (a 9, .inl (cH, 10240, .inl (upd (fun _ => 0) (Int32.toNatClampNeg (nI (2048 * k + j))) 0)))] := hD
      rw [show (upd (fun _ => 0) (Int32.toNatClampNeg (nI (2048 * k + j))) 0) = (fun _ => 0) from upd0] at hP hD
      refine lv_iinc (v := nI (j + 1)) (lv' := [(7, .int (nI (j + 1))), (0, .ref h0), (1, .int (nI k)), (2, .long ya), (4, .long yb), (6, .int 2)]) hx hb dX11_parts_44 hl (k := 0) rfl (nI_1 j) (by decide) rfl (fun ls hl => ?_)
      refine lv_goto (tgt := 20) hx hb dX11_parts_47 (by decide) ?_
      exact ih (j + 1) (by omega) (by omega) H locs ls (hP.sub [0, 1, 2, 3] rfl) (hD.sub [0, 1, 2, 3] (by decide) rfl) hS (lv_sub hl [0, 1, 2, 3, 4, 5] rfl)
set_option maxHeartbeats 4000000 in
set_option maxRecDepth 100000 in
theorem lp_parts3 (l : Launch) {p : Program} {e : Env} {s : State} {m : MethodId} {args : Array Value} {below : List Frame} {meth : Method} {c : Code} {Q : State → Prop} {A : Nat → Prop} (D : va_G) (h0 : Nat) (a : Nat → Nat) (cN : ClassId) (tp : Int32) (sd : Int64) (pa : Int64) (pb : Int64) (dr : Int32) (cR : ClassId) (cH : ClassId) (k : Nat) (f : Nat → Int64) (nb : Nat) (ya : Int64) (yb : Int64) (hk : k < 4) (h1 : f (17 * k + 1) = 0) (h4 : f (17 * k + 4) = lN nb) (hn : nb < 2048) (hx : p.tables.exec = Jvm.exec) (hb : c.code = cX11_parts) (hml : c.maxLocals = 10) (hown : s.vm.findClass RX11 = some m.cls) (hts : ∀ w ∈ wp_c_parts, w.before args s = true) (hA : ∀ q, s.heap.size ≤ q → A q) (hK : va_K D vwCl [(cN, .long), (cR, .int), (cH, .int)] s) (kx : ∀ (H : Heap) (locs : List Loc) (ls : Array Slot), va_P D vwCl [(h0, .inr (11, fM a tp sd pa pb dr)), (a 3, .inl (cN, 85, .inr (.inl f))), (a 8, .inl (cR, 10240, .inl (fun _ => 0))), (a 9, .inl (cH, 10240, .inl (fun _ => 0)))] H → va_D A [(h0, .inr (11, fM a tp sd pa pb dr)), (a 3, .inl (cN, 85, .inr (.inl f))), (a 8, .inl (cR, 10240, .inl (fun _ => 0))), (a 9, .inl (cH, 10240, .inl (fun _ => 0)))] → va_S A s.heap H locs → lv_has ls 10 [(7, .long 0), (0, .ref h0), (1, .int (nI k)), (2, .long ya), (4, .long yb), (6, .int 2)] → W p l e ({ frames := 4, cells := 0, slots := 0, locals := 120 }) s m args below meth c H locs 0 0 Q (F0 m 184 ls [])) : ∀ (n j : Nat), j ≤ nb → nb < j + n → ∀ (H : Heap) (locs : List Loc) (ls : Array Slot), va_P D vwCl [(h0, .inr (11, fM a tp sd pa pb dr)), (a 3, .inl (cN, 85, .inr (.inl f))), (a 8, .inl (cR, 10240, .inl (fun _ => 0))), (a 9, .inl (cH, 10240, .inl (fun _ => 0)))] H → va_D A [(h0, .inr (11, fM a tp sd pa pb dr)), (a 3, .inl (cN, 85, .inr (.inl f))), (a 8, .inl (cR, 10240, .inl (fun _ => 0))), (a 9, .inl (cH, 10240, .inl (fun _ => 0)))] → va_S A s.heap H locs → lv_has ls 10 [(9, .int (nI j)), (7, .long 0), (0, .ref h0), (1, .int (nI k)), (2, .long ya), (4, .long yb), (6, .int 2)] → W p l e ({ frames := 4, cells := 0, slots := 0, locals := 120 }) s m args below meth c H locs 0 0 Q (F0 m 126 ls []) := by
  have hin_X11 : ∀ w ∈ wsX110, w ∈ wp_c_parts := fun _ h => (List.mem_cons_of_mem _ (List.mem_append_right _ (List.mem_append_right _ (List.mem_append_right _ (List.mem_append_right _ (List.mem_append_right _ (List.mem_append_left _ h)))))))
  intro n
  induction n with
  | zero =>
    intro j h1 h2
    exact absurd h2 (by omega)
  | succ n ih =>
    intro j hj hn H locs ls hP hD hS hl
    refine lv_iload hx hb dX11_parts_126 (lv_at hl 0 rfl) ?_
    refine lv_aload_n hx hb dX11_parts_128 rfl (lv_at hl 2 rfl) ?_
    refine lv_iload_n hx hb dX11_parts_129 rfl (lv_at hl 3 rfl) ?_
    have hPc := hP.sub (ws' := [(h0, .inr (11, fM a tp sd pa pb dr)), (a 3, .inl (cN, 85, .inr (.inl f)))]) [0, 1] rfl
    have hKc := hK.sub (tys' := [(cN, .long)]) [0] rfl
    have hFc := va_free0 hS hA
    refine va_calli (va_runV (As := [.int (nI k)]) (rest := [.int (nI j)]) ⟨hx, hb, hml, hown, hts⟩ (c_bucketsM l D _ h0 a cN tp sd pa pb dr k f nb (by first | omega | assumption) h4) (cwV 1 hts g_c_parts_c_bucketsM_152 rfl rfl rfl (by decide +kernel) ⟨(Nat.le_of_ble_eq_true rfl), (Nat.le_of_ble_eq_true rfl)⟩) (PcR_V (q0 := 0) hPc hKc rfl rfl) rfl rfl hl.1 rfl (lv_room (Nat.le_of_ble_eq_true rfl)) dX11_parts_130 ⟨(Nat.le_of_ble_eq_true rfl), (Nat.le_of_ble_eq_true rfl)⟩) hS (fun q _ h => hFc q h) hFc (fun r1 uu tt H locs htt hvm hw hB hz1 hk1 hS => ?_)
    have hP := va_keep hP hk1
    try dsimp only at hw
    clear hB hz1 hk1 hFc hPc hKc
    obtain rfl : r1 = nI nb := hw
    refine lv_icmp_ge (tgt := 184) hx hb dX11_parts_133 (by decide) (fun hc2 => ?_) (fun hc2 => ?_)
    ·
      exact kx H locs ls (hP.sub [0, 1, 2, 3] rfl) (hD.sub [0, 1, 2, 3] (by decide) rfl) hS (lv_sub hl [1, 2, 3, 4, 5, 6] rfl)
    ·
      have hlt : j < nb := by
        rcases Nat.lt_or_ge j nb with q | q
        · exact q
        · exact absurd (nI_le q (by omega)) hc2
      refine lv_aload_n hx hb dX11_parts_136 rfl (lv_at hl 2 rfl) ?_
      refine va_get (D := D) (ci := 11) (v := .ref (a 8)) (C := RX11) (T := TX11) (N := 47) hx hb hts hin_X11 hown hK hP 0 rfl rfl 8 (by decide) (hts (.fieldLink RX11 30 "ClashFreeModel" "roofs" "[I") (List.mem_of_getElem? (i := 6) rfl)) (fun _ h9 => h9) rfl dX11_parts_137 ?_
      refine lv_sipush (v := 2048) hx hb dX11_parts_140 (by decide) ?_
      refine lv_iload_n hx hb dX11_parts_143 rfl (lv_at hl 3 rfl) ?_
      refine lv_imul hx hb dX11_parts_144 ?_
      refine lv_iload hx hb dX11_parts_145 (lv_at hl 0 rfl) ?_
      refine lv_iadd hx hb dX11_parts_147 ?_
      refine lv_topi (fun v3 ev3 => ?_)
      obtain rfl : v3 = nI (2048 * k + j) := ev3.trans (ix2048 k j)
      refine lv_iload hx hb dX11_parts_148 (lv_at hl 6 rfl) ?_
      refine lv_aload_n hx hb dX11_parts_150 rfl (lv_at hl 2 rfl) ?_
      refine va_get (D := D) (ci := 11) (v := .ref (a 9)) (C := RX11) (T := TX11) (N := 47) hx hb hts hin_X11 hown hK hP 0 rfl rfl 9 (by decide) (hts (.fieldLink RX11 33 "ClashFreeModel" "has" "[I") (List.mem_of_getElem? (i := 5) rfl)) (fun _ h9 => h9) rfl dX11_parts_151 ?_
      refine lv_sipush (v := 2048) hx hb dX11_parts_154 (by decide) ?_
      refine lv_iload_n hx hb dX11_parts_157 rfl (lv_at hl 3 rfl) ?_
      refine lv_imul hx hb dX11_parts_158 ?_
      refine lv_iload hx hb dX11_parts_159 (lv_at hl 0 rfl) ?_
      refine lv_iadd hx hb dX11_parts_161 ?_
      refine lv_topi (fun v4 ev4 => ?_)
      obtain rfl : v4 = nI (2048 * k + j) := ev4.trans (ix2048 k j)
      refine va_iald hx hb hK hP 3 2 rfl rfl (vp_in_nI (by omega) (by decide)) dX11_parts_162 ?_
      refine lv_topi (fun v5 ev5 => ?_)
      obtain rfl : v5 = 0 := ev5.trans (rfl)
      refine lv_imul hx hb dX11_parts_163 ?_
      refine lv_topi (fun v6 ev6 => ?_)
      obtain rfl : v6 = 0 := ev6.trans (by decide)
      refine va_iast hx hb hK hP hD hS 2 1 rfl rfl (vp_in_nI (by omega) (by decide)) dX11_parts_164 (fun H locs hP hD hS => ?_)
      have hP : va_P D vwCl [(h0, .inr (11, fM a tp sd pa pb dr)), (a 3, .inl (cN, 85, .inr (.inl f))), (a 8, .inl (cR, 10240, .inl (upd (fun _ => 0) (Int32.toNatClampNeg (nI (2048 * k + j))) 0))), (a 9, .inl (cH, 10240, .inl (fun _ => 0)))] H := hP
      have hD : va_D A [(h0, .inr (11, fM a tp sd pa pb dr)), (a 3, .inl (cN, 85, .inr (.inl f))), (a 8, .inl (cR, 10240, .inl (upd (fun _ => 0) (Int32.toNatClampNeg (nI (2048 * k + j))) 0))), (a 9, .inl (cH, 10240, .inl (fun _ => 0)))] := hD
      rw [show (upd (fun _ => 0) (Int32.toNatClampNeg (nI (2048 * k + j))) 0) = (fun _ => 0) from upd0] at hP hD
      refine lv_lload hx hb dX11_parts_165 (lv_at hl 1 rfl) ?_
      refine lv_aload_n hx hb dX11_parts_167 rfl (lv_at hl 2 rfl) ?_
      refine lv_iload_n hx hb dX11_parts_168 rfl (lv_at hl 3 rfl) ?_
      refine lv_iload hx hb dX11_parts_169 (lv_at hl 0 rfl) ?_
      have hPc := hP.sub (ws' := [(h0, .inr (11, fM a tp sd pa pb dr)), (a 8, .inl (cR, 10240, .inl (fun _ => 0)))]) [0, 2] rfl
      have hKc := hK.sub (tys' := [(cR, .int)]) [1] rfl
      have hFc := va_free0 hS hA
      refine va_calli (va_runV (As := [.int (nI k), .int (nI j)]) (rest := [.long 0]) ⟨hx, hb, hml, hown, hts⟩ (c_roomsOfM l D _ h0 a tp sd pa pb dr cR k j (by first | omega | assumption) (by first | omega | assumption)) (cwV 2 hts g_c_parts_c_roomsOfM_137 rfl rfl rfl (by decide +kernel) ⟨(Nat.le_of_ble_eq_true rfl), (Nat.le_of_ble_eq_true rfl)⟩) (PcR_V (q0 := 0) hPc hKc rfl rfl) rfl rfl hl.1 rfl (lv_room (Nat.le_of_ble_eq_true rfl)) dX11_parts_171 ⟨(Nat.le_of_ble_eq_true rfl), (Nat.le_of_ble_eq_true rfl)⟩) hS (fun q _ h => hFc q h) hFc (fun r7 uu tt H locs htt hvm hw hB hz1 hk1 hS => ?_)
      have hP := va_keep hP hk1
      try dsimp only at hw
      clear hB hz1 hk1 hFc hPc hKc
      obtain rfl : r7 = 0 := hw
      refine lv_i2l (v := 0) hx hb dX11_parts_174 (by decide) ?_
      refine lv_ladd hx hb dX11_parts_175 ?_
      refine lv_topl (fun v8 ev8 => ?_)
      obtain rfl : v8 = 0 := ev8.trans (by decide)
      refine lv_lstore (lv' := [(7, .long 0), (9, .int (nI j)), (0, .ref h0), (1, .int (nI k)), (2, .long ya), (4, .long yb), (6, .int 2)]) hx hb dX11_parts_176 hl (by decide) rfl (fun ls hl => ?_)
      refine lv_iinc (v := nI (j + 1)) (lv' := [(9, .int (nI (j + 1))), (7, .long 0), (0, .ref h0), (1, .int (nI k)), (2, .long ya), (4, .long yb), (6, .int 2)]) hx hb dX11_parts_178 hl (k := 1) rfl (nI_1 j) (by decide) rfl (fun ls hl => ?_)
      refine lv_goto (tgt := 126) hx hb dX11_parts_181 (by decide) ?_
      exact ih (j + 1) (by omega) (by omega) H locs ls (hP.sub [0, 1, 2, 3] rfl) (hD.sub [0, 1, 2, 3] (by decide) rfl) hS (lv_sub hl [0, 1, 2, 3, 4, 5, 6] rfl)
set_option maxHeartbeats 4000000 in
set_option maxRecDepth 100000 in
theorem c_parts (l : Launch) (D : va_G) (sz : Nat) (h0 : Nat) (a : Nat → Nat) (cN : ClassId) (tp : Int32) (sd : Int64) (pa : Int64) (pb : Int64) (dr : Int32) (cR : ClassId) (cH : ClassId) (k : Nat) (f : Nat → Int64) (nb : Nat) (ya : Int64) (yb : Int64) (hk : k < 4) (h1 : f (17 * k + 1) = 0) (h4 : f (17 * k + 4) = lN nb) (hn : nb < 2048) : Met l yX11_parts wp_c_parts ({ frames := 4, cells := 0, slots := 0, locals := 120 }) (PcW D [.ref h0, .int (nI k), .long ya, .long yb, .int 2] sz [(h0, .inr (11, fM a tp sd pa pb dr)), (a 3, .inl (cN, 85, .inr (.inl f))), (a 8, .inl (cR, 10240, .inl (fun _ => 0))), (a 9, .inl (cH, 10240, .inl (fun _ => 0)))] [(cN, .long), (cR, .int), (cH, .int)]) (va_Ql (fun (r : Int64) (u : Nat → Int64) => r = 0 ∧ ∀ i, i ≠ 5 → i ≠ 6 → i ≠ 7 → u (17 * k + i) = f (17 * k + i)) (fun (u : Nat → Int64) t => va_P D vwCl [(h0, .inr (11, fM a tp sd pa pb dr)), (a 3, .inl (cN, 85, .inr (.inl u))), (a 8, .inl (cR, 10240, .inl (fun _ => 0))), (a 9, .inl (cH, 10240, .inl (fun _ => 0)))] t.heap ∧ va_K D vwCl [(cN, .long), (cR, .int), (cH, .int)] t ∧ va_D (va_A [(h0, .inr (11, fM a tp sd pa pb dr)), (a 3, .inl (cN, 85, .inr (.inl f))), (a 8, .inl (cR, 10240, .inl (fun _ => 0))), (a 9, .inl (cH, 10240, .inl (fun _ => 0)))] sz) [(h0, .inr (11, fM a tp sd pa pb dr)), (a 3, .inl (cN, 85, .inr (.inl u))), (a 8, .inl (cR, 10240, .inl (fun _ => 0))), (a 9, .inl (cH, 10240, .inl (fun _ => 0)))]) (va_A [(h0, .inr (11, fM a tp sd pa pb dr)), (a 3, .inl (cN, 85, .inr (.inl f))), (a 8, .inl (cR, 10240, .inl (fun _ => 0))), (a 9, .inl (cH, 10240, .inl (fun _ => 0)))] sz)) 0 0 (va_A [(h0, .inr (11, fM a tp sd pa pb dr)), (a 3, .inl (cN, 85, .inr (.inl f))), (a 8, .inl (cR, 10240, .inl (fun _ => 0))), (a 9, .inl (cH, 10240, .inl (fun _ => 0)))] sz) := by
  refine Met.ofW (cc := cX11_parts) (maxL := 10) (ret := (some .long)) (by decide) rfl ?_
  intro p e s m args below meth c s₁ B hml hv
  obtain ⟨rfl, hsz, hP, hK, hD0⟩ := hv
  have hx := B.exec
  have hb := B.bytes
  have hr := B.returns
  have hts := atoms_spec (ws := wp_c_parts) B.pre
  have hin_X11 : ∀ w ∈ wsX110, w ∈ wp_c_parts := fun _ h => (List.mem_cons_of_mem _ (List.mem_append_right _ (List.mem_append_right _ (List.mem_append_right _ (List.mem_append_right _ (List.mem_append_right _ (List.mem_append_left _ h)))))))
  have hown : s.vm.findClass RX11 = some m.cls := findClass_of_methodNamed B.named
  have hlocks := B.notSynchronized
  subst hsz
  have hD := hD0.self (sz := s.heap.size)
  generalize hAe : va_A [(h0, .inr (11, fM a tp sd pa pb dr)), (a 3, .inl (cN, 85, .inr (.inl f))), (a 8, .inl (cR, 10240, .inl (fun _ => 0))), (a 9, .inl (cH, 10240, .inl (fun _ => 0)))] s.heap.size = A at hD ⊢
  have hA : ∀ q : Nat, s.heap.size ≤ q → A q := fun q h => by rw [← hAe]; exact Or.inr h
  have hS : va_S A s.heap s.heap [] := va_S.rf
  have hP : va_P D vwCl [(h0, .inr (11, fM a tp sd pa pb dr)), (a 3, .inl (cN, 85, .inr (.inl f))), (a 8, .inl (cR, 10240, .inl (fun _ => 0))), (a 9, .inl (cH, 10240, .inl (fun _ => 0)))] s.heap := hP
  have hl := lv_entry ([.ref h0, .int (nI k), .long ya, .long yb, .int 2]) (n := 10) (Nat.le_of_ble_eq_true rfl)
  rw [lg_entry_eq]
  generalize (lg_sl ([.ref h0, .int (nI k), .long ya, .long yb, .int 2]) ++ List.replicate (10 - (lg_sl ([.ref h0, .int (nI k), .long ya, .long yb, .int 2])).length) Slot.unset).toArray = ls at hl ⊢
  have hl : lv_has ls 10 [(0, .ref h0), (1, .int (nI k)), (2, .long ya), (4, .long yb), (6, .int 2)] := hl
  refine lv_aload_n hx hb dX11_parts_0 rfl (lv_at hl 0 rfl) ?_
  refine lv_iload_n hx hb dX11_parts_1 rfl (lv_at hl 1 rfl) ?_
  refine lv_bipush (v := 6) hx hb dX11_parts_2 (by decide) ?_
  refine lv_lload_n hx hb dX11_parts_4 rfl (lv_at hl 2 rfl) ?_
  have hPc := hP.sub (ws' := [(h0, .inr (11, fM a tp sd pa pb dr)), (a 3, .inl (cN, 85, .inr (.inl f)))]) [0, 1] rfl
  have hKc := hK.sub (tys' := [(cN, .long)]) [0] rfl
  have hDc := hD.sub (ws' := [(h0, .inr (11, fM a tp sd pa pb dr)), (a 3, .inl (cN, 85, .inr (.inl f)))]) [0, 1] (by decide) rfl
  have hFc := va_free (wc := [(h0, .inr (11, fM a tp sd pa pb dr)), (a 3, .inl (cN, 85, .inr (.inl f)))]) hD hS hA [0, 1] rfl
  refine va_callv (va_runV (As := [.int (nI k), .int (nI 6), .long ya]) (rest := []) ⟨hx, hb, hml, hown, hts⟩ (c_lays l D _ h0 a cN tp sd pa pb dr k 6 f ya (by first | omega | assumption) (by first | omega | assumption)) (cwV 3 hts g_c_parts_c_lays_126 rfl rfl rfl (by decide +kernel) ⟨(Nat.le_of_ble_eq_true rfl), (Nat.le_of_ble_eq_true rfl)⟩) (PcW_V (q0 := 0) hPc hKc hDc rfl rfl) rfl rfl hl.1 rfl (lv_room (Nat.le_of_ble_eq_true rfl)) dX11_parts_5 ⟨(Nat.le_of_ble_eq_true rfl), (Nat.le_of_ble_eq_true rfl)⟩) hS (fun q _ h => hFc q h) hFc (fun uu tt H locs htt hvm hw hB hz1 hk1 hS => ?_)
  obtain ⟨g2, rfl⟩ : ∃ z, z = uu := ⟨_, rfl⟩
  obtain ⟨hP1, hK1, hD1⟩ := hB
  rw [htt] at hP1
  have hK1 := va_K.moved hvm.symm hK1
  have hP1 : va_P D vwCl [(h0, .inr (11, fM a tp sd pa pb dr)), (a 3, .inl (cN, 85, .inr (.inl g2)))] H := hP1
  obtain ⟨hP, hD⟩ := va_join (wr := [(a 8, .inl (cR, 10240, .inl (fun _ => 0))), (a 9, .inl (cH, 10240, .inl (fun _ => 0)))]) (w1 := [(h0, .inr (11, fM a tp sd pa pb dr)), (a 3, .inl (cN, 85, .inr (.inl g2)))]) hP hD [0, 1] [2, 3] rfl rfl (by decide) (by decide) hk1 hFc hP1 hD1
  have hP : va_P D vwCl [(a 8, .inl (cR, 10240, .inl (fun _ => 0))), (a 9, .inl (cH, 10240, .inl (fun _ => 0))), (h0, .inr (11, fM a tp sd pa pb dr)), (a 3, .inl (cN, 85, .inr (.inl g2)))] H := hP
  have hD : va_D A [(a 8, .inl (cR, 10240, .inl (fun _ => 0))), (a 9, .inl (cH, 10240, .inl (fun _ => 0))), (h0, .inr (11, fM a tp sd pa pb dr)), (a 3, .inl (cN, 85, .inr (.inl g2)))] := hD
  try dsimp only at hw
  clear hz1 hk1 hFc hPc hKc hDc
  have hL3 := hw
  refine lv_aload_n hx hb dX11_parts_8 rfl (lv_at hl 0 rfl) ?_
  refine lv_iload_n hx hb dX11_parts_9 rfl (lv_at hl 1 rfl) ?_
  refine lv_bipush (v := 7) hx hb dX11_parts_10 (by decide) ?_
  refine lv_lload hx hb dX11_parts_12 (lv_at hl 3 rfl) ?_
  have hPc := hP.sub (ws' := [(h0, .inr (11, fM a tp sd pa pb dr)), (a 3, .inl (cN, 85, .inr (.inl g2)))]) [2, 3] rfl
  have hKc := hK.sub (tys' := [(cN, .long)]) [0] rfl
  have hDc := hD.sub (ws' := [(h0, .inr (11, fM a tp sd pa pb dr)), (a 3, .inl (cN, 85, .inr (.inl g2)))]) [2, 3] (by decide) rfl
  have hFc := va_free (wc := [(h0, .inr (11, fM a tp sd pa pb dr)), (a 3, .inl (cN, 85, .inr (.inl g2)))]) hD hS hA [2, 3] rfl
  refine va_callv (va_runV (As := [.int (nI k), .int (nI 7), .long yb]) (rest := []) ⟨hx, hb, hml, hown, hts⟩ (c_lays l D _ h0 a cN tp sd pa pb dr k 7 g2 yb (by first | omega | assumption) (by first | omega | assumption)) (cwV 3 hts g_c_parts_c_lays_126 rfl rfl rfl (by decide +kernel) ⟨(Nat.le_of_ble_eq_true rfl), (Nat.le_of_ble_eq_true rfl)⟩) (PcW_V (q0 := 0) hPc hKc hDc rfl rfl) rfl rfl hl.1 rfl (lv_room (Nat.le_of_ble_eq_true rfl)) dX11_parts_14 ⟨(Nat.le_of_ble_eq_true rfl), (Nat.le_of_ble_eq_true rfl)⟩) hS (fun q _ h => hFc q h) hFc (fun uu tt H locs htt hvm hw hB hz1 hk1 hS => ?_)
  obtain ⟨g5, rfl⟩ : ∃ z, z = uu := ⟨_, rfl⟩
  obtain ⟨hP1, hK1, hD1⟩ := hB
  rw [htt] at hP1
  have hK1 := va_K.moved hvm.symm hK1
  have hP1 : va_P D vwCl [(h0, .inr (11, fM a tp sd pa pb dr)), (a 3, .inl (cN, 85, .inr (.inl g5)))] H := hP1
  obtain ⟨hP, hD⟩ := va_join (wr := [(a 8, .inl (cR, 10240, .inl (fun _ => 0))), (a 9, .inl (cH, 10240, .inl (fun _ => 0)))]) (w1 := [(h0, .inr (11, fM a tp sd pa pb dr)), (a 3, .inl (cN, 85, .inr (.inl g5)))]) hP hD [2, 3] [0, 1] rfl rfl (by decide) (by decide) hk1 hFc hP1 hD1
  have hP : va_P D vwCl [(a 8, .inl (cR, 10240, .inl (fun _ => 0))), (a 9, .inl (cH, 10240, .inl (fun _ => 0))), (h0, .inr (11, fM a tp sd pa pb dr)), (a 3, .inl (cN, 85, .inr (.inl g5)))] H := hP
  have hD : va_D A [(a 8, .inl (cR, 10240, .inl (fun _ => 0))), (a 9, .inl (cH, 10240, .inl (fun _ => 0))), (h0, .inr (11, fM a tp sd pa pb dr)), (a 3, .inl (cN, 85, .inr (.inl g5)))] := hD
  try dsimp only at hw
  clear hz1 hk1 hFc hPc hKc hDc
  have hL6 := hw
  refine lv_iconst (v := 0) hx hb dX11_parts_17 (by decide) ?_
  refine lv_istore (lv' := [(7, .int 0), (0, .ref h0), (1, .int (nI k)), (2, .long ya), (4, .long yb), (6, .int 2)]) hx hb dX11_parts_18 hl (by decide) rfl (fun ls hl => ?_)
  refine lp_parts1 l D h0 a cN tp sd pa pb dr cR cH k g5 nb ya yb hk ((hL6.2 1 (by decide)).trans ((hL3.2 1 (by decide)).trans h1)) ((hL6.2 4 (by decide)).trans ((hL3.2 4 (by decide)).trans h4)) hn hx hb hml hown hts hA (hK.sub [0, 1, 2] rfl) (fun H locs ls hP hD hS hl => ?_) (nb + 1) 0 (by omega) (by omega) _ _ _ (hP.sub [2, 3, 0, 1] rfl) (hD.sub [2, 3, 0, 1] (by decide) rfl) hS (lv_sub hl [0, 1, 2, 3, 4, 5] rfl)
  have hP : va_P D vwCl [(h0, .inr (11, fM a tp sd pa pb dr)), (a 3, .inl (cN, 85, .inr (.inl g5))), (a 8, .inl (cR, 10240, .inl (fun _ => 0))), (a 9, .inl (cH, 10240, .inl (fun _ => 0)))] H := hP
  have hD : va_D A [(h0, .inr (11, fM a tp sd pa pb dr)), (a 3, .inl (cN, 85, .inr (.inl g5))), (a 8, .inl (cR, 10240, .inl (fun _ => 0))), (a 9, .inl (cH, 10240, .inl (fun _ => 0)))] := hD
  refine lv_sipush (v := 160) hx hb dX11_parts_50 (by decide) ?_
  refine lv_iload_n hx hb dX11_parts_53 rfl (lv_at hl 1 rfl) ?_
  refine lv_imul hx hb dX11_parts_54 ?_
  refine lv_topi (fun v7 ev7 => ?_)
  obtain rfl : v7 = nI (160 * k) := ev7.trans (pk_mul 160 k)
  refine lv_istore (lv' := [(7, .int (nI (160 * k))), (0, .ref h0), (1, .int (nI k)), (2, .long ya), (4, .long yb), (6, .int 2)]) hx hb dX11_parts_55 hl (by decide) rfl (fun ls hl => ?_)
  refine lv_iload hx hb dX11_parts_57 (lv_at hl 0 rfl) ?_
  refine lv_sipush (v := 160) hx hb dX11_parts_59 (by decide) ?_
  refine lv_iload_n hx hb dX11_parts_62 rfl (lv_at hl 2 rfl) ?_
  refine lv_imul hx hb dX11_parts_63 ?_
  refine lv_topi (fun v8 ev8 => ?_)
  obtain rfl : v8 = nI (160 * k) := ev8.trans (pk_mul 160 k)
  refine lv_aload_n hx hb dX11_parts_64 rfl (lv_at hl 1 rfl) ?_
  refine lv_iload_n hx hb dX11_parts_65 rfl (lv_at hl 2 rfl) ?_
  have hPc := hP.sub (ws' := [(h0, .inr (11, fM a tp sd pa pb dr)), (a 3, .inl (cN, 85, .inr (.inl g5)))]) [0, 1] rfl
  have hKc := hK.sub (tys' := [(cN, .long)]) [0] rfl
  have hFc := va_free0 hS hA
  refine va_calli (va_runV (As := [.int (nI k)]) (rest := [.int (nI (160 * k)), .int (nI (160 * k))]) ⟨hx, hb, hml, hown, hts⟩ (c_manyOf0 l D _ h0 a cN tp sd pa pb dr k g5 (by first | omega | assumption) ((hL6.2 1 (by decide)).trans ((hL3.2 1 (by decide)).trans h1))) (cwV 1 hts g_c_parts_c_manyOf0_95 rfl rfl rfl (by decide +kernel) ⟨(Nat.le_of_ble_eq_true rfl), (Nat.le_of_ble_eq_true rfl)⟩) (PcR_V (q0 := 0) hPc hKc rfl rfl) rfl rfl hl.1 rfl (lv_room (Nat.le_of_ble_eq_true rfl)) dX11_parts_66 ⟨(Nat.le_of_ble_eq_true rfl), (Nat.le_of_ble_eq_true rfl)⟩) hS (fun q _ h => hFc q h) hFc (fun r9 uu tt H locs htt hvm hw hB hz1 hk1 hS => ?_)
  have hP := va_keep hP hk1
  try dsimp only at hw
  clear hB hz1 hk1 hFc hPc hKc
  obtain rfl : r9 = 0 := hw
  refine lv_iadd hx hb dX11_parts_69 ?_
  refine lv_topi (fun v10 ev10 => ?_)
  obtain rfl : v10 = nI (160 * k) := ev10.trans (Int32.add_zero _)
  refine lv_icmp_ge (tgt := 120) hx hb dX11_parts_70 (by decide) (fun hc => ?_) (fun hc => absurd (Int32.le_refl _) hc)
  refine lv_lconst (v := 0) hx hb dX11_parts_120 (by decide) ?_
  refine lv_lstore (lv' := [(7, .long 0), (0, .ref h0), (1, .int (nI k)), (2, .long ya), (4, .long yb), (6, .int 2)]) hx hb dX11_parts_121 hl (by decide) rfl (fun ls hl => ?_)
  refine lv_iconst (v := 0) hx hb dX11_parts_123 (by decide) ?_
  refine lv_istore (lv' := [(9, .int 0), (7, .long 0), (0, .ref h0), (1, .int (nI k)), (2, .long ya), (4, .long yb), (6, .int 2)]) hx hb dX11_parts_124 hl (by decide) rfl (fun ls hl => ?_)
  refine lp_parts3 l D h0 a cN tp sd pa pb dr cR cH k g5 nb ya yb hk ((hL6.2 1 (by decide)).trans ((hL3.2 1 (by decide)).trans h1)) ((hL6.2 4 (by decide)).trans ((hL3.2 4 (by decide)).trans h4)) hn hx hb hml hown hts hA (hK.sub [0, 1, 2] rfl) (fun H locs ls hP hD hS hl => ?_) (nb + 1) 0 (by omega) (by omega) _ _ _ (hP.sub [0, 1, 2, 3] rfl) (hD.sub [0, 1, 2, 3] (by decide) rfl) hS (lv_sub hl [0, 1, 2, 3, 4, 5, 6] rfl)
  have hP : va_P D vwCl [(h0, .inr (11, fM a tp sd pa pb dr)), (a 3, .inl (cN, 85, .inr (.inl g5))), (a 8, .inl (cR, 10240, .inl (fun _ => 0))), (a 9, .inl (cH, 10240, .inl (fun _ => 0)))] H := hP
  have hD : va_D A [(h0, .inr (11, fM a tp sd pa pb dr)), (a 3, .inl (cN, 85, .inr (.inl g5))), (a 8, .inl (cR, 10240, .inl (fun _ => 0))), (a 9, .inl (cH, 10240, .inl (fun _ => 0)))] := hD
  refine lv_aload_n hx hb dX11_parts_184 rfl (lv_at hl 1 rfl) ?_
  refine lv_iload_n hx hb dX11_parts_185 rfl (lv_at hl 2 rfl) ?_
  refine lv_iconst (v := 5) hx hb dX11_parts_186 (by decide) ?_
  refine lv_lload hx hb dX11_parts_187 (lv_at hl 0 rfl) ?_
  have hPc := hP.sub (ws' := [(h0, .inr (11, fM a tp sd pa pb dr)), (a 3, .inl (cN, 85, .inr (.inl g5)))]) [0, 1] rfl
  have hKc := hK.sub (tys' := [(cN, .long)]) [0] rfl
  have hDc := hD.sub (ws' := [(h0, .inr (11, fM a tp sd pa pb dr)), (a 3, .inl (cN, 85, .inr (.inl g5)))]) [0, 1] (by decide) rfl
  have hFc := va_free (wc := [(h0, .inr (11, fM a tp sd pa pb dr)), (a 3, .inl (cN, 85, .inr (.inl g5)))]) hD hS hA [0, 1] rfl
  refine va_callv (va_runV (As := [.int (nI k), .int (nI 5), .long 0]) (rest := []) ⟨hx, hb, hml, hown, hts⟩ (c_lays l D _ h0 a cN tp sd pa pb dr k 5 g5 0 (by first | omega | assumption) (by first | omega | assumption)) (cwV 3 hts g_c_parts_c_lays_126 rfl rfl rfl (by decide +kernel) ⟨(Nat.le_of_ble_eq_true rfl), (Nat.le_of_ble_eq_true rfl)⟩) (PcW_V (q0 := 0) hPc hKc hDc rfl rfl) rfl rfl hl.1 rfl (lv_room (Nat.le_of_ble_eq_true rfl)) dX11_parts_189 ⟨(Nat.le_of_ble_eq_true rfl), (Nat.le_of_ble_eq_true rfl)⟩) hS (fun q _ h => hFc q h) hFc (fun uu tt H locs htt hvm hw hB hz1 hk1 hS => ?_)
  obtain ⟨g12, rfl⟩ : ∃ z, z = uu := ⟨_, rfl⟩
  obtain ⟨hP1, hK1, hD1⟩ := hB
  rw [htt] at hP1
  have hK1 := va_K.moved hvm.symm hK1
  have hP1 : va_P D vwCl [(h0, .inr (11, fM a tp sd pa pb dr)), (a 3, .inl (cN, 85, .inr (.inl g12)))] H := hP1
  obtain ⟨hP, hD⟩ := va_join (wr := [(a 8, .inl (cR, 10240, .inl (fun _ => 0))), (a 9, .inl (cH, 10240, .inl (fun _ => 0)))]) (w1 := [(h0, .inr (11, fM a tp sd pa pb dr)), (a 3, .inl (cN, 85, .inr (.inl g12)))]) hP hD [0, 1] [2, 3] rfl rfl (by decide) (by decide) hk1 hFc hP1 hD1
  have hP : va_P D vwCl [(a 8, .inl (cR, 10240, .inl (fun _ => 0))), (a 9, .inl (cH, 10240, .inl (fun _ => 0))), (h0, .inr (11, fM a tp sd pa pb dr)), (a 3, .inl (cN, 85, .inr (.inl g12)))] H := hP
  have hD : va_D A [(a 8, .inl (cR, 10240, .inl (fun _ => 0))), (a 9, .inl (cH, 10240, .inl (fun _ => 0))), (h0, .inr (11, fM a tp sd pa pb dr)), (a 3, .inl (cN, 85, .inr (.inl g12)))] := hD
  try dsimp only at hw
  clear hz1 hk1 hFc hPc hKc hDc
  have hL13 := hw
  refine lv_lload hx hb dX11_parts_192 (lv_at hl 0 rfl) ?_
  exact W.lret (v := 0) hx hb hr (fun t ht hW => ⟨⟨0, g12, rfl, ⟨rfl, fun i h5 h6 h7 => by rw [hL13.2 i h5, hL6.2 i h7, hL3.2 i h6]⟩, by rw [ht]; exact hP.sub [2, 3, 0, 1] rfl, va_K.moved hW.alike (hK.sub [0, 1, 2] rfl), hD.sub [2, 3, 0, 1] (by decide) rfl⟩, hS.F ht⟩) hS.2.2 dX11_parts_194

def own_c_makes : List Cond := [.methodLink RX11 126 yX11_lays, .instanceMethod yX11_lays, .selects RX11 yX11_lays yX11_lays, .initialized RX11]
def wp_c_makes : List Cond := .code yX11_makes cX11_makes 8 none :: (own_c_makes ++ (wp_c_lays ++ ([] : List Cond)))
set_option maxRecDepth 20000 in
theorem inown_c_makes : ∀ w ∈ own_c_makes, w ∈ lw_tbl := mem_places [1388, 1390, 38, 115] (by decide +kernel)
set_option maxRecDepth 20000 in
theorem in_c_makes : ∀ w ∈ wp_c_makes, w ∈ lw_tbl := List.forall_mem_cons.mpr ⟨List.mem_of_getElem? (i := 1387) (by decide +kernel), List.forall_mem_append.mpr ⟨inown_c_makes, List.forall_mem_append.mpr ⟨in_c_lays, fun _ h => absurd h List.not_mem_nil⟩⟩⟩
set_option maxRecDepth 20000 in
theorem good_c_makes : wp_c_makes.all goodWord = true := by decide +kernel
set_option maxRecDepth 20000 in
theorem g_c_makes_c_lays_126 : GoodIn wp_c_makes (wsV RX11 126 RX11 yX11_lays wp_c_lays) := goodIn_sub (List.forall_mem_append.mpr ⟨List.forall_mem_cons.mpr ⟨(List.mem_of_getElem? (i := 1) rfl), List.forall_mem_cons.mpr ⟨(List.mem_of_getElem? (i := 2) rfl), List.forall_mem_cons.mpr ⟨(List.mem_of_getElem? (i := 3) rfl), List.forall_mem_cons.mpr ⟨(List.mem_of_getElem? (i := 4) rfl), fun _ h => absurd h List.not_mem_nil⟩⟩⟩⟩, (fun _ h => (List.mem_cons_of_mem _ (List.mem_append_right _ (List.mem_append_left _ h))))⟩) (by decide +kernel)
set_option maxHeartbeats 4000000 in
set_option maxRecDepth 100000 in
theorem c_makes (l : Launch) (D : va_G) (sz : Nat) (h0 : Nat) (a : Nat → Nat) (cN : ClassId) (tp : Int32) (sd : Int64) (pa : Int64) (pb : Int64) (dr : Int32) (k : Nat) (f : Nat → Int64) (z2 : Int32) (z3 : Int32) (z4 : Int32) (y5 : Int64) (hk : k < 4) : Met l yX11_makes wp_c_makes ({ frames := 1, cells := 0, slots := 0, locals := 24 }) (PcW D [.ref h0, .int (nI k), .int z2, .int z3, .int z4, .long y5] sz [(h0, .inr (11, fM a tp sd pa pb dr)), (a 3, .inl (cN, 85, .inr (.inl f)))] [(cN, .long)]) (va_Qv (fun (u : Nat → Int64) => u (17 * k + 1) = 0 ∧ u (17 * k + 14) = Int32.toInt64 z2 ∧ u (17 * k + 15) = Int32.toInt64 z3) (fun (u : Nat → Int64) t => va_P D vwCl [(h0, .inr (11, fM a tp sd pa pb dr)), (a 3, .inl (cN, 85, .inr (.inl u)))] t.heap ∧ va_K D vwCl [(cN, .long)] t ∧ va_D (va_A [(h0, .inr (11, fM a tp sd pa pb dr)), (a 3, .inl (cN, 85, .inr (.inl f)))] sz) [(h0, .inr (11, fM a tp sd pa pb dr)), (a 3, .inl (cN, 85, .inr (.inl u)))]) (va_A [(h0, .inr (11, fM a tp sd pa pb dr)), (a 3, .inl (cN, 85, .inr (.inl f)))] sz)) 0 0 (va_A [(h0, .inr (11, fM a tp sd pa pb dr)), (a 3, .inl (cN, 85, .inr (.inl f)))] sz) := by
  refine Met.ofW (cc := cX11_makes) (maxL := 8) (ret := none) (by decide) rfl ?_
  intro p e s m args below meth c s₁ B hml hv
  obtain ⟨rfl, hsz, hP, hK, hD0⟩ := hv
  have hx := B.exec
  have hb := B.bytes
  have hr := B.returns
  have hts := atoms_spec (ws := wp_c_makes) B.pre
  have hown : s.vm.findClass RX11 = some m.cls := findClass_of_methodNamed B.named
  have hlocks := B.notSynchronized
  subst hsz
  have hD := hD0.self (sz := s.heap.size)
  generalize hAe : va_A [(h0, .inr (11, fM a tp sd pa pb dr)), (a 3, .inl (cN, 85, .inr (.inl f)))] s.heap.size = A at hD ⊢
  have hA : ∀ q : Nat, s.heap.size ≤ q → A q := fun q h => by rw [← hAe]; exact Or.inr h
  have hS : va_S A s.heap s.heap [] := va_S.rf
  have hP : va_P D vwCl [(h0, .inr (11, fM a tp sd pa pb dr)), (a 3, .inl (cN, 85, .inr (.inl f)))] s.heap := hP
  have hl := lv_entry ([.ref h0, .int (nI k), .int z2, .int z3, .int z4, .long y5]) (n := 8) (Nat.le_of_ble_eq_true rfl)
  rw [lg_entry_eq]
  generalize (lg_sl ([.ref h0, .int (nI k), .int z2, .int z3, .int z4, .long y5]) ++ List.replicate (8 - (lg_sl ([.ref h0, .int (nI k), .int z2, .int z3, .int z4, .long y5])).length) Slot.unset).toArray = ls at hl ⊢
  have hl : lv_has ls 8 [(0, .ref h0), (1, .int (nI k)), (2, .int z2), (3, .int z3), (4, .int z4), (5, .long y5)] := hl
  refine lv_iconst (v := 0) hx hb dX11_makes_0 (by decide) ?_
  refine lv_istore (lv' := [(7, .int 0), (0, .ref h0), (1, .int (nI k)), (2, .int z2), (3, .int z3), (4, .int z4), (5, .long y5)]) hx hb dX11_makes_1 hl (by decide) rfl (fun ls hl => ?_)
  refine lv_iload hx hb dX11_makes_3 (lv_at hl 0 rfl) ?_
  refine lv_bipush (v := 17) hx hb dX11_makes_5 (by decide) ?_
  refine lv_icmp_ge (tgt := 24) hx hb dX11_makes_7 (by decide) (fun hc => absurd hc (by decide)) (fun hc => ?_)
  refine lv_aload_n hx hb dX11_makes_10 rfl (lv_at hl 1 rfl) ?_
  refine lv_iload_n hx hb dX11_makes_11 rfl (lv_at hl 2 rfl) ?_
  refine lv_iload hx hb dX11_makes_12 (lv_at hl 0 rfl) ?_
  refine lv_lconst (v := 0) hx hb dX11_makes_14 (by decide) ?_
  have hPc := hP.sub (ws' := [(h0, .inr (11, fM a tp sd pa pb dr)), (a 3, .inl (cN, 85, .inr (.inl f)))]) [0, 1] rfl
  have hKc := hK.sub (tys' := [(cN, .long)]) [0] rfl
  have hDc := hD.sub (ws' := [(h0, .inr (11, fM a tp sd pa pb dr)), (a 3, .inl (cN, 85, .inr (.inl f)))]) [0, 1] (by decide) rfl
  have hFc := va_free (wc := [(h0, .inr (11, fM a tp sd pa pb dr)), (a 3, .inl (cN, 85, .inr (.inl f)))]) hD hS hA [0, 1] rfl
  refine va_callv (va_runV (As := [.int (nI k), .int (nI 0), .long 0]) (rest := []) ⟨hx, hb, hml, hown, hts⟩ (c_lays l D _ h0 a cN tp sd pa pb dr k 0 f 0 (by first | omega | assumption) (by first | omega | assumption)) (cwV 3 hts g_c_makes_c_lays_126 rfl rfl rfl (by decide +kernel) ⟨(Nat.le_of_ble_eq_true rfl), (Nat.le_of_ble_eq_true rfl)⟩) (PcW_V (q0 := 0) hPc hKc hDc rfl rfl) rfl rfl hl.1 rfl (lv_room (Nat.le_of_ble_eq_true rfl)) dX11_makes_15 ⟨(Nat.le_of_ble_eq_true rfl), (Nat.le_of_ble_eq_true rfl)⟩) hS (fun q _ h => hFc q h) hFc (fun uu tt H locs htt hvm hw hB hz1 hk1 hS => ?_)
  obtain ⟨g2, rfl⟩ : ∃ z, z = uu := ⟨_, rfl⟩
  obtain ⟨hP1, hK1, hD1⟩ := hB
  rw [htt] at hP1
  have hK1 := va_K.moved hvm.symm hK1
  have hP1 : va_P D vwCl [(h0, .inr (11, fM a tp sd pa pb dr)), (a 3, .inl (cN, 85, .inr (.inl g2)))] H := hP1
  obtain ⟨hP, hD⟩ := va_join (wr := []) (w1 := [(h0, .inr (11, fM a tp sd pa pb dr)), (a 3, .inl (cN, 85, .inr (.inl g2)))]) hP hD [0, 1] [] rfl rfl (by decide) (by decide) hk1 hFc hP1 hD1
  have hP : va_P D vwCl [(h0, .inr (11, fM a tp sd pa pb dr)), (a 3, .inl (cN, 85, .inr (.inl g2)))] H := hP
  have hD : va_D A [(h0, .inr (11, fM a tp sd pa pb dr)), (a 3, .inl (cN, 85, .inr (.inl g2)))] := hD
  try dsimp only at hw
  clear hz1 hk1 hFc hPc hKc hDc
  have hL3 := hw
  refine lv_iinc (v := 1) (lv' := [(7, .int 1), (0, .ref h0), (1, .int (nI k)), (2, .int z2), (3, .int z3), (4, .int z4), (5, .long y5)]) hx hb dX11_makes_18 hl (k := 0) rfl (by decide) (by decide) rfl (fun ls hl => ?_)
  refine lv_goto (tgt := 3) hx hb dX11_makes_21 (by decide) ?_
  refine lv_iload hx hb dX11_makes_3 (lv_at hl 0 rfl) ?_
  refine lv_bipush (v := 17) hx hb dX11_makes_5 (by decide) ?_
  refine lv_icmp_ge (tgt := 24) hx hb dX11_makes_7 (by decide) (fun hc => absurd hc (by decide)) (fun hc => ?_)
  refine lv_aload_n hx hb dX11_makes_10 rfl (lv_at hl 1 rfl) ?_
  refine lv_iload_n hx hb dX11_makes_11 rfl (lv_at hl 2 rfl) ?_
  refine lv_iload hx hb dX11_makes_12 (lv_at hl 0 rfl) ?_
  refine lv_lconst (v := 0) hx hb dX11_makes_14 (by decide) ?_
  have hPc := hP.sub (ws' := [(h0, .inr (11, fM a tp sd pa pb dr)), (a 3, .inl (cN, 85, .inr (.inl g2)))]) [0, 1] rfl
  have hKc := hK.sub (tys' := [(cN, .long)]) [0] rfl
  have hDc := hD.sub (ws' := [(h0, .inr (11, fM a tp sd pa pb dr)), (a 3, .inl (cN, 85, .inr (.inl g2)))]) [0, 1] (by decide) rfl
  have hFc := va_free (wc := [(h0, .inr (11, fM a tp sd pa pb dr)), (a 3, .inl (cN, 85, .inr (.inl g2)))]) hD hS hA [0, 1] rfl
  refine va_callv (va_runV (As := [.int (nI k), .int (nI 1), .long 0]) (rest := []) ⟨hx, hb, hml, hown, hts⟩ (c_lays l D _ h0 a cN tp sd pa pb dr k 1 g2 0 (by first | omega | assumption) (by first | omega | assumption)) (cwV 3 hts g_c_makes_c_lays_126 rfl rfl rfl (by decide +kernel) ⟨(Nat.le_of_ble_eq_true rfl), (Nat.le_of_ble_eq_true rfl)⟩) (PcW_V (q0 := 0) hPc hKc hDc rfl rfl) rfl rfl hl.1 rfl (lv_room (Nat.le_of_ble_eq_true rfl)) dX11_makes_15 ⟨(Nat.le_of_ble_eq_true rfl), (Nat.le_of_ble_eq_true rfl)⟩) hS (fun q _ h => hFc q h) hFc (fun uu tt H locs htt hvm hw hB hz1 hk1 hS => ?_)
  obtain ⟨g5, rfl⟩ : ∃ z, z = uu := ⟨_, rfl⟩
  obtain ⟨hP1, hK1, hD1⟩ := hB
  rw [htt] at hP1
  have hK1 := va_K.moved hvm.symm hK1
  have hP1 : va_P D vwCl [(h0, .inr (11, fM a tp sd pa pb dr)), (a 3, .inl (cN, 85, .inr (.inl g5)))] H := hP1
  obtain ⟨hP, hD⟩ := va_join (wr := []) (w1 := [(h0, .inr (11, fM a tp sd pa pb dr)), (a 3, .inl (cN, 85, .inr (.inl g5)))]) hP hD [0, 1] [] rfl rfl (by decide) (by decide) hk1 hFc hP1 hD1
  have hP : va_P D vwCl [(h0, .inr (11, fM a tp sd pa pb dr)), (a 3, .inl (cN, 85, .inr (.inl g5)))] H := hP
  have hD : va_D A [(h0, .inr (11, fM a tp sd pa pb dr)), (a 3, .inl (cN, 85, .inr (.inl g5)))] := hD
  try dsimp only at hw
  clear hz1 hk1 hFc hPc hKc hDc
  have hL6 := hw
  refine lv_iinc (v := 2) (lv' := [(7, .int 2), (0, .ref h0), (1, .int (nI k)), (2, .int z2), (3, .int z3), (4, .int z4), (5, .long y5)]) hx hb dX11_makes_18 hl (k := 0) rfl (by decide) (by decide) rfl (fun ls hl => ?_)
  refine lv_goto (tgt := 3) hx hb dX11_makes_21 (by decide) ?_
  refine lv_iload hx hb dX11_makes_3 (lv_at hl 0 rfl) ?_
  refine lv_bipush (v := 17) hx hb dX11_makes_5 (by decide) ?_
  refine lv_icmp_ge (tgt := 24) hx hb dX11_makes_7 (by decide) (fun hc => absurd hc (by decide)) (fun hc => ?_)
  refine lv_aload_n hx hb dX11_makes_10 rfl (lv_at hl 1 rfl) ?_
  refine lv_iload_n hx hb dX11_makes_11 rfl (lv_at hl 2 rfl) ?_
  refine lv_iload hx hb dX11_makes_12 (lv_at hl 0 rfl) ?_
  refine lv_lconst (v := 0) hx hb dX11_makes_14 (by decide) ?_
  have hPc := hP.sub (ws' := [(h0, .inr (11, fM a tp sd pa pb dr)), (a 3, .inl (cN, 85, .inr (.inl g5)))]) [0, 1] rfl
  have hKc := hK.sub (tys' := [(cN, .long)]) [0] rfl
  have hDc := hD.sub (ws' := [(h0, .inr (11, fM a tp sd pa pb dr)), (a 3, .inl (cN, 85, .inr (.inl g5)))]) [0, 1] (by decide) rfl
  have hFc := va_free (wc := [(h0, .inr (11, fM a tp sd pa pb dr)), (a 3, .inl (cN, 85, .inr (.inl g5)))]) hD hS hA [0, 1] rfl
  refine va_callv (va_runV (As := [.int (nI k), .int (nI 2), .long 0]) (rest := []) ⟨hx, hb, hml, hown, hts⟩ (c_lays l D _ h0 a cN tp sd pa pb dr k 2 g5 0 (by first | omega | assumption) (by first | omega | assumption)) (cwV 3 hts g_c_makes_c_lays_126 rfl rfl rfl (by decide +kernel) ⟨(Nat.le_of_ble_eq_true rfl), (Nat.le_of_ble_eq_true rfl)⟩) (PcW_V (q0 := 0) hPc hKc hDc rfl rfl) rfl rfl hl.1 rfl (lv_room (Nat.le_of_ble_eq_true rfl)) dX11_makes_15 ⟨(Nat.le_of_ble_eq_true rfl), (Nat.le_of_ble_eq_true rfl)⟩) hS (fun q _ h => hFc q h) hFc (fun uu tt H locs htt hvm hw hB hz1 hk1 hS => ?_)
  obtain ⟨g8, rfl⟩ : ∃ z, z = uu := ⟨_, rfl⟩
  obtain ⟨hP1, hK1, hD1⟩ := hB
  rw [htt] at hP1
  have hK1 := va_K.moved hvm.symm hK1
  have hP1 : va_P D vwCl [(h0, .inr (11, fM a tp sd pa pb dr)), (a 3, .inl (cN, 85, .inr (.inl g8)))] H := hP1
  obtain ⟨hP, hD⟩ := va_join (wr := []) (w1 := [(h0, .inr (11, fM a tp sd pa pb dr)), (a 3, .inl (cN, 85, .inr (.inl g8)))]) hP hD [0, 1] [] rfl rfl (by decide) (by decide) hk1 hFc hP1 hD1
  have hP : va_P D vwCl [(h0, .inr (11, fM a tp sd pa pb dr)), (a 3, .inl (cN, 85, .inr (.inl g8)))] H := hP
  have hD : va_D A [(h0, .inr (11, fM a tp sd pa pb dr)), (a 3, .inl (cN, 85, .inr (.inl g8)))] := hD
  try dsimp only at hw
  clear hz1 hk1 hFc hPc hKc hDc
  have hL9 := hw
  refine lv_iinc (v := 3) (lv' := [(7, .int 3), (0, .ref h0), (1, .int (nI k)), (2, .int z2), (3, .int z3), (4, .int z4), (5, .long y5)]) hx hb dX11_makes_18 hl (k := 0) rfl (by decide) (by decide) rfl (fun ls hl => ?_)
  refine lv_goto (tgt := 3) hx hb dX11_makes_21 (by decide) ?_
  refine lv_iload hx hb dX11_makes_3 (lv_at hl 0 rfl) ?_
  refine lv_bipush (v := 17) hx hb dX11_makes_5 (by decide) ?_
  refine lv_icmp_ge (tgt := 24) hx hb dX11_makes_7 (by decide) (fun hc => absurd hc (by decide)) (fun hc => ?_)
  refine lv_aload_n hx hb dX11_makes_10 rfl (lv_at hl 1 rfl) ?_
  refine lv_iload_n hx hb dX11_makes_11 rfl (lv_at hl 2 rfl) ?_
  refine lv_iload hx hb dX11_makes_12 (lv_at hl 0 rfl) ?_
  refine lv_lconst (v := 0) hx hb dX11_makes_14 (by decide) ?_
  have hPc := hP.sub (ws' := [(h0, .inr (11, fM a tp sd pa pb dr)), (a 3, .inl (cN, 85, .inr (.inl g8)))]) [0, 1] rfl
  have hKc := hK.sub (tys' := [(cN, .long)]) [0] rfl
  have hDc := hD.sub (ws' := [(h0, .inr (11, fM a tp sd pa pb dr)), (a 3, .inl (cN, 85, .inr (.inl g8)))]) [0, 1] (by decide) rfl
  have hFc := va_free (wc := [(h0, .inr (11, fM a tp sd pa pb dr)), (a 3, .inl (cN, 85, .inr (.inl g8)))]) hD hS hA [0, 1] rfl
  refine va_callv (va_runV (As := [.int (nI k), .int (nI 3), .long 0]) (rest := []) ⟨hx, hb, hml, hown, hts⟩ (c_lays l D _ h0 a cN tp sd pa pb dr k 3 g8 0 (by first | omega | assumption) (by first | omega | assumption)) (cwV 3 hts g_c_makes_c_lays_126 rfl rfl rfl (by decide +kernel) ⟨(Nat.le_of_ble_eq_true rfl), (Nat.le_of_ble_eq_true rfl)⟩) (PcW_V (q0 := 0) hPc hKc hDc rfl rfl) rfl rfl hl.1 rfl (lv_room (Nat.le_of_ble_eq_true rfl)) dX11_makes_15 ⟨(Nat.le_of_ble_eq_true rfl), (Nat.le_of_ble_eq_true rfl)⟩) hS (fun q _ h => hFc q h) hFc (fun uu tt H locs htt hvm hw hB hz1 hk1 hS => ?_)
  obtain ⟨g11, rfl⟩ : ∃ z, z = uu := ⟨_, rfl⟩
  obtain ⟨hP1, hK1, hD1⟩ := hB
  rw [htt] at hP1
  have hK1 := va_K.moved hvm.symm hK1
  have hP1 : va_P D vwCl [(h0, .inr (11, fM a tp sd pa pb dr)), (a 3, .inl (cN, 85, .inr (.inl g11)))] H := hP1
  obtain ⟨hP, hD⟩ := va_join (wr := []) (w1 := [(h0, .inr (11, fM a tp sd pa pb dr)), (a 3, .inl (cN, 85, .inr (.inl g11)))]) hP hD [0, 1] [] rfl rfl (by decide) (by decide) hk1 hFc hP1 hD1
  have hP : va_P D vwCl [(h0, .inr (11, fM a tp sd pa pb dr)), (a 3, .inl (cN, 85, .inr (.inl g11)))] H := hP
  have hD : va_D A [(h0, .inr (11, fM a tp sd pa pb dr)), (a 3, .inl (cN, 85, .inr (.inl g11)))] := hD
  try dsimp only at hw
  clear hz1 hk1 hFc hPc hKc hDc
  have hL12 := hw
  refine lv_iinc (v := 4) (lv' := [(7, .int 4), (0, .ref h0), (1, .int (nI k)), (2, .int z2), (3, .int z3), (4, .int z4), (5, .long y5)]) hx hb dX11_makes_18 hl (k := 0) rfl (by decide) (by decide) rfl (fun ls hl => ?_)
  refine lv_goto (tgt := 3) hx hb dX11_makes_21 (by decide) ?_
  refine lv_iload hx hb dX11_makes_3 (lv_at hl 0 rfl) ?_
  refine lv_bipush (v := 17) hx hb dX11_makes_5 (by decide) ?_
  refine lv_icmp_ge (tgt := 24) hx hb dX11_makes_7 (by decide) (fun hc => absurd hc (by decide)) (fun hc => ?_)
  refine lv_aload_n hx hb dX11_makes_10 rfl (lv_at hl 1 rfl) ?_
  refine lv_iload_n hx hb dX11_makes_11 rfl (lv_at hl 2 rfl) ?_
  refine lv_iload hx hb dX11_makes_12 (lv_at hl 0 rfl) ?_
  refine lv_lconst (v := 0) hx hb dX11_makes_14 (by decide) ?_
  have hPc := hP.sub (ws' := [(h0, .inr (11, fM a tp sd pa pb dr)), (a 3, .inl (cN, 85, .inr (.inl g11)))]) [0, 1] rfl
  have hKc := hK.sub (tys' := [(cN, .long)]) [0] rfl
  have hDc := hD.sub (ws' := [(h0, .inr (11, fM a tp sd pa pb dr)), (a 3, .inl (cN, 85, .inr (.inl g11)))]) [0, 1] (by decide) rfl
  have hFc := va_free (wc := [(h0, .inr (11, fM a tp sd pa pb dr)), (a 3, .inl (cN, 85, .inr (.inl g11)))]) hD hS hA [0, 1] rfl
  refine va_callv (va_runV (As := [.int (nI k), .int (nI 4), .long 0]) (rest := []) ⟨hx, hb, hml, hown, hts⟩ (c_lays l D _ h0 a cN tp sd pa pb dr k 4 g11 0 (by first | omega | assumption) (by first | omega | assumption)) (cwV 3 hts g_c_makes_c_lays_126 rfl rfl rfl (by decide +kernel) ⟨(Nat.le_of_ble_eq_true rfl), (Nat.le_of_ble_eq_true rfl)⟩) (PcW_V (q0 := 0) hPc hKc hDc rfl rfl) rfl rfl hl.1 rfl (lv_room (Nat.le_of_ble_eq_true rfl)) dX11_makes_15 ⟨(Nat.le_of_ble_eq_true rfl), (Nat.le_of_ble_eq_true rfl)⟩) hS (fun q _ h => hFc q h) hFc (fun uu tt H locs htt hvm hw hB hz1 hk1 hS => ?_)
  obtain ⟨g14, rfl⟩ : ∃ z, z = uu := ⟨_, rfl⟩
  obtain ⟨hP1, hK1, hD1⟩ := hB
  rw [htt] at hP1
  have hK1 := va_K.moved hvm.symm hK1
  have hP1 : va_P D vwCl [(h0, .inr (11, fM a tp sd pa pb dr)), (a 3, .inl (cN, 85, .inr (.inl g14)))] H := hP1
  obtain ⟨hP, hD⟩ := va_join (wr := []) (w1 := [(h0, .inr (11, fM a tp sd pa pb dr)), (a 3, .inl (cN, 85, .inr (.inl g14)))]) hP hD [0, 1] [] rfl rfl (by decide) (by decide) hk1 hFc hP1 hD1
  have hP : va_P D vwCl [(h0, .inr (11, fM a tp sd pa pb dr)), (a 3, .inl (cN, 85, .inr (.inl g14)))] H := hP
  have hD : va_D A [(h0, .inr (11, fM a tp sd pa pb dr)), (a 3, .inl (cN, 85, .inr (.inl g14)))] := hD
  try dsimp only at hw
  clear hz1 hk1 hFc hPc hKc hDc
  have hL15 := hw
  refine lv_iinc (v := 5) (lv' := [(7, .int 5), (0, .ref h0), (1, .int (nI k)), (2, .int z2), (3, .int z3), (4, .int z4), (5, .long y5)]) hx hb dX11_makes_18 hl (k := 0) rfl (by decide) (by decide) rfl (fun ls hl => ?_)
  refine lv_goto (tgt := 3) hx hb dX11_makes_21 (by decide) ?_
  refine lv_iload hx hb dX11_makes_3 (lv_at hl 0 rfl) ?_
  refine lv_bipush (v := 17) hx hb dX11_makes_5 (by decide) ?_
  refine lv_icmp_ge (tgt := 24) hx hb dX11_makes_7 (by decide) (fun hc => absurd hc (by decide)) (fun hc => ?_)
  refine lv_aload_n hx hb dX11_makes_10 rfl (lv_at hl 1 rfl) ?_
  refine lv_iload_n hx hb dX11_makes_11 rfl (lv_at hl 2 rfl) ?_
  refine lv_iload hx hb dX11_makes_12 (lv_at hl 0 rfl) ?_
  refine lv_lconst (v := 0) hx hb dX11_makes_14 (by decide) ?_
  have hPc := hP.sub (ws' := [(h0, .inr (11, fM a tp sd pa pb dr)), (a 3, .inl (cN, 85, .inr (.inl g14)))]) [0, 1] rfl
  have hKc := hK.sub (tys' := [(cN, .long)]) [0] rfl
  have hDc := hD.sub (ws' := [(h0, .inr (11, fM a tp sd pa pb dr)), (a 3, .inl (cN, 85, .inr (.inl g14)))]) [0, 1] (by decide) rfl
  have hFc := va_free (wc := [(h0, .inr (11, fM a tp sd pa pb dr)), (a 3, .inl (cN, 85, .inr (.inl g14)))]) hD hS hA [0, 1] rfl
  refine va_callv (va_runV (As := [.int (nI k), .int (nI 5), .long 0]) (rest := []) ⟨hx, hb, hml, hown, hts⟩ (c_lays l D _ h0 a cN tp sd pa pb dr k 5 g14 0 (by first | omega | assumption) (by first | omega | assumption)) (cwV 3 hts g_c_makes_c_lays_126 rfl rfl rfl (by decide +kernel) ⟨(Nat.le_of_ble_eq_true rfl), (Nat.le_of_ble_eq_true rfl)⟩) (PcW_V (q0 := 0) hPc hKc hDc rfl rfl) rfl rfl hl.1 rfl (lv_room (Nat.le_of_ble_eq_true rfl)) dX11_makes_15 ⟨(Nat.le_of_ble_eq_true rfl), (Nat.le_of_ble_eq_true rfl)⟩) hS (fun q _ h => hFc q h) hFc (fun uu tt H locs htt hvm hw hB hz1 hk1 hS => ?_)
  obtain ⟨g17, rfl⟩ : ∃ z, z = uu := ⟨_, rfl⟩
  obtain ⟨hP1, hK1, hD1⟩ := hB
  rw [htt] at hP1
  have hK1 := va_K.moved hvm.symm hK1
  have hP1 : va_P D vwCl [(h0, .inr (11, fM a tp sd pa pb dr)), (a 3, .inl (cN, 85, .inr (.inl g17)))] H := hP1
  obtain ⟨hP, hD⟩ := va_join (wr := []) (w1 := [(h0, .inr (11, fM a tp sd pa pb dr)), (a 3, .inl (cN, 85, .inr (.inl g17)))]) hP hD [0, 1] [] rfl rfl (by decide) (by decide) hk1 hFc hP1 hD1
  have hP : va_P D vwCl [(h0, .inr (11, fM a tp sd pa pb dr)), (a 3, .inl (cN, 85, .inr (.inl g17)))] H := hP
  have hD : va_D A [(h0, .inr (11, fM a tp sd pa pb dr)), (a 3, .inl (cN, 85, .inr (.inl g17)))] := hD
  try dsimp only at hw
  clear hz1 hk1 hFc hPc hKc hDc
  have hL18 := hw
  refine lv_iinc (v := 6) (lv' := [(7, .int 6), (0, .ref h0), (1, .int (nI k)), (2, .int z2), (3, .int z3), (4, .int z4), (5, .long y5)]) hx hb dX11_makes_18 hl (k := 0) rfl (by decide) (by decide) rfl (fun ls hl => ?_)
  refine lv_goto (tgt := 3) hx hb dX11_makes_21 (by decide) ?_
  refine lv_iload hx hb dX11_makes_3 (lv_at hl 0 rfl) ?_
  refine lv_bipush (v := 17) hx hb dX11_makes_5 (by decide) ?_
  refine lv_icmp_ge (tgt := 24) hx hb dX11_makes_7 (by decide) (fun hc => absurd hc (by decide)) (fun hc => ?_)
  refine lv_aload_n hx hb dX11_makes_10 rfl (lv_at hl 1 rfl) ?_
  refine lv_iload_n hx hb dX11_makes_11 rfl (lv_at hl 2 rfl) ?_
  refine lv_iload hx hb dX11_makes_12 (lv_at hl 0 rfl) ?_
  refine lv_lconst (v := 0) hx hb dX11_makes_14 (by decide) ?_
  have hPc := hP.sub (ws' := [(h0, .inr (11, fM a tp sd pa pb dr)), (a 3, .inl (cN, 85, .inr (.inl g17)))]) [0, 1] rfl
  have hKc := hK.sub (tys' := [(cN, .long)]) [0] rfl
  have hDc := hD.sub (ws' := [(h0, .inr (11, fM a tp sd pa pb dr)), (a 3, .inl (cN, 85, .inr (.inl g17)))]) [0, 1] (by decide) rfl
  have hFc := va_free (wc := [(h0, .inr (11, fM a tp sd pa pb dr)), (a 3, .inl (cN, 85, .inr (.inl g17)))]) hD hS hA [0, 1] rfl
  refine va_callv (va_runV (As := [.int (nI k), .int (nI 6), .long 0]) (rest := []) ⟨hx, hb, hml, hown, hts⟩ (c_lays l D _ h0 a cN tp sd pa pb dr k 6 g17 0 (by first | omega | assumption) (by first | omega | assumption)) (cwV 3 hts g_c_makes_c_lays_126 rfl rfl rfl (by decide +kernel) ⟨(Nat.le_of_ble_eq_true rfl), (Nat.le_of_ble_eq_true rfl)⟩) (PcW_V (q0 := 0) hPc hKc hDc rfl rfl) rfl rfl hl.1 rfl (lv_room (Nat.le_of_ble_eq_true rfl)) dX11_makes_15 ⟨(Nat.le_of_ble_eq_true rfl), (Nat.le_of_ble_eq_true rfl)⟩) hS (fun q _ h => hFc q h) hFc (fun uu tt H locs htt hvm hw hB hz1 hk1 hS => ?_)
  obtain ⟨g20, rfl⟩ : ∃ z, z = uu := ⟨_, rfl⟩
  obtain ⟨hP1, hK1, hD1⟩ := hB
  rw [htt] at hP1
  have hK1 := va_K.moved hvm.symm hK1
  have hP1 : va_P D vwCl [(h0, .inr (11, fM a tp sd pa pb dr)), (a 3, .inl (cN, 85, .inr (.inl g20)))] H := hP1
  obtain ⟨hP, hD⟩ := va_join (wr := []) (w1 := [(h0, .inr (11, fM a tp sd pa pb dr)), (a 3, .inl (cN, 85, .inr (.inl g20)))]) hP hD [0, 1] [] rfl rfl (by decide) (by decide) hk1 hFc hP1 hD1
  have hP : va_P D vwCl [(h0, .inr (11, fM a tp sd pa pb dr)), (a 3, .inl (cN, 85, .inr (.inl g20)))] H := hP
  have hD : va_D A [(h0, .inr (11, fM a tp sd pa pb dr)), (a 3, .inl (cN, 85, .inr (.inl g20)))] := hD
  try dsimp only at hw
  clear hz1 hk1 hFc hPc hKc hDc
  have hL21 := hw
  refine lv_iinc (v := 7) (lv' := [(7, .int 7), (0, .ref h0), (1, .int (nI k)), (2, .int z2), (3, .int z3), (4, .int z4), (5, .long y5)]) hx hb dX11_makes_18 hl (k := 0) rfl (by decide) (by decide) rfl (fun ls hl => ?_)
  refine lv_goto (tgt := 3) hx hb dX11_makes_21 (by decide) ?_
  refine lv_iload hx hb dX11_makes_3 (lv_at hl 0 rfl) ?_
  refine lv_bipush (v := 17) hx hb dX11_makes_5 (by decide) ?_
  refine lv_icmp_ge (tgt := 24) hx hb dX11_makes_7 (by decide) (fun hc => absurd hc (by decide)) (fun hc => ?_)
  refine lv_aload_n hx hb dX11_makes_10 rfl (lv_at hl 1 rfl) ?_
  refine lv_iload_n hx hb dX11_makes_11 rfl (lv_at hl 2 rfl) ?_
  refine lv_iload hx hb dX11_makes_12 (lv_at hl 0 rfl) ?_
  refine lv_lconst (v := 0) hx hb dX11_makes_14 (by decide) ?_
  have hPc := hP.sub (ws' := [(h0, .inr (11, fM a tp sd pa pb dr)), (a 3, .inl (cN, 85, .inr (.inl g20)))]) [0, 1] rfl
  have hKc := hK.sub (tys' := [(cN, .long)]) [0] rfl
  have hDc := hD.sub (ws' := [(h0, .inr (11, fM a tp sd pa pb dr)), (a 3, .inl (cN, 85, .inr (.inl g20)))]) [0, 1] (by decide) rfl
  have hFc := va_free (wc := [(h0, .inr (11, fM a tp sd pa pb dr)), (a 3, .inl (cN, 85, .inr (.inl g20)))]) hD hS hA [0, 1] rfl
  refine va_callv (va_runV (As := [.int (nI k), .int (nI 7), .long 0]) (rest := []) ⟨hx, hb, hml, hown, hts⟩ (c_lays l D _ h0 a cN tp sd pa pb dr k 7 g20 0 (by first | omega | assumption) (by first | omega | assumption)) (cwV 3 hts g_c_makes_c_lays_126 rfl rfl rfl (by decide +kernel) ⟨(Nat.le_of_ble_eq_true rfl), (Nat.le_of_ble_eq_true rfl)⟩) (PcW_V (q0 := 0) hPc hKc hDc rfl rfl) rfl rfl hl.1 rfl (lv_room (Nat.le_of_ble_eq_true rfl)) dX11_makes_15 ⟨(Nat.le_of_ble_eq_true rfl), (Nat.le_of_ble_eq_true rfl)⟩) hS (fun q _ h => hFc q h) hFc (fun uu tt H locs htt hvm hw hB hz1 hk1 hS => ?_)
  obtain ⟨g23, rfl⟩ : ∃ z, z = uu := ⟨_, rfl⟩
  obtain ⟨hP1, hK1, hD1⟩ := hB
  rw [htt] at hP1
  have hK1 := va_K.moved hvm.symm hK1
  have hP1 : va_P D vwCl [(h0, .inr (11, fM a tp sd pa pb dr)), (a 3, .inl (cN, 85, .inr (.inl g23)))] H := hP1
  obtain ⟨hP, hD⟩ := va_join (wr := []) (w1 := [(h0, .inr (11, fM a tp sd pa pb dr)), (a 3, .inl (cN, 85, .inr (.inl g23)))]) hP hD [0, 1] [] rfl rfl (by decide) (by decide) hk1 hFc hP1 hD1
  have hP : va_P D vwCl [(h0, .inr (11, fM a tp sd pa pb dr)), (a 3, .inl (cN, 85, .inr (.inl g23)))] H := hP
  have hD : va_D A [(h0, .inr (11, fM a tp sd pa pb dr)), (a 3, .inl (cN, 85, .inr (.inl g23)))] := hD
  try dsimp only at hw
  clear hz1 hk1 hFc hPc hKc hDc
  have hL24 := hw
  refine lv_iinc (v := 8) (lv' := [(7, .int 8), (0, .ref h0), (1, .int (nI k)), (2, .int z2), (3, .int z3), (4, .int z4), (5, .long y5)]) hx hb dX11_makes_18 hl (k := 0) rfl (by decide) (by decide) rfl (fun ls hl => ?_)
  refine lv_goto (tgt := 3) hx hb dX11_makes_21 (by decide) ?_
  refine lv_iload hx hb dX11_makes_3 (lv_at hl 0 rfl) ?_
  refine lv_bipush (v := 17) hx hb dX11_makes_5 (by decide) ?_
  refine lv_icmp_ge (tgt := 24) hx hb dX11_makes_7 (by decide) (fun hc => absurd hc (by decide)) (fun hc => ?_)
  refine lv_aload_n hx hb dX11_makes_10 rfl (lv_at hl 1 rfl) ?_
  refine lv_iload_n hx hb dX11_makes_11 rfl (lv_at hl 2 rfl) ?_
  refine lv_iload hx hb dX11_makes_12 (lv_at hl 0 rfl) ?_
  refine lv_lconst (v := 0) hx hb dX11_makes_14 (by decide) ?_
  have hPc := hP.sub (ws' := [(h0, .inr (11, fM a tp sd pa pb dr)), (a 3, .inl (cN, 85, .inr (.inl g23)))]) [0, 1] rfl
  have hKc := hK.sub (tys' := [(cN, .long)]) [0] rfl
  have hDc := hD.sub (ws' := [(h0, .inr (11, fM a tp sd pa pb dr)), (a 3, .inl (cN, 85, .inr (.inl g23)))]) [0, 1] (by decide) rfl
  have hFc := va_free (wc := [(h0, .inr (11, fM a tp sd pa pb dr)), (a 3, .inl (cN, 85, .inr (.inl g23)))]) hD hS hA [0, 1] rfl
  refine va_callv (va_runV (As := [.int (nI k), .int (nI 8), .long 0]) (rest := []) ⟨hx, hb, hml, hown, hts⟩ (c_lays l D _ h0 a cN tp sd pa pb dr k 8 g23 0 (by first | omega | assumption) (by first | omega | assumption)) (cwV 3 hts g_c_makes_c_lays_126 rfl rfl rfl (by decide +kernel) ⟨(Nat.le_of_ble_eq_true rfl), (Nat.le_of_ble_eq_true rfl)⟩) (PcW_V (q0 := 0) hPc hKc hDc rfl rfl) rfl rfl hl.1 rfl (lv_room (Nat.le_of_ble_eq_true rfl)) dX11_makes_15 ⟨(Nat.le_of_ble_eq_true rfl), (Nat.le_of_ble_eq_true rfl)⟩) hS (fun q _ h => hFc q h) hFc (fun uu tt H locs htt hvm hw hB hz1 hk1 hS => ?_)
  obtain ⟨g26, rfl⟩ : ∃ z, z = uu := ⟨_, rfl⟩
  obtain ⟨hP1, hK1, hD1⟩ := hB
  rw [htt] at hP1
  have hK1 := va_K.moved hvm.symm hK1
  have hP1 : va_P D vwCl [(h0, .inr (11, fM a tp sd pa pb dr)), (a 3, .inl (cN, 85, .inr (.inl g26)))] H := hP1
  obtain ⟨hP, hD⟩ := va_join (wr := []) (w1 := [(h0, .inr (11, fM a tp sd pa pb dr)), (a 3, .inl (cN, 85, .inr (.inl g26)))]) hP hD [0, 1] [] rfl rfl (by decide) (by decide) hk1 hFc hP1 hD1
  have hP : va_P D vwCl [(h0, .inr (11, fM a tp sd pa pb dr)), (a 3, .inl (cN, 85, .inr (.inl g26)))] H := hP
  have hD : va_D A [(h0, .inr (11, fM a tp sd pa pb dr)), (a 3, .inl (cN, 85, .inr (.inl g26)))] := hD
  try dsimp only at hw
  clear hz1 hk1 hFc hPc hKc hDc
  have hL27 := hw
  refine lv_iinc (v := 9) (lv' := [(7, .int 9), (0, .ref h0), (1, .int (nI k)), (2, .int z2), (3, .int z3), (4, .int z4), (5, .long y5)]) hx hb dX11_makes_18 hl (k := 0) rfl (by decide) (by decide) rfl (fun ls hl => ?_)
  refine lv_goto (tgt := 3) hx hb dX11_makes_21 (by decide) ?_
  refine lv_iload hx hb dX11_makes_3 (lv_at hl 0 rfl) ?_
  refine lv_bipush (v := 17) hx hb dX11_makes_5 (by decide) ?_
  refine lv_icmp_ge (tgt := 24) hx hb dX11_makes_7 (by decide) (fun hc => absurd hc (by decide)) (fun hc => ?_)
  refine lv_aload_n hx hb dX11_makes_10 rfl (lv_at hl 1 rfl) ?_
  refine lv_iload_n hx hb dX11_makes_11 rfl (lv_at hl 2 rfl) ?_
  refine lv_iload hx hb dX11_makes_12 (lv_at hl 0 rfl) ?_
  refine lv_lconst (v := 0) hx hb dX11_makes_14 (by decide) ?_
  have hPc := hP.sub (ws' := [(h0, .inr (11, fM a tp sd pa pb dr)), (a 3, .inl (cN, 85, .inr (.inl g26)))]) [0, 1] rfl
  have hKc := hK.sub (tys' := [(cN, .long)]) [0] rfl
  have hDc := hD.sub (ws' := [(h0, .inr (11, fM a tp sd pa pb dr)), (a 3, .inl (cN, 85, .inr (.inl g26)))]) [0, 1] (by decide) rfl
  have hFc := va_free (wc := [(h0, .inr (11, fM a tp sd pa pb dr)), (a 3, .inl (cN, 85, .inr (.inl g26)))]) hD hS hA [0, 1] rfl
  refine va_callv (va_runV (As := [.int (nI k), .int (nI 9), .long 0]) (rest := []) ⟨hx, hb, hml, hown, hts⟩ (c_lays l D _ h0 a cN tp sd pa pb dr k 9 g26 0 (by first | omega | assumption) (by first | omega | assumption)) (cwV 3 hts g_c_makes_c_lays_126 rfl rfl rfl (by decide +kernel) ⟨(Nat.le_of_ble_eq_true rfl), (Nat.le_of_ble_eq_true rfl)⟩) (PcW_V (q0 := 0) hPc hKc hDc rfl rfl) rfl rfl hl.1 rfl (lv_room (Nat.le_of_ble_eq_true rfl)) dX11_makes_15 ⟨(Nat.le_of_ble_eq_true rfl), (Nat.le_of_ble_eq_true rfl)⟩) hS (fun q _ h => hFc q h) hFc (fun uu tt H locs htt hvm hw hB hz1 hk1 hS => ?_)
  obtain ⟨g29, rfl⟩ : ∃ z, z = uu := ⟨_, rfl⟩
  obtain ⟨hP1, hK1, hD1⟩ := hB
  rw [htt] at hP1
  have hK1 := va_K.moved hvm.symm hK1
  have hP1 : va_P D vwCl [(h0, .inr (11, fM a tp sd pa pb dr)), (a 3, .inl (cN, 85, .inr (.inl g29)))] H := hP1
  obtain ⟨hP, hD⟩ := va_join (wr := []) (w1 := [(h0, .inr (11, fM a tp sd pa pb dr)), (a 3, .inl (cN, 85, .inr (.inl g29)))]) hP hD [0, 1] [] rfl rfl (by decide) (by decide) hk1 hFc hP1 hD1
  have hP : va_P D vwCl [(h0, .inr (11, fM a tp sd pa pb dr)), (a 3, .inl (cN, 85, .inr (.inl g29)))] H := hP
  have hD : va_D A [(h0, .inr (11, fM a tp sd pa pb dr)), (a 3, .inl (cN, 85, .inr (.inl g29)))] := hD
  try dsimp only at hw
  clear hz1 hk1 hFc hPc hKc hDc
  have hL30 := hw
  refine lv_iinc (v := 10) (lv' := [(7, .int 10), (0, .ref h0), (1, .int (nI k)), (2, .int z2), (3, .int z3), (4, .int z4), (5, .long y5)]) hx hb dX11_makes_18 hl (k := 0) rfl (by decide) (by decide) rfl (fun ls hl => ?_)
  refine lv_goto (tgt := 3) hx hb dX11_makes_21 (by decide) ?_
  refine lv_iload hx hb dX11_makes_3 (lv_at hl 0 rfl) ?_
  refine lv_bipush (v := 17) hx hb dX11_makes_5 (by decide) ?_
  refine lv_icmp_ge (tgt := 24) hx hb dX11_makes_7 (by decide) (fun hc => absurd hc (by decide)) (fun hc => ?_)
  refine lv_aload_n hx hb dX11_makes_10 rfl (lv_at hl 1 rfl) ?_
  refine lv_iload_n hx hb dX11_makes_11 rfl (lv_at hl 2 rfl) ?_
  refine lv_iload hx hb dX11_makes_12 (lv_at hl 0 rfl) ?_
  refine lv_lconst (v := 0) hx hb dX11_makes_14 (by decide) ?_
  have hPc := hP.sub (ws' := [(h0, .inr (11, fM a tp sd pa pb dr)), (a 3, .inl (cN, 85, .inr (.inl g29)))]) [0, 1] rfl
  have hKc := hK.sub (tys' := [(cN, .long)]) [0] rfl
  have hDc := hD.sub (ws' := [(h0, .inr (11, fM a tp sd pa pb dr)), (a 3, .inl (cN, 85, .inr (.inl g29)))]) [0, 1] (by decide) rfl
  have hFc := va_free (wc := [(h0, .inr (11, fM a tp sd pa pb dr)), (a 3, .inl (cN, 85, .inr (.inl g29)))]) hD hS hA [0, 1] rfl
  refine va_callv (va_runV (As := [.int (nI k), .int (nI 10), .long 0]) (rest := []) ⟨hx, hb, hml, hown, hts⟩ (c_lays l D _ h0 a cN tp sd pa pb dr k 10 g29 0 (by first | omega | assumption) (by first | omega | assumption)) (cwV 3 hts g_c_makes_c_lays_126 rfl rfl rfl (by decide +kernel) ⟨(Nat.le_of_ble_eq_true rfl), (Nat.le_of_ble_eq_true rfl)⟩) (PcW_V (q0 := 0) hPc hKc hDc rfl rfl) rfl rfl hl.1 rfl (lv_room (Nat.le_of_ble_eq_true rfl)) dX11_makes_15 ⟨(Nat.le_of_ble_eq_true rfl), (Nat.le_of_ble_eq_true rfl)⟩) hS (fun q _ h => hFc q h) hFc (fun uu tt H locs htt hvm hw hB hz1 hk1 hS => ?_)
  obtain ⟨g32, rfl⟩ : ∃ z, z = uu := ⟨_, rfl⟩
  obtain ⟨hP1, hK1, hD1⟩ := hB
  rw [htt] at hP1
  have hK1 := va_K.moved hvm.symm hK1
  have hP1 : va_P D vwCl [(h0, .inr (11, fM a tp sd pa pb dr)), (a 3, .inl (cN, 85, .inr (.inl g32)))] H := hP1
  obtain ⟨hP, hD⟩ := va_join (wr := []) (w1 := [(h0, .inr (11, fM a tp sd pa pb dr)), (a 3, .inl (cN, 85, .inr (.inl g32)))]) hP hD [0, 1] [] rfl rfl (by decide) (by decide) hk1 hFc hP1 hD1
  have hP : va_P D vwCl [(h0, .inr (11, fM a tp sd pa pb dr)), (a 3, .inl (cN, 85, .inr (.inl g32)))] H := hP
  have hD : va_D A [(h0, .inr (11, fM a tp sd pa pb dr)), (a 3, .inl (cN, 85, .inr (.inl g32)))] := hD
  try dsimp only at hw
  clear hz1 hk1 hFc hPc hKc hDc
  have hL33 := hw
  refine lv_iinc (v := 11) (lv' := [(7, .int 11), (0, .ref h0), (1, .int (nI k)), (2, .int z2), (3, .int z3), (4, .int z4), (5, .long y5)]) hx hb dX11_makes_18 hl (k := 0) rfl (by decide) (by decide) rfl (fun ls hl => ?_)
  refine lv_goto (tgt := 3) hx hb dX11_makes_21 (by decide) ?_
  refine lv_iload hx hb dX11_makes_3 (lv_at hl 0 rfl) ?_
  refine lv_bipush (v := 17) hx hb dX11_makes_5 (by decide) ?_
  refine lv_icmp_ge (tgt := 24) hx hb dX11_makes_7 (by decide) (fun hc => absurd hc (by decide)) (fun hc => ?_)
  refine lv_aload_n hx hb dX11_makes_10 rfl (lv_at hl 1 rfl) ?_
  refine lv_iload_n hx hb dX11_makes_11 rfl (lv_at hl 2 rfl) ?_
  refine lv_iload hx hb dX11_makes_12 (lv_at hl 0 rfl) ?_
  refine lv_lconst (v := 0) hx hb dX11_makes_14 (by decide) ?_
  have hPc := hP.sub (ws' := [(h0, .inr (11, fM a tp sd pa pb dr)), (a 3, .inl (cN, 85, .inr (.inl g32)))]) [0, 1] rfl
  have hKc := hK.sub (tys' := [(cN, .long)]) [0] rfl
  have hDc := hD.sub (ws' := [(h0, .inr (11, fM a tp sd pa pb dr)), (a 3, .inl (cN, 85, .inr (.inl g32)))]) [0, 1] (by decide) rfl
  have hFc := va_free (wc := [(h0, .inr (11, fM a tp sd pa pb dr)), (a 3, .inl (cN, 85, .inr (.inl g32)))]) hD hS hA [0, 1] rfl
  refine va_callv (va_runV (As := [.int (nI k), .int (nI 11), .long 0]) (rest := []) ⟨hx, hb, hml, hown, hts⟩ (c_lays l D _ h0 a cN tp sd pa pb dr k 11 g32 0 (by first | omega | assumption) (by first | omega | assumption)) (cwV 3 hts g_c_makes_c_lays_126 rfl rfl rfl (by decide +kernel) ⟨(Nat.le_of_ble_eq_true rfl), (Nat.le_of_ble_eq_true rfl)⟩) (PcW_V (q0 := 0) hPc hKc hDc rfl rfl) rfl rfl hl.1 rfl (lv_room (Nat.le_of_ble_eq_true rfl)) dX11_makes_15 ⟨(Nat.le_of_ble_eq_true rfl), (Nat.le_of_ble_eq_true rfl)⟩) hS (fun q _ h => hFc q h) hFc (fun uu tt H locs htt hvm hw hB hz1 hk1 hS => ?_)
  obtain ⟨g35, rfl⟩ : ∃ z, z = uu := ⟨_, rfl⟩
  obtain ⟨hP1, hK1, hD1⟩ := hB
  rw [htt] at hP1
  have hK1 := va_K.moved hvm.symm hK1
  have hP1 : va_P D vwCl [(h0, .inr (11, fM a tp sd pa pb dr)), (a 3, .inl (cN, 85, .inr (.inl g35)))] H := hP1
  obtain ⟨hP, hD⟩ := va_join (wr := []) (w1 := [(h0, .inr (11, fM a tp sd pa pb dr)), (a 3, .inl (cN, 85, .inr (.inl g35)))]) hP hD [0, 1] [] rfl rfl (by decide) (by decide) hk1 hFc hP1 hD1
  have hP : va_P D vwCl [(h0, .inr (11, fM a tp sd pa pb dr)), (a 3, .inl (cN, 85, .inr (.inl g35)))] H := hP
  have hD : va_D A [(h0, .inr (11, fM a tp sd pa pb dr)), (a 3, .inl (cN, 85, .inr (.inl g35)))] := hD
  try dsimp only at hw
  clear hz1 hk1 hFc hPc hKc hDc
  have hL36 := hw
  refine lv_iinc (v := 12) (lv' := [(7, .int 12), (0, .ref h0), (1, .int (nI k)), (2, .int z2), (3, .int z3), (4, .int z4), (5, .long y5)]) hx hb dX11_makes_18 hl (k := 0) rfl (by decide) (by decide) rfl (fun ls hl => ?_)
  refine lv_goto (tgt := 3) hx hb dX11_makes_21 (by decide) ?_
  refine lv_iload hx hb dX11_makes_3 (lv_at hl 0 rfl) ?_
  refine lv_bipush (v := 17) hx hb dX11_makes_5 (by decide) ?_
  refine lv_icmp_ge (tgt := 24) hx hb dX11_makes_7 (by decide) (fun hc => absurd hc (by decide)) (fun hc => ?_)
  refine lv_aload_n hx hb dX11_makes_10 rfl (lv_at hl 1 rfl) ?_
  refine lv_iload_n hx hb dX11_makes_11 rfl (lv_at hl 2 rfl) ?_
  refine lv_iload hx hb dX11_makes_12 (lv_at hl 0 rfl) ?_
  refine lv_lconst (v := 0) hx hb dX11_makes_14 (by decide) ?_
  have hPc := hP.sub (ws' := [(h0, .inr (11, fM a tp sd pa pb dr)), (a 3, .inl (cN, 85, .inr (.inl g35)))]) [0, 1] rfl
  have hKc := hK.sub (tys' := [(cN, .long)]) [0] rfl
  have hDc := hD.sub (ws' := [(h0, .inr (11, fM a tp sd pa pb dr)), (a 3, .inl (cN, 85, .inr (.inl g35)))]) [0, 1] (by decide) rfl
  have hFc := va_free (wc := [(h0, .inr (11, fM a tp sd pa pb dr)), (a 3, .inl (cN, 85, .inr (.inl g35)))]) hD hS hA [0, 1] rfl
  refine va_callv (va_runV (As := [.int (nI k), .int (nI 12), .long 0]) (rest := []) ⟨hx, hb, hml, hown, hts⟩ (c_lays l D _ h0 a cN tp sd pa pb dr k 12 g35 0 (by first | omega | assumption) (by first | omega | assumption)) (cwV 3 hts g_c_makes_c_lays_126 rfl rfl rfl (by decide +kernel) ⟨(Nat.le_of_ble_eq_true rfl), (Nat.le_of_ble_eq_true rfl)⟩) (PcW_V (q0 := 0) hPc hKc hDc rfl rfl) rfl rfl hl.1 rfl (lv_room (Nat.le_of_ble_eq_true rfl)) dX11_makes_15 ⟨(Nat.le_of_ble_eq_true rfl), (Nat.le_of_ble_eq_true rfl)⟩) hS (fun q _ h => hFc q h) hFc (fun uu tt H locs htt hvm hw hB hz1 hk1 hS => ?_)
  obtain ⟨g38, rfl⟩ : ∃ z, z = uu := ⟨_, rfl⟩
  obtain ⟨hP1, hK1, hD1⟩ := hB
  rw [htt] at hP1
  have hK1 := va_K.moved hvm.symm hK1
  have hP1 : va_P D vwCl [(h0, .inr (11, fM a tp sd pa pb dr)), (a 3, .inl (cN, 85, .inr (.inl g38)))] H := hP1
  obtain ⟨hP, hD⟩ := va_join (wr := []) (w1 := [(h0, .inr (11, fM a tp sd pa pb dr)), (a 3, .inl (cN, 85, .inr (.inl g38)))]) hP hD [0, 1] [] rfl rfl (by decide) (by decide) hk1 hFc hP1 hD1
  have hP : va_P D vwCl [(h0, .inr (11, fM a tp sd pa pb dr)), (a 3, .inl (cN, 85, .inr (.inl g38)))] H := hP
  have hD : va_D A [(h0, .inr (11, fM a tp sd pa pb dr)), (a 3, .inl (cN, 85, .inr (.inl g38)))] := hD
  try dsimp only at hw
  clear hz1 hk1 hFc hPc hKc hDc
  have hL39 := hw
  refine lv_iinc (v := 13) (lv' := [(7, .int 13), (0, .ref h0), (1, .int (nI k)), (2, .int z2), (3, .int z3), (4, .int z4), (5, .long y5)]) hx hb dX11_makes_18 hl (k := 0) rfl (by decide) (by decide) rfl (fun ls hl => ?_)
  refine lv_goto (tgt := 3) hx hb dX11_makes_21 (by decide) ?_
  refine lv_iload hx hb dX11_makes_3 (lv_at hl 0 rfl) ?_
  refine lv_bipush (v := 17) hx hb dX11_makes_5 (by decide) ?_
  refine lv_icmp_ge (tgt := 24) hx hb dX11_makes_7 (by decide) (fun hc => absurd hc (by decide)) (fun hc => ?_)
  refine lv_aload_n hx hb dX11_makes_10 rfl (lv_at hl 1 rfl) ?_
  refine lv_iload_n hx hb dX11_makes_11 rfl (lv_at hl 2 rfl) ?_
  refine lv_iload hx hb dX11_makes_12 (lv_at hl 0 rfl) ?_
  refine lv_lconst (v := 0) hx hb dX11_makes_14 (by decide) ?_
  have hPc := hP.sub (ws' := [(h0, .inr (11, fM a tp sd pa pb dr)), (a 3, .inl (cN, 85, .inr (.inl g38)))]) [0, 1] rfl
  have hKc := hK.sub (tys' := [(cN, .long)]) [0] rfl
  have hDc := hD.sub (ws' := [(h0, .inr (11, fM a tp sd pa pb dr)), (a 3, .inl (cN, 85, .inr (.inl g38)))]) [0, 1] (by decide) rfl
  have hFc := va_free (wc := [(h0, .inr (11, fM a tp sd pa pb dr)), (a 3, .inl (cN, 85, .inr (.inl g38)))]) hD hS hA [0, 1] rfl
  refine va_callv (va_runV (As := [.int (nI k), .int (nI 13), .long 0]) (rest := []) ⟨hx, hb, hml, hown, hts⟩ (c_lays l D _ h0 a cN tp sd pa pb dr k 13 g38 0 (by first | omega | assumption) (by first | omega | assumption)) (cwV 3 hts g_c_makes_c_lays_126 rfl rfl rfl (by decide +kernel) ⟨(Nat.le_of_ble_eq_true rfl), (Nat.le_of_ble_eq_true rfl)⟩) (PcW_V (q0 := 0) hPc hKc hDc rfl rfl) rfl rfl hl.1 rfl (lv_room (Nat.le_of_ble_eq_true rfl)) dX11_makes_15 ⟨(Nat.le_of_ble_eq_true rfl), (Nat.le_of_ble_eq_true rfl)⟩) hS (fun q _ h => hFc q h) hFc (fun uu tt H locs htt hvm hw hB hz1 hk1 hS => ?_)
  obtain ⟨g41, rfl⟩ : ∃ z, z = uu := ⟨_, rfl⟩
  obtain ⟨hP1, hK1, hD1⟩ := hB
  rw [htt] at hP1
  have hK1 := va_K.moved hvm.symm hK1
  have hP1 : va_P D vwCl [(h0, .inr (11, fM a tp sd pa pb dr)), (a 3, .inl (cN, 85, .inr (.inl g41)))] H := hP1
  obtain ⟨hP, hD⟩ := va_join (wr := []) (w1 := [(h0, .inr (11, fM a tp sd pa pb dr)), (a 3, .inl (cN, 85, .inr (.inl g41)))]) hP hD [0, 1] [] rfl rfl (by decide) (by decide) hk1 hFc hP1 hD1
  have hP : va_P D vwCl [(h0, .inr (11, fM a tp sd pa pb dr)), (a 3, .inl (cN, 85, .inr (.inl g41)))] H := hP
  have hD : va_D A [(h0, .inr (11, fM a tp sd pa pb dr)), (a 3, .inl (cN, 85, .inr (.inl g41)))] := hD
  try dsimp only at hw
  clear hz1 hk1 hFc hPc hKc hDc
  have hL42 := hw
  refine lv_iinc (v := 14) (lv' := [(7, .int 14), (0, .ref h0), (1, .int (nI k)), (2, .int z2), (3, .int z3), (4, .int z4), (5, .long y5)]) hx hb dX11_makes_18 hl (k := 0) rfl (by decide) (by decide) rfl (fun ls hl => ?_)
  refine lv_goto (tgt := 3) hx hb dX11_makes_21 (by decide) ?_
  refine lv_iload hx hb dX11_makes_3 (lv_at hl 0 rfl) ?_
  refine lv_bipush (v := 17) hx hb dX11_makes_5 (by decide) ?_
  refine lv_icmp_ge (tgt := 24) hx hb dX11_makes_7 (by decide) (fun hc => absurd hc (by decide)) (fun hc => ?_)
  refine lv_aload_n hx hb dX11_makes_10 rfl (lv_at hl 1 rfl) ?_
  refine lv_iload_n hx hb dX11_makes_11 rfl (lv_at hl 2 rfl) ?_
  refine lv_iload hx hb dX11_makes_12 (lv_at hl 0 rfl) ?_
  refine lv_lconst (v := 0) hx hb dX11_makes_14 (by decide) ?_
  have hPc := hP.sub (ws' := [(h0, .inr (11, fM a tp sd pa pb dr)), (a 3, .inl (cN, 85, .inr (.inl g41)))]) [0, 1] rfl
  have hKc := hK.sub (tys' := [(cN, .long)]) [0] rfl
  have hDc := hD.sub (ws' := [(h0, .inr (11, fM a tp sd pa pb dr)), (a 3, .inl (cN, 85, .inr (.inl g41)))]) [0, 1] (by decide) rfl
  have hFc := va_free (wc := [(h0, .inr (11, fM a tp sd pa pb dr)), (a 3, .inl (cN, 85, .inr (.inl g41)))]) hD hS hA [0, 1] rfl
  refine va_callv (va_runV (As := [.int (nI k), .int (nI 14), .long 0]) (rest := []) ⟨hx, hb, hml, hown, hts⟩ (c_lays l D _ h0 a cN tp sd pa pb dr k 14 g41 0 (by first | omega | assumption) (by first | omega | assumption)) (cwV 3 hts g_c_makes_c_lays_126 rfl rfl rfl (by decide +kernel) ⟨(Nat.le_of_ble_eq_true rfl), (Nat.le_of_ble_eq_true rfl)⟩) (PcW_V (q0 := 0) hPc hKc hDc rfl rfl) rfl rfl hl.1 rfl (lv_room (Nat.le_of_ble_eq_true rfl)) dX11_makes_15 ⟨(Nat.le_of_ble_eq_true rfl), (Nat.le_of_ble_eq_true rfl)⟩) hS (fun q _ h => hFc q h) hFc (fun uu tt H locs htt hvm hw hB hz1 hk1 hS => ?_)
  obtain ⟨g44, rfl⟩ : ∃ z, z = uu := ⟨_, rfl⟩
  obtain ⟨hP1, hK1, hD1⟩ := hB
  rw [htt] at hP1
  have hK1 := va_K.moved hvm.symm hK1
  have hP1 : va_P D vwCl [(h0, .inr (11, fM a tp sd pa pb dr)), (a 3, .inl (cN, 85, .inr (.inl g44)))] H := hP1
  obtain ⟨hP, hD⟩ := va_join (wr := []) (w1 := [(h0, .inr (11, fM a tp sd pa pb dr)), (a 3, .inl (cN, 85, .inr (.inl g44)))]) hP hD [0, 1] [] rfl rfl (by decide) (by decide) hk1 hFc hP1 hD1
  have hP : va_P D vwCl [(h0, .inr (11, fM a tp sd pa pb dr)), (a 3, .inl (cN, 85, .inr (.inl g44)))] H := hP
  have hD : va_D A [(h0, .inr (11, fM a tp sd pa pb dr)), (a 3, .inl (cN, 85, .inr (.inl g44)))] := hD
  try dsimp only at hw
  clear hz1 hk1 hFc hPc hKc hDc
  have hL45 := hw
  refine lv_iinc (v := 15) (lv' := [(7, .int 15), (0, .ref h0), (1, .int (nI k)), (2, .int z2), (3, .int z3), (4, .int z4), (5, .long y5)]) hx hb dX11_makes_18 hl (k := 0) rfl (by decide) (by decide) rfl (fun ls hl => ?_)
  refine lv_goto (tgt := 3) hx hb dX11_makes_21 (by decide) ?_
  refine lv_iload hx hb dX11_makes_3 (lv_at hl 0 rfl) ?_
  refine lv_bipush (v := 17) hx hb dX11_makes_5 (by decide) ?_
  refine lv_icmp_ge (tgt := 24) hx hb dX11_makes_7 (by decide) (fun hc => absurd hc (by decide)) (fun hc => ?_)
  refine lv_aload_n hx hb dX11_makes_10 rfl (lv_at hl 1 rfl) ?_
  refine lv_iload_n hx hb dX11_makes_11 rfl (lv_at hl 2 rfl) ?_
  refine lv_iload hx hb dX11_makes_12 (lv_at hl 0 rfl) ?_
  refine lv_lconst (v := 0) hx hb dX11_makes_14 (by decide) ?_
  have hPc := hP.sub (ws' := [(h0, .inr (11, fM a tp sd pa pb dr)), (a 3, .inl (cN, 85, .inr (.inl g44)))]) [0, 1] rfl
  have hKc := hK.sub (tys' := [(cN, .long)]) [0] rfl
  have hDc := hD.sub (ws' := [(h0, .inr (11, fM a tp sd pa pb dr)), (a 3, .inl (cN, 85, .inr (.inl g44)))]) [0, 1] (by decide) rfl
  have hFc := va_free (wc := [(h0, .inr (11, fM a tp sd pa pb dr)), (a 3, .inl (cN, 85, .inr (.inl g44)))]) hD hS hA [0, 1] rfl
  refine va_callv (va_runV (As := [.int (nI k), .int (nI 15), .long 0]) (rest := []) ⟨hx, hb, hml, hown, hts⟩ (c_lays l D _ h0 a cN tp sd pa pb dr k 15 g44 0 (by first | omega | assumption) (by first | omega | assumption)) (cwV 3 hts g_c_makes_c_lays_126 rfl rfl rfl (by decide +kernel) ⟨(Nat.le_of_ble_eq_true rfl), (Nat.le_of_ble_eq_true rfl)⟩) (PcW_V (q0 := 0) hPc hKc hDc rfl rfl) rfl rfl hl.1 rfl (lv_room (Nat.le_of_ble_eq_true rfl)) dX11_makes_15 ⟨(Nat.le_of_ble_eq_true rfl), (Nat.le_of_ble_eq_true rfl)⟩) hS (fun q _ h => hFc q h) hFc (fun uu tt H locs htt hvm hw hB hz1 hk1 hS => ?_)
  obtain ⟨g47, rfl⟩ : ∃ z, z = uu := ⟨_, rfl⟩
  obtain ⟨hP1, hK1, hD1⟩ := hB
  rw [htt] at hP1
  have hK1 := va_K.moved hvm.symm hK1
  have hP1 : va_P D vwCl [(h0, .inr (11, fM a tp sd pa pb dr)), (a 3, .inl (cN, 85, .inr (.inl g47)))] H := hP1
  obtain ⟨hP, hD⟩ := va_join (wr := []) (w1 := [(h0, .inr (11, fM a tp sd pa pb dr)), (a 3, .inl (cN, 85, .inr (.inl g47)))]) hP hD [0, 1] [] rfl rfl (by decide) (by decide) hk1 hFc hP1 hD1
  have hP : va_P D vwCl [(h0, .inr (11, fM a tp sd pa pb dr)), (a 3, .inl (cN, 85, .inr (.inl g47)))] H := hP
  have hD : va_D A [(h0, .inr (11, fM a tp sd pa pb dr)), (a 3, .inl (cN, 85, .inr (.inl g47)))] := hD
  try dsimp only at hw
  clear hz1 hk1 hFc hPc hKc hDc
  have hL48 := hw
  refine lv_iinc (v := 16) (lv' := [(7, .int 16), (0, .ref h0), (1, .int (nI k)), (2, .int z2), (3, .int z3), (4, .int z4), (5, .long y5)]) hx hb dX11_makes_18 hl (k := 0) rfl (by decide) (by decide) rfl (fun ls hl => ?_)
  refine lv_goto (tgt := 3) hx hb dX11_makes_21 (by decide) ?_
  refine lv_iload hx hb dX11_makes_3 (lv_at hl 0 rfl) ?_
  refine lv_bipush (v := 17) hx hb dX11_makes_5 (by decide) ?_
  refine lv_icmp_ge (tgt := 24) hx hb dX11_makes_7 (by decide) (fun hc => absurd hc (by decide)) (fun hc => ?_)
  refine lv_aload_n hx hb dX11_makes_10 rfl (lv_at hl 1 rfl) ?_
  refine lv_iload_n hx hb dX11_makes_11 rfl (lv_at hl 2 rfl) ?_
  refine lv_iload hx hb dX11_makes_12 (lv_at hl 0 rfl) ?_
  refine lv_lconst (v := 0) hx hb dX11_makes_14 (by decide) ?_
  have hPc := hP.sub (ws' := [(h0, .inr (11, fM a tp sd pa pb dr)), (a 3, .inl (cN, 85, .inr (.inl g47)))]) [0, 1] rfl
  have hKc := hK.sub (tys' := [(cN, .long)]) [0] rfl
  have hDc := hD.sub (ws' := [(h0, .inr (11, fM a tp sd pa pb dr)), (a 3, .inl (cN, 85, .inr (.inl g47)))]) [0, 1] (by decide) rfl
  have hFc := va_free (wc := [(h0, .inr (11, fM a tp sd pa pb dr)), (a 3, .inl (cN, 85, .inr (.inl g47)))]) hD hS hA [0, 1] rfl
  refine va_callv (va_runV (As := [.int (nI k), .int (nI 16), .long 0]) (rest := []) ⟨hx, hb, hml, hown, hts⟩ (c_lays l D _ h0 a cN tp sd pa pb dr k 16 g47 0 (by first | omega | assumption) (by first | omega | assumption)) (cwV 3 hts g_c_makes_c_lays_126 rfl rfl rfl (by decide +kernel) ⟨(Nat.le_of_ble_eq_true rfl), (Nat.le_of_ble_eq_true rfl)⟩) (PcW_V (q0 := 0) hPc hKc hDc rfl rfl) rfl rfl hl.1 rfl (lv_room (Nat.le_of_ble_eq_true rfl)) dX11_makes_15 ⟨(Nat.le_of_ble_eq_true rfl), (Nat.le_of_ble_eq_true rfl)⟩) hS (fun q _ h => hFc q h) hFc (fun uu tt H locs htt hvm hw hB hz1 hk1 hS => ?_)
  obtain ⟨g50, rfl⟩ : ∃ z, z = uu := ⟨_, rfl⟩
  obtain ⟨hP1, hK1, hD1⟩ := hB
  rw [htt] at hP1
  have hK1 := va_K.moved hvm.symm hK1
  have hP1 : va_P D vwCl [(h0, .inr (11, fM a tp sd pa pb dr)), (a 3, .inl (cN, 85, .inr (.inl g50)))] H := hP1
  obtain ⟨hP, hD⟩ := va_join (wr := []) (w1 := [(h0, .inr (11, fM a tp sd pa pb dr)), (a 3, .inl (cN, 85, .inr (.inl g50)))]) hP hD [0, 1] [] rfl rfl (by decide) (by decide) hk1 hFc hP1 hD1
  have hP : va_P D vwCl [(h0, .inr (11, fM a tp sd pa pb dr)), (a 3, .inl (cN, 85, .inr (.inl g50)))] H := hP
  have hD : va_D A [(h0, .inr (11, fM a tp sd pa pb dr)), (a 3, .inl (cN, 85, .inr (.inl g50)))] := hD
  try dsimp only at hw
  clear hz1 hk1 hFc hPc hKc hDc
  have hL51 := hw
  refine lv_iinc (v := 17) (lv' := [(7, .int 17), (0, .ref h0), (1, .int (nI k)), (2, .int z2), (3, .int z3), (4, .int z4), (5, .long y5)]) hx hb dX11_makes_18 hl (k := 0) rfl (by decide) (by decide) rfl (fun ls hl => ?_)
  refine lv_goto (tgt := 3) hx hb dX11_makes_21 (by decide) ?_
  refine lv_iload hx hb dX11_makes_3 (lv_at hl 0 rfl) ?_
  refine lv_bipush (v := 17) hx hb dX11_makes_5 (by decide) ?_
  refine lv_icmp_ge (tgt := 24) hx hb dX11_makes_7 (by decide) (fun hc => ?_) (fun hc => absurd (by decide) hc)
  refine lv_aload_n hx hb dX11_makes_24 rfl (lv_at hl 1 rfl) ?_
  refine lv_iload_n hx hb dX11_makes_25 rfl (lv_at hl 2 rfl) ?_
  refine lv_iconst (v := 0) hx hb dX11_makes_26 (by decide) ?_
  refine lv_lconst (v := 1) hx hb dX11_makes_27 (by decide) ?_
  have hPc := hP.sub (ws' := [(h0, .inr (11, fM a tp sd pa pb dr)), (a 3, .inl (cN, 85, .inr (.inl g50)))]) [0, 1] rfl
  have hKc := hK.sub (tys' := [(cN, .long)]) [0] rfl
  have hDc := hD.sub (ws' := [(h0, .inr (11, fM a tp sd pa pb dr)), (a 3, .inl (cN, 85, .inr (.inl g50)))]) [0, 1] (by decide) rfl
  have hFc := va_free (wc := [(h0, .inr (11, fM a tp sd pa pb dr)), (a 3, .inl (cN, 85, .inr (.inl g50)))]) hD hS hA [0, 1] rfl
  refine va_callv (va_runV (As := [.int (nI k), .int (nI 0), .long 1]) (rest := []) ⟨hx, hb, hml, hown, hts⟩ (c_lays l D _ h0 a cN tp sd pa pb dr k 0 g50 1 (by first | omega | assumption) (by first | omega | assumption)) (cwV 3 hts g_c_makes_c_lays_126 rfl rfl rfl (by decide +kernel) ⟨(Nat.le_of_ble_eq_true rfl), (Nat.le_of_ble_eq_true rfl)⟩) (PcW_V (q0 := 0) hPc hKc hDc rfl rfl) rfl rfl hl.1 rfl (lv_room (Nat.le_of_ble_eq_true rfl)) dX11_makes_28 ⟨(Nat.le_of_ble_eq_true rfl), (Nat.le_of_ble_eq_true rfl)⟩) hS (fun q _ h => hFc q h) hFc (fun uu tt H locs htt hvm hw hB hz1 hk1 hS => ?_)
  obtain ⟨g53, rfl⟩ : ∃ z, z = uu := ⟨_, rfl⟩
  obtain ⟨hP1, hK1, hD1⟩ := hB
  rw [htt] at hP1
  have hK1 := va_K.moved hvm.symm hK1
  have hP1 : va_P D vwCl [(h0, .inr (11, fM a tp sd pa pb dr)), (a 3, .inl (cN, 85, .inr (.inl g53)))] H := hP1
  obtain ⟨hP, hD⟩ := va_join (wr := []) (w1 := [(h0, .inr (11, fM a tp sd pa pb dr)), (a 3, .inl (cN, 85, .inr (.inl g53)))]) hP hD [0, 1] [] rfl rfl (by decide) (by decide) hk1 hFc hP1 hD1
  have hP : va_P D vwCl [(h0, .inr (11, fM a tp sd pa pb dr)), (a 3, .inl (cN, 85, .inr (.inl g53)))] H := hP
  have hD : va_D A [(h0, .inr (11, fM a tp sd pa pb dr)), (a 3, .inl (cN, 85, .inr (.inl g53)))] := hD
  try dsimp only at hw
  clear hz1 hk1 hFc hPc hKc hDc
  have hL54 := hw
  refine lv_aload_n hx hb dX11_makes_31 rfl (lv_at hl 1 rfl) ?_
  refine lv_iload_n hx hb dX11_makes_32 rfl (lv_at hl 2 rfl) ?_
  refine lv_bipush (v := 14) hx hb dX11_makes_33 (by decide) ?_
  refine lv_iload_n hx hb dX11_makes_35 rfl (lv_at hl 3 rfl) ?_
  refine lv_i2l hx hb dX11_makes_36 rfl ?_
  have hPc := hP.sub (ws' := [(h0, .inr (11, fM a tp sd pa pb dr)), (a 3, .inl (cN, 85, .inr (.inl g53)))]) [0, 1] rfl
  have hKc := hK.sub (tys' := [(cN, .long)]) [0] rfl
  have hDc := hD.sub (ws' := [(h0, .inr (11, fM a tp sd pa pb dr)), (a 3, .inl (cN, 85, .inr (.inl g53)))]) [0, 1] (by decide) rfl
  have hFc := va_free (wc := [(h0, .inr (11, fM a tp sd pa pb dr)), (a 3, .inl (cN, 85, .inr (.inl g53)))]) hD hS hA [0, 1] rfl
  refine va_callv (va_runV (As := [.int (nI k), .int (nI 14), .long (Int32.toInt64 z2)]) (rest := []) ⟨hx, hb, hml, hown, hts⟩ (c_lays l D _ h0 a cN tp sd pa pb dr k 14 g53 (Int32.toInt64 z2) (by first | omega | assumption) (by first | omega | assumption)) (cwV 3 hts g_c_makes_c_lays_126 rfl rfl rfl (by decide +kernel) ⟨(Nat.le_of_ble_eq_true rfl), (Nat.le_of_ble_eq_true rfl)⟩) (PcW_V (q0 := 0) hPc hKc hDc rfl rfl) rfl rfl hl.1 rfl (lv_room (Nat.le_of_ble_eq_true rfl)) dX11_makes_37 ⟨(Nat.le_of_ble_eq_true rfl), (Nat.le_of_ble_eq_true rfl)⟩) hS (fun q _ h => hFc q h) hFc (fun uu tt H locs htt hvm hw hB hz1 hk1 hS => ?_)
  obtain ⟨g56, rfl⟩ : ∃ z, z = uu := ⟨_, rfl⟩
  obtain ⟨hP1, hK1, hD1⟩ := hB
  rw [htt] at hP1
  have hK1 := va_K.moved hvm.symm hK1
  have hP1 : va_P D vwCl [(h0, .inr (11, fM a tp sd pa pb dr)), (a 3, .inl (cN, 85, .inr (.inl g56)))] H := hP1
  obtain ⟨hP, hD⟩ := va_join (wr := []) (w1 := [(h0, .inr (11, fM a tp sd pa pb dr)), (a 3, .inl (cN, 85, .inr (.inl g56)))]) hP hD [0, 1] [] rfl rfl (by decide) (by decide) hk1 hFc hP1 hD1
  have hP : va_P D vwCl [(h0, .inr (11, fM a tp sd pa pb dr)), (a 3, .inl (cN, 85, .inr (.inl g56)))] H := hP
  have hD : va_D A [(h0, .inr (11, fM a tp sd pa pb dr)), (a 3, .inl (cN, 85, .inr (.inl g56)))] := hD
  try dsimp only at hw
  clear hz1 hk1 hFc hPc hKc hDc
  have hL57 := hw
  refine lv_aload_n hx hb dX11_makes_40 rfl (lv_at hl 1 rfl) ?_
  refine lv_iload_n hx hb dX11_makes_41 rfl (lv_at hl 2 rfl) ?_
  refine lv_bipush (v := 15) hx hb dX11_makes_42 (by decide) ?_
  refine lv_iload_n hx hb dX11_makes_44 rfl (lv_at hl 4 rfl) ?_
  refine lv_i2l hx hb dX11_makes_45 rfl ?_
  have hPc := hP.sub (ws' := [(h0, .inr (11, fM a tp sd pa pb dr)), (a 3, .inl (cN, 85, .inr (.inl g56)))]) [0, 1] rfl
  have hKc := hK.sub (tys' := [(cN, .long)]) [0] rfl
  have hDc := hD.sub (ws' := [(h0, .inr (11, fM a tp sd pa pb dr)), (a 3, .inl (cN, 85, .inr (.inl g56)))]) [0, 1] (by decide) rfl
  have hFc := va_free (wc := [(h0, .inr (11, fM a tp sd pa pb dr)), (a 3, .inl (cN, 85, .inr (.inl g56)))]) hD hS hA [0, 1] rfl
  refine va_callv (va_runV (As := [.int (nI k), .int (nI 15), .long (Int32.toInt64 z3)]) (rest := []) ⟨hx, hb, hml, hown, hts⟩ (c_lays l D _ h0 a cN tp sd pa pb dr k 15 g56 (Int32.toInt64 z3) (by first | omega | assumption) (by first | omega | assumption)) (cwV 3 hts g_c_makes_c_lays_126 rfl rfl rfl (by decide +kernel) ⟨(Nat.le_of_ble_eq_true rfl), (Nat.le_of_ble_eq_true rfl)⟩) (PcW_V (q0 := 0) hPc hKc hDc rfl rfl) rfl rfl hl.1 rfl (lv_room (Nat.le_of_ble_eq_true rfl)) dX11_makes_46 ⟨(Nat.le_of_ble_eq_true rfl), (Nat.le_of_ble_eq_true rfl)⟩) hS (fun q _ h => hFc q h) hFc (fun uu tt H locs htt hvm hw hB hz1 hk1 hS => ?_)
  obtain ⟨g59, rfl⟩ : ∃ z, z = uu := ⟨_, rfl⟩
  obtain ⟨hP1, hK1, hD1⟩ := hB
  rw [htt] at hP1
  have hK1 := va_K.moved hvm.symm hK1
  have hP1 : va_P D vwCl [(h0, .inr (11, fM a tp sd pa pb dr)), (a 3, .inl (cN, 85, .inr (.inl g59)))] H := hP1
  obtain ⟨hP, hD⟩ := va_join (wr := []) (w1 := [(h0, .inr (11, fM a tp sd pa pb dr)), (a 3, .inl (cN, 85, .inr (.inl g59)))]) hP hD [0, 1] [] rfl rfl (by decide) (by decide) hk1 hFc hP1 hD1
  have hP : va_P D vwCl [(h0, .inr (11, fM a tp sd pa pb dr)), (a 3, .inl (cN, 85, .inr (.inl g59)))] H := hP
  have hD : va_D A [(h0, .inr (11, fM a tp sd pa pb dr)), (a 3, .inl (cN, 85, .inr (.inl g59)))] := hD
  try dsimp only at hw
  clear hz1 hk1 hFc hPc hKc hDc
  have hL60 := hw
  refine lv_aload_n hx hb dX11_makes_49 rfl (lv_at hl 1 rfl) ?_
  refine lv_iload_n hx hb dX11_makes_50 rfl (lv_at hl 2 rfl) ?_
  refine lv_bipush (v := 16) hx hb dX11_makes_51 (by decide) ?_
  refine lv_iload hx hb dX11_makes_53 (lv_at hl 5 rfl) ?_
  refine lv_i2l hx hb dX11_makes_55 rfl ?_
  have hPc := hP.sub (ws' := [(h0, .inr (11, fM a tp sd pa pb dr)), (a 3, .inl (cN, 85, .inr (.inl g59)))]) [0, 1] rfl
  have hKc := hK.sub (tys' := [(cN, .long)]) [0] rfl
  have hDc := hD.sub (ws' := [(h0, .inr (11, fM a tp sd pa pb dr)), (a 3, .inl (cN, 85, .inr (.inl g59)))]) [0, 1] (by decide) rfl
  have hFc := va_free (wc := [(h0, .inr (11, fM a tp sd pa pb dr)), (a 3, .inl (cN, 85, .inr (.inl g59)))]) hD hS hA [0, 1] rfl
  refine va_callv (va_runV (As := [.int (nI k), .int (nI 16), .long (Int32.toInt64 z4)]) (rest := []) ⟨hx, hb, hml, hown, hts⟩ (c_lays l D _ h0 a cN tp sd pa pb dr k 16 g59 (Int32.toInt64 z4) (by first | omega | assumption) (by first | omega | assumption)) (cwV 3 hts g_c_makes_c_lays_126 rfl rfl rfl (by decide +kernel) ⟨(Nat.le_of_ble_eq_true rfl), (Nat.le_of_ble_eq_true rfl)⟩) (PcW_V (q0 := 0) hPc hKc hDc rfl rfl) rfl rfl hl.1 rfl (lv_room (Nat.le_of_ble_eq_true rfl)) dX11_makes_56 ⟨(Nat.le_of_ble_eq_true rfl), (Nat.le_of_ble_eq_true rfl)⟩) hS (fun q _ h => hFc q h) hFc (fun uu tt H locs htt hvm hw hB hz1 hk1 hS => ?_)
  obtain ⟨g62, rfl⟩ : ∃ z, z = uu := ⟨_, rfl⟩
  obtain ⟨hP1, hK1, hD1⟩ := hB
  rw [htt] at hP1
  have hK1 := va_K.moved hvm.symm hK1
  have hP1 : va_P D vwCl [(h0, .inr (11, fM a tp sd pa pb dr)), (a 3, .inl (cN, 85, .inr (.inl g62)))] H := hP1
  obtain ⟨hP, hD⟩ := va_join (wr := []) (w1 := [(h0, .inr (11, fM a tp sd pa pb dr)), (a 3, .inl (cN, 85, .inr (.inl g62)))]) hP hD [0, 1] [] rfl rfl (by decide) (by decide) hk1 hFc hP1 hD1
  have hP : va_P D vwCl [(h0, .inr (11, fM a tp sd pa pb dr)), (a 3, .inl (cN, 85, .inr (.inl g62)))] H := hP
  have hD : va_D A [(h0, .inr (11, fM a tp sd pa pb dr)), (a 3, .inl (cN, 85, .inr (.inl g62)))] := hD
  try dsimp only at hw
  clear hz1 hk1 hFc hPc hKc hDc
  have hL63 := hw
  refine lv_aload_n hx hb dX11_makes_59 rfl (lv_at hl 1 rfl) ?_
  refine lv_iload_n hx hb dX11_makes_60 rfl (lv_at hl 2 rfl) ?_
  refine lv_bipush (v := 13) hx hb dX11_makes_61 (by decide) ?_
  refine lv_lload hx hb dX11_makes_63 (lv_at hl 6 rfl) ?_
  have hPc := hP.sub (ws' := [(h0, .inr (11, fM a tp sd pa pb dr)), (a 3, .inl (cN, 85, .inr (.inl g62)))]) [0, 1] rfl
  have hKc := hK.sub (tys' := [(cN, .long)]) [0] rfl
  have hDc := hD.sub (ws' := [(h0, .inr (11, fM a tp sd pa pb dr)), (a 3, .inl (cN, 85, .inr (.inl g62)))]) [0, 1] (by decide) rfl
  have hFc := va_free (wc := [(h0, .inr (11, fM a tp sd pa pb dr)), (a 3, .inl (cN, 85, .inr (.inl g62)))]) hD hS hA [0, 1] rfl
  refine va_callv (va_runV (As := [.int (nI k), .int (nI 13), .long y5]) (rest := []) ⟨hx, hb, hml, hown, hts⟩ (c_lays l D _ h0 a cN tp sd pa pb dr k 13 g62 y5 (by first | omega | assumption) (by first | omega | assumption)) (cwV 3 hts g_c_makes_c_lays_126 rfl rfl rfl (by decide +kernel) ⟨(Nat.le_of_ble_eq_true rfl), (Nat.le_of_ble_eq_true rfl)⟩) (PcW_V (q0 := 0) hPc hKc hDc rfl rfl) rfl rfl hl.1 rfl (lv_room (Nat.le_of_ble_eq_true rfl)) dX11_makes_65 ⟨(Nat.le_of_ble_eq_true rfl), (Nat.le_of_ble_eq_true rfl)⟩) hS (fun q _ h => hFc q h) hFc (fun uu tt H locs htt hvm hw hB hz1 hk1 hS => ?_)
  obtain ⟨g65, rfl⟩ : ∃ z, z = uu := ⟨_, rfl⟩
  obtain ⟨hP1, hK1, hD1⟩ := hB
  rw [htt] at hP1
  have hK1 := va_K.moved hvm.symm hK1
  have hP1 : va_P D vwCl [(h0, .inr (11, fM a tp sd pa pb dr)), (a 3, .inl (cN, 85, .inr (.inl g65)))] H := hP1
  obtain ⟨hP, hD⟩ := va_join (wr := []) (w1 := [(h0, .inr (11, fM a tp sd pa pb dr)), (a 3, .inl (cN, 85, .inr (.inl g65)))]) hP hD [0, 1] [] rfl rfl (by decide) (by decide) hk1 hFc hP1 hD1
  have hP : va_P D vwCl [(h0, .inr (11, fM a tp sd pa pb dr)), (a 3, .inl (cN, 85, .inr (.inl g65)))] H := hP
  have hD : va_D A [(h0, .inr (11, fM a tp sd pa pb dr)), (a 3, .inl (cN, 85, .inr (.inl g65)))] := hD
  try dsimp only at hw
  clear hz1 hk1 hFc hPc hKc hDc
  have hL66 := hw
  exact W.vret hx hb hr (fun t ht hW => ⟨⟨g65, rfl, ⟨((hL66.2 1 (by decide)).trans ((hL63.2 1 (by decide)).trans ((hL60.2 1 (by decide)).trans ((hL57.2 1 (by decide)).trans ((hL54.2 1 (by decide)).trans ((hL51.2 1 (by decide)).trans ((hL48.2 1 (by decide)).trans ((hL45.2 1 (by decide)).trans ((hL42.2 1 (by decide)).trans ((hL39.2 1 (by decide)).trans ((hL36.2 1 (by decide)).trans ((hL33.2 1 (by decide)).trans ((hL30.2 1 (by decide)).trans ((hL27.2 1 (by decide)).trans ((hL24.2 1 (by decide)).trans ((hL21.2 1 (by decide)).trans ((hL18.2 1 (by decide)).trans ((hL15.2 1 (by decide)).trans ((hL12.2 1 (by decide)).trans ((hL9.2 1 (by decide)).trans hL6.1)))))))))))))))))))), ((hL66.2 14 (by decide)).trans ((hL63.2 14 (by decide)).trans ((hL60.2 14 (by decide)).trans hL57.1))), ((hL66.2 15 (by decide)).trans ((hL63.2 15 (by decide)).trans hL60.1))⟩, by rw [ht]; exact hP.sub [0, 1] rfl, va_K.moved hW.alike (hK.sub [0] rfl), hD.sub [0, 1] (by decide) rfl⟩, hS.F ht⟩) hS.2.2 dX11_makes_68

def own_c_buildsAllM : List Cond := [.methodLink RX11 152 yX11_buckets, .instanceMethod yX11_buckets, .selects RX11 yX11_buckets yX11_buckets, .initialized RX11, .methodLink RX11 171 yX11_buildsBucket, .instanceMethod yX11_buildsBucket, .selects RX11 yX11_buildsBucket yX11_buildsBucket, .methodLink RX11 95 yX11_manyOf, .instanceMethod yX11_manyOf, .selects RX11 yX11_manyOf yX11_manyOf, .methodLink RX11 89 yX11_of, .instanceMethod yX11_of, .selects RX11 yX11_of yX11_of, .constantLong RX11 158 (100), .constantLong RX11 160 (4), .methodLink RX11 126 yX11_lays, .instanceMethod yX11_lays, .selects RX11 yX11_lays yX11_lays, .methodLink RX11 162 yX11_takesSeed, .instanceMethod yX11_takesSeed, .selects RX11 yX11_takesSeed yX11_takesSeed, .methodLink RX11 141 yX11_drawsPair, .instanceMethod yX11_drawsPair, .selects RX11 yX11_drawsPair yX11_drawsPair, .fieldLink RX11 117 "ClashFreeModel" "pairA" "J", .fieldLink RX11 120 "ClashFreeModel" "pairB" "J", .methodLink RX11 165 yX11_parts, .instanceMethod yX11_parts, .selects RX11 yX11_parts yX11_parts, .methodLink RX11 175 yX11_laysSeed, .instanceMethod yX11_laysSeed, .selects RX11 yX11_laysSeed yX11_laysSeed, .methodLink RX11 130 yX11_adds, .instanceMethod yX11_adds, .selects RX11 yX11_adds yX11_adds]
def wp_c_buildsAllM : List Cond := .code yX11_buildsAll cX11_buildsAll 6 none :: (own_c_buildsAllM ++ (wp_c_bucketsM ++ (wp_c_buildsBucketM ++ (wp_c_manyOf0 ++ (wp_c_of ++ (wp_c_lays ++ (wp_c_takesSeed ++ (wp_c_drawsPair ++ (wp_c_parts ++ (wp_c_laysSeed ++ (wp_c_adds ++ (wsX110 ++ ([] : List Cond)))))))))))))
set_option maxRecDepth 20000 in
theorem inown_c_buildsAllM : ∀ w ∈ own_c_buildsAllM, w ∈ lw_tbl := mem_places [1426, 1428, 46, 115, 1442, 1444, 49, 1396, 1398, 40, 1400, 1402, 41, 1404, 1405, 1388, 1390, 38, 1406, 1408, 42, 1410, 1412, 43, 1229, 1230, 1422, 1424, 45, 1454, 1456, 52, 1458, 1460, 53] (by decide +kernel)
set_option maxRecDepth 20000 in
theorem in_c_buildsAllM : ∀ w ∈ wp_c_buildsAllM, w ∈ lw_tbl := List.forall_mem_cons.mpr ⟨List.mem_of_getElem? (i := 1395) (by decide +kernel), List.forall_mem_append.mpr ⟨inown_c_buildsAllM, List.forall_mem_append.mpr ⟨in_c_bucketsM, List.forall_mem_append.mpr ⟨in_c_buildsBucketM, List.forall_mem_append.mpr ⟨in_c_manyOf0, List.forall_mem_append.mpr ⟨in_c_of, List.forall_mem_append.mpr ⟨in_c_lays, List.forall_mem_append.mpr ⟨in_c_takesSeed, List.forall_mem_append.mpr ⟨in_c_drawsPair, List.forall_mem_append.mpr ⟨in_c_parts, List.forall_mem_append.mpr ⟨in_c_laysSeed, List.forall_mem_append.mpr ⟨in_c_adds, List.forall_mem_append.mpr ⟨lwb_X11, fun _ h => absurd h List.not_mem_nil⟩⟩⟩⟩⟩⟩⟩⟩⟩⟩⟩⟩⟩
set_option maxRecDepth 20000 in
theorem good_c_buildsAllM : wp_c_buildsAllM.all goodWord = true := by decide +kernel
set_option maxRecDepth 20000 in
theorem g_c_buildsAllM_c_bucketsM_152 : GoodIn wp_c_buildsAllM (wsV RX11 152 RX11 yX11_buckets wp_c_bucketsM) := goodIn_sub (List.forall_mem_append.mpr ⟨List.forall_mem_cons.mpr ⟨(List.mem_of_getElem? (i := 1) rfl), List.forall_mem_cons.mpr ⟨(List.mem_of_getElem? (i := 2) rfl), List.forall_mem_cons.mpr ⟨(List.mem_of_getElem? (i := 3) rfl), List.forall_mem_cons.mpr ⟨(List.mem_of_getElem? (i := 4) rfl), fun _ h => absurd h List.not_mem_nil⟩⟩⟩⟩, (fun _ h => (List.mem_cons_of_mem _ (List.mem_append_right _ (List.mem_append_left _ h))))⟩) (by decide +kernel)
set_option maxRecDepth 20000 in
theorem g_c_buildsAllM_c_buildsBucketM_171 : GoodIn wp_c_buildsAllM (wsV RX11 171 RX11 yX11_buildsBucket wp_c_buildsBucketM) := goodIn_sub (List.forall_mem_append.mpr ⟨List.forall_mem_cons.mpr ⟨(List.mem_of_getElem? (i := 5) rfl), List.forall_mem_cons.mpr ⟨(List.mem_of_getElem? (i := 6) rfl), List.forall_mem_cons.mpr ⟨(List.mem_of_getElem? (i := 7) rfl), List.forall_mem_cons.mpr ⟨(List.mem_of_getElem? (i := 4) rfl), fun _ h => absurd h List.not_mem_nil⟩⟩⟩⟩, (fun _ h => (List.mem_cons_of_mem _ (List.mem_append_right _ (List.mem_append_right _ (List.mem_append_left _ h)))))⟩) (by decide +kernel)
set_option maxRecDepth 20000 in
theorem g_c_buildsAllM_c_manyOf0_95 : GoodIn wp_c_buildsAllM (wsV RX11 95 RX11 yX11_manyOf wp_c_manyOf0) := goodIn_sub (List.forall_mem_append.mpr ⟨List.forall_mem_cons.mpr ⟨(List.mem_of_getElem? (i := 8) rfl), List.forall_mem_cons.mpr ⟨(List.mem_of_getElem? (i := 9) rfl), List.forall_mem_cons.mpr ⟨(List.mem_of_getElem? (i := 10) rfl), List.forall_mem_cons.mpr ⟨(List.mem_of_getElem? (i := 4) rfl), fun _ h => absurd h List.not_mem_nil⟩⟩⟩⟩, (fun _ h => (List.mem_cons_of_mem _ (List.mem_append_right _ (List.mem_append_right _ (List.mem_append_right _ (List.mem_append_left _ h))))))⟩) (by decide +kernel)
set_option maxRecDepth 20000 in
theorem g_c_buildsAllM_c_of_89 : GoodIn wp_c_buildsAllM (wsV RX11 89 RX11 yX11_of wp_c_of) := goodIn_sub (List.forall_mem_append.mpr ⟨List.forall_mem_cons.mpr ⟨(List.mem_of_getElem? (i := 11) rfl), List.forall_mem_cons.mpr ⟨(List.mem_of_getElem? (i := 12) rfl), List.forall_mem_cons.mpr ⟨(List.mem_of_getElem? (i := 13) rfl), List.forall_mem_cons.mpr ⟨(List.mem_of_getElem? (i := 4) rfl), fun _ h => absurd h List.not_mem_nil⟩⟩⟩⟩, (fun _ h => (List.mem_cons_of_mem _ (List.mem_append_right _ (List.mem_append_right _ (List.mem_append_right _ (List.mem_append_right _ (List.mem_append_left _ h)))))))⟩) (by decide +kernel)
set_option maxRecDepth 20000 in
theorem g_c_buildsAllM_c_lays_126 : GoodIn wp_c_buildsAllM (wsV RX11 126 RX11 yX11_lays wp_c_lays) := goodIn_sub (List.forall_mem_append.mpr ⟨List.forall_mem_cons.mpr ⟨(List.mem_of_getElem? (i := 16) rfl), List.forall_mem_cons.mpr ⟨(List.mem_of_getElem? (i := 17) rfl), List.forall_mem_cons.mpr ⟨(List.mem_of_getElem? (i := 18) rfl), List.forall_mem_cons.mpr ⟨(List.mem_of_getElem? (i := 4) rfl), fun _ h => absurd h List.not_mem_nil⟩⟩⟩⟩, (fun _ h => (List.mem_cons_of_mem _ (List.mem_append_right _ (List.mem_append_right _ (List.mem_append_right _ (List.mem_append_right _ (List.mem_append_right _ (List.mem_append_left _ h))))))))⟩) (by decide +kernel)
set_option maxRecDepth 20000 in
theorem g_c_buildsAllM_c_takesSeed_162 : GoodIn wp_c_buildsAllM (wsV RX11 162 RX11 yX11_takesSeed wp_c_takesSeed) := goodIn_sub (List.forall_mem_append.mpr ⟨List.forall_mem_cons.mpr ⟨(List.mem_of_getElem? (i := 19) rfl), List.forall_mem_cons.mpr ⟨(List.mem_of_getElem? (i := 20) rfl), List.forall_mem_cons.mpr ⟨(List.mem_of_getElem? (i := 21) rfl), List.forall_mem_cons.mpr ⟨(List.mem_of_getElem? (i := 4) rfl), fun _ h => absurd h List.not_mem_nil⟩⟩⟩⟩, (fun _ h => (List.mem_cons_of_mem _ (List.mem_append_right _ (List.mem_append_right _ (List.mem_append_right _ (List.mem_append_right _ (List.mem_append_right _ (List.mem_append_right _ (List.mem_append_left _ h)))))))))⟩) (by decide +kernel)
set_option maxRecDepth 20000 in
theorem g_c_buildsAllM_c_drawsPair_141 : GoodIn wp_c_buildsAllM (wsV RX11 141 RX11 yX11_drawsPair wp_c_drawsPair) := goodIn_sub (List.forall_mem_append.mpr ⟨List.forall_mem_cons.mpr ⟨(List.mem_of_getElem? (i := 22) rfl), List.forall_mem_cons.mpr ⟨(List.mem_of_getElem? (i := 23) rfl), List.forall_mem_cons.mpr ⟨(List.mem_of_getElem? (i := 24) rfl), List.forall_mem_cons.mpr ⟨(List.mem_of_getElem? (i := 4) rfl), fun _ h => absurd h List.not_mem_nil⟩⟩⟩⟩, (fun _ h => (List.mem_cons_of_mem _ (List.mem_append_right _ (List.mem_append_right _ (List.mem_append_right _ (List.mem_append_right _ (List.mem_append_right _ (List.mem_append_right _ (List.mem_append_right _ (List.mem_append_left _ h))))))))))⟩) (by decide +kernel)
set_option maxRecDepth 20000 in
theorem g_c_buildsAllM_c_parts_165 : GoodIn wp_c_buildsAllM (wsV RX11 165 RX11 yX11_parts wp_c_parts) := goodIn_sub (List.forall_mem_append.mpr ⟨List.forall_mem_cons.mpr ⟨(List.mem_of_getElem? (i := 27) rfl), List.forall_mem_cons.mpr ⟨(List.mem_of_getElem? (i := 28) rfl), List.forall_mem_cons.mpr ⟨(List.mem_of_getElem? (i := 29) rfl), List.forall_mem_cons.mpr ⟨(List.mem_of_getElem? (i := 4) rfl), fun _ h => absurd h List.not_mem_nil⟩⟩⟩⟩, (fun _ h => (List.mem_cons_of_mem _ (List.mem_append_right _ (List.mem_append_right _ (List.mem_append_right _ (List.mem_append_right _ (List.mem_append_right _ (List.mem_append_right _ (List.mem_append_right _ (List.mem_append_right _ (List.mem_append_left _ h)))))))))))⟩) (by decide +kernel)
set_option maxRecDepth 20000 in
theorem g_c_buildsAllM_c_laysSeed_175 : GoodIn wp_c_buildsAllM (wsV RX11 175 RX11 yX11_laysSeed wp_c_laysSeed) := goodIn_sub (List.forall_mem_append.mpr ⟨List.forall_mem_cons.mpr ⟨(List.mem_of_getElem? (i := 30) rfl), List.forall_mem_cons.mpr ⟨(List.mem_of_getElem? (i := 31) rfl), List.forall_mem_cons.mpr ⟨(List.mem_of_getElem? (i := 32) rfl), List.forall_mem_cons.mpr ⟨(List.mem_of_getElem? (i := 4) rfl), fun _ h => absurd h List.not_mem_nil⟩⟩⟩⟩, (fun _ h => (List.mem_cons_of_mem _ (List.mem_append_right _ (List.mem_append_right _ (List.mem_append_right _ (List.mem_append_right _ (List.mem_append_right _ (List.mem_append_right _ (List.mem_append_right _ (List.mem_append_right _ (List.mem_append_right _ (List.mem_append_left _ h))))))))))))⟩) (by decide +kernel)
set_option maxRecDepth 20000 in
theorem g_c_buildsAllM_c_adds_130 : GoodIn wp_c_buildsAllM (wsV RX11 130 RX11 yX11_adds wp_c_adds) := goodIn_sub (List.forall_mem_append.mpr ⟨List.forall_mem_cons.mpr ⟨(List.mem_of_getElem? (i := 33) rfl), List.forall_mem_cons.mpr ⟨(List.mem_of_getElem? (i := 34) rfl), List.forall_mem_cons.mpr ⟨(List.mem_of_getElem? (i := 35) rfl), List.forall_mem_cons.mpr ⟨(List.mem_of_getElem? (i := 4) rfl), fun _ h => absurd h List.not_mem_nil⟩⟩⟩⟩, (fun _ h => (List.mem_cons_of_mem _ (List.mem_append_right _ (List.mem_append_right _ (List.mem_append_right _ (List.mem_append_right _ (List.mem_append_right _ (List.mem_append_right _ (List.mem_append_right _ (List.mem_append_right _ (List.mem_append_right _ (List.mem_append_right _ (List.mem_append_left _ h)))))))))))))⟩) (by decide +kernel)
set_option maxHeartbeats 4000000 in
set_option maxRecDepth 100000 in
theorem lp_bAllM (l : Launch) {p : Program} {e : Env} {s : State} {m : MethodId} {args : Array Value} {below : List Frame} {meth : Method} {c : Code} {Q : State → Prop} {A : Nat → Prop} (D : va_G) (h0 : Nat) (a : Nat → Nat) (cN : ClassId) (tp : Int32) (sd : Int64) (pa : Int64) (pb : Int64) (dr : Int32) (cR : ClassId) (cH : ClassId) (k : Nat) (f : Nat → Int64) (nb : Nat) (hk : k < 4) (h4 : f (17 * k + 4) = lN nb) (hn : nb < 2048) (hx : p.tables.exec = Jvm.exec) (hb : c.code = cX11_buildsAll) (hml : c.maxLocals = 6) (hown : s.vm.findClass RX11 = some m.cls) (hts : ∀ w ∈ wp_c_buildsAllM, w.before args s = true) (hA : ∀ q, s.heap.size ≤ q → A q) (hK : va_K D vwCl [(cN, .long), (cR, .int), (cH, .int)] s) (kx : ∀ (H : Heap) (locs : List Loc) (ls : Array Slot), va_P D vwCl [(h0, .inr (11, fM a tp sd pa pb dr)), (a 3, .inl (cN, 85, .inr (.inl f))), (a 8, .inl (cR, 10240, .inl (fun _ => 0))), (a 9, .inl (cH, 10240, .inl (fun _ => 0)))] H → va_D A [(h0, .inr (11, fM a tp sd pa pb dr)), (a 3, .inl (cN, 85, .inr (.inl f))), (a 8, .inl (cR, 10240, .inl (fun _ => 0))), (a 9, .inl (cH, 10240, .inl (fun _ => 0)))] → va_S A s.heap H locs → lv_has ls 6 [(0, .ref h0), (1, .int (nI k)), (2, .int 0)] → W p l e ({ frames := 6, cells := 0, slots := 0, locals := 180 }) s m args below meth c H locs 0 0 Q (F0 m 204 ls [])) : ∀ (n j : Nat), j ≤ nb → nb < j + n → ∀ (H : Heap) (locs : List Loc) (ls : Array Slot), va_P D vwCl [(h0, .inr (11, fM a tp sd pa pb dr)), (a 3, .inl (cN, 85, .inr (.inl f))), (a 8, .inl (cR, 10240, .inl (fun _ => 0))), (a 9, .inl (cH, 10240, .inl (fun _ => 0)))] H → va_D A [(h0, .inr (11, fM a tp sd pa pb dr)), (a 3, .inl (cN, 85, .inr (.inl f))), (a 8, .inl (cR, 10240, .inl (fun _ => 0))), (a 9, .inl (cH, 10240, .inl (fun _ => 0)))] → va_S A s.heap H locs → lv_has ls 6 [(5, .int (nI j)), (0, .ref h0), (1, .int (nI k)), (2, .int 0)] → W p l e ({ frames := 6, cells := 0, slots := 0, locals := 180 }) s m args below meth c H locs 0 0 Q (F0 m 181 ls []) := by
  have hin_X11 : ∀ w ∈ wsX110, w ∈ wp_c_buildsAllM := fun _ h => (List.mem_cons_of_mem _ (List.mem_append_right _ (List.mem_append_right _ (List.mem_append_right _ (List.mem_append_right _ (List.mem_append_right _ (List.mem_append_right _ (List.mem_append_right _ (List.mem_append_right _ (List.mem_append_right _ (List.mem_append_right _ (List.mem_append_right _ (List.mem_append_left _ h)))))))))))))
  intro n
  induction n with
  | zero =>
    intro j h1 h2
    exact absurd h2 (by omega)
  | succ n ih =>
    intro j hj hn H locs ls hP hD hS hl
    refine lv_iload hx hb dX11_buildsAll_181 (lv_at hl 0 rfl) ?_
    refine lv_aload_n hx hb dX11_buildsAll_183 rfl (lv_at hl 1 rfl) ?_
    refine lv_iload_n hx hb dX11_buildsAll_184 rfl (lv_at hl 2 rfl) ?_
    have hPc := hP.sub (ws' := [(h0, .inr (11, fM a tp sd pa pb dr)), (a 3, .inl (cN, 85, .inr (.inl f)))]) [0, 1] rfl
    have hKc := hK.sub (tys' := [(cN, .long)]) [0] rfl
    have hFc := va_free0 hS hA
    refine va_calli (va_runV (As := [.int (nI k)]) (rest := [.int (nI j)]) ⟨hx, hb, hml, hown, hts⟩ (c_bucketsM l D _ h0 a cN tp sd pa pb dr k f nb (by first | omega | assumption) h4) (cwV 1 hts g_c_buildsAllM_c_bucketsM_152 rfl rfl rfl (by decide +kernel) ⟨(Nat.le_of_ble_eq_true rfl), (Nat.le_of_ble_eq_true rfl)⟩) (PcR_V (q0 := 0) hPc hKc rfl rfl) rfl rfl hl.1 rfl (lv_room (Nat.le_of_ble_eq_true rfl)) dX11_buildsAll_185 ⟨(Nat.le_of_ble_eq_true rfl), (Nat.le_of_ble_eq_true rfl)⟩) hS (fun q _ h => hFc q h) hFc (fun r1 uu tt H locs htt hvm hw hB hz1 hk1 hS => ?_)
    have hP := va_keep hP hk1
    try dsimp only at hw
    clear hB hz1 hk1 hFc hPc hKc
    obtain rfl : r1 = nI nb := hw
    refine lv_icmp_ge (tgt := 204) hx hb dX11_buildsAll_188 (by decide) (fun hc2 => ?_) (fun hc2 => ?_)
    ·
      exact kx H locs ls (hP.sub [0, 1, 2, 3] rfl) (hD.sub [0, 1, 2, 3] (by decide) rfl) hS (lv_sub hl [1, 2, 3] rfl)
    ·
      have hlt : j < nb := by
        rcases Nat.lt_or_ge j nb with q | q
        · exact q
        · exact absurd (nI_le q (by omega)) hc2
      refine lv_aload_n hx hb dX11_buildsAll_191 rfl (lv_at hl 1 rfl) ?_
      refine lv_iload_n hx hb dX11_buildsAll_192 rfl (lv_at hl 2 rfl) ?_
      refine lv_iload hx hb dX11_buildsAll_193 (lv_at hl 0 rfl) ?_
      have hPc := hP.sub (ws' := [(h0, .inr (11, fM a tp sd pa pb dr)), (a 8, .inl (cR, 10240, .inl (fun _ => 0)))]) [0, 2] rfl
      have hKc := hK.sub (tys' := [(cR, .int)]) [1] rfl
      have hFc := va_free0 hS hA
      refine va_callv (va_runV (As := [.int (nI k), .int (nI j)]) (rest := []) ⟨hx, hb, hml, hown, hts⟩ (c_buildsBucketM l D _ h0 a tp sd pa pb dr cR k j (by first | omega | assumption) (by first | omega | assumption)) (cwV 2 hts g_c_buildsAllM_c_buildsBucketM_171 rfl rfl rfl (by decide +kernel) ⟨(Nat.le_of_ble_eq_true rfl), (Nat.le_of_ble_eq_true rfl)⟩) (PcR_V (q0 := 0) hPc hKc rfl rfl) rfl rfl hl.1 rfl (lv_room (Nat.le_of_ble_eq_true rfl)) dX11_buildsAll_195 ⟨(Nat.le_of_ble_eq_true rfl), (Nat.le_of_ble_eq_true rfl)⟩) hS (fun q _ h => hFc q h) hFc (fun uu tt H locs htt hvm hw hB hz1 hk1 hS => ?_)
      have hP := va_keep hP hk1
      try dsimp only at hw
      clear hB hz1 hk1 hFc hPc hKc
      refine lv_iinc (v := nI (j + 1)) (lv' := [(5, .int (nI (j + 1))), (0, .ref h0), (1, .int (nI k)), (2, .int 0)]) hx hb dX11_buildsAll_198 hl (k := 0) rfl (nI_1 j) (by decide) rfl (fun ls hl => ?_)
      refine lv_goto (tgt := 181) hx hb dX11_buildsAll_201 (by decide) ?_
      exact ih (j + 1) (by omega) (by omega) H locs ls (hP.sub [0, 1, 2, 3] rfl) (hD.sub [0, 1, 2, 3] (by decide) rfl) hS (lv_sub hl [0, 1, 2, 3] rfl)
set_option maxHeartbeats 4000000 in
set_option maxRecDepth 100000 in
theorem c_buildsAllM (l : Launch) (D : va_G) (sz : Nat) (h0 : Nat) (a : Nat → Nat) (cN : ClassId) (tp : Int32) (sd : Int64) (pa : Int64) (pb : Int64) (dr : Int32) (cR : ClassId) (cH : ClassId) (k : Nat) (f : Nat → Int64) (bn : Nat) (ns : Nat) (hk : k < 4) (h1 : f (17 * k + 1) = 0) (h14 : f (17 * k + 14) = lN bn) (h15 : f (17 * k + 15) = lN ns) (hbn : bn ≤ 64) (hs1 : 25 ≤ ns) (hs2 : ns ≤ 400) : Met l yX11_buildsAll wp_c_buildsAllM ({ frames := 6, cells := 0, slots := 0, locals := 180 }) (PcW D [.ref h0, .int (nI k)] sz [(h0, .inr (11, fM a tp sd pa pb dr)), (a 3, .inl (cN, 85, .inr (.inl f))), (a 8, .inl (cR, 10240, .inl (fun _ => 0))), (a 9, .inl (cH, 10240, .inl (fun _ => 0)))] [(cN, .long), (cR, .int), (cH, .int)]) (va_Qv (fun (_ : Unit) => True) (fun (_ : Unit) _ => True) (va_A [(h0, .inr (11, fM a tp sd pa pb dr)), (a 3, .inl (cN, 85, .inr (.inl f))), (a 8, .inl (cR, 10240, .inl (fun _ => 0))), (a 9, .inl (cH, 10240, .inl (fun _ => 0)))] sz)) 0 0 (va_A [(h0, .inr (11, fM a tp sd pa pb dr)), (a 3, .inl (cN, 85, .inr (.inl f))), (a 8, .inl (cR, 10240, .inl (fun _ => 0))), (a 9, .inl (cH, 10240, .inl (fun _ => 0)))] sz) := by
  refine Met.ofW (cc := cX11_buildsAll) (maxL := 6) (ret := none) (by decide) rfl ?_
  intro p e s m args below meth c s₁ B hml hv
  obtain ⟨rfl, hsz, hP, hK, hD0⟩ := hv
  have hx := B.exec
  have hb := B.bytes
  have hr := B.returns
  have hts := atoms_spec (ws := wp_c_buildsAllM) B.pre
  have hin_X11 : ∀ w ∈ wsX110, w ∈ wp_c_buildsAllM := fun _ h => (List.mem_cons_of_mem _ (List.mem_append_right _ (List.mem_append_right _ (List.mem_append_right _ (List.mem_append_right _ (List.mem_append_right _ (List.mem_append_right _ (List.mem_append_right _ (List.mem_append_right _ (List.mem_append_right _ (List.mem_append_right _ (List.mem_append_right _ (List.mem_append_left _ h)))))))))))))
  have hown : s.vm.findClass RX11 = some m.cls := findClass_of_methodNamed B.named
  have hlocks := B.notSynchronized
  subst hsz
  have hD := hD0.self (sz := s.heap.size)
  generalize hAe : va_A [(h0, .inr (11, fM a tp sd pa pb dr)), (a 3, .inl (cN, 85, .inr (.inl f))), (a 8, .inl (cR, 10240, .inl (fun _ => 0))), (a 9, .inl (cH, 10240, .inl (fun _ => 0)))] s.heap.size = A at hD ⊢
  have hA : ∀ q : Nat, s.heap.size ≤ q → A q := fun q h => by rw [← hAe]; exact Or.inr h
  have hS : va_S A s.heap s.heap [] := va_S.rf
  have hP : va_P D vwCl [(h0, .inr (11, fM a tp sd pa pb dr)), (a 3, .inl (cN, 85, .inr (.inl f))), (a 8, .inl (cR, 10240, .inl (fun _ => 0))), (a 9, .inl (cH, 10240, .inl (fun _ => 0)))] s.heap := hP
  have hl := lv_entry ([.ref h0, .int (nI k)]) (n := 6) (Nat.le_of_ble_eq_true rfl)
  rw [lg_entry_eq]
  generalize (lg_sl ([.ref h0, .int (nI k)]) ++ List.replicate (6 - (lg_sl ([.ref h0, .int (nI k)])).length) Slot.unset).toArray = ls at hl ⊢
  have hl : lv_has ls 6 [(0, .ref h0), (1, .int (nI k))] := hl
  refine lv_aload_n hx hb dX11_buildsAll_0 rfl (lv_at hl 0 rfl) ?_
  refine lv_iload_n hx hb dX11_buildsAll_1 rfl (lv_at hl 1 rfl) ?_
  have hPc := hP.sub (ws' := [(h0, .inr (11, fM a tp sd pa pb dr)), (a 3, .inl (cN, 85, .inr (.inl f)))]) [0, 1] rfl
  have hKc := hK.sub (tys' := [(cN, .long)]) [0] rfl
  have hFc := va_free0 hS hA
  refine va_calli (va_runV (As := [.int (nI k)]) (rest := []) ⟨hx, hb, hml, hown, hts⟩ (c_manyOf0 l D _ h0 a cN tp sd pa pb dr k f (by first | omega | assumption) h1) (cwV 1 hts g_c_buildsAllM_c_manyOf0_95 rfl rfl rfl (by decide +kernel) ⟨(Nat.le_of_ble_eq_true rfl), (Nat.le_of_ble_eq_true rfl)⟩) (PcR_V (q0 := 0) hPc hKc rfl rfl) rfl rfl hl.1 rfl (lv_room (Nat.le_of_ble_eq_true rfl)) dX11_buildsAll_2 ⟨(Nat.le_of_ble_eq_true rfl), (Nat.le_of_ble_eq_true rfl)⟩) hS (fun q _ h => hFc q h) hFc (fun r1 uu tt H locs htt hvm hw hB hz1 hk1 hS => ?_)
  have hP := va_keep hP hk1
  try dsimp only at hw
  clear hB hz1 hk1 hFc hPc hKc
  obtain rfl : r1 = 0 := hw
  refine lv_istore_n (lv' := [(2, .int 0), (0, .ref h0), (1, .int (nI k))]) hx hb dX11_buildsAll_5 rfl hl (by decide) rfl (fun ls hl => ?_)
  refine lv_aload_n hx hb dX11_buildsAll_6 rfl (lv_at hl 1 rfl) ?_
  refine lv_iload_n hx hb dX11_buildsAll_7 rfl (lv_at hl 2 rfl) ?_
  refine lv_iconst (v := 2) hx hb dX11_buildsAll_8 (by decide) ?_
  refine lv_iload_n hx hb dX11_buildsAll_9 rfl (lv_at hl 0 rfl) ?_
  refine lv_i2l (v := 0) hx hb dX11_buildsAll_10 (by decide) ?_
  refine lv_aload_n hx hb dX11_buildsAll_11 rfl (lv_at hl 1 rfl) ?_
  refine lv_iload_n hx hb dX11_buildsAll_12 rfl (lv_at hl 2 rfl) ?_
  refine lv_bipush (v := 16) hx hb dX11_buildsAll_13 (by decide) ?_
  have hPc := hP.sub (ws' := [(h0, .inr (11, fM a tp sd pa pb dr)), (a 3, .inl (cN, 85, .inr (.inl f)))]) [0, 1] rfl
  have hKc := hK.sub (tys' := [(cN, .long)]) [0] rfl
  have hFc := va_free0 hS hA
  refine va_calll (va_runV (As := [.int (nI k), .int (nI 16)]) (rest := [.long 0, .int 2, .int (nI k), .ref h0]) ⟨hx, hb, hml, hown, hts⟩ (c_of l D _ h0 a cN tp sd pa pb dr k 16 f (by first | omega | assumption) (by first | omega | assumption)) (cwV 2 hts g_c_buildsAllM_c_of_89 rfl rfl rfl (by decide +kernel) ⟨(Nat.le_of_ble_eq_true rfl), (Nat.le_of_ble_eq_true rfl)⟩) (PcR_V (q0 := 0) hPc hKc rfl rfl) rfl rfl hl.1 rfl (lv_room (Nat.le_of_ble_eq_true rfl)) dX11_buildsAll_15 ⟨(Nat.le_of_ble_eq_true rfl), (Nat.le_of_ble_eq_true rfl)⟩) hS (fun q _ h => hFc q h) hFc (fun r2 uu tt H locs htt hvm hw hB hz1 hk1 hS => ?_)
  have hP := va_keep hP hk1
  try dsimp only at hw
  clear hB hz1 hk1 hFc hPc hKc
  obtain rfl : r2 = f (17 * k + 16) := hw
  refine lv_iload_n hx hb dX11_buildsAll_18 rfl (lv_at hl 0 rfl) ?_
  refine lv_i2l (v := 0) hx hb dX11_buildsAll_19 (by decide) ?_
  refine lv_lmul hx hb dX11_buildsAll_20 ?_
  refine lv_topl (fun v3 ev3 => ?_)
  obtain rfl : v3 = 0 := ev3.trans (by simp)
  refine lv_ldc2 (v := 100) hx hb hown (hts (.constantLong RX11 158 (100)) (List.mem_of_getElem? (i := 14) rfl)) dX11_buildsAll_21 ?_
  refine lv_ldiv hx hb dX11_buildsAll_24 (by decide) ?_
  refine lv_topl (fun v4 ev4 => ?_)
  obtain rfl : v4 = 0 := ev4.trans (by decide)
  refine lv_ladd hx hb dX11_buildsAll_25 ?_
  refine lv_topl (fun v5 ev5 => ?_)
  obtain rfl : v5 = 0 := ev5.trans (by decide)
  refine lv_ldc2 (v := 4) hx hb hown (hts (.constantLong RX11 160 (4)) (List.mem_of_getElem? (i := 15) rfl)) dX11_buildsAll_26 ?_
  refine lv_ladd hx hb dX11_buildsAll_29 ?_
  refine lv_topl (fun v6 ev6 => ?_)
  obtain rfl : v6 = 4 := ev6.trans (by decide)
  have hPc := hP.sub (ws' := [(h0, .inr (11, fM a tp sd pa pb dr)), (a 3, .inl (cN, 85, .inr (.inl f)))]) [0, 1] rfl
  have hKc := hK.sub (tys' := [(cN, .long)]) [0] rfl
  have hDc := hD.sub (ws' := [(h0, .inr (11, fM a tp sd pa pb dr)), (a 3, .inl (cN, 85, .inr (.inl f)))]) [0, 1] (by decide) rfl
  have hFc := va_free (wc := [(h0, .inr (11, fM a tp sd pa pb dr)), (a 3, .inl (cN, 85, .inr (.inl f)))]) hD hS hA [0, 1] rfl
  refine va_callv (va_runV (As := [.int (nI k), .int (nI 2), .long 4]) (rest := []) ⟨hx, hb, hml, hown, hts⟩ (c_lays l D _ h0 a cN tp sd pa pb dr k 2 f 4 (by first | omega | assumption) (by first | omega | assumption)) (cwV 3 hts g_c_buildsAllM_c_lays_126 rfl rfl rfl (by decide +kernel) ⟨(Nat.le_of_ble_eq_true rfl), (Nat.le_of_ble_eq_true rfl)⟩) (PcW_V (q0 := 0) hPc hKc hDc rfl rfl) rfl rfl hl.1 rfl (lv_room (Nat.le_of_ble_eq_true rfl)) dX11_buildsAll_30 ⟨(Nat.le_of_ble_eq_true rfl), (Nat.le_of_ble_eq_true rfl)⟩) hS (fun q _ h => hFc q h) hFc (fun uu tt H locs htt hvm hw hB hz1 hk1 hS => ?_)
  obtain ⟨g8, rfl⟩ : ∃ z, z = uu := ⟨_, rfl⟩
  obtain ⟨hP1, hK1, hD1⟩ := hB
  rw [htt] at hP1
  have hK1 := va_K.moved hvm.symm hK1
  have hP1 : va_P D vwCl [(h0, .inr (11, fM a tp sd pa pb dr)), (a 3, .inl (cN, 85, .inr (.inl g8)))] H := hP1
  obtain ⟨hP, hD⟩ := va_join (wr := [(a 8, .inl (cR, 10240, .inl (fun _ => 0))), (a 9, .inl (cH, 10240, .inl (fun _ => 0)))]) (w1 := [(h0, .inr (11, fM a tp sd pa pb dr)), (a 3, .inl (cN, 85, .inr (.inl g8)))]) hP hD [0, 1] [2, 3] rfl rfl (by decide) (by decide) hk1 hFc hP1 hD1
  have hP : va_P D vwCl [(a 8, .inl (cR, 10240, .inl (fun _ => 0))), (a 9, .inl (cH, 10240, .inl (fun _ => 0))), (h0, .inr (11, fM a tp sd pa pb dr)), (a 3, .inl (cN, 85, .inr (.inl g8)))] H := hP
  have hD : va_D A [(a 8, .inl (cR, 10240, .inl (fun _ => 0))), (a 9, .inl (cH, 10240, .inl (fun _ => 0))), (h0, .inr (11, fM a tp sd pa pb dr)), (a 3, .inl (cN, 85, .inr (.inl g8)))] := hD
  try dsimp only at hw
  clear hz1 hk1 hFc hPc hKc hDc
  have hL9 := hw
  refine lv_aload_n hx hb dX11_buildsAll_33 rfl (lv_at hl 1 rfl) ?_
  refine lv_iload_n hx hb dX11_buildsAll_34 rfl (lv_at hl 2 rfl) ?_
  refine lv_iconst (v := 3) hx hb dX11_buildsAll_35 (by decide) ?_
  refine lv_iload_n hx hb dX11_buildsAll_36 rfl (lv_at hl 0 rfl) ?_
  refine lv_i2l (v := 0) hx hb dX11_buildsAll_37 (by decide) ?_
  have hPc := hP.sub (ws' := [(h0, .inr (11, fM a tp sd pa pb dr)), (a 3, .inl (cN, 85, .inr (.inl g8)))]) [2, 3] rfl
  have hKc := hK.sub (tys' := [(cN, .long)]) [0] rfl
  have hDc := hD.sub (ws' := [(h0, .inr (11, fM a tp sd pa pb dr)), (a 3, .inl (cN, 85, .inr (.inl g8)))]) [2, 3] (by decide) rfl
  have hFc := va_free (wc := [(h0, .inr (11, fM a tp sd pa pb dr)), (a 3, .inl (cN, 85, .inr (.inl g8)))]) hD hS hA [2, 3] rfl
  refine va_callv (va_runV (As := [.int (nI k), .int (nI 3), .long 0]) (rest := []) ⟨hx, hb, hml, hown, hts⟩ (c_lays l D _ h0 a cN tp sd pa pb dr k 3 g8 0 (by first | omega | assumption) (by first | omega | assumption)) (cwV 3 hts g_c_buildsAllM_c_lays_126 rfl rfl rfl (by decide +kernel) ⟨(Nat.le_of_ble_eq_true rfl), (Nat.le_of_ble_eq_true rfl)⟩) (PcW_V (q0 := 0) hPc hKc hDc rfl rfl) rfl rfl hl.1 rfl (lv_room (Nat.le_of_ble_eq_true rfl)) dX11_buildsAll_38 ⟨(Nat.le_of_ble_eq_true rfl), (Nat.le_of_ble_eq_true rfl)⟩) hS (fun q _ h => hFc q h) hFc (fun uu tt H locs htt hvm hw hB hz1 hk1 hS => ?_)
  obtain ⟨g11, rfl⟩ : ∃ z, z = uu := ⟨_, rfl⟩
  obtain ⟨hP1, hK1, hD1⟩ := hB
  rw [htt] at hP1
  have hK1 := va_K.moved hvm.symm hK1
  have hP1 : va_P D vwCl [(h0, .inr (11, fM a tp sd pa pb dr)), (a 3, .inl (cN, 85, .inr (.inl g11)))] H := hP1
  obtain ⟨hP, hD⟩ := va_join (wr := [(a 8, .inl (cR, 10240, .inl (fun _ => 0))), (a 9, .inl (cH, 10240, .inl (fun _ => 0)))]) (w1 := [(h0, .inr (11, fM a tp sd pa pb dr)), (a 3, .inl (cN, 85, .inr (.inl g11)))]) hP hD [2, 3] [0, 1] rfl rfl (by decide) (by decide) hk1 hFc hP1 hD1
  have hP : va_P D vwCl [(a 8, .inl (cR, 10240, .inl (fun _ => 0))), (a 9, .inl (cH, 10240, .inl (fun _ => 0))), (h0, .inr (11, fM a tp sd pa pb dr)), (a 3, .inl (cN, 85, .inr (.inl g11)))] H := hP
  have hD : va_D A [(a 8, .inl (cR, 10240, .inl (fun _ => 0))), (a 9, .inl (cH, 10240, .inl (fun _ => 0))), (h0, .inr (11, fM a tp sd pa pb dr)), (a 3, .inl (cN, 85, .inr (.inl g11)))] := hD
  try dsimp only at hw
  clear hz1 hk1 hFc hPc hKc hDc
  have hL12 := hw
  refine lv_aload_n hx hb dX11_buildsAll_41 rfl (lv_at hl 1 rfl) ?_
  refine lv_iload_n hx hb dX11_buildsAll_42 rfl (lv_at hl 2 rfl) ?_
  refine lv_bipush (v := 15) hx hb dX11_buildsAll_43 (by decide) ?_
  have hPc := hP.sub (ws' := [(h0, .inr (11, fM a tp sd pa pb dr)), (a 3, .inl (cN, 85, .inr (.inl g11)))]) [2, 3] rfl
  have hKc := hK.sub (tys' := [(cN, .long)]) [0] rfl
  have hFc := va_free0 hS hA
  refine va_calll (va_runV (As := [.int (nI k), .int (nI 15)]) (rest := []) ⟨hx, hb, hml, hown, hts⟩ (c_of l D _ h0 a cN tp sd pa pb dr k 15 g11 (by first | omega | assumption) (by first | omega | assumption)) (cwV 2 hts g_c_buildsAllM_c_of_89 rfl rfl rfl (by decide +kernel) ⟨(Nat.le_of_ble_eq_true rfl), (Nat.le_of_ble_eq_true rfl)⟩) (PcR_V (q0 := 0) hPc hKc rfl rfl) rfl rfl hl.1 rfl (lv_room (Nat.le_of_ble_eq_true rfl)) dX11_buildsAll_45 ⟨(Nat.le_of_ble_eq_true rfl), (Nat.le_of_ble_eq_true rfl)⟩) hS (fun q _ h => hFc q h) hFc (fun r13 uu tt H locs htt hvm hw hB hz1 hk1 hS => ?_)
  have hP := va_keep hP hk1
  try dsimp only at hw
  clear hB hz1 hk1 hFc hPc hKc
  obtain rfl : r13 = g11 (17 * k + 15) := hw
  refine lv_topl (fun v14 ev14 => ?_)
  obtain rfl : v14 = lN ns := ev14.trans (((hL12.2 15 (by decide)).trans ((hL9.2 15 (by decide)).trans h15)))
  refine lv_aload_n hx hb dX11_buildsAll_48 rfl (lv_at hl 1 rfl) ?_
  refine lv_iload_n hx hb dX11_buildsAll_49 rfl (lv_at hl 2 rfl) ?_
  refine lv_iconst (v := 2) hx hb dX11_buildsAll_50 (by decide) ?_
  have hPc := hP.sub (ws' := [(h0, .inr (11, fM a tp sd pa pb dr)), (a 3, .inl (cN, 85, .inr (.inl g11)))]) [2, 3] rfl
  have hKc := hK.sub (tys' := [(cN, .long)]) [0] rfl
  have hFc := va_free0 hS hA
  refine va_calll (va_runV (As := [.int (nI k), .int (nI 2)]) (rest := [.long (lN ns)]) ⟨hx, hb, hml, hown, hts⟩ (c_of l D _ h0 a cN tp sd pa pb dr k 2 g11 (by first | omega | assumption) (by first | omega | assumption)) (cwV 2 hts g_c_buildsAllM_c_of_89 rfl rfl rfl (by decide +kernel) ⟨(Nat.le_of_ble_eq_true rfl), (Nat.le_of_ble_eq_true rfl)⟩) (PcR_V (q0 := 0) hPc hKc rfl rfl) rfl rfl hl.1 rfl (lv_room (Nat.le_of_ble_eq_true rfl)) dX11_buildsAll_51 ⟨(Nat.le_of_ble_eq_true rfl), (Nat.le_of_ble_eq_true rfl)⟩) hS (fun q _ h => hFc q h) hFc (fun r15 uu tt H locs htt hvm hw hB hz1 hk1 hS => ?_)
  have hP := va_keep hP hk1
  try dsimp only at hw
  clear hB hz1 hk1 hFc hPc hKc
  obtain rfl : r15 = g11 (17 * k + 2) := hw
  refine lv_topl (fun v16 ev16 => ?_)
  obtain rfl : v16 = 4 := ev16.trans (((hL12.2 2 (by decide)).trans hL9.1))
  refine lv_lmul hx hb dX11_buildsAll_54 ?_
  refine lv_ldc2 (v := 100) hx hb hown (hts (.constantLong RX11 158 (100)) (List.mem_of_getElem? (i := 14) rfl)) dX11_buildsAll_55 ?_
  refine lv_ldiv hx hb dX11_buildsAll_58 (by decide) ?_
  refine lv_topl (fun v17 ev17 => ?_)
  obtain rfl : v17 = lN (ns * 4 / 100) := ev17.trans (spL4 ns hs2)
  refine lv_lstore_n (lv' := [(3, .long (lN (ns * 4 / 100))), (2, .int 0), (0, .ref h0), (1, .int (nI k))]) hx hb dX11_buildsAll_59 rfl hl (by decide) rfl (fun ls hl => ?_)
  refine lv_aload_n hx hb dX11_buildsAll_60 rfl (lv_at hl 2 rfl) ?_
  refine lv_iload_n hx hb dX11_buildsAll_61 rfl (lv_at hl 3 rfl) ?_
  refine lv_iconst (v := 4) hx hb dX11_buildsAll_62 (by decide) ?_
  refine lv_lload_n hx hb dX11_buildsAll_63 rfl (lv_at hl 0 rfl) ?_
  refine lv_lconst (v := 1) hx hb dX11_buildsAll_64 (by decide) ?_
  refine W.lcmp hx hb dX11_buildsAll_65 ?_
  refine lv_if_ge (tgt := 73) hx hb dX11_buildsAll_66 (by decide) (fun hc => ?_) (fun hc => absurd ((lg_cmp_ge _ _).mpr ((lN_le (a := 1) (by decide) (by omega)).mpr (by omega))) hc)
  refine lv_lload_n hx hb dX11_buildsAll_73 rfl (lv_at hl 0 rfl) ?_
  have hPc := hP.sub (ws' := [(h0, .inr (11, fM a tp sd pa pb dr)), (a 3, .inl (cN, 85, .inr (.inl g11)))]) [2, 3] rfl
  have hKc := hK.sub (tys' := [(cN, .long)]) [0] rfl
  have hDc := hD.sub (ws' := [(h0, .inr (11, fM a tp sd pa pb dr)), (a 3, .inl (cN, 85, .inr (.inl g11)))]) [2, 3] (by decide) rfl
  have hFc := va_free (wc := [(h0, .inr (11, fM a tp sd pa pb dr)), (a 3, .inl (cN, 85, .inr (.inl g11)))]) hD hS hA [2, 3] rfl
  refine va_callv (va_runV (As := [.int (nI k), .int (nI 4), .long (lN (ns * 4 / 100))]) (rest := []) ⟨hx, hb, hml, hown, hts⟩ (c_lays l D _ h0 a cN tp sd pa pb dr k 4 g11 (lN (ns * 4 / 100)) (by first | omega | assumption) (by first | omega | assumption)) (cwV 3 hts g_c_buildsAllM_c_lays_126 rfl rfl rfl (by decide +kernel) ⟨(Nat.le_of_ble_eq_true rfl), (Nat.le_of_ble_eq_true rfl)⟩) (PcW_V (q0 := 0) hPc hKc hDc rfl rfl) rfl rfl hl.1 rfl (lv_room (Nat.le_of_ble_eq_true rfl)) dX11_buildsAll_74 ⟨(Nat.le_of_ble_eq_true rfl), (Nat.le_of_ble_eq_true rfl)⟩) hS (fun q _ h => hFc q h) hFc (fun uu tt H locs htt hvm hw hB hz1 hk1 hS => ?_)
  obtain ⟨g19, rfl⟩ : ∃ z, z = uu := ⟨_, rfl⟩
  obtain ⟨hP1, hK1, hD1⟩ := hB
  rw [htt] at hP1
  have hK1 := va_K.moved hvm.symm hK1
  have hP1 : va_P D vwCl [(h0, .inr (11, fM a tp sd pa pb dr)), (a 3, .inl (cN, 85, .inr (.inl g19)))] H := hP1
  obtain ⟨hP, hD⟩ := va_join (wr := [(a 8, .inl (cR, 10240, .inl (fun _ => 0))), (a 9, .inl (cH, 10240, .inl (fun _ => 0)))]) (w1 := [(h0, .inr (11, fM a tp sd pa pb dr)), (a 3, .inl (cN, 85, .inr (.inl g19)))]) hP hD [2, 3] [0, 1] rfl rfl (by decide) (by decide) hk1 hFc hP1 hD1
  have hP : va_P D vwCl [(a 8, .inl (cR, 10240, .inl (fun _ => 0))), (a 9, .inl (cH, 10240, .inl (fun _ => 0))), (h0, .inr (11, fM a tp sd pa pb dr)), (a 3, .inl (cN, 85, .inr (.inl g19)))] H := hP
  have hD : va_D A [(a 8, .inl (cR, 10240, .inl (fun _ => 0))), (a 9, .inl (cH, 10240, .inl (fun _ => 0))), (h0, .inr (11, fM a tp sd pa pb dr)), (a 3, .inl (cN, 85, .inr (.inl g19)))] := hD
  try dsimp only at hw
  clear hz1 hk1 hFc hPc hKc hDc
  have hL20 := hw
  refine lv_aload_n hx hb dX11_buildsAll_77 rfl (lv_at hl 2 rfl) ?_
  refine lv_iload_n hx hb dX11_buildsAll_78 rfl (lv_at hl 3 rfl) ?_
  have hPc := hP.sub (ws' := [(h0, .inr (11, fM a tp sd pa pb dr)), (a 3, .inl (cN, 85, .inr (.inl g19)))]) [2, 3] rfl
  have hKc := hK.sub (tys' := [(cN, .long)]) [0] rfl
  have hDc := hD.sub (ws' := [(h0, .inr (11, fM a tp sd pa pb dr)), (a 3, .inl (cN, 85, .inr (.inl g19)))]) [2, 3] (by decide) rfl
  have hFc := va_free (wc := [(h0, .inr (11, fM a tp sd pa pb dr)), (a 3, .inl (cN, 85, .inr (.inl g19)))]) hD hS hA [2, 3] rfl
  refine va_callv (va_runV (As := [.int (nI k)]) (rest := []) ⟨hx, hb, hml, hown, hts⟩ (c_takesSeed l D _ h0 a cN tp sd pa pb dr k g19 (by first | omega | assumption)) (cwV 1 hts g_c_buildsAllM_c_takesSeed_162 rfl rfl rfl (by decide +kernel) ⟨(Nat.le_of_ble_eq_true rfl), (Nat.le_of_ble_eq_true rfl)⟩) (PcW_V (q0 := 0) hPc hKc hDc rfl rfl) rfl rfl hl.1 rfl (lv_room (Nat.le_of_ble_eq_true rfl)) dX11_buildsAll_79 ⟨(Nat.le_of_ble_eq_true rfl), (Nat.le_of_ble_eq_true rfl)⟩) hS (fun q _ h => hFc q h) hFc (fun uu tt H locs htt hvm hw hB hz1 hk1 hS => ?_)
  have hu := uu
  obtain ⟨hP1, hK1, hD1⟩ := hB
  rw [htt] at hP1
  have hK1 := va_K.moved hvm.symm hK1
  have hP1 : va_P D vwCl [(h0, .inr (11, fM a tp (g19 (17 * k + 13)) pa pb 0)), (a 3, .inl (cN, 85, .inr (.inl g19)))] H := hP1
  obtain ⟨hP, hD⟩ := va_join (wr := [(a 8, .inl (cR, 10240, .inl (fun _ => 0))), (a 9, .inl (cH, 10240, .inl (fun _ => 0)))]) (w1 := [(h0, .inr (11, fM a tp (g19 (17 * k + 13)) pa pb 0)), (a 3, .inl (cN, 85, .inr (.inl g19)))]) hP hD [2, 3] [0, 1] rfl rfl (by decide) (by decide) hk1 hFc hP1 hD1
  have hP : va_P D vwCl [(a 8, .inl (cR, 10240, .inl (fun _ => 0))), (a 9, .inl (cH, 10240, .inl (fun _ => 0))), (h0, .inr (11, fM a tp (g19 (17 * k + 13)) pa pb 0)), (a 3, .inl (cN, 85, .inr (.inl g19)))] H := hP
  have hD : va_D A [(a 8, .inl (cR, 10240, .inl (fun _ => 0))), (a 9, .inl (cH, 10240, .inl (fun _ => 0))), (h0, .inr (11, fM a tp (g19 (17 * k + 13)) pa pb 0)), (a 3, .inl (cN, 85, .inr (.inl g19)))] := hD
  try dsimp only at hw
  clear hz1 hk1 hFc hPc hKc hDc
  refine lv_aload_n hx hb dX11_buildsAll_82 rfl (lv_at hl 2 rfl) ?_
  have hPc := hP.sub (ws' := [(h0, .inr (11, fM a tp (g19 (17 * k + 13)) pa pb 0))]) [2] rfl
  have hKc := hK.sub (tys' := []) [] rfl
  have hDc := hD.sub (ws' := [(h0, .inr (11, fM a tp (g19 (17 * k + 13)) pa pb 0))]) [2] (by decide) rfl
  have hFc := va_free (wc := [(h0, .inr (11, fM a tp (g19 (17 * k + 13)) pa pb 0))]) hD hS hA [2] rfl
  refine va_callv (va_runV (As := []) (rest := []) ⟨hx, hb, hml, hown, hts⟩ (c_drawsPair l D _ h0 a tp (g19 (17 * k + 13)) pa pb 0) (cwV 0 hts g_c_buildsAllM_c_drawsPair_141 rfl rfl rfl (by decide +kernel) ⟨(Nat.le_of_ble_eq_true rfl), (Nat.le_of_ble_eq_true rfl)⟩) (PcW_V (q0 := 0) hPc hKc hDc rfl rfl) rfl rfl hl.1 rfl (lv_room (Nat.le_of_ble_eq_true rfl)) dX11_buildsAll_83 ⟨(Nat.le_of_ble_eq_true rfl), (Nat.le_of_ble_eq_true rfl)⟩) hS (fun q _ h => hFc q h) hFc (fun uu tt H locs htt hvm hw hB hz1 hk1 hS => ?_)
  obtain ⟨sd23, pa24, pb25, dr26⟩ := uu
  obtain ⟨hP1, hK1, hD1⟩ := hB
  rw [htt] at hP1
  have hK1 := va_K.moved hvm.symm hK1
  have hP1 : va_P D vwCl [(h0, .inr (11, fM a tp sd23 pa24 pb25 dr26))] H := hP1
  obtain ⟨hP, hD⟩ := va_join (wr := [(a 8, .inl (cR, 10240, .inl (fun _ => 0))), (a 9, .inl (cH, 10240, .inl (fun _ => 0))), (a 3, .inl (cN, 85, .inr (.inl g19)))]) (w1 := [(h0, .inr (11, fM a tp sd23 pa24 pb25 dr26))]) hP hD [2] [0, 1, 3] rfl rfl (by decide) (by decide) hk1 hFc hP1 hD1
  have hP : va_P D vwCl [(a 8, .inl (cR, 10240, .inl (fun _ => 0))), (a 9, .inl (cH, 10240, .inl (fun _ => 0))), (a 3, .inl (cN, 85, .inr (.inl g19))), (h0, .inr (11, fM a tp sd23 pa24 pb25 dr26))] H := hP
  have hD : va_D A [(a 8, .inl (cR, 10240, .inl (fun _ => 0))), (a 9, .inl (cH, 10240, .inl (fun _ => 0))), (a 3, .inl (cN, 85, .inr (.inl g19))), (h0, .inr (11, fM a tp sd23 pa24 pb25 dr26))] := hD
  try dsimp only at hw
  clear hz1 hk1 hFc hPc hKc hDc
  refine lv_aload_n hx hb dX11_buildsAll_86 rfl (lv_at hl 2 rfl) ?_
  refine lv_iload_n hx hb dX11_buildsAll_87 rfl (lv_at hl 3 rfl) ?_
  refine lv_aload_n hx hb dX11_buildsAll_88 rfl (lv_at hl 2 rfl) ?_
  refine va_get (D := D) (ci := 11) (v := .long pa24) (C := RX11) (T := TX11) (N := 47) hx hb hts hin_X11 hown hK hP 3 rfl rfl 13 (by decide) (hts (.fieldLink RX11 117 "ClashFreeModel" "pairA" "J") (List.mem_of_getElem? (i := 25) rfl)) (fun _ h9 => h9) rfl dX11_buildsAll_89 ?_
  refine lv_aload_n hx hb dX11_buildsAll_92 rfl (lv_at hl 2 rfl) ?_
  refine va_get (D := D) (ci := 11) (v := .long pb25) (C := RX11) (T := TX11) (N := 47) hx hb hts hin_X11 hown hK hP 3 rfl rfl 14 (by decide) (hts (.fieldLink RX11 120 "ClashFreeModel" "pairB" "J") (List.mem_of_getElem? (i := 26) rfl)) (fun _ h9 => h9) rfl dX11_buildsAll_93 ?_
  refine lv_iconst (v := 2) hx hb dX11_buildsAll_96 (by decide) ?_
  have hPc := hP.sub (ws' := [(h0, .inr (11, fM a tp sd23 pa24 pb25 dr26)), (a 3, .inl (cN, 85, .inr (.inl g19))), (a 8, .inl (cR, 10240, .inl (fun _ => 0))), (a 9, .inl (cH, 10240, .inl (fun _ => 0)))]) [3, 2, 0, 1] rfl
  have hKc := hK.sub (tys' := [(cN, .long), (cR, .int), (cH, .int)]) [0, 1, 2] rfl
  have hDc := hD.sub (ws' := [(h0, .inr (11, fM a tp sd23 pa24 pb25 dr26)), (a 3, .inl (cN, 85, .inr (.inl g19))), (a 8, .inl (cR, 10240, .inl (fun _ => 0))), (a 9, .inl (cH, 10240, .inl (fun _ => 0)))]) [3, 2, 0, 1] (by decide) rfl
  have hFc := va_free (wc := [(h0, .inr (11, fM a tp sd23 pa24 pb25 dr26)), (a 3, .inl (cN, 85, .inr (.inl g19))), (a 8, .inl (cR, 10240, .inl (fun _ => 0))), (a 9, .inl (cH, 10240, .inl (fun _ => 0)))]) hD hS hA [3, 2, 0, 1] rfl
  refine va_calll (va_runV (As := [.int (nI k), .long pa24, .long pb25, .int 2]) (rest := []) ⟨hx, hb, hml, hown, hts⟩ (c_parts l D _ h0 a cN tp sd23 pa24 pb25 dr26 cR cH k g19 (ns * 4 / 100) pa24 pb25 (by omega) ((hL20.2 1 (by decide)).trans ((hL12.2 1 (by decide)).trans ((hL9.2 1 (by decide)).trans h1))) hL20.1 (by omega)) (cwV 4 hts g_c_buildsAllM_c_parts_165 rfl rfl rfl (by decide +kernel) ⟨(Nat.le_of_ble_eq_true rfl), (Nat.le_of_ble_eq_true rfl)⟩) (PcW_V (q0 := 0) hPc hKc hDc rfl rfl) rfl rfl hl.1 rfl (lv_room (Nat.le_of_ble_eq_true rfl)) dX11_buildsAll_97 ⟨(Nat.le_of_ble_eq_true rfl), (Nat.le_of_ble_eq_true rfl)⟩) hS (fun q _ h => hFc q h) hFc (fun r27 uu tt H locs htt hvm hw hB hz1 hk1 hS => ?_)
  obtain ⟨g28, rfl⟩ : ∃ z, z = uu := ⟨_, rfl⟩
  obtain ⟨hP1, hK1, hD1⟩ := hB
  rw [htt] at hP1
  have hK1 := va_K.moved hvm.symm hK1
  have hP1 : va_P D vwCl [(h0, .inr (11, fM a tp sd23 pa24 pb25 dr26)), (a 3, .inl (cN, 85, .inr (.inl g28))), (a 8, .inl (cR, 10240, .inl (fun _ => 0))), (a 9, .inl (cH, 10240, .inl (fun _ => 0)))] H := hP1
  obtain ⟨hP, hD⟩ := va_join (wr := []) (w1 := [(h0, .inr (11, fM a tp sd23 pa24 pb25 dr26)), (a 3, .inl (cN, 85, .inr (.inl g28))), (a 8, .inl (cR, 10240, .inl (fun _ => 0))), (a 9, .inl (cH, 10240, .inl (fun _ => 0)))]) hP hD [3, 2, 0, 1] [] rfl rfl (by decide) (by decide) hk1 hFc hP1 hD1
  have hP : va_P D vwCl [(h0, .inr (11, fM a tp sd23 pa24 pb25 dr26)), (a 3, .inl (cN, 85, .inr (.inl g28))), (a 8, .inl (cR, 10240, .inl (fun _ => 0))), (a 9, .inl (cH, 10240, .inl (fun _ => 0)))] H := hP
  have hD : va_D A [(h0, .inr (11, fM a tp sd23 pa24 pb25 dr26)), (a 3, .inl (cN, 85, .inr (.inl g28))), (a 8, .inl (cR, 10240, .inl (fun _ => 0))), (a 9, .inl (cH, 10240, .inl (fun _ => 0)))] := hD
  try dsimp only at hw
  clear hz1 hk1 hFc hPc hKc hDc
  obtain ⟨rfl, hQ29⟩ := hw
  refine lv_aload_n hx hb dX11_buildsAll_100 rfl (lv_at hl 2 rfl) ?_
  refine lv_iload_n hx hb dX11_buildsAll_101 rfl (lv_at hl 3 rfl) ?_
  refine lv_bipush (v := 14) hx hb dX11_buildsAll_102 (by decide) ?_
  have hPc := hP.sub (ws' := [(h0, .inr (11, fM a tp sd23 pa24 pb25 dr26)), (a 3, .inl (cN, 85, .inr (.inl g28)))]) [0, 1] rfl
  have hKc := hK.sub (tys' := [(cN, .long)]) [0] rfl
  have hFc := va_free0 hS hA
  refine va_calll (va_runV (As := [.int (nI k), .int (nI 14)]) (rest := [.long 0]) ⟨hx, hb, hml, hown, hts⟩ (c_of l D _ h0 a cN tp sd23 pa24 pb25 dr26 k 14 g28 (by first | omega | assumption) (by first | omega | assumption)) (cwV 2 hts g_c_buildsAllM_c_of_89 rfl rfl rfl (by decide +kernel) ⟨(Nat.le_of_ble_eq_true rfl), (Nat.le_of_ble_eq_true rfl)⟩) (PcR_V (q0 := 0) hPc hKc rfl rfl) rfl rfl hl.1 rfl (lv_room (Nat.le_of_ble_eq_true rfl)) dX11_buildsAll_104 ⟨(Nat.le_of_ble_eq_true rfl), (Nat.le_of_ble_eq_true rfl)⟩) hS (fun q _ h => hFc q h) hFc (fun r30 uu tt H locs htt hvm hw hB hz1 hk1 hS => ?_)
  have hP := va_keep hP hk1
  try dsimp only at hw
  clear hB hz1 hk1 hFc hPc hKc
  obtain rfl : r30 = g28 (17 * k + 14) := hw
  refine lv_topl (fun v31 ev31 => ?_)
  obtain rfl : v31 = lN bn := ev31.trans (((hQ29 14 (by decide) (by decide) (by decide)).trans ((hL20.2 14 (by decide)).trans ((hL12.2 14 (by decide)).trans ((hL9.2 14 (by decide)).trans h14)))))
  refine lv_aload_n hx hb dX11_buildsAll_107 rfl (lv_at hl 2 rfl) ?_
  refine lv_iload_n hx hb dX11_buildsAll_108 rfl (lv_at hl 3 rfl) ?_
  refine lv_iconst (v := 2) hx hb dX11_buildsAll_109 (by decide) ?_
  have hPc := hP.sub (ws' := [(h0, .inr (11, fM a tp sd23 pa24 pb25 dr26)), (a 3, .inl (cN, 85, .inr (.inl g28)))]) [0, 1] rfl
  have hKc := hK.sub (tys' := [(cN, .long)]) [0] rfl
  have hFc := va_free0 hS hA
  refine va_calll (va_runV (As := [.int (nI k), .int (nI 2)]) (rest := [.long (lN bn), .long 0]) ⟨hx, hb, hml, hown, hts⟩ (c_of l D _ h0 a cN tp sd23 pa24 pb25 dr26 k 2 g28 (by first | omega | assumption) (by first | omega | assumption)) (cwV 2 hts g_c_buildsAllM_c_of_89 rfl rfl rfl (by decide +kernel) ⟨(Nat.le_of_ble_eq_true rfl), (Nat.le_of_ble_eq_true rfl)⟩) (PcR_V (q0 := 0) hPc hKc rfl rfl) rfl rfl hl.1 rfl (lv_room (Nat.le_of_ble_eq_true rfl)) dX11_buildsAll_110 ⟨(Nat.le_of_ble_eq_true rfl), (Nat.le_of_ble_eq_true rfl)⟩) hS (fun q _ h => hFc q h) hFc (fun r32 uu tt H locs htt hvm hw hB hz1 hk1 hS => ?_)
  have hP := va_keep hP hk1
  try dsimp only at hw
  clear hB hz1 hk1 hFc hPc hKc
  obtain rfl : r32 = g28 (17 * k + 2) := hw
  refine lv_topl (fun v33 ev33 => ?_)
  obtain rfl : v33 = 4 := ev33.trans (((hQ29 2 (by decide) (by decide) (by decide)).trans ((hL20.2 2 (by decide)).trans ((hL12.2 2 (by decide)).trans hL9.1))))
  refine lv_lmul hx hb dX11_buildsAll_113 ?_
  refine lv_topl (fun v34 ev34 => ?_)
  obtain rfl : v34 = lN (bn * 4) := ev34.trans (lN_mul bn 4)
  refine W.lcmp hx hb dX11_buildsAll_114 ?_
  refine lv_if_le (tgt := 178) hx hb dX11_buildsAll_115 (by decide) (fun hc => ?_) (fun hc => absurd ((lg_cmp_le _ _).mpr ((lN_le (a := 0) (by decide) (by omega)).mpr (Nat.zero_le _))) hc)
  refine lv_iconst (v := 0) hx hb dX11_buildsAll_178 (by decide) ?_
  refine lv_istore (lv' := [(5, .int 0), (3, .long (lN (ns * 4 / 100))), (2, .int 0), (0, .ref h0), (1, .int (nI k))]) hx hb dX11_buildsAll_179 hl (by decide) rfl (fun ls hl => ?_)
  refine lp_bAllM l D h0 a cN tp sd23 pa24 pb25 dr26 cR cH k g28 (ns * 4 / 100) hk ((hQ29 4 (by decide) (by decide) (by decide)).trans hL20.1) (by omega) hx hb hml hown hts hA (hK.sub [0, 1, 2] rfl) (fun H locs ls hP hD hS hl => ?_) ((ns * 4 / 100) + 1) 0 (by omega) (by omega) _ _ _ (hP.sub [0, 1, 2, 3] rfl) (hD.sub [0, 1, 2, 3] (by decide) rfl) hS (lv_sub hl [0, 3, 4, 2] rfl)
  have hP : va_P D vwCl [(h0, .inr (11, fM a tp sd23 pa24 pb25 dr26)), (a 3, .inl (cN, 85, .inr (.inl g28))), (a 8, .inl (cR, 10240, .inl (fun _ => 0))), (a 9, .inl (cH, 10240, .inl (fun _ => 0)))] H := hP
  have hD : va_D A [(h0, .inr (11, fM a tp sd23 pa24 pb25 dr26)), (a 3, .inl (cN, 85, .inr (.inl g28))), (a 8, .inl (cR, 10240, .inl (fun _ => 0))), (a 9, .inl (cH, 10240, .inl (fun _ => 0)))] := hD
  refine lv_aload_n hx hb dX11_buildsAll_204 rfl (lv_at hl 0 rfl) ?_
  refine lv_iload_n hx hb dX11_buildsAll_205 rfl (lv_at hl 1 rfl) ?_
  have hPc := hP.sub (ws' := [(h0, .inr (11, fM a tp sd23 pa24 pb25 dr26)), (a 3, .inl (cN, 85, .inr (.inl g28)))]) [0, 1] rfl
  have hKc := hK.sub (tys' := [(cN, .long)]) [0] rfl
  have hDc := hD.sub (ws' := [(h0, .inr (11, fM a tp sd23 pa24 pb25 dr26)), (a 3, .inl (cN, 85, .inr (.inl g28)))]) [0, 1] (by decide) rfl
  have hFc := va_free (wc := [(h0, .inr (11, fM a tp sd23 pa24 pb25 dr26)), (a 3, .inl (cN, 85, .inr (.inl g28)))]) hD hS hA [0, 1] rfl
  refine va_callv (va_runV (As := [.int (nI k)]) (rest := []) ⟨hx, hb, hml, hown, hts⟩ (c_laysSeed l D _ h0 a cN tp sd23 pa24 pb25 dr26 k g28 (by first | omega | assumption)) (cwV 1 hts g_c_buildsAllM_c_laysSeed_175 rfl rfl rfl (by decide +kernel) ⟨(Nat.le_of_ble_eq_true rfl), (Nat.le_of_ble_eq_true rfl)⟩) (PcW_V (q0 := 0) hPc hKc hDc rfl rfl) rfl rfl hl.1 rfl (lv_room (Nat.le_of_ble_eq_true rfl)) dX11_buildsAll_206 ⟨(Nat.le_of_ble_eq_true rfl), (Nat.le_of_ble_eq_true rfl)⟩) hS (fun q _ h => hFc q h) hFc (fun uu tt H locs htt hvm hw hB hz1 hk1 hS => ?_)
  obtain ⟨g36, rfl⟩ : ∃ z, z = uu := ⟨_, rfl⟩
  obtain ⟨hP1, hK1, hD1⟩ := hB
  rw [htt] at hP1
  have hK1 := va_K.moved hvm.symm hK1
  have hP1 : va_P D vwCl [(h0, .inr (11, fM a tp sd23 pa24 pb25 dr26)), (a 3, .inl (cN, 85, .inr (.inl g36)))] H := hP1
  obtain ⟨hP, hD⟩ := va_join (wr := [(a 8, .inl (cR, 10240, .inl (fun _ => 0))), (a 9, .inl (cH, 10240, .inl (fun _ => 0)))]) (w1 := [(h0, .inr (11, fM a tp sd23 pa24 pb25 dr26)), (a 3, .inl (cN, 85, .inr (.inl g36)))]) hP hD [0, 1] [2, 3] rfl rfl (by decide) (by decide) hk1 hFc hP1 hD1
  have hP : va_P D vwCl [(a 8, .inl (cR, 10240, .inl (fun _ => 0))), (a 9, .inl (cH, 10240, .inl (fun _ => 0))), (h0, .inr (11, fM a tp sd23 pa24 pb25 dr26)), (a 3, .inl (cN, 85, .inr (.inl g36)))] H := hP
  have hD : va_D A [(a 8, .inl (cR, 10240, .inl (fun _ => 0))), (a 9, .inl (cH, 10240, .inl (fun _ => 0))), (h0, .inr (11, fM a tp sd23 pa24 pb25 dr26)), (a 3, .inl (cN, 85, .inr (.inl g36)))] := hD
  try dsimp only at hw
  clear hz1 hk1 hFc hPc hKc hDc
  refine lv_aload_n hx hb dX11_buildsAll_209 rfl (lv_at hl 0 rfl) ?_
  refine lv_iload_n hx hb dX11_buildsAll_210 rfl (lv_at hl 1 rfl) ?_
  refine lv_bipush (v := 12) hx hb dX11_buildsAll_211 (by decide) ?_
  refine lv_iload_n hx hb dX11_buildsAll_213 rfl (lv_at hl 2 rfl) ?_
  refine lv_i2l (v := 0) hx hb dX11_buildsAll_214 (by decide) ?_
  have hPc := hP.sub (ws' := [(h0, .inr (11, fM a tp sd23 pa24 pb25 dr26)), (a 3, .inl (cN, 85, .inr (.inl g36)))]) [2, 3] rfl
  have hKc := hK.sub (tys' := [(cN, .long)]) [0] rfl
  have hDc := hD.sub (ws' := [(h0, .inr (11, fM a tp sd23 pa24 pb25 dr26)), (a 3, .inl (cN, 85, .inr (.inl g36)))]) [2, 3] (by decide) rfl
  have hFc := va_free (wc := [(h0, .inr (11, fM a tp sd23 pa24 pb25 dr26)), (a 3, .inl (cN, 85, .inr (.inl g36)))]) hD hS hA [2, 3] rfl
  refine va_callv (va_runV (As := [.int (nI k), .int (nI 12), .long 0]) (rest := []) ⟨hx, hb, hml, hown, hts⟩ (c_adds l D _ h0 a cN tp sd23 pa24 pb25 dr26 k 12 g36 0 (by first | omega | assumption) (by first | omega | assumption)) (cwV 3 hts g_c_buildsAllM_c_adds_130 rfl rfl rfl (by decide +kernel) ⟨(Nat.le_of_ble_eq_true rfl), (Nat.le_of_ble_eq_true rfl)⟩) (PcW_V (q0 := 0) hPc hKc hDc rfl rfl) rfl rfl hl.1 rfl (lv_room (Nat.le_of_ble_eq_true rfl)) dX11_buildsAll_215 ⟨(Nat.le_of_ble_eq_true rfl), (Nat.le_of_ble_eq_true rfl)⟩) hS (fun q _ h => hFc q h) hFc (fun uu tt H locs htt hvm hw hB hz1 hk1 hS => ?_)
  obtain ⟨g38, rfl⟩ : ∃ z, z = uu := ⟨_, rfl⟩
  obtain ⟨hP1, hK1, hD1⟩ := hB
  rw [htt] at hP1
  have hK1 := va_K.moved hvm.symm hK1
  have hP1 : va_P D vwCl [(h0, .inr (11, fM a tp sd23 pa24 pb25 dr26)), (a 3, .inl (cN, 85, .inr (.inl g38)))] H := hP1
  obtain ⟨hP, hD⟩ := va_join (wr := [(a 8, .inl (cR, 10240, .inl (fun _ => 0))), (a 9, .inl (cH, 10240, .inl (fun _ => 0)))]) (w1 := [(h0, .inr (11, fM a tp sd23 pa24 pb25 dr26)), (a 3, .inl (cN, 85, .inr (.inl g38)))]) hP hD [2, 3] [0, 1] rfl rfl (by decide) (by decide) hk1 hFc hP1 hD1
  have hP : va_P D vwCl [(a 8, .inl (cR, 10240, .inl (fun _ => 0))), (a 9, .inl (cH, 10240, .inl (fun _ => 0))), (h0, .inr (11, fM a tp sd23 pa24 pb25 dr26)), (a 3, .inl (cN, 85, .inr (.inl g38)))] H := hP
  have hD : va_D A [(a 8, .inl (cR, 10240, .inl (fun _ => 0))), (a 9, .inl (cH, 10240, .inl (fun _ => 0))), (h0, .inr (11, fM a tp sd23 pa24 pb25 dr26)), (a 3, .inl (cN, 85, .inr (.inl g38)))] := hD
  try dsimp only at hw
  clear hz1 hk1 hFc hPc hKc hDc
  exact W.vret hx hb hr (fun t ht hW => ⟨⟨(), rfl, trivial, trivial⟩, hS.F ht⟩) hS.2.2 dX11_buildsAll_218

def own_c_X11_make : List Cond := [.fieldLink RX11 73 "ClashFreeModel" "thrown" "I", .constantLong RX11 87 (3), .methodLink RX11 83 yX11_isIn, .static yX11_isIn, .initialized RX11, .constantLong RX11 178 (8), .constantLong RX11 180 (64), .constantLong RX11 182 (25), .constantLong RX11 184 (400), .constantLong RX11 186 (200), .methodLink RX11 188 yX11_makes, .instanceMethod yX11_makes, .selects RX11 yX11_makes yX11_makes, .methodLink RX11 192 yX11_buildsAll, .instanceMethod yX11_buildsAll, .selects RX11 yX11_buildsAll yX11_buildsAll]
def wp_c_X11_make : List Cond := .code yX11_make cX11_make 7 (some .int) :: (own_c_X11_make ++ (wp_c_isIn ++ (wp_c_makes ++ (wp_c_buildsAllM ++ (wsX110 ++ ([] : List Cond))))))
set_option maxRecDepth 20000 in
theorem inown_c_X11_make : ∀ w ∈ own_c_X11_make, w ∈ lw_tbl := mem_places [1216, 1378, 1371, 1372, 115, 1379, 1380, 1381, 1382, 1383, 1384, 1386, 37, 1392, 1394, 39] (by decide +kernel)
set_option maxRecDepth 20000 in
theorem in_c_X11_make : ∀ w ∈ wp_c_X11_make, w ∈ lw_tbl := List.forall_mem_cons.mpr ⟨List.mem_of_getElem? (i := 1377) (by decide +kernel), List.forall_mem_append.mpr ⟨inown_c_X11_make, List.forall_mem_append.mpr ⟨in_c_isIn, List.forall_mem_append.mpr ⟨in_c_makes, List.forall_mem_append.mpr ⟨in_c_buildsAllM, List.forall_mem_append.mpr ⟨lwb_X11, fun _ h => absurd h List.not_mem_nil⟩⟩⟩⟩⟩⟩
set_option maxRecDepth 20000 in
theorem good_c_X11_make : wp_c_X11_make.all goodWord = true := by decide +kernel
set_option maxRecDepth 20000 in
theorem g_c_X11_make_c_isIn_83 : GoodIn wp_c_X11_make (va_wsS RX11 83 yX11_isIn wp_c_isIn) := goodIn_sub (List.forall_mem_append.mpr ⟨List.forall_mem_cons.mpr ⟨(List.mem_of_getElem? (i := 3) rfl), List.forall_mem_cons.mpr ⟨(List.mem_of_getElem? (i := 4) rfl), List.forall_mem_cons.mpr ⟨(List.mem_of_getElem? (i := 5) rfl), fun _ h => absurd h List.not_mem_nil⟩⟩⟩, (fun _ h => (List.mem_cons_of_mem _ (List.mem_append_right _ (List.mem_append_left _ h))))⟩) (by decide +kernel)
set_option maxRecDepth 20000 in
theorem g_c_X11_make_c_makes_188 : GoodIn wp_c_X11_make (wsV RX11 188 RX11 yX11_makes wp_c_makes) := goodIn_sub (List.forall_mem_append.mpr ⟨List.forall_mem_cons.mpr ⟨(List.mem_of_getElem? (i := 11) rfl), List.forall_mem_cons.mpr ⟨(List.mem_of_getElem? (i := 12) rfl), List.forall_mem_cons.mpr ⟨(List.mem_of_getElem? (i := 13) rfl), List.forall_mem_cons.mpr ⟨(List.mem_of_getElem? (i := 5) rfl), fun _ h => absurd h List.not_mem_nil⟩⟩⟩⟩, (fun _ h => (List.mem_cons_of_mem _ (List.mem_append_right _ (List.mem_append_right _ (List.mem_append_left _ h)))))⟩) (by decide +kernel)
set_option maxRecDepth 20000 in
theorem g_c_X11_make_c_buildsAllM_192 : GoodIn wp_c_X11_make (wsV RX11 192 RX11 yX11_buildsAll wp_c_buildsAllM) := goodIn_sub (List.forall_mem_append.mpr ⟨List.forall_mem_cons.mpr ⟨(List.mem_of_getElem? (i := 14) rfl), List.forall_mem_cons.mpr ⟨(List.mem_of_getElem? (i := 15) rfl), List.forall_mem_cons.mpr ⟨(List.mem_of_getElem? (i := 16) rfl), List.forall_mem_cons.mpr ⟨(List.mem_of_getElem? (i := 5) rfl), fun _ h => absurd h List.not_mem_nil⟩⟩⟩⟩, (fun _ h => (List.mem_cons_of_mem _ (List.mem_append_right _ (List.mem_append_right _ (List.mem_append_right _ (List.mem_append_left _ h))))))⟩) (by decide +kernel)
set_option maxHeartbeats 4000000 in
set_option maxRecDepth 100000 in
theorem c_X11_make (l : Launch) (D : va_G) (sz : Nat) (h0 : Nat) (a : Nat → Nat) (cN : ClassId) (tp : Int32) (sd : Int64) (pa : Int64) (pb : Int64) (dr : Int32) (cR : ClassId) (cH : ClassId) (z1 : Int32) (z2 : Int32) (z3 : Int32) (z4 : Int32) (y5 : Int64)  : Met l yX11_make wp_c_X11_make ({ frames := 7, cells := 0, slots := 0, locals := 205 }) (PcW D [.ref h0, .int z1, .int z2, .int z3, .int z4, .long y5] sz [(h0, .inr (11, fM a tp sd pa pb dr)), (a 3, .inl (cN, 85, .inr (.inl (fun _ => 0)))), (a 8, .inl (cR, 10240, .inl (fun _ => 0))), (a 9, .inl (cH, 10240, .inl (fun _ => 0)))] [(cN, .long), (cR, .int), (cH, .int)]) (va_Qi (fun (r : Int32) (_ : Unit) => r = mkF z1 z2 z3 z4) (fun (_ : Unit) _ => True) (va_A [(h0, .inr (11, fM a tp sd pa pb dr)), (a 3, .inl (cN, 85, .inr (.inl (fun _ => 0)))), (a 8, .inl (cR, 10240, .inl (fun _ => 0))), (a 9, .inl (cH, 10240, .inl (fun _ => 0)))] sz)) 0 0 (va_A [(h0, .inr (11, fM a tp sd pa pb dr)), (a 3, .inl (cN, 85, .inr (.inl (fun _ => 0)))), (a 8, .inl (cR, 10240, .inl (fun _ => 0))), (a 9, .inl (cH, 10240, .inl (fun _ => 0)))] sz) := by
  refine Met.ofW (cc := cX11_make) (maxL := 7) (ret := (some .int)) (by decide) rfl ?_
  intro p e s m args below meth c s₁ B hml hv
  obtain ⟨rfl, hsz, hP, hK, hD0⟩ := hv
  have hx := B.exec
  have hb := B.bytes
  have hr := B.returns
  have hts := atoms_spec (ws := wp_c_X11_make) B.pre
  have hin_X11 : ∀ w ∈ wsX110, w ∈ wp_c_X11_make := fun _ h => (List.mem_cons_of_mem _ (List.mem_append_right _ (List.mem_append_right _ (List.mem_append_right _ (List.mem_append_right _ (List.mem_append_left _ h))))))
  have hown : s.vm.findClass RX11 = some m.cls := findClass_of_methodNamed B.named
  have hlocks := B.notSynchronized
  subst hsz
  have hD := hD0.self (sz := s.heap.size)
  generalize hAe : va_A [(h0, .inr (11, fM a tp sd pa pb dr)), (a 3, .inl (cN, 85, .inr (.inl (fun _ => 0)))), (a 8, .inl (cR, 10240, .inl (fun _ => 0))), (a 9, .inl (cH, 10240, .inl (fun _ => 0)))] s.heap.size = A at hD ⊢
  have hA : ∀ q : Nat, s.heap.size ≤ q → A q := fun q h => by rw [← hAe]; exact Or.inr h
  have hS : va_S A s.heap s.heap [] := va_S.rf
  have hP : va_P D vwCl [(h0, .inr (11, fM a tp sd pa pb dr)), (a 3, .inl (cN, 85, .inr (.inl (fun _ => 0)))), (a 8, .inl (cR, 10240, .inl (fun _ => 0))), (a 9, .inl (cH, 10240, .inl (fun _ => 0)))] s.heap := hP
  have hl := lv_entry ([.ref h0, .int z1, .int z2, .int z3, .int z4, .long y5]) (n := 7) (Nat.le_of_ble_eq_true rfl)
  rw [lg_entry_eq]
  generalize (lg_sl ([.ref h0, .int z1, .int z2, .int z3, .int z4, .long y5]) ++ List.replicate (7 - (lg_sl ([.ref h0, .int z1, .int z2, .int z3, .int z4, .long y5])).length) Slot.unset).toArray = ls at hl ⊢
  have hl : lv_has ls 7 [(0, .ref h0), (1, .int z1), (2, .int z2), (3, .int z3), (4, .int z4), (5, .long y5)] := hl
  refine lv_aload_n hx hb dX11_make_0 rfl (lv_at hl 0 rfl) ?_
  refine lv_iconst (v := 0) hx hb dX11_make_1 (by decide) ?_
  refine va_put (D := D) (ci := 11) (v := .int 0) (ty := .int) (C := RX11) (T := TX11) (N := 47) hx hb hts hin_X11 tyX11 tyX11_ok nmX11 hown hK hP hD hS 0 rfl rfl 0 (by decide) (hts (.fieldLink RX11 73 "ClashFreeModel" "thrown" "I") (List.mem_of_getElem? (i := 1) rfl)) (fun _ h9 => h9) rfl (by decide +kernel) rfl rfl (Nat.le_of_ble_eq_true rfl) dX11_make_2 (fun H locs hP hD hS => ?_)
  have hP : va_P D vwCl [(h0, .inr (11, fM a tp sd pa pb dr)), (a 3, .inl (cN, 85, .inr (.inl (fun _ => 0)))), (a 8, .inl (cR, 10240, .inl (fun _ => 0))), (a 9, .inl (cH, 10240, .inl (fun _ => 0)))] H := hP
  have hD : va_D A [(h0, .inr (11, fM a tp sd pa pb dr)), (a 3, .inl (cN, 85, .inr (.inl (fun _ => 0)))), (a 8, .inl (cR, 10240, .inl (fun _ => 0))), (a 9, .inl (cH, 10240, .inl (fun _ => 0)))] := hD
  refine lv_iload_n hx hb dX11_make_5 rfl (lv_at hl 1 rfl) ?_
  refine lv_i2l hx hb dX11_make_6 rfl ?_
  refine lv_lconst (v := 0) hx hb dX11_make_7 (by decide) ?_
  refine lv_ldc2 (v := 3) hx hb hown (hts (.constantLong RX11 87 (3)) (List.mem_of_getElem? (i := 2) rfl)) dX11_make_8 ?_
  have hPc := hP.sub (ws' := []) [] rfl
  have hKc := hK.sub (tys' := []) [] rfl
  have hFc := va_free0 hS hA
  refine va_calli (va_runS (As := [.long (Int32.toInt64 z1), .long 0, .long 3]) (rest := []) ⟨hx, hb, hml, hown, hts⟩ (c_isIn l D _ (Int32.toInt64 z1) 0 3) (va_cwS 3 hts g_c_X11_make_c_isIn_83 rfl rfl rfl (by decide +kernel) ⟨(Nat.le_of_ble_eq_true rfl), (Nat.le_of_ble_eq_true rfl)⟩) (PcR_S hPc hKc) rfl rfl hl.1 rfl (lv_room (Nat.le_of_ble_eq_true rfl)) dX11_make_11 ⟨(Nat.le_of_ble_eq_true rfl), (Nat.le_of_ble_eq_true rfl)⟩) hS (fun q _ h => hFc q h) hFc (fun r1 uu tt H locs htt hvm hw hB hz1 hk1 hS => ?_)
  have hP := va_keep hP hk1
  try dsimp only at hw
  clear hB hz1 hk1 hFc hPc hKc
  have hw_r1 := hw
  refine lv_if_eq (tgt := 58) hx hb dX11_make_14 (by decide) (fun hc2 => ?_) (fun hc2 => ?_)
  ·
    have hno := mkF_a (s := z3) (t := z1) (b := z2) (g := z4) (fun q => ifF (by rw [← hw_r1]; exact hc2) ((isIn04c).mpr q))
    refine lv_bipush (v := (-2)) hx hb dX11_make_58 (by decide) ?_
    exact W.iret (v := (-2)) hx hb hr (fun t ht hW => ⟨⟨(-2), (), rfl, hno.symm, trivial⟩, hS.F ht⟩) hS.2.2 dX11_make_60
  ·
    have hg0 := (isIn04c).mp (ifT (by rw [← hw_r1]; exact hc2))
    refine lv_iload_n hx hb dX11_make_17 rfl (lv_at hl 2 rfl) ?_
    refine lv_i2l hx hb dX11_make_18 rfl ?_
    refine lv_ldc2 (v := 8) hx hb hown (hts (.constantLong RX11 178 (8)) (List.mem_of_getElem? (i := 6) rfl)) dX11_make_19 ?_
    refine lv_ldc2 (v := 64) hx hb hown (hts (.constantLong RX11 180 (64)) (List.mem_of_getElem? (i := 7) rfl)) dX11_make_22 ?_
    have hPc := hP.sub (ws' := []) [] rfl
    have hKc := hK.sub (tys' := []) [] rfl
    have hFc := va_free0 hS hA
    refine va_calli (va_runS (As := [.long (Int32.toInt64 z2), .long 8, .long 64]) (rest := []) ⟨hx, hb, hml, hown, hts⟩ (c_isIn l D _ (Int32.toInt64 z2) 8 64) (va_cwS 3 hts g_c_X11_make_c_isIn_83 rfl rfl rfl (by decide +kernel) ⟨(Nat.le_of_ble_eq_true rfl), (Nat.le_of_ble_eq_true rfl)⟩) (PcR_S hPc hKc) rfl rfl hl.1 rfl (lv_room (Nat.le_of_ble_eq_true rfl)) dX11_make_25 ⟨(Nat.le_of_ble_eq_true rfl), (Nat.le_of_ble_eq_true rfl)⟩) hS (fun q _ h => hFc q h) hFc (fun r3 uu tt H locs htt hvm hw hB hz1 hk1 hS => ?_)
    have hP := va_keep hP hk1
    try dsimp only at hw
    clear hB hz1 hk1 hFc hPc hKc
    have hw_r3 := hw
    refine lv_if_eq (tgt := 58) hx hb dX11_make_28 (by decide) (fun hc4 => ?_) (fun hc4 => ?_)
    ·
      have hno := mkF_b (s := z3) (t := z1) (b := z2) (g := z4) (fun q => ifF (by rw [← hw_r3]; exact hc4) ((isIn8).mpr q))
      refine lv_bipush (v := (-2)) hx hb dX11_make_58 (by decide) ?_
      exact W.iret (v := (-2)) hx hb hr (fun t ht hW => ⟨⟨(-2), (), rfl, hno.symm, trivial⟩, hS.F ht⟩) hS.2.2 dX11_make_60
    ·
      have hg1 := (isIn8).mp (ifT (by rw [← hw_r3]; exact hc4))
      refine lv_iload_n hx hb dX11_make_31 rfl (lv_at hl 3 rfl) ?_
      refine lv_i2l hx hb dX11_make_32 rfl ?_
      refine lv_ldc2 (v := 25) hx hb hown (hts (.constantLong RX11 182 (25)) (List.mem_of_getElem? (i := 8) rfl)) dX11_make_33 ?_
      refine lv_ldc2 (v := 400) hx hb hown (hts (.constantLong RX11 184 (400)) (List.mem_of_getElem? (i := 9) rfl)) dX11_make_36 ?_
      have hPc := hP.sub (ws' := []) [] rfl
      have hKc := hK.sub (tys' := []) [] rfl
      have hFc := va_free0 hS hA
      refine va_calli (va_runS (As := [.long (Int32.toInt64 z3), .long 25, .long 400]) (rest := []) ⟨hx, hb, hml, hown, hts⟩ (c_isIn l D _ (Int32.toInt64 z3) 25 400) (va_cwS 3 hts g_c_X11_make_c_isIn_83 rfl rfl rfl (by decide +kernel) ⟨(Nat.le_of_ble_eq_true rfl), (Nat.le_of_ble_eq_true rfl)⟩) (PcR_S hPc hKc) rfl rfl hl.1 rfl (lv_room (Nat.le_of_ble_eq_true rfl)) dX11_make_39 ⟨(Nat.le_of_ble_eq_true rfl), (Nat.le_of_ble_eq_true rfl)⟩) hS (fun q _ h => hFc q h) hFc (fun r5 uu tt H locs htt hvm hw hB hz1 hk1 hS => ?_)
      have hP := va_keep hP hk1
      try dsimp only at hw
      clear hB hz1 hk1 hFc hPc hKc
      have hw_r5 := hw
      refine lv_if_eq (tgt := 58) hx hb dX11_make_42 (by decide) (fun hc6 => ?_) (fun hc6 => ?_)
      ·
        have hno := mkF_c (s := z3) (t := z1) (b := z2) (g := z4) (fun q => ifF (by rw [← hw_r5]; exact hc6) ((isIn25).mpr q))
        refine lv_bipush (v := (-2)) hx hb dX11_make_58 (by decide) ?_
        exact W.iret (v := (-2)) hx hb hr (fun t ht hW => ⟨⟨(-2), (), rfl, hno.symm, trivial⟩, hS.F ht⟩) hS.2.2 dX11_make_60
      ·
        have hg2 := (isIn25).mp (ifT (by rw [← hw_r5]; exact hc6))
        refine lv_iload hx hb dX11_make_45 (lv_at hl 4 rfl) ?_
        refine lv_i2l hx hb dX11_make_47 rfl ?_
        refine lv_lconst (v := 0) hx hb dX11_make_48 (by decide) ?_
        refine lv_ldc2 (v := 200) hx hb hown (hts (.constantLong RX11 186 (200)) (List.mem_of_getElem? (i := 10) rfl)) dX11_make_49 ?_
        have hPc := hP.sub (ws' := []) [] rfl
        have hKc := hK.sub (tys' := []) [] rfl
        have hFc := va_free0 hS hA
        refine va_calli (va_runS (As := [.long (Int32.toInt64 z4), .long 0, .long 200]) (rest := []) ⟨hx, hb, hml, hown, hts⟩ (c_isIn l D _ (Int32.toInt64 z4) 0 200) (va_cwS 3 hts g_c_X11_make_c_isIn_83 rfl rfl rfl (by decide +kernel) ⟨(Nat.le_of_ble_eq_true rfl), (Nat.le_of_ble_eq_true rfl)⟩) (PcR_S hPc hKc) rfl rfl hl.1 rfl (lv_room (Nat.le_of_ble_eq_true rfl)) dX11_make_52 ⟨(Nat.le_of_ble_eq_true rfl), (Nat.le_of_ble_eq_true rfl)⟩) hS (fun q _ h => hFc q h) hFc (fun r7 uu tt H locs htt hvm hw hB hz1 hk1 hS => ?_)
        have hP := va_keep hP hk1
        try dsimp only at hw
        clear hB hz1 hk1 hFc hPc hKc
        have hw_r7 := hw
        refine lv_if_ne (tgt := 61) hx hb dX11_make_55 (by decide) (fun hc8 => ?_) (fun hc8 => ?_)
        ·
          have hg3 := (isIn200).mp (ifT (by rw [← hw_r7]; exact hc8))
          have hok := mkF_1 hg0 hg1 hg2 hg3
          obtain ⟨k, hk, rfl⟩ := in04 hg0
          obtain ⟨bn, hbn, rfl, -⟩ := inI (n := 64) (by decide) (by decide) hg1.1 hg1.2
          obtain ⟨ns, hs2, rfl, hs1⟩ := inI (n := 400) (by decide) (by decide) hg2.1 hg2.2
          have hs1 : 25 ≤ ns := by
            have e25 : (25 : Int32).toInt = 25 := by decide
            omega
          refine lv_aload_n hx hb dX11_make_61 rfl (lv_at hl 0 rfl) ?_
          refine lv_iload_n hx hb dX11_make_62 rfl (lv_at hl 1 rfl) ?_
          refine lv_iload_n hx hb dX11_make_63 rfl (lv_at hl 2 rfl) ?_
          refine lv_iload_n hx hb dX11_make_64 rfl (lv_at hl 3 rfl) ?_
          refine lv_iload hx hb dX11_make_65 (lv_at hl 4 rfl) ?_
          refine lv_lload hx hb dX11_make_67 (lv_at hl 5 rfl) ?_
          have hPc := hP.sub (ws' := [(h0, .inr (11, fM a tp sd pa pb dr)), (a 3, .inl (cN, 85, .inr (.inl (fun _ => 0))))]) [0, 1] rfl
          have hKc := hK.sub (tys' := [(cN, .long)]) [0] rfl
          have hDc := hD.sub (ws' := [(h0, .inr (11, fM a tp sd pa pb dr)), (a 3, .inl (cN, 85, .inr (.inl (fun _ => 0))))]) [0, 1] (by decide) rfl
          have hFc := va_free (wc := [(h0, .inr (11, fM a tp sd pa pb dr)), (a 3, .inl (cN, 85, .inr (.inl (fun _ => 0))))]) hD hS hA [0, 1] rfl
          refine va_callv (va_runV (As := [.int (nI k), .int (nI bn), .int (nI ns), .int z4, .long y5]) (rest := []) ⟨hx, hb, hml, hown, hts⟩ (c_makes l D _ h0 a cN tp sd pa pb dr k (fun _ => 0) (nI bn) (nI ns) z4 y5 (by omega)) (cwV 5 hts g_c_X11_make_c_makes_188 rfl rfl rfl (by decide +kernel) ⟨(Nat.le_of_ble_eq_true rfl), (Nat.le_of_ble_eq_true rfl)⟩) (PcW_V (q0 := 0) hPc hKc hDc rfl rfl) rfl rfl hl.1 rfl (lv_room (Nat.le_of_ble_eq_true rfl)) dX11_make_69 ⟨(Nat.le_of_ble_eq_true rfl), (Nat.le_of_ble_eq_true rfl)⟩) hS (fun q _ h => hFc q h) hFc (fun uu tt H locs htt hvm hw hB hz1 hk1 hS => ?_)
          obtain ⟨g10, rfl⟩ : ∃ z, z = uu := ⟨_, rfl⟩
          obtain ⟨hP1, hK1, hD1⟩ := hB
          rw [htt] at hP1
          have hK1 := va_K.moved hvm.symm hK1
          have hP1 : va_P D vwCl [(h0, .inr (11, fM a tp sd pa pb dr)), (a 3, .inl (cN, 85, .inr (.inl g10)))] H := hP1
          obtain ⟨hP, hD⟩ := va_join (wr := [(a 8, .inl (cR, 10240, .inl (fun _ => 0))), (a 9, .inl (cH, 10240, .inl (fun _ => 0)))]) (w1 := [(h0, .inr (11, fM a tp sd pa pb dr)), (a 3, .inl (cN, 85, .inr (.inl g10)))]) hP hD [0, 1] [2, 3] rfl rfl (by decide) (by decide) hk1 hFc hP1 hD1
          have hP : va_P D vwCl [(a 8, .inl (cR, 10240, .inl (fun _ => 0))), (a 9, .inl (cH, 10240, .inl (fun _ => 0))), (h0, .inr (11, fM a tp sd pa pb dr)), (a 3, .inl (cN, 85, .inr (.inl g10)))] H := hP
          have hD : va_D A [(a 8, .inl (cR, 10240, .inl (fun _ => 0))), (a 9, .inl (cH, 10240, .inl (fun _ => 0))), (h0, .inr (11, fM a tp sd pa pb dr)), (a 3, .inl (cN, 85, .inr (.inl g10)))] := hD
          try dsimp only at hw
          clear hz1 hk1 hFc hPc hKc hDc
          have hmk := hw
          refine lv_aload_n hx hb dX11_make_72 rfl (lv_at hl 0 rfl) ?_
          refine lv_iload_n hx hb dX11_make_73 rfl (lv_at hl 1 rfl) ?_
          have hPc := hP.sub (ws' := [(h0, .inr (11, fM a tp sd pa pb dr)), (a 3, .inl (cN, 85, .inr (.inl g10))), (a 8, .inl (cR, 10240, .inl (fun _ => 0))), (a 9, .inl (cH, 10240, .inl (fun _ => 0)))]) [2, 3, 0, 1] rfl
          have hKc := hK.sub (tys' := [(cN, .long), (cR, .int), (cH, .int)]) [0, 1, 2] rfl
          have hDc := hD.sub (ws' := [(h0, .inr (11, fM a tp sd pa pb dr)), (a 3, .inl (cN, 85, .inr (.inl g10))), (a 8, .inl (cR, 10240, .inl (fun _ => 0))), (a 9, .inl (cH, 10240, .inl (fun _ => 0)))]) [2, 3, 0, 1] (by decide) rfl
          have hFc := va_free (wc := [(h0, .inr (11, fM a tp sd pa pb dr)), (a 3, .inl (cN, 85, .inr (.inl g10))), (a 8, .inl (cR, 10240, .inl (fun _ => 0))), (a 9, .inl (cH, 10240, .inl (fun _ => 0)))]) hD hS hA [2, 3, 0, 1] rfl
          refine va_callv (va_runV (As := [.int (nI k)]) (rest := []) ⟨hx, hb, hml, hown, hts⟩ (c_buildsAllM l D _ h0 a cN tp sd pa pb dr cR cH k g10 bn ns (by omega) hmk.1 (hmk.2.1.trans (nI_l (by omega))) (hmk.2.2.trans (nI_l (by omega))) (by omega) (by omega) (by omega)) (cwV 1 hts g_c_X11_make_c_buildsAllM_192 rfl rfl rfl (by decide +kernel) ⟨(Nat.le_of_ble_eq_true rfl), (Nat.le_of_ble_eq_true rfl)⟩) (PcW_V (q0 := 0) hPc hKc hDc rfl rfl) rfl rfl hl.1 rfl (lv_room (Nat.le_of_ble_eq_true rfl)) dX11_make_74 ⟨(Nat.le_of_ble_eq_true rfl), (Nat.le_of_ble_eq_true rfl)⟩) hS (fun q _ h => hFc q h) hFc (fun uu tt H locs htt hvm hw hB hz1 hk1 hS => ?_)
          obtain ⟨hP, hD⟩ := va_join (wr := []) (w1 := []) hP hD [2, 3, 0, 1] [] rfl rfl (by decide) (by decide) hk1 hFc va_P_nil va_D_nil
          have hP : va_P D vwCl [] H := hP
          have hD : va_D A [] := hD
          try dsimp only at hw
          clear hB hz1 hk1 hFc hPc hKc hDc
          refine lv_iconst (v := 1) hx hb dX11_make_77 (by decide) ?_
          exact W.iret (v := 1) hx hb hr (fun t ht hW => ⟨⟨1, (), rfl, hok.symm, trivial⟩, hS.F ht⟩) hS.2.2 dX11_make_78
        ·
          have hno := mkF_d (s := z3) (t := z1) (b := z2) (g := z4) (fun q => ifF (by rw [← hw_r7]; exact hc8) ((isIn200).mpr q))
          refine lv_bipush (v := (-2)) hx hb dX11_make_58 (by decide) ?_
          exact W.iret (v := (-2)) hx hb hr (fun t ht hW => ⟨⟨(-2), (), rfl, hno.symm, trivial⟩, hS.F ht⟩) hS.2.2 dX11_make_60

