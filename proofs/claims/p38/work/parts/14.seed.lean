theorem dX11_takesSeed_0 : decode cX11_takesSeed 0 = .ok (.aload_n 0, 1) := by decide +kernel
theorem dX11_takesSeed_1 : decode cX11_takesSeed 1 = .ok (.aload_n 0, 1) := by decide +kernel
theorem dX11_takesSeed_2 : decode cX11_takesSeed 2 = .ok (.iload_n 1, 1) := by decide +kernel
theorem dX11_takesSeed_3 : decode cX11_takesSeed 3 = .ok (.bipush 13, 2) := by decide +kernel
theorem dX11_takesSeed_5 : decode cX11_takesSeed 5 = .ok (.invokevirtual 89, 3) := by decide +kernel
theorem dX11_takesSeed_8 : decode cX11_takesSeed 8 = .ok (.putfield 105, 3) := by decide +kernel
theorem dX11_takesSeed_11 : decode cX11_takesSeed 11 = .ok (.aload_n 0, 1) := by decide +kernel
theorem dX11_takesSeed_12 : decode cX11_takesSeed 12 = .ok (.iconst 0, 1) := by decide +kernel
theorem dX11_takesSeed_13 : decode cX11_takesSeed 13 = .ok (.putfield 123, 3) := by decide +kernel
theorem dX11_takesSeed_16 : decode cX11_takesSeed 16 = .ok (.return_, 1) := by decide +kernel
theorem dX11_laysSeed_0 : decode cX11_laysSeed 0 = .ok (.aload_n 0, 1) := by decide +kernel
theorem dX11_laysSeed_1 : decode cX11_laysSeed 1 = .ok (.iload_n 1, 1) := by decide +kernel
theorem dX11_laysSeed_2 : decode cX11_laysSeed 2 = .ok (.bipush 13, 2) := by decide +kernel
theorem dX11_laysSeed_4 : decode cX11_laysSeed 4 = .ok (.aload_n 0, 1) := by decide +kernel
theorem dX11_laysSeed_5 : decode cX11_laysSeed 5 = .ok (.getfield 105, 3) := by decide +kernel
theorem dX11_laysSeed_8 : decode cX11_laysSeed 8 = .ok (.invokevirtual 126, 3) := by decide +kernel
theorem dX11_laysSeed_11 : decode cX11_laysSeed 11 = .ok (.aload_n 0, 1) := by decide +kernel
theorem dX11_laysSeed_12 : decode cX11_laysSeed 12 = .ok (.iload_n 1, 1) := by decide +kernel
theorem dX11_laysSeed_13 : decode cX11_laysSeed 13 = .ok (.bipush 9, 2) := by decide +kernel
theorem dX11_laysSeed_15 : decode cX11_laysSeed 15 = .ok (.aload_n 0, 1) := by decide +kernel
theorem dX11_laysSeed_16 : decode cX11_laysSeed 16 = .ok (.getfield 123, 3) := by decide +kernel
theorem dX11_laysSeed_19 : decode cX11_laysSeed 19 = .ok (.i2l, 1) := by decide +kernel
theorem dX11_laysSeed_20 : decode cX11_laysSeed 20 = .ok (.invokevirtual 130, 3) := by decide +kernel
theorem dX11_laysSeed_23 : decode cX11_laysSeed 23 = .ok (.return_, 1) := by decide +kernel
def own_c_takesSeed : List Cond := [.methodLink RX11 89 yX11_of, .instanceMethod yX11_of, .selects RX11 yX11_of yX11_of, .initialized RX11, .fieldLink RX11 105 "ClashFreeModel" "seed" "J", .fieldLink RX11 123 "ClashFreeModel" "drawn" "I"]
def wp_c_takesSeed : List Cond := .code yX11_takesSeed cX11_takesSeed 2 none :: (own_c_takesSeed ++ (wp_c_of ++ (wsX110 ++ ([] : List Cond))))
set_option maxRecDepth 20000 in
theorem inown_c_takesSeed : ∀ w ∈ own_c_takesSeed, w ∈ lw_tbl := mem_places [1400, 1402, 41, 115, 1228, 1231] (by decide +kernel)
set_option maxRecDepth 20000 in
theorem in_c_takesSeed : ∀ w ∈ wp_c_takesSeed, w ∈ lw_tbl := List.forall_mem_cons.mpr ⟨List.mem_of_getElem? (i := 1409) (by decide +kernel), List.forall_mem_append.mpr ⟨inown_c_takesSeed, List.forall_mem_append.mpr ⟨in_c_of, List.forall_mem_append.mpr ⟨lwb_X11, fun _ h => absurd h List.not_mem_nil⟩⟩⟩⟩
set_option maxRecDepth 20000 in
theorem good_c_takesSeed : wp_c_takesSeed.all goodWord = true := by decide +kernel
set_option maxRecDepth 20000 in
theorem g_c_takesSeed_c_of_89 : GoodIn wp_c_takesSeed (wsV RX11 89 RX11 yX11_of wp_c_of) := goodIn_sub (List.forall_mem_append.mpr ⟨List.forall_mem_cons.mpr ⟨(List.mem_of_getElem? (i := 1) rfl), List.forall_mem_cons.mpr ⟨(List.mem_of_getElem? (i := 2) rfl), List.forall_mem_cons.mpr ⟨(List.mem_of_getElem? (i := 3) rfl), List.forall_mem_cons.mpr ⟨(List.mem_of_getElem? (i := 4) rfl), fun _ h => absurd h List.not_mem_nil⟩⟩⟩⟩, (fun _ h => (List.mem_cons_of_mem _ (List.mem_append_right _ (List.mem_append_left _ h))))⟩) (by decide +kernel)
set_option maxHeartbeats 4000000 in
set_option maxRecDepth 100000 in
theorem c_takesSeed (l : Launch) (D : va_G) (sz : Nat) (h0 : Nat) (a : Nat → Nat) (cm : Nat → ClassId) (i : Nat → Int32) (g : Nat → Int64) (fn : Nat → Int64) (k : Nat) (hk : k < 5) : Met l yX11_takesSeed wp_c_takesSeed ({ frames := 1, cells := 0, slots := 0, locals := 22 }) (PcW D [.ref h0, .int (nI k)] sz [(h0, .inr (11, gM a i g)), (a 3, .inl (cm 3, 85, .inr (.inl fn)))] [(cm 3, .long)]) (va_Qv (fun (u : (Int64) × (Int32)) => u.2 = 0) (fun (u : (Int64) × (Int32)) t => va_P D vwCl [(h0, .inr (11, gM a (upd i 15 u.2) (vp_updL g 12 u.1))), (a 3, .inl (cm 3, 85, .inr (.inl fn)))] t.heap ∧ va_K D vwCl [(cm 3, .long)] t ∧ va_D (va_A [(h0, .inr (11, gM a i g)), (a 3, .inl (cm 3, 85, .inr (.inl fn)))] sz) [(h0, .inr (11, gM a (upd i 15 u.2) (vp_updL g 12 u.1))), (a 3, .inl (cm 3, 85, .inr (.inl fn)))]) (va_A [(h0, .inr (11, gM a i g)), (a 3, .inl (cm 3, 85, .inr (.inl fn)))] sz)) 0 0 (va_A [(h0, .inr (11, gM a i g)), (a 3, .inl (cm 3, 85, .inr (.inl fn)))] sz) := by
  refine Met.ofW (cc := cX11_takesSeed) (maxL := 2) (ret := none) (by decide) rfl ?_
  intro p e s m args below meth c s₁ B hml hv
  obtain ⟨rfl, hsz, hP, hK, hD0⟩ := hv
  have hx := B.exec
  have hb := B.bytes
  have hr := B.returns
  have hts := atoms_spec (ws := wp_c_takesSeed) B.pre
  have hin_X11 : ∀ w ∈ wsX110, w ∈ wp_c_takesSeed := fun _ h => (List.mem_cons_of_mem _ (List.mem_append_right _ (List.mem_append_right _ (List.mem_append_left _ h))))
  have hown : s.vm.findClass RX11 = some m.cls := findClass_of_methodNamed B.named
  have hlocks := B.notSynchronized
  subst hsz
  have hD := hD0.self (sz := s.heap.size)
  generalize hAe : va_A [(h0, .inr (11, gM a i g)), (a 3, .inl (cm 3, 85, .inr (.inl fn)))] s.heap.size = A at hD ⊢
  have hA : ∀ q : Nat, s.heap.size ≤ q → A q := fun q h => by rw [← hAe]; exact Or.inr h
  have hS : va_S A s.heap s.heap [] := va_S.rf
  have hP : va_P D vwCl [(h0, .inr (11, gM a i g)), (a 3, .inl (cm 3, 85, .inr (.inl fn)))] s.heap := hP
  have hl := lv_entry ([.ref h0, .int (nI k)]) (n := 2) (Nat.le_of_ble_eq_true rfl)
  rw [lg_entry_eq]
  generalize (lg_sl ([.ref h0, .int (nI k)]) ++ List.replicate (2 - (lg_sl ([.ref h0, .int (nI k)])).length) Slot.unset).toArray = ls at hl ⊢
  have hl : lv_has ls 2 [(0, .ref h0), (1, .int (nI k))] := hl
  refine lv_aload_n hx hb dX11_takesSeed_0 rfl (lv_at hl 0 rfl) ?_
  refine lv_aload_n hx hb dX11_takesSeed_1 rfl (lv_at hl 0 rfl) ?_
  refine lv_iload_n hx hb dX11_takesSeed_2 rfl (lv_at hl 1 rfl) ?_
  refine lv_bipush (v := 13) hx hb dX11_takesSeed_3 (by decide) ?_
  have hPc := hP.sub (ws' := [(h0, .inr (11, gM a i g)), (a 3, .inl (cm 3, 85, .inr (.inl fn)))]) [0, 1] rfl
  have hKc := hK.sub (tys' := [(cm 3, .long)]) [0] rfl
  have hFc := va_free0 hS hA
  refine va_calll (va_runV (As := [.int (nI k), .int (nI 13)]) (rest := [.ref h0]) ⟨hx, hb, hml, hown, hts⟩ (c_of l D _ h0 a cm i g fn k 13 (by first | assumption | omega) (by first | assumption | omega)) (cwV 2 hts g_c_takesSeed_c_of_89 rfl rfl rfl (by decide +kernel) ⟨(Nat.le_of_ble_eq_true rfl), (Nat.le_of_ble_eq_true rfl)⟩) (PcR_V (q0 := 0) hPc hKc rfl rfl) rfl rfl hl.1 rfl (lv_room (Nat.le_of_ble_eq_true rfl)) dX11_takesSeed_5 ⟨(Nat.le_of_ble_eq_true rfl), (Nat.le_of_ble_eq_true rfl)⟩) hS (fun q _ h => hFc q h) hFc (fun r1 uu tt H locs htt hvm hw hB hz1 hk1 hS => ?_)
  have hP := va_keep hP hk1
  try dsimp only at hw
  clear hB hz1 hk1 hFc hPc hKc
  obtain rfl : r1 = fn (17 * k + 13) := hw
  refine va_put (D := D) (ci := 11) (v := .long (fn (17 * k + 13))) (ty := .long) (C := RX11) (T := TX11) (N := 47) hx hb hts hin_X11 tyX11 tyX11_ok nmX11 hown hK hP hD hS 0 rfl rfl 12 (by decide) (hts (.fieldLink RX11 105 "ClashFreeModel" "seed" "J") (List.mem_of_getElem? (i := 5) rfl)) (fun _ h9 => h9) rfl (by decide +kernel) rfl rfl (Nat.le_of_ble_eq_true rfl) dX11_takesSeed_8 (fun H locs hP hD hS => ?_)
  have hP : va_P D vwCl [(h0, .inr (11, gM a i (vp_updL g 12 (fn (17 * k + 13))))), (a 3, .inl (cm 3, 85, .inr (.inl fn)))] H := hP
  have hD : va_D A [(h0, .inr (11, gM a i (vp_updL g 12 (fn (17 * k + 13))))), (a 3, .inl (cm 3, 85, .inr (.inl fn)))] := hD
  refine lv_aload_n hx hb dX11_takesSeed_11 rfl (lv_at hl 0 rfl) ?_
  refine lv_iconst (v := 0) hx hb dX11_takesSeed_12 (by decide) ?_
  refine va_put (D := D) (ci := 11) (v := .int 0) (ty := .int) (C := RX11) (T := TX11) (N := 47) hx hb hts hin_X11 tyX11 tyX11_ok nmX11 hown hK hP hD hS 0 rfl rfl 15 (by decide) (hts (.fieldLink RX11 123 "ClashFreeModel" "drawn" "I") (List.mem_of_getElem? (i := 6) rfl)) (fun _ h9 => h9) rfl (by decide +kernel) rfl rfl (Nat.le_of_ble_eq_true rfl) dX11_takesSeed_13 (fun H locs hP hD hS => ?_)
  have hP : va_P D vwCl [(h0, .inr (11, gM a (upd i 15 0) (vp_updL g 12 (fn (17 * k + 13))))), (a 3, .inl (cm 3, 85, .inr (.inl fn)))] H := hP
  have hD : va_D A [(h0, .inr (11, gM a (upd i 15 0) (vp_updL g 12 (fn (17 * k + 13))))), (a 3, .inl (cm 3, 85, .inr (.inl fn)))] := hD
  exact W.vret hx hb hr (fun t ht hW => ⟨⟨((fn (17 * k + 13)), 0), rfl, rfl, by rw [ht]; exact hP.sub [0, 1] rfl, va_K.moved hW.alike (hK.sub [0] rfl), hD.sub [0, 1] (by decide) rfl⟩, hS.F ht⟩) hS.2.2 dX11_takesSeed_16

def own_c_laysSeed : List Cond := [.fieldLink RX11 105 "ClashFreeModel" "seed" "J", .methodLink RX11 126 yX11_lays, .instanceMethod yX11_lays, .selects RX11 yX11_lays yX11_lays, .initialized RX11, .fieldLink RX11 123 "ClashFreeModel" "drawn" "I", .methodLink RX11 130 yX11_adds, .instanceMethod yX11_adds, .selects RX11 yX11_adds yX11_adds]
def wp_c_laysSeed : List Cond := .code yX11_laysSeed cX11_laysSeed 2 none :: (own_c_laysSeed ++ (wp_c_lays ++ (wp_c_adds ++ (wsX110 ++ ([] : List Cond)))))
set_option maxRecDepth 20000 in
theorem inown_c_laysSeed : ∀ w ∈ own_c_laysSeed, w ∈ lw_tbl := mem_places [1228, 1388, 1390, 38, 115, 1231, 1458, 1460, 53] (by decide +kernel)
set_option maxRecDepth 20000 in
theorem in_c_laysSeed : ∀ w ∈ wp_c_laysSeed, w ∈ lw_tbl := List.forall_mem_cons.mpr ⟨List.mem_of_getElem? (i := 1457) (by decide +kernel), List.forall_mem_append.mpr ⟨inown_c_laysSeed, List.forall_mem_append.mpr ⟨in_c_lays, List.forall_mem_append.mpr ⟨in_c_adds, List.forall_mem_append.mpr ⟨lwb_X11, fun _ h => absurd h List.not_mem_nil⟩⟩⟩⟩⟩
set_option maxRecDepth 20000 in
theorem good_c_laysSeed : wp_c_laysSeed.all goodWord = true := by decide +kernel
set_option maxRecDepth 20000 in
theorem g_c_laysSeed_c_lays_126 : GoodIn wp_c_laysSeed (wsV RX11 126 RX11 yX11_lays wp_c_lays) := goodIn_sub (List.forall_mem_append.mpr ⟨List.forall_mem_cons.mpr ⟨(List.mem_of_getElem? (i := 2) rfl), List.forall_mem_cons.mpr ⟨(List.mem_of_getElem? (i := 3) rfl), List.forall_mem_cons.mpr ⟨(List.mem_of_getElem? (i := 4) rfl), List.forall_mem_cons.mpr ⟨(List.mem_of_getElem? (i := 5) rfl), fun _ h => absurd h List.not_mem_nil⟩⟩⟩⟩, (fun _ h => (List.mem_cons_of_mem _ (List.mem_append_right _ (List.mem_append_left _ h))))⟩) (by decide +kernel)
set_option maxRecDepth 20000 in
theorem g_c_laysSeed_c_adds_130 : GoodIn wp_c_laysSeed (wsV RX11 130 RX11 yX11_adds wp_c_adds) := goodIn_sub (List.forall_mem_append.mpr ⟨List.forall_mem_cons.mpr ⟨(List.mem_of_getElem? (i := 7) rfl), List.forall_mem_cons.mpr ⟨(List.mem_of_getElem? (i := 8) rfl), List.forall_mem_cons.mpr ⟨(List.mem_of_getElem? (i := 9) rfl), List.forall_mem_cons.mpr ⟨(List.mem_of_getElem? (i := 5) rfl), fun _ h => absurd h List.not_mem_nil⟩⟩⟩⟩, (fun _ h => (List.mem_cons_of_mem _ (List.mem_append_right _ (List.mem_append_right _ (List.mem_append_left _ h)))))⟩) (by decide +kernel)
set_option maxHeartbeats 4000000 in
set_option maxRecDepth 100000 in
theorem c_laysSeed (l : Launch) (D : va_G) (sz : Nat) (h0 : Nat) (a : Nat → Nat) (cm : Nat → ClassId) (i : Nat → Int32) (g : Nat → Int64) (fn : Nat → Int64) (k : Nat) (hk : k < 5) : Met l yX11_laysSeed wp_c_laysSeed ({ frames := 1, cells := 0, slots := 0, locals := 24 }) (PcW D [.ref h0, .int (nI k)] sz [(h0, .inr (11, gM a i g)), (a 3, .inl (cm 3, 85, .inr (.inl fn)))] [(cm 3, .long)]) (va_Qv (fun (u : (Nat → Int64)) => ∀ x, x ≠ 17 * k + 13 → x ≠ 17 * k + 9 → u x = fn x) (fun (u : (Nat → Int64)) t => va_P D vwCl [(h0, .inr (11, gM a i g)), (a 3, .inl (cm 3, 85, .inr (.inl u)))] t.heap ∧ va_K D vwCl [(cm 3, .long)] t ∧ va_D (va_A [(h0, .inr (11, gM a i g)), (a 3, .inl (cm 3, 85, .inr (.inl fn)))] sz) [(h0, .inr (11, gM a i g)), (a 3, .inl (cm 3, 85, .inr (.inl u)))]) (va_A [(h0, .inr (11, gM a i g)), (a 3, .inl (cm 3, 85, .inr (.inl fn)))] sz)) 0 0 (va_A [(h0, .inr (11, gM a i g)), (a 3, .inl (cm 3, 85, .inr (.inl fn)))] sz) := by
  refine Met.ofW (cc := cX11_laysSeed) (maxL := 2) (ret := none) (by decide) rfl ?_
  intro p e s m args below meth c s₁ B hml hv
  obtain ⟨rfl, hsz, hP, hK, hD0⟩ := hv
  have hx := B.exec
  have hb := B.bytes
  have hr := B.returns
  have hts := atoms_spec (ws := wp_c_laysSeed) B.pre
  have hin_X11 : ∀ w ∈ wsX110, w ∈ wp_c_laysSeed := fun _ h => (List.mem_cons_of_mem _ (List.mem_append_right _ (List.mem_append_right _ (List.mem_append_right _ (List.mem_append_left _ h)))))
  have hown : s.vm.findClass RX11 = some m.cls := findClass_of_methodNamed B.named
  have hlocks := B.notSynchronized
  subst hsz
  have hD := hD0.self (sz := s.heap.size)
  generalize hAe : va_A [(h0, .inr (11, gM a i g)), (a 3, .inl (cm 3, 85, .inr (.inl fn)))] s.heap.size = A at hD ⊢
  have hA : ∀ q : Nat, s.heap.size ≤ q → A q := fun q h => by rw [← hAe]; exact Or.inr h
  have hS : va_S A s.heap s.heap [] := va_S.rf
  have hP : va_P D vwCl [(h0, .inr (11, gM a i g)), (a 3, .inl (cm 3, 85, .inr (.inl fn)))] s.heap := hP
  have hl := lv_entry ([.ref h0, .int (nI k)]) (n := 2) (Nat.le_of_ble_eq_true rfl)
  rw [lg_entry_eq]
  generalize (lg_sl ([.ref h0, .int (nI k)]) ++ List.replicate (2 - (lg_sl ([.ref h0, .int (nI k)])).length) Slot.unset).toArray = ls at hl ⊢
  have hl : lv_has ls 2 [(0, .ref h0), (1, .int (nI k))] := hl
  refine lv_aload_n hx hb dX11_laysSeed_0 rfl (lv_at hl 0 rfl) ?_
  refine lv_iload_n hx hb dX11_laysSeed_1 rfl (lv_at hl 1 rfl) ?_
  refine lv_bipush (v := 13) hx hb dX11_laysSeed_2 (by decide) ?_
  refine lv_aload_n hx hb dX11_laysSeed_4 rfl (lv_at hl 0 rfl) ?_
  refine va_get (D := D) (ci := 11) (v := .long (g 12)) (C := RX11) (T := TX11) (N := 47) hx hb hts hin_X11 hown hK hP 0 rfl rfl 12 (by decide) (hts (.fieldLink RX11 105 "ClashFreeModel" "seed" "J") (List.mem_of_getElem? (i := 1) rfl)) (fun _ h9 => h9) rfl dX11_laysSeed_5 ?_
  have hPc := hP.sub (ws' := [(h0, .inr (11, gM a i g)), (a 3, .inl (cm 3, 85, .inr (.inl fn)))]) [0, 1] rfl
  have hKc := hK.sub (tys' := [(cm 3, .long)]) [0] rfl
  have hDc := hD.sub (ws' := [(h0, .inr (11, gM a i g)), (a 3, .inl (cm 3, 85, .inr (.inl fn)))]) [0, 1] (by decide) rfl
  have hFc := va_free (wc := [(h0, .inr (11, gM a i g)), (a 3, .inl (cm 3, 85, .inr (.inl fn)))]) hD hS hA [0, 1] rfl
  refine va_callv (va_runV (As := [.int (nI k), .int (nI 13), .long (g 12)]) (rest := []) ⟨hx, hb, hml, hown, hts⟩ (c_lays l D _ h0 a cm i g fn k 13 (g 12) (by first | assumption | omega) (by first | assumption | omega)) (cwV 3 hts g_c_laysSeed_c_lays_126 rfl rfl rfl (by decide +kernel) ⟨(Nat.le_of_ble_eq_true rfl), (Nat.le_of_ble_eq_true rfl)⟩) (PcW_V (q0 := 0) hPc hKc hDc rfl rfl) rfl rfl hl.1 rfl (lv_room (Nat.le_of_ble_eq_true rfl)) dX11_laysSeed_8 ⟨(Nat.le_of_ble_eq_true rfl), (Nat.le_of_ble_eq_true rfl)⟩) hS (fun q _ h => hFc q h) hFc (fun uu tt H locs htt hvm hw hB hz1 hk1 hS => ?_)
  obtain ⟨w2, rfl⟩ : ∃ z, z = uu := ⟨_, rfl⟩
  obtain ⟨hP1, hK1, hD1⟩ := hB
  rw [htt] at hP1
  have hK1 := va_K.moved hvm.symm hK1
  have hP1 : va_P D vwCl [(h0, .inr (11, gM a i g)), (a 3, .inl (cm 3, 85, .inr (.inl w2)))] H := hP1
  obtain ⟨hP, hD⟩ := va_join (wr := []) (w1 := [(h0, .inr (11, gM a i g)), (a 3, .inl (cm 3, 85, .inr (.inl w2)))]) hP hD [0, 1] [] rfl rfl (by decide) (by decide) hk1 hFc hP1 hD1
  have hP : va_P D vwCl [(h0, .inr (11, gM a i g)), (a 3, .inl (cm 3, 85, .inr (.inl w2)))] H := hP
  have hD : va_D A [(h0, .inr (11, gM a i g)), (a 3, .inl (cm 3, 85, .inr (.inl w2)))] := hD
  try dsimp only at hw
  clear hz1 hk1 hFc hPc hKc hDc
  have hL3 := hw
  refine lv_aload_n hx hb dX11_laysSeed_11 rfl (lv_at hl 0 rfl) ?_
  refine lv_iload_n hx hb dX11_laysSeed_12 rfl (lv_at hl 1 rfl) ?_
  refine lv_bipush (v := 9) hx hb dX11_laysSeed_13 (by decide) ?_
  refine lv_aload_n hx hb dX11_laysSeed_15 rfl (lv_at hl 0 rfl) ?_
  refine va_get (D := D) (ci := 11) (v := .int (i 15)) (C := RX11) (T := TX11) (N := 47) hx hb hts hin_X11 hown hK hP 0 rfl rfl 15 (by decide) (hts (.fieldLink RX11 123 "ClashFreeModel" "drawn" "I") (List.mem_of_getElem? (i := 6) rfl)) (fun _ h9 => h9) rfl dX11_laysSeed_16 ?_
  refine lv_i2l hx hb dX11_laysSeed_19 rfl ?_
  have hPc := hP.sub (ws' := [(h0, .inr (11, gM a i g)), (a 3, .inl (cm 3, 85, .inr (.inl w2)))]) [0, 1] rfl
  have hKc := hK.sub (tys' := [(cm 3, .long)]) [0] rfl
  have hDc := hD.sub (ws' := [(h0, .inr (11, gM a i g)), (a 3, .inl (cm 3, 85, .inr (.inl w2)))]) [0, 1] (by decide) rfl
  have hFc := va_free (wc := [(h0, .inr (11, gM a i g)), (a 3, .inl (cm 3, 85, .inr (.inl w2)))]) hD hS hA [0, 1] rfl
  refine va_callv (va_runV (As := [.int (nI k), .int (nI 9), .long (Int32.toInt64 (i 15))]) (rest := []) ⟨hx, hb, hml, hown, hts⟩ (c_adds l D _ h0 a cm i g w2 k 9 (Int32.toInt64 (i 15)) (by first | assumption | omega) (by first | assumption | omega)) (cwV 3 hts g_c_laysSeed_c_adds_130 rfl rfl rfl (by decide +kernel) ⟨(Nat.le_of_ble_eq_true rfl), (Nat.le_of_ble_eq_true rfl)⟩) (PcW_V (q0 := 0) hPc hKc hDc rfl rfl) rfl rfl hl.1 rfl (lv_room (Nat.le_of_ble_eq_true rfl)) dX11_laysSeed_20 ⟨(Nat.le_of_ble_eq_true rfl), (Nat.le_of_ble_eq_true rfl)⟩) hS (fun q _ h => hFc q h) hFc (fun uu tt H locs htt hvm hw hB hz1 hk1 hS => ?_)
  obtain ⟨w5, rfl⟩ : ∃ z, z = uu := ⟨_, rfl⟩
  obtain ⟨hP1, hK1, hD1⟩ := hB
  rw [htt] at hP1
  have hK1 := va_K.moved hvm.symm hK1
  have hP1 : va_P D vwCl [(h0, .inr (11, gM a i g)), (a 3, .inl (cm 3, 85, .inr (.inl w5)))] H := hP1
  obtain ⟨hP, hD⟩ := va_join (wr := []) (w1 := [(h0, .inr (11, gM a i g)), (a 3, .inl (cm 3, 85, .inr (.inl w5)))]) hP hD [0, 1] [] rfl rfl (by decide) (by decide) hk1 hFc hP1 hD1
  have hP : va_P D vwCl [(h0, .inr (11, gM a i g)), (a 3, .inl (cm 3, 85, .inr (.inl w5)))] H := hP
  have hD : va_D A [(h0, .inr (11, gM a i g)), (a 3, .inl (cm 3, 85, .inr (.inl w5)))] := hD
  try dsimp only at hw
  clear hz1 hk1 hFc hPc hKc hDc
  have hL6 := hw
  exact W.vret hx hb hr (fun t ht hW => ⟨⟨w5, rfl, fun x a b => by rw [hL6.2 x b, hL3.2 x a], by rw [ht]; exact hP.sub [0, 1] rfl, va_K.moved hW.alike (hK.sub [0] rfl), hD.sub [0, 1] (by decide) rfl⟩, hS.F ht⟩) hS.2.2 dX11_laysSeed_23

