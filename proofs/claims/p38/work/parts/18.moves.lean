theorem dX11_moves_0 : decode cX11_moves 0 = .ok (.aload_n 0, 1) := by decide +kernel
theorem dX11_moves_1 : decode cX11_moves 1 = .ok (.getfield 17, 3) := by decide +kernel
theorem dX11_moves_4 : decode cX11_moves 4 = .ok (.iload_n 1, 1) := by decide +kernel
theorem dX11_moves_5 : decode cX11_moves 5 = .ok (.aload_n 0, 1) := by decide +kernel
theorem dX11_moves_6 : decode cX11_moves 6 = .ok (.getfield 17, 3) := by decide +kernel
theorem dX11_moves_9 : decode cX11_moves 9 = .ok (.iload_n 2, 1) := by decide +kernel
theorem dX11_moves_10 : decode cX11_moves 10 = .ok (.iaload, 1) := by decide +kernel
theorem dX11_moves_11 : decode cX11_moves 11 = .ok (.iastore, 1) := by decide +kernel
theorem dX11_moves_12 : decode cX11_moves 12 = .ok (.aload_n 0, 1) := by decide +kernel
theorem dX11_moves_13 : decode cX11_moves 13 = .ok (.getfield 21, 3) := by decide +kernel
theorem dX11_moves_16 : decode cX11_moves 16 = .ok (.iload_n 1, 1) := by decide +kernel
theorem dX11_moves_17 : decode cX11_moves 17 = .ok (.aload_n 0, 1) := by decide +kernel
theorem dX11_moves_18 : decode cX11_moves 18 = .ok (.getfield 21, 3) := by decide +kernel
theorem dX11_moves_21 : decode cX11_moves 21 = .ok (.iload_n 2, 1) := by decide +kernel
theorem dX11_moves_22 : decode cX11_moves 22 = .ok (.iaload, 1) := by decide +kernel
theorem dX11_moves_23 : decode cX11_moves 23 = .ok (.iastore, 1) := by decide +kernel
theorem dX11_moves_24 : decode cX11_moves 24 = .ok (.aload_n 0, 1) := by decide +kernel
theorem dX11_moves_25 : decode cX11_moves 25 = .ok (.getfield 24, 3) := by decide +kernel
theorem dX11_moves_28 : decode cX11_moves 28 = .ok (.iload_n 1, 1) := by decide +kernel
theorem dX11_moves_29 : decode cX11_moves 29 = .ok (.aload_n 0, 1) := by decide +kernel
theorem dX11_moves_30 : decode cX11_moves 30 = .ok (.getfield 24, 3) := by decide +kernel
theorem dX11_moves_33 : decode cX11_moves 33 = .ok (.iload_n 2, 1) := by decide +kernel
theorem dX11_moves_34 : decode cX11_moves 34 = .ok (.iaload, 1) := by decide +kernel
theorem dX11_moves_35 : decode cX11_moves 35 = .ok (.iastore, 1) := by decide +kernel
theorem dX11_moves_36 : decode cX11_moves 36 = .ok (.aload_n 0, 1) := by decide +kernel
theorem dX11_moves_37 : decode cX11_moves 37 = .ok (.getfield 27, 3) := by decide +kernel
theorem dX11_moves_40 : decode cX11_moves 40 = .ok (.iload_n 1, 1) := by decide +kernel
theorem dX11_moves_41 : decode cX11_moves 41 = .ok (.aload_n 0, 1) := by decide +kernel
theorem dX11_moves_42 : decode cX11_moves 42 = .ok (.getfield 27, 3) := by decide +kernel
theorem dX11_moves_45 : decode cX11_moves 45 = .ok (.iload_n 2, 1) := by decide +kernel
theorem dX11_moves_46 : decode cX11_moves 46 = .ok (.iaload, 1) := by decide +kernel
theorem dX11_moves_47 : decode cX11_moves 47 = .ok (.iastore, 1) := by decide +kernel
theorem dX11_moves_48 : decode cX11_moves 48 = .ok (.return_, 1) := by decide +kernel
/-- cells from y on are one place further, up to cn -/
def Shf (k y cn : Nat) (f g : Nat → Int32) : Prop := (∀ j, j ≤ y → g (160 * k + j) = f (160 * k + j)) ∧ (∀ j, y < j → j ≤ cn → g (160 * k + j) = f (160 * k + (j - 1))) ∧ ∀ x, (x < 160 * k ∨ 160 * k + 160 ≤ x) → g x = f x
theorem Shf_0 (k cn : Nat) (f : Nat → Int32) : Shf k cn cn f f := ⟨fun _ _ => rfl, fun j a b => absurd a (by omega), fun _ _ => rfl⟩
theorem Shf_step {k y cn : Nat} {f g : Nat → Int32} (hy : 0 < y) (hc : y < 160) (h : Shf k y cn f g) : Shf k (y - 1) cn f (upd g (160 * k + y) (g (160 * k + (y - 1)))) := by
  refine ⟨fun j hj => ?_, fun j h1 h2 => ?_, fun x hx => ?_⟩
  · rw [pk_un (by omega)]
    exact h.1 j (by omega)
  · by_cases e : j = y
    · subst e
      rw [pk_us]
      exact h.1 _ (by omega)
    · rw [pk_un (by omega)]
      exact h.2.1 j (by omega) h2
  · rw [pk_un (by omega)]
    exact h.2.2 x hx
/-- a cell has come in at q -/
def Ins (k q cn : Nat) (f g : Nat → Int32) (v : Int32) : Prop := (∀ j, j < q → g (160 * k + j) = f (160 * k + j)) ∧ g (160 * k + q) = v ∧ (∀ j, q < j → j ≤ cn → g (160 * k + j) = f (160 * k + (j - 1))) ∧ ∀ x, (x < 160 * k ∨ 160 * k + 160 ≤ x) → g x = f x
theorem Ins_of {k q cn : Nat} {f g : Nat → Int32} {v : Int32} (hq : q < 160) (h : Shf k q cn f g) : Ins k q cn f (upd g (160 * k + q) v) v := by
  refine ⟨fun j hj => ?_, pk_us, fun j h1 h2 => ?_, fun x hx => ?_⟩
  · rw [pk_un (by omega)]
    exact h.1 j (by omega)
  · rw [pk_un (by omega)]
    exact h.2.1 j h1 h2
  · rw [pk_un (by omega)]
    exact h.2.2 x hx
theorem sub1 {k y : Nat} (hy : 0 < y) : nI (160 * k + y) - 1 = nI (160 * k + (y - 1)) := by
  rw [show 160 * k + (y - 1) = 160 * k + y - 1 by omega]
  exact pk_sub (b := 1) (by omega)
theorem dec1 {k y : Nat} (hy : 0 < y) : nI (160 * k + y) + Int32.ofInt (-1) = nI (160 * k + (y - 1)) := by
  rw [show 160 * k + (y - 1) = 160 * k + y - 1 by omega]
  exact sb_m1 (by omega)
def own_c_moves : List Cond := [.fieldLink RX11 17 "ClashFreeModel" "keys" "[I", .fieldLink RX11 21 "ClashFreeModel" "values" "[I", .fieldLink RX11 24 "ClashFreeModel" "inBucket" "[I", .fieldLink RX11 27 "ClashFreeModel" "inRoom" "[I"]
def wp_c_moves : List Cond := .code yX11_moves cX11_moves 3 none :: (own_c_moves ++ (wsX110 ++ ([] : List Cond)))
set_option maxRecDepth 20000 in
theorem inown_c_moves : ∀ w ∈ own_c_moves, w ∈ lw_tbl := mem_places [1220, 1221, 1222, 1223] (by decide +kernel)
set_option maxRecDepth 20000 in
theorem in_c_moves : ∀ w ∈ wp_c_moves, w ∈ lw_tbl := List.forall_mem_cons.mpr ⟨List.mem_of_getElem? (i := 1512) (by decide +kernel), List.forall_mem_append.mpr ⟨inown_c_moves, List.forall_mem_append.mpr ⟨lwb_X11, fun _ h => absurd h List.not_mem_nil⟩⟩⟩
set_option maxRecDepth 20000 in
theorem good_c_moves : wp_c_moves.all goodWord = true := by decide +kernel
set_option maxHeartbeats 4000000 in
set_option maxRecDepth 100000 in
theorem c_moves (l : Launch) (D : va_G) (sz : Nat) (h0 : Nat) (a : Nat → Nat) (cm : Nat → ClassId) (i : Nat → Int32) (g : Nat → Int64) (fk : Nat → Int32) (fv : Nat → Int32) (fb : Nat → Int32) (fr : Nat → Int32) (kp : Nat) (kq : Nat) (hp : kp < 800) (hq : kq < 800) : Met l yX11_moves wp_c_moves ({ frames := 0, cells := 0, slots := 0, locals := 0 }) (PcW D [.ref h0, .int (nI kp), .int (nI kq)] sz [(h0, .inr (11, gM a i g)), (a 4, .inl (cm 4, 800, .inl fk)), (a 5, .inl (cm 5, 800, .inl fv)), (a 6, .inl (cm 6, 800, .inl fb)), (a 7, .inl (cm 7, 800, .inl fr))] [(cm 4, .int), (cm 5, .int), (cm 6, .int), (cm 7, .int)]) (va_Qv (fun (u : (Nat → Int32) × (Nat → Int32) × (Nat → Int32) × (Nat → Int32)) => u.1 = upd fk kp (fk kq) ∧ u.2.1 = upd fv kp (fv kq) ∧ u.2.2.1 = upd fb kp (fb kq) ∧ u.2.2.2 = upd fr kp (fr kq)) (fun (u : (Nat → Int32) × (Nat → Int32) × (Nat → Int32) × (Nat → Int32)) t => va_P D vwCl [(h0, .inr (11, gM a i g)), (a 4, .inl (cm 4, 800, .inl u.1)), (a 5, .inl (cm 5, 800, .inl u.2.1)), (a 6, .inl (cm 6, 800, .inl u.2.2.1)), (a 7, .inl (cm 7, 800, .inl u.2.2.2))] t.heap ∧ va_K D vwCl [(cm 4, .int), (cm 5, .int), (cm 6, .int), (cm 7, .int)] t ∧ va_D (va_A [(h0, .inr (11, gM a i g)), (a 4, .inl (cm 4, 800, .inl fk)), (a 5, .inl (cm 5, 800, .inl fv)), (a 6, .inl (cm 6, 800, .inl fb)), (a 7, .inl (cm 7, 800, .inl fr))] sz) [(h0, .inr (11, gM a i g)), (a 4, .inl (cm 4, 800, .inl u.1)), (a 5, .inl (cm 5, 800, .inl u.2.1)), (a 6, .inl (cm 6, 800, .inl u.2.2.1)), (a 7, .inl (cm 7, 800, .inl u.2.2.2))]) (va_A [(h0, .inr (11, gM a i g)), (a 4, .inl (cm 4, 800, .inl fk)), (a 5, .inl (cm 5, 800, .inl fv)), (a 6, .inl (cm 6, 800, .inl fb)), (a 7, .inl (cm 7, 800, .inl fr))] sz)) 0 0 (va_A [(h0, .inr (11, gM a i g)), (a 4, .inl (cm 4, 800, .inl fk)), (a 5, .inl (cm 5, 800, .inl fv)), (a 6, .inl (cm 6, 800, .inl fb)), (a 7, .inl (cm 7, 800, .inl fr))] sz) := by
  refine Met.ofW (cc := cX11_moves) (maxL := 3) (ret := none) (by decide) rfl ?_
  intro p e s m args below meth c s₁ B hml hv
  obtain ⟨rfl, hsz, hP, hK, hD0⟩ := hv
  have hx := B.exec
  have hb := B.bytes
  have hr := B.returns
  have hts := atoms_spec (ws := wp_c_moves) B.pre
  have hin_X11 : ∀ w ∈ wsX110, w ∈ wp_c_moves := fun _ h => (List.mem_cons_of_mem _ (List.mem_append_right _ (List.mem_append_left _ h)))
  have hown : s.vm.findClass RX11 = some m.cls := findClass_of_methodNamed B.named
  have hlocks := B.notSynchronized
  subst hsz
  have hD := hD0.self (sz := s.heap.size)
  generalize hAe : va_A [(h0, .inr (11, gM a i g)), (a 4, .inl (cm 4, 800, .inl fk)), (a 5, .inl (cm 5, 800, .inl fv)), (a 6, .inl (cm 6, 800, .inl fb)), (a 7, .inl (cm 7, 800, .inl fr))] s.heap.size = A at hD ⊢
  have hA : ∀ q : Nat, s.heap.size ≤ q → A q := fun q h => by rw [← hAe]; exact Or.inr h
  have hS : va_S A s.heap s.heap [] := va_S.rf
  have hP : va_P D vwCl [(h0, .inr (11, gM a i g)), (a 4, .inl (cm 4, 800, .inl fk)), (a 5, .inl (cm 5, 800, .inl fv)), (a 6, .inl (cm 6, 800, .inl fb)), (a 7, .inl (cm 7, 800, .inl fr))] s.heap := hP
  have hl := lv_entry ([.ref h0, .int (nI kp), .int (nI kq)]) (n := 3) (Nat.le_of_ble_eq_true rfl)
  rw [lg_entry_eq]
  generalize (lg_sl ([.ref h0, .int (nI kp), .int (nI kq)]) ++ List.replicate (3 - (lg_sl ([.ref h0, .int (nI kp), .int (nI kq)])).length) Slot.unset).toArray = ls at hl ⊢
  have hl : lv_has ls 3 [(0, .ref h0), (1, .int (nI kp)), (2, .int (nI kq))] := hl
  refine lv_aload_n hx hb dX11_moves_0 rfl (lv_at hl 0 rfl) ?_
  refine va_get (D := D) (ci := 11) (v := .ref (a 4)) (C := RX11) (T := TX11) (N := 47) hx hb hts hin_X11 hown hK hP 0 rfl rfl 4 (by decide) (hts (.fieldLink RX11 17 "ClashFreeModel" "keys" "[I") (List.mem_of_getElem? (i := 1) rfl)) (fun _ h9 => h9) rfl dX11_moves_1 ?_
  refine lv_iload_n hx hb dX11_moves_4 rfl (lv_at hl 1 rfl) ?_
  refine lv_aload_n hx hb dX11_moves_5 rfl (lv_at hl 0 rfl) ?_
  refine va_get (D := D) (ci := 11) (v := .ref (a 4)) (C := RX11) (T := TX11) (N := 47) hx hb hts hin_X11 hown hK hP 0 rfl rfl 4 (by decide) (hts (.fieldLink RX11 17 "ClashFreeModel" "keys" "[I") (List.mem_of_getElem? (i := 1) rfl)) (fun _ h9 => h9) rfl dX11_moves_6 ?_
  refine lv_iload_n hx hb dX11_moves_9 rfl (lv_at hl 2 rfl) ?_
  refine va_iald hx hb hK hP 1 0 rfl rfl (vp_in_nI (by omega) (by decide)) dX11_moves_10 ?_
  refine lv_topi (fun v1 ev1 => ?_)
  obtain rfl : v1 = fk kq := ev1.trans (by rw [nI_clamp (by omega)])
  refine va_iast hx hb hK hP hD hS 1 0 rfl rfl (vp_in_nI (by omega) (by decide)) dX11_moves_11 (fun H locs hP hD hS => ?_)
  have hP : va_P D vwCl [(h0, .inr (11, gM a i g)), (a 4, .inl (cm 4, 800, .inl (upd fk (Int32.toNatClampNeg (nI kp)) (fk kq)))), (a 5, .inl (cm 5, 800, .inl fv)), (a 6, .inl (cm 6, 800, .inl fb)), (a 7, .inl (cm 7, 800, .inl fr))] H := hP
  have hD : va_D A [(h0, .inr (11, gM a i g)), (a 4, .inl (cm 4, 800, .inl (upd fk (Int32.toNatClampNeg (nI kp)) (fk kq)))), (a 5, .inl (cm 5, 800, .inl fv)), (a 6, .inl (cm 6, 800, .inl fb)), (a 7, .inl (cm 7, 800, .inl fr))] := hD
  rw [show (upd fk (Int32.toNatClampNeg (nI kp)) (fk kq)) = (upd fk kp (fk kq)) from by rw [nI_clamp (by omega)]] at hP hD
  refine lv_aload_n hx hb dX11_moves_12 rfl (lv_at hl 0 rfl) ?_
  refine va_get (D := D) (ci := 11) (v := .ref (a 5)) (C := RX11) (T := TX11) (N := 47) hx hb hts hin_X11 hown hK hP 0 rfl rfl 5 (by decide) (hts (.fieldLink RX11 21 "ClashFreeModel" "values" "[I") (List.mem_of_getElem? (i := 2) rfl)) (fun _ h9 => h9) rfl dX11_moves_13 ?_
  refine lv_iload_n hx hb dX11_moves_16 rfl (lv_at hl 1 rfl) ?_
  refine lv_aload_n hx hb dX11_moves_17 rfl (lv_at hl 0 rfl) ?_
  refine va_get (D := D) (ci := 11) (v := .ref (a 5)) (C := RX11) (T := TX11) (N := 47) hx hb hts hin_X11 hown hK hP 0 rfl rfl 5 (by decide) (hts (.fieldLink RX11 21 "ClashFreeModel" "values" "[I") (List.mem_of_getElem? (i := 2) rfl)) (fun _ h9 => h9) rfl dX11_moves_18 ?_
  refine lv_iload_n hx hb dX11_moves_21 rfl (lv_at hl 2 rfl) ?_
  refine va_iald hx hb hK hP 2 1 rfl rfl (vp_in_nI (by omega) (by decide)) dX11_moves_22 ?_
  refine lv_topi (fun v2 ev2 => ?_)
  obtain rfl : v2 = fv kq := ev2.trans (by rw [nI_clamp (by omega)])
  refine va_iast hx hb hK hP hD hS 2 1 rfl rfl (vp_in_nI (by omega) (by decide)) dX11_moves_23 (fun H locs hP hD hS => ?_)
  have hP : va_P D vwCl [(h0, .inr (11, gM a i g)), (a 4, .inl (cm 4, 800, .inl (upd fk kp (fk kq)))), (a 5, .inl (cm 5, 800, .inl (upd fv (Int32.toNatClampNeg (nI kp)) (fv kq)))), (a 6, .inl (cm 6, 800, .inl fb)), (a 7, .inl (cm 7, 800, .inl fr))] H := hP
  have hD : va_D A [(h0, .inr (11, gM a i g)), (a 4, .inl (cm 4, 800, .inl (upd fk kp (fk kq)))), (a 5, .inl (cm 5, 800, .inl (upd fv (Int32.toNatClampNeg (nI kp)) (fv kq)))), (a 6, .inl (cm 6, 800, .inl fb)), (a 7, .inl (cm 7, 800, .inl fr))] := hD
  rw [show (upd fv (Int32.toNatClampNeg (nI kp)) (fv kq)) = (upd fv kp (fv kq)) from by rw [nI_clamp (by omega)]] at hP hD
  refine lv_aload_n hx hb dX11_moves_24 rfl (lv_at hl 0 rfl) ?_
  refine va_get (D := D) (ci := 11) (v := .ref (a 6)) (C := RX11) (T := TX11) (N := 47) hx hb hts hin_X11 hown hK hP 0 rfl rfl 6 (by decide) (hts (.fieldLink RX11 24 "ClashFreeModel" "inBucket" "[I") (List.mem_of_getElem? (i := 3) rfl)) (fun _ h9 => h9) rfl dX11_moves_25 ?_
  refine lv_iload_n hx hb dX11_moves_28 rfl (lv_at hl 1 rfl) ?_
  refine lv_aload_n hx hb dX11_moves_29 rfl (lv_at hl 0 rfl) ?_
  refine va_get (D := D) (ci := 11) (v := .ref (a 6)) (C := RX11) (T := TX11) (N := 47) hx hb hts hin_X11 hown hK hP 0 rfl rfl 6 (by decide) (hts (.fieldLink RX11 24 "ClashFreeModel" "inBucket" "[I") (List.mem_of_getElem? (i := 3) rfl)) (fun _ h9 => h9) rfl dX11_moves_30 ?_
  refine lv_iload_n hx hb dX11_moves_33 rfl (lv_at hl 2 rfl) ?_
  refine va_iald hx hb hK hP 3 2 rfl rfl (vp_in_nI (by omega) (by decide)) dX11_moves_34 ?_
  refine lv_topi (fun v3 ev3 => ?_)
  obtain rfl : v3 = fb kq := ev3.trans (by rw [nI_clamp (by omega)])
  refine va_iast hx hb hK hP hD hS 3 2 rfl rfl (vp_in_nI (by omega) (by decide)) dX11_moves_35 (fun H locs hP hD hS => ?_)
  have hP : va_P D vwCl [(h0, .inr (11, gM a i g)), (a 4, .inl (cm 4, 800, .inl (upd fk kp (fk kq)))), (a 5, .inl (cm 5, 800, .inl (upd fv kp (fv kq)))), (a 6, .inl (cm 6, 800, .inl (upd fb (Int32.toNatClampNeg (nI kp)) (fb kq)))), (a 7, .inl (cm 7, 800, .inl fr))] H := hP
  have hD : va_D A [(h0, .inr (11, gM a i g)), (a 4, .inl (cm 4, 800, .inl (upd fk kp (fk kq)))), (a 5, .inl (cm 5, 800, .inl (upd fv kp (fv kq)))), (a 6, .inl (cm 6, 800, .inl (upd fb (Int32.toNatClampNeg (nI kp)) (fb kq)))), (a 7, .inl (cm 7, 800, .inl fr))] := hD
  rw [show (upd fb (Int32.toNatClampNeg (nI kp)) (fb kq)) = (upd fb kp (fb kq)) from by rw [nI_clamp (by omega)]] at hP hD
  refine lv_aload_n hx hb dX11_moves_36 rfl (lv_at hl 0 rfl) ?_
  refine va_get (D := D) (ci := 11) (v := .ref (a 7)) (C := RX11) (T := TX11) (N := 47) hx hb hts hin_X11 hown hK hP 0 rfl rfl 7 (by decide) (hts (.fieldLink RX11 27 "ClashFreeModel" "inRoom" "[I") (List.mem_of_getElem? (i := 4) rfl)) (fun _ h9 => h9) rfl dX11_moves_37 ?_
  refine lv_iload_n hx hb dX11_moves_40 rfl (lv_at hl 1 rfl) ?_
  refine lv_aload_n hx hb dX11_moves_41 rfl (lv_at hl 0 rfl) ?_
  refine va_get (D := D) (ci := 11) (v := .ref (a 7)) (C := RX11) (T := TX11) (N := 47) hx hb hts hin_X11 hown hK hP 0 rfl rfl 7 (by decide) (hts (.fieldLink RX11 27 "ClashFreeModel" "inRoom" "[I") (List.mem_of_getElem? (i := 4) rfl)) (fun _ h9 => h9) rfl dX11_moves_42 ?_
  refine lv_iload_n hx hb dX11_moves_45 rfl (lv_at hl 2 rfl) ?_
  refine va_iald hx hb hK hP 4 3 rfl rfl (vp_in_nI (by omega) (by decide)) dX11_moves_46 ?_
  refine lv_topi (fun v4 ev4 => ?_)
  obtain rfl : v4 = fr kq := ev4.trans (by rw [nI_clamp (by omega)])
  refine va_iast hx hb hK hP hD hS 4 3 rfl rfl (vp_in_nI (by omega) (by decide)) dX11_moves_47 (fun H locs hP hD hS => ?_)
  have hP : va_P D vwCl [(h0, .inr (11, gM a i g)), (a 4, .inl (cm 4, 800, .inl (upd fk kp (fk kq)))), (a 5, .inl (cm 5, 800, .inl (upd fv kp (fv kq)))), (a 6, .inl (cm 6, 800, .inl (upd fb kp (fb kq)))), (a 7, .inl (cm 7, 800, .inl (upd fr (Int32.toNatClampNeg (nI kp)) (fr kq))))] H := hP
  have hD : va_D A [(h0, .inr (11, gM a i g)), (a 4, .inl (cm 4, 800, .inl (upd fk kp (fk kq)))), (a 5, .inl (cm 5, 800, .inl (upd fv kp (fv kq)))), (a 6, .inl (cm 6, 800, .inl (upd fb kp (fb kq)))), (a 7, .inl (cm 7, 800, .inl (upd fr (Int32.toNatClampNeg (nI kp)) (fr kq))))] := hD
  rw [show (upd fr (Int32.toNatClampNeg (nI kp)) (fr kq)) = (upd fr kp (fr kq)) from by rw [nI_clamp (by omega)]] at hP hD
  exact W.vret hx hb hr (fun t ht hW => ⟨⟨((upd fk kp (fk kq)), (upd fv kp (fv kq)), (upd fb kp (fb kq)), (upd fr kp (fr kq))), rfl, ⟨rfl, rfl, rfl, rfl⟩, by rw [ht]; exact hP.sub [0, 1, 2, 3, 4] rfl, va_K.moved hW.alike (hK.sub [0, 1, 2, 3] rfl), hD.sub [0, 1, 2, 3, 4] (by decide) rfl⟩, hS.F ht⟩) hS.2.2 dX11_moves_48

