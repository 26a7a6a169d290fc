theorem dX11_frozenAt_0 : decode cX11_frozenAt 0 = .ok (.aload_n 0, 1) := by decide +kernel
theorem dX11_frozenAt_1 : decode cX11_frozenAt 1 = .ok (.iconst 0, 1) := by decide +kernel
theorem dX11_frozenAt_2 : decode cX11_frozenAt 2 = .ok (.putfield 73, 3) := by decide +kernel
theorem dX11_frozenAt_5 : decode cX11_frozenAt 5 = .ok (.aload_n 0, 1) := by decide +kernel
theorem dX11_frozenAt_6 : decode cX11_frozenAt 6 = .ok (.iload_n 1, 1) := by decide +kernel
theorem dX11_frozenAt_7 : decode cX11_frozenAt 7 = .ok (.invokevirtual 222, 3) := by decide +kernel
theorem dX11_frozenAt_10 : decode cX11_frozenAt 10 = .ok (.ifCond .ne 5, 3) := by decide +kernel
theorem dX11_frozenAt_13 : decode cX11_frozenAt 13 = .ok (.iconst (-1), 1) := by decide +kernel
theorem dX11_frozenAt_14 : decode cX11_frozenAt 14 = .ok (.ireturn, 1) := by decide +kernel
theorem dX11_frozenAt_15 : decode cX11_frozenAt 15 = .ok (.aload_n 0, 1) := by decide +kernel
theorem dX11_frozenAt_16 : decode cX11_frozenAt 16 = .ok (.iload_n 1, 1) := by decide +kernel
theorem dX11_frozenAt_17 : decode cX11_frozenAt 17 = .ok (.lload_n 2, 1) := by decide +kernel
theorem dX11_frozenAt_18 : decode cX11_frozenAt 18 = .ok (.invokevirtual 268, 3) := by decide +kernel
theorem dX11_frozenAt_21 : decode cX11_frozenAt 21 = .ok (.ifCond .ne 6, 3) := by decide +kernel
theorem dX11_frozenAt_24 : decode cX11_frozenAt 24 = .ok (.bipush (-2), 2) := by decide +kernel
theorem dX11_frozenAt_26 : decode cX11_frozenAt 26 = .ok (.ireturn, 1) := by decide +kernel
theorem dX11_frozenAt_27 : decode cX11_frozenAt 27 = .ok (.iload 4, 2) := by decide +kernel
theorem dX11_frozenAt_29 : decode cX11_frozenAt 29 = .ok (.invokestatic 226, 3) := by decide +kernel
theorem dX11_frozenAt_32 : decode cX11_frozenAt 32 = .ok (.ifCond .eq 28, 3) := by decide +kernel
theorem dX11_frozenAt_35 : decode cX11_frozenAt 35 = .ok (.aload_n 0, 1) := by decide +kernel
theorem dX11_frozenAt_36 : decode cX11_frozenAt 36 = .ok (.iload_n 1, 1) := by decide +kernel
theorem dX11_frozenAt_37 : decode cX11_frozenAt 37 = .ok (.iload 4, 2) := by decide +kernel
theorem dX11_frozenAt_39 : decode cX11_frozenAt 39 = .ok (.invokevirtual 202, 3) := by decide +kernel
theorem dX11_frozenAt_42 : decode cX11_frozenAt 42 = .ok (.ifCond .eq 18, 3) := by decide +kernel
theorem dX11_frozenAt_45 : decode cX11_frozenAt 45 = .ok (.aload_n 0, 1) := by decide +kernel
theorem dX11_frozenAt_46 : decode cX11_frozenAt 46 = .ok (.aload_n 0, 1) := by decide +kernel
theorem dX11_frozenAt_47 : decode cX11_frozenAt 47 = .ok (.iload_n 1, 1) := by decide +kernel
theorem dX11_frozenAt_48 : decode cX11_frozenAt 48 = .ok (.iload 4, 2) := by decide +kernel
theorem dX11_frozenAt_50 : decode cX11_frozenAt 50 = .ok (.i2l, 1) := by decide +kernel
theorem dX11_frozenAt_51 : decode cX11_frozenAt 51 = .ok (.invokevirtual 99, 3) := by decide +kernel
theorem dX11_frozenAt_54 : decode cX11_frozenAt 54 = .ok (.invokevirtual 274, 3) := by decide +kernel
theorem dX11_frozenAt_57 : decode cX11_frozenAt 57 = .ok (.goto 4, 3) := by decide +kernel
theorem dX11_frozenAt_60 : decode cX11_frozenAt 60 = .ok (.iconst (-1), 1) := by decide +kernel
theorem dX11_frozenAt_61 : decode cX11_frozenAt 61 = .ok (.ireturn, 1) := by decide +kernel
def own_c_frozenAtM : List Cond := [.fieldLink RX11 73 "ClashFreeModel" "thrown" "I", .methodLink RX11 222 yX11_isThere, .instanceMethod yX11_isThere, .selects RX11 yX11_isThere yX11_isThere, .initialized RX11, .methodLink RX11 268 yX11_freezes, .instanceMethod yX11_freezes, .selects RX11 yX11_freezes yX11_freezes, .methodLink RX11 226 yX11_isKey, .static yX11_isKey, .methodLink RX11 202 yX11_hasKey, .instanceMethod yX11_hasKey, .selects RX11 yX11_hasKey yX11_hasKey, .methodLink RX11 99 yX11_whereOf, .instanceMethod yX11_whereOf, .selects RX11 yX11_whereOf yX11_whereOf, .methodLink RX11 274 yX11_frozenRoom, .instanceMethod yX11_frozenRoom, .selects RX11 yX11_frozenRoom yX11_frozenRoom]
def wp_c_frozenAtM : List Cond := .code yX11_frozenAt cX11_frozenAt 5 (some .int) :: (own_c_frozenAtM ++ (wp_c_isThere ++ (wp_c_freezes ++ (wp_c_isKey ++ (wp_c_hasKey ++ (wp_c_whereOf ++ (wp_c_frozenRoom ++ (wsX110 ++ ([] : List Cond)))))))))
set_option maxRecDepth 20000 in
theorem inown_c_frozenAtM : ∀ w ∈ own_c_frozenAtM, w ∈ lw_tbl := mem_places [1216, 1466, 1468, 54, 115, 1620, 1622, 68, 1470, 1471, 1477, 1479, 56, 1481, 1483, 57, 1625, 1627, 69] (by decide +kernel)
set_option maxRecDepth 20000 in
theorem in_c_frozenAtM : ∀ w ∈ wp_c_frozenAtM, w ∈ lw_tbl := List.forall_mem_cons.mpr ⟨List.mem_of_getElem? (i := 1636) (by decide +kernel), List.forall_mem_append.mpr ⟨inown_c_frozenAtM, List.forall_mem_append.mpr ⟨in_c_isThere, List.forall_mem_append.mpr ⟨in_c_freezes, List.forall_mem_append.mpr ⟨in_c_isKey, List.forall_mem_append.mpr ⟨in_c_hasKey, List.forall_mem_append.mpr ⟨in_c_whereOf, List.forall_mem_append.mpr ⟨in_c_frozenRoom, List.forall_mem_append.mpr ⟨lwb_X11, fun _ h => absurd h List.not_mem_nil⟩⟩⟩⟩⟩⟩⟩⟩⟩
set_option maxRecDepth 20000 in
theorem good_c_frozenAtM : wp_c_frozenAtM.all goodWord = true := by decide +kernel
set_option maxRecDepth 20000 in
theorem g_c_frozenAtM_c_isThere_222 : GoodIn wp_c_frozenAtM (wsV RX11 222 RX11 yX11_isThere wp_c_isThere) := goodIn_sub (List.forall_mem_append.mpr ⟨List.forall_mem_cons.mpr ⟨(List.mem_of_getElem? (i := 2) rfl), List.forall_mem_cons.mpr ⟨(List.mem_of_getElem? (i := 3) rfl), List.forall_mem_cons.mpr ⟨(List.mem_of_getElem? (i := 4) rfl), List.forall_mem_cons.mpr ⟨(List.mem_of_getElem? (i := 5) rfl), fun _ h => absurd h List.not_mem_nil⟩⟩⟩⟩, (fun _ h => (List.mem_cons_of_mem _ (List.mem_append_right _ (List.mem_append_left _ h))))⟩) (by decide +kernel)
set_option maxRecDepth 20000 in
theorem g_c_frozenAtM_c_freezes_268 : GoodIn wp_c_frozenAtM (wsV RX11 268 RX11 yX11_freezes wp_c_freezes) := goodIn_sub (List.forall_mem_append.mpr ⟨List.forall_mem_cons.mpr ⟨(List.mem_of_getElem? (i := 6) rfl), List.forall_mem_cons.mpr ⟨(List.mem_of_getElem? (i := 7) rfl), List.forall_mem_cons.mpr ⟨(List.mem_of_getElem? (i := 8) rfl), List.forall_mem_cons.mpr ⟨(List.mem_of_getElem? (i := 5) rfl), fun _ h => absurd h List.not_mem_nil⟩⟩⟩⟩, (fun _ h => (List.mem_cons_of_mem _ (List.mem_append_right _ (List.mem_append_right _ (List.mem_append_left _ h)))))⟩) (by decide +kernel)
set_option maxRecDepth 20000 in
theorem g_c_frozenAtM_c_isKey_226 : GoodIn wp_c_frozenAtM (va_wsS RX11 226 yX11_isKey wp_c_isKey) := goodIn_sub (List.forall_mem_append.mpr ⟨List.forall_mem_cons.mpr ⟨(List.mem_of_getElem? (i := 9) rfl), List.forall_mem_cons.mpr ⟨(List.mem_of_getElem? (i := 10) rfl), List.forall_mem_cons.mpr ⟨(List.mem_of_getElem? (i := 5) rfl), fun _ h => absurd h List.not_mem_nil⟩⟩⟩, (fun _ h => (List.mem_cons_of_mem _ (List.mem_append_right _ (List.mem_append_right _ (List.mem_append_right _ (List.mem_append_left _ h))))))⟩) (by decide +kernel)
set_option maxRecDepth 20000 in
theorem g_c_frozenAtM_c_hasKey_202 : GoodIn wp_c_frozenAtM (wsV RX11 202 RX11 yX11_hasKey wp_c_hasKey) := goodIn_sub (List.forall_mem_append.mpr ⟨List.forall_mem_cons.mpr ⟨(List.mem_of_getElem? (i := 11) rfl), List.forall_mem_cons.mpr ⟨(List.mem_of_getElem? (i := 12) rfl), List.forall_mem_cons.mpr ⟨(List.mem_of_getElem? (i := 13) rfl), List.forall_mem_cons.mpr ⟨(List.mem_of_getElem? (i := 5) rfl), fun _ h => absurd h List.not_mem_nil⟩⟩⟩⟩, (fun _ h => (List.mem_cons_of_mem _ (List.mem_append_right _ (List.mem_append_right _ (List.mem_append_right _ (List.mem_append_right _ (List.mem_append_left _ h)))))))⟩) (by decide +kernel)
set_option maxRecDepth 20000 in
theorem g_c_frozenAtM_c_whereOf_99 : GoodIn wp_c_frozenAtM (wsV RX11 99 RX11 yX11_whereOf wp_c_whereOf) := goodIn_sub (List.forall_mem_append.mpr ⟨List.forall_mem_cons.mpr ⟨(List.mem_of_getElem? (i := 14) rfl), List.forall_mem_cons.mpr ⟨(List.mem_of_getElem? (i := 15) rfl), List.forall_mem_cons.mpr ⟨(List.mem_of_getElem? (i := 16) rfl), List.forall_mem_cons.mpr ⟨(List.mem_of_getElem? (i := 5) rfl), fun _ h => absurd h List.not_mem_nil⟩⟩⟩⟩, (fun _ h => (List.mem_cons_of_mem _ (List.mem_append_right _ (List.mem_append_right _ (List.mem_append_right _ (List.mem_append_right _ (List.mem_append_right _ (List.mem_append_left _ h))))))))⟩) (by decide +kernel)
set_option maxRecDepth 20000 in
theorem g_c_frozenAtM_c_frozenRoom_274 : GoodIn wp_c_frozenAtM (wsV RX11 274 RX11 yX11_frozenRoom wp_c_frozenRoom) := goodIn_sub (List.forall_mem_append.mpr ⟨List.forall_mem_cons.mpr ⟨(List.mem_of_getElem? (i := 17) rfl), List.forall_mem_cons.mpr ⟨(List.mem_of_getElem? (i := 18) rfl), List.forall_mem_cons.mpr ⟨(List.mem_of_getElem? (i := 19) rfl), List.forall_mem_cons.mpr ⟨(List.mem_of_getElem? (i := 5) rfl), fun _ h => absurd h List.not_mem_nil⟩⟩⟩⟩, (fun _ h => (List.mem_cons_of_mem _ (List.mem_append_right _ (List.mem_append_right _ (List.mem_append_right _ (List.mem_append_right _ (List.mem_append_right _ (List.mem_append_right _ (List.mem_append_left _ h)))))))))⟩) (by decide +kernel)
set_option maxHeartbeats 4000000 in
set_option maxRecDepth 100000 in
theorem c_frozenAtM (l : Launch) (D : va_G) (sz : Nat) (h0 : Nat) (a : Nat → Nat) (cm : Nat → ClassId) (i : Nat → Int32) (g : Nat → Int64) (fn : Nat → Int64) (fk : Nat → Int32) (fb : Nat → Int32) (fr : Nat → Int32) (ff : Nat → Int32) (fh : Nat → Int32) (fa : Nat → Int64) (fs : Nat → Int64) (z1 : Int32) (y2 : Int64) (z3 : Int32) (hM : MInv fn fk fb ff fh fa fs) : Met l yX11_frozenAt wp_c_frozenAtM ({ frames := 9, cells := 0, slots := 0, locals := 230 }) (PcW D [.ref h0, .int z1, .long y2, .int z3] sz [(h0, .inr (11, gM a i g)), (a 3, .inl (cm 3, 85, .inr (.inl fn))), (a 4, .inl (cm 4, 800, .inl fk)), (a 6, .inl (cm 6, 800, .inl fb)), (a 7, .inl (cm 7, 800, .inl fr)), (a 8, .inl (cm 8, 10240, .inl ff)), (a 9, .inl (cm 9, 10240, .inl fh)), (a 10, .inl (cm 10, 10240, .inr (.inl fa))), (a 11, .inl (cm 11, 10240, .inr (.inl fs)))] [(cm 3, .long), (cm 4, .int), (cm 6, .int), (cm 7, .int), (cm 8, .int), (cm 9, .int), (cm 10, .long), (cm 11, .long)]) (va_Qi (fun (r : Int32) (u : (Nat → Int64) × (Nat → Int32) × (Nat → Int32) × (Nat → Int32) × (Nat → Int32) × (Nat → Int32) × (Nat → Int64) × (Nat → Int64) × (Int32) × (Int64) × (Int64) × (Int64) × (Int32) × (Int32) × (Int32)) => (MInv u.1 u.2.1 u.2.2.1 u.2.2.2.2.1 u.2.2.2.2.2.1 u.2.2.2.2.2.2.1 u.2.2.2.2.2.2.2.1) ∧ SameT fn u.1 ∧ ∀ fv, lsR u.1 u.2.1 fv = lsR fn fk fv) (fun (u : (Nat → Int64) × (Nat → Int32) × (Nat → Int32) × (Nat → Int32) × (Nat → Int32) × (Nat → Int32) × (Nat → Int64) × (Nat → Int64) × (Int32) × (Int64) × (Int64) × (Int64) × (Int32) × (Int32) × (Int32)) t => va_P D vwCl [(h0, .inr (11, gM a (upd (upd (upd (upd i 0 u.2.2.2.2.2.2.2.2.1) 15 u.2.2.2.2.2.2.2.2.2.2.2.2.1) 17 u.2.2.2.2.2.2.2.2.2.2.2.2.2.1) 18 u.2.2.2.2.2.2.2.2.2.2.2.2.2.2) (vp_updL (vp_updL (vp_updL (fun _ => 0) 12 u.2.2.2.2.2.2.2.2.2.1) 13 u.2.2.2.2.2.2.2.2.2.2.1) 14 u.2.2.2.2.2.2.2.2.2.2.2.1))), (a 3, .inl (cm 3, 85, .inr (.inl u.1))), (a 4, .inl (cm 4, 800, .inl u.2.1)), (a 6, .inl (cm 6, 800, .inl u.2.2.1)), (a 7, .inl (cm 7, 800, .inl u.2.2.2.1)), (a 8, .inl (cm 8, 10240, .inl u.2.2.2.2.1)), (a 9, .inl (cm 9, 10240, .inl u.2.2.2.2.2.1)), (a 10, .inl (cm 10, 10240, .inr (.inl u.2.2.2.2.2.2.1))), (a 11, .inl (cm 11, 10240, .inr (.inl u.2.2.2.2.2.2.2.1)))] t.heap ∧ va_K D vwCl [(cm 3, .long), (cm 4, .int), (cm 6, .int), (cm 7, .int), (cm 8, .int), (cm 9, .int), (cm 10, .long), (cm 11, .long)] t ∧ va_D (va_A [(h0, .inr (11, gM a i g)), (a 3, .inl (cm 3, 85, .inr (.inl fn))), (a 4, .inl (cm 4, 800, .inl fk)), (a 6, .inl (cm 6, 800, .inl fb)), (a 7, .inl (cm 7, 800, .inl fr)), (a 8, .inl (cm 8, 10240, .inl ff)), (a 9, .inl (cm 9, 10240, .inl fh)), (a 10, .inl (cm 10, 10240, .inr (.inl fa))), (a 11, .inl (cm 11, 10240, .inr (.inl fs)))] sz) [(h0, .inr (11, gM a (upd (upd (upd (upd i 0 u.2.2.2.2.2.2.2.2.1) 15 u.2.2.2.2.2.2.2.2.2.2.2.2.1) 17 u.2.2.2.2.2.2.2.2.2.2.2.2.2.1) 18 u.2.2.2.2.2.2.2.2.2.2.2.2.2.2) (vp_updL (vp_updL (vp_updL (fun _ => 0) 12 u.2.2.2.2.2.2.2.2.2.1) 13 u.2.2.2.2.2.2.2.2.2.2.1) 14 u.2.2.2.2.2.2.2.2.2.2.2.1))), (a 3, .inl (cm 3, 85, .inr (.inl u.1))), (a 4, .inl (cm 4, 800, .inl u.2.1)), (a 6, .inl (cm 6, 800, .inl u.2.2.1)), (a 7, .inl (cm 7, 800, .inl u.2.2.2.1)), (a 8, .inl (cm 8, 10240, .inl u.2.2.2.2.1)), (a 9, .inl (cm 9, 10240, .inl u.2.2.2.2.2.1)), (a 10, .inl (cm 10, 10240, .inr (.inl u.2.2.2.2.2.2.1))), (a 11, .inl (cm 11, 10240, .inr (.inl u.2.2.2.2.2.2.2.1)))]) (va_A [(h0, .inr (11, gM a i g)), (a 3, .inl (cm 3, 85, .inr (.inl fn))), (a 4, .inl (cm 4, 800, .inl fk)), (a 6, .inl (cm 6, 800, .inl fb)), (a 7, .inl (cm 7, 800, .inl fr)), (a 8, .inl (cm 8, 10240, .inl ff)), (a 9, .inl (cm 9, 10240, .inl fh)), (a 10, .inl (cm 10, 10240, .inr (.inl fa))), (a 11, .inl (cm 11, 10240, .inr (.inl fs)))] sz)) 0 0 (va_A [(h0, .inr (11, gM a i g)), (a 3, .inl (cm 3, 85, .inr (.inl fn))), (a 4, .inl (cm 4, 800, .inl fk)), (a 6, .inl (cm 6, 800, .inl fb)), (a 7, .inl (cm 7, 800, .inl fr)), (a 8, .inl (cm 8, 10240, .inl ff)), (a 9, .inl (cm 9, 10240, .inl fh)), (a 10, .inl (cm 10, 10240, .inr (.inl fa))), (a 11, .inl (cm 11, 10240, .inr (.inl fs)))] sz) := by
  refine Met.ofW (cc := cX11_frozenAt) (maxL := 5) (ret := (some .int)) (by decide) rfl ?_
  intro p e s m args below meth c s₁ B hml hv
  obtain ⟨rfl, hsz, hP, hK, hD0⟩ := hv
  have hx := B.exec
  have hb := B.bytes
  have hr := B.returns
  have hts := atoms_spec (ws := wp_c_frozenAtM) B.pre
  have hin_X11 : ∀ w ∈ wsX110, w ∈ wp_c_frozenAtM := fun _ h => (List.mem_cons_of_mem _ (List.mem_append_right _ (List.mem_append_right _ (List.mem_append_right _ (List.mem_append_right _ (List.mem_append_right _ (List.mem_append_right _ (List.mem_append_right _ (List.mem_append_left _ h)))))))))
  have hown : s.vm.findClass RX11 = some m.cls := findClass_of_methodNamed B.named
  have hlocks := B.notSynchronized
  subst hsz
  have hD := hD0.self (sz := s.heap.size)
  generalize hAe : va_A [(h0, .inr (11, gM a i g)), (a 3, .inl (cm 3, 85, .inr (.inl fn))), (a 4, .inl (cm 4, 800, .inl fk)), (a 6, .inl (cm 6, 800, .inl fb)), (a 7, .inl (cm 7, 800, .inl fr)), (a 8, .inl (cm 8, 10240, .inl ff)), (a 9, .inl (cm 9, 10240, .inl fh)), (a 10, .inl (cm 10, 10240, .inr (.inl fa))), (a 11, .inl (cm 11, 10240, .inr (.inl fs)))] s.heap.size = A at hD ⊢
  have hA : ∀ q : Nat, s.heap.size ≤ q → A q := fun q h => by rw [← hAe]; exact Or.inr h
  have hS : va_S A s.heap s.heap [] := va_S.rf
  have hP : va_P D vwCl [(h0, .inr (11, gM a i g)), (a 3, .inl (cm 3, 85, .inr (.inl fn))), (a 4, .inl (cm 4, 800, .inl fk)), (a 6, .inl (cm 6, 800, .inl fb)), (a 7, .inl (cm 7, 800, .inl fr)), (a 8, .inl (cm 8, 10240, .inl ff)), (a 9, .inl (cm 9, 10240, .inl fh)), (a 10, .inl (cm 10, 10240, .inr (.inl fa))), (a 11, .inl (cm 11, 10240, .inr (.inl fs)))] s.heap := hP
  have hl := lv_entry ([.ref h0, .int z1, .long y2, .int z3]) (n := 5) (Nat.le_of_ble_eq_true rfl)
  rw [lg_entry_eq]
  generalize (lg_sl ([.ref h0, .int z1, .long y2, .int z3]) ++ List.replicate (5 - (lg_sl ([.ref h0, .int z1, .long y2, .int z3])).length) Slot.unset).toArray = ls at hl ⊢
  have hl : lv_has ls 5 [(0, .ref h0), (1, .int z1), (2, .long y2), (4, .int z3)] := hl
  have hfa := hM.1
  have hfs := hM.2.1
  refine lv_aload_n hx hb dX11_frozenAt_0 rfl (lv_at hl 0 rfl) ?_
  refine lv_iconst (v := 0) hx hb dX11_frozenAt_1 (by decide) ?_
  refine va_put (D := D) (ci := 11) (v := .int 0) (ty := .int) (C := RX11) (T := TX11) (N := 47) hx hb hts hin_X11 tyX11 tyX11_ok nmX11 hown hK hP hD hS 0 rfl rfl 0 (by decide) (hts (.fieldLink RX11 73 "ClashFreeModel" "thrown" "I") (List.mem_of_getElem? (i := 1) rfl)) (fun _ h9 => h9) rfl (by decide +kernel) rfl rfl (Nat.le_of_ble_eq_true rfl) dX11_frozenAt_2 (fun H locs hP hD hS => ?_)
  have hP : va_P D vwCl [(h0, .inr (11, gM a (upd i 0 0) g)), (a 3, .inl (cm 3, 85, .inr (.inl fn))), (a 4, .inl (cm 4, 800, .inl fk)), (a 6, .inl (cm 6, 800, .inl fb)), (a 7, .inl (cm 7, 800, .inl fr)), (a 8, .inl (cm 8, 10240, .inl ff)), (a 9, .inl (cm 9, 10240, .inl fh)), (a 10, .inl (cm 10, 10240, .inr (.inl fa))), (a 11, .inl (cm 11, 10240, .inr (.inl fs)))] H := hP
  have hD : va_D A [(h0, .inr (11, gM a (upd i 0 0) g)), (a 3, .inl (cm 3, 85, .inr (.inl fn))), (a 4, .inl (cm 4, 800, .inl fk)), (a 6, .inl (cm 6, 800, .inl fb)), (a 7, .inl (cm 7, 800, .inl fr)), (a 8, .inl (cm 8, 10240, .inl ff)), (a 9, .inl (cm 9, 10240, .inl fh)), (a 10, .inl (cm 10, 10240, .inr (.inl fa))), (a 11, .inl (cm 11, 10240, .inr (.inl fs)))] := hD
  refine lv_aload_n hx hb dX11_frozenAt_5 rfl (lv_at hl 0 rfl) ?_
  refine lv_iload_n hx hb dX11_frozenAt_6 rfl (lv_at hl 1 rfl) ?_
  have hPc := hP.sub (ws' := [(h0, .inr (11, gM a (upd i 0 0) g)), (a 3, .inl (cm 3, 85, .inr (.inl fn)))]) [0, 1] rfl
  have hKc := hK.sub (tys' := [(cm 3, .long)]) [0] rfl
  have hFc := va_free0 hS hA
  refine va_calli (va_runV (As := [.int z1]) (rest := []) ⟨hx, hb, hml, hown, hts⟩ (c_isThere l D _ h0 a cm (upd i 0 0) g fn z1) (cwV 1 hts g_c_frozenAtM_c_isThere_222 rfl rfl rfl (by decide +kernel) ⟨(Nat.le_of_ble_eq_true rfl), (Nat.le_of_ble_eq_true rfl)⟩) (PcR_V (q0 := 0) hPc hKc rfl rfl) rfl rfl hl.1 rfl (lv_room (Nat.le_of_ble_eq_true rfl)) dX11_frozenAt_7 ⟨(Nat.le_of_ble_eq_true rfl), (Nat.le_of_ble_eq_true rfl)⟩) hS (fun q _ h => hFc q h) hFc (fun r1 uu tt H locs htt hvm hw hB hz1 hk1 hS => ?_)
  have hP := va_keep hP hk1
  try dsimp only at hw
  clear hB hz1 hk1 hFc hPc hKc
  rcases hw with ⟨rfl, hA_r1⟩ | ⟨rfl, hA_r1⟩
  ·
    obtain ⟨k, hk, rfl, ht⟩ := hA_r1
    obtain ⟨cn, nb, K, J, hT⟩ := hM.2.2 k hk ht
    have hth := (show there fn (nI k) from ⟨k, hk, rfl, ht⟩)
    obtain ⟨h1, hcn, h4, hn1, hn2, ⟨ka, kb, hka, hkb, h6, h7⟩, hKy, hBk, hHs, ⟨bn, ns, gr, h14, hbn, h15, hs1, hs2, h16, hgr⟩⟩ := id hT
    refine lv_if_ne (tgt := 15) hx hb dX11_frozenAt_10 (by decide) (fun hc => ?_) (fun hc => absurd hc (by decide))
    refine lv_aload_n hx hb dX11_frozenAt_15 rfl (lv_at hl 0 rfl) ?_
    refine lv_iload_n hx hb dX11_frozenAt_16 rfl (lv_at hl 1 rfl) ?_
    refine lv_lload_n hx hb dX11_frozenAt_17 rfl (lv_at hl 2 rfl) ?_
    have hPc := hP.sub (ws' := [(h0, .inr (11, gM a (upd i 0 0) g)), (a 3, .inl (cm 3, 85, .inr (.inl fn))), (a 4, .inl (cm 4, 800, .inl fk)), (a 6, .inl (cm 6, 800, .inl fb)), (a 7, .inl (cm 7, 800, .inl fr)), (a 8, .inl (cm 8, 10240, .inl ff)), (a 9, .inl (cm 9, 10240, .inl fh)), (a 10, .inl (cm 10, 10240, .inr (.inl fa))), (a 11, .inl (cm 11, 10240, .inr (.inl fs)))]) [0, 1, 2, 3, 4, 5, 6, 7, 8] rfl
    have hKc := hK.sub (tys' := [(cm 3, .long), (cm 4, .int), (cm 6, .int), (cm 7, .int), (cm 8, .int), (cm 9, .int), (cm 10, .long), (cm 11, .long)]) [0, 1, 2, 3, 4, 5, 6, 7] rfl
    have hDc := hD.sub (ws' := [(h0, .inr (11, gM a (upd i 0 0) g)), (a 3, .inl (cm 3, 85, .inr (.inl fn))), (a 4, .inl (cm 4, 800, .inl fk)), (a 6, .inl (cm 6, 800, .inl fb)), (a 7, .inl (cm 7, 800, .inl fr)), (a 8, .inl (cm 8, 10240, .inl ff)), (a 9, .inl (cm 9, 10240, .inl fh)), (a 10, .inl (cm 10, 10240, .inr (.inl fa))), (a 11, .inl (cm 11, 10240, .inr (.inl fs)))]) [0, 1, 2, 3, 4, 5, 6, 7, 8] (by decide) rfl
    have hFc := va_free (wc := [(h0, .inr (11, gM a (upd i 0 0) g)), (a 3, .inl (cm 3, 85, .inr (.inl fn))), (a 4, .inl (cm 4, 800, .inl fk)), (a 6, .inl (cm 6, 800, .inl fb)), (a 7, .inl (cm 7, 800, .inl fr)), (a 8, .inl (cm 8, 10240, .inl ff)), (a 9, .inl (cm 9, 10240, .inl fh)), (a 10, .inl (cm 10, 10240, .inr (.inl fa))), (a 11, .inl (cm 11, 10240, .inr (.inl fs)))]) hD hS hA [0, 1, 2, 3, 4, 5, 6, 7, 8] rfl
    refine va_calli (va_runV (As := [.int (nI k), .long y2]) (rest := []) ⟨hx, hb, hml, hown, hts⟩ (c_freezes l D _ h0 a cm (upd i 0 0) g fn fk fb fr ff fh fa fs k cn K y2 (by first | assumption | omega) h1 (by first | assumption | omega) hKy (by first | assumption | omega) (by first | assumption | omega)) (cwV 2 hts g_c_frozenAtM_c_freezes_268 rfl rfl rfl (by decide +kernel) ⟨(Nat.le_of_ble_eq_true rfl), (Nat.le_of_ble_eq_true rfl)⟩) (PcW_V (q0 := 0) hPc hKc hDc rfl rfl) rfl rfl hl.1 rfl (lv_room (Nat.le_of_ble_eq_true rfl)) dX11_frozenAt_18 ⟨(Nat.le_of_ble_eq_true rfl), (Nat.le_of_ble_eq_true rfl)⟩) hS (fun q _ h => hFc q h) hFc (fun r2 uu tt H locs htt hvm hw hB hz1 hk1 hS => ?_)
    obtain ⟨w3, w4, w5, w6, w7, w8, w9, w10, w11, w12, w13, w14, w15, w16⟩ := uu
    obtain ⟨hP1, hK1, hD1⟩ := hB
    rw [htt] at hP1
    have hK1 := va_K.moved hvm.symm hK1
    have hP1 : va_P D vwCl [(h0, .inr (11, gM a (upd (upd (upd (upd i 0 0) 15 w14) 17 w15) 18 w16) (vp_updL (vp_updL (vp_updL (fun _ => 0) 12 w11) 13 w12) 14 w13))), (a 3, .inl (cm 3, 85, .inr (.inl w3))), (a 4, .inl (cm 4, 800, .inl w4)), (a 6, .inl (cm 6, 800, .inl w5)), (a 7, .inl (cm 7, 800, .inl w6)), (a 8, .inl (cm 8, 10240, .inl w7)), (a 9, .inl (cm 9, 10240, .inl w8)), (a 10, .inl (cm 10, 10240, .inr (.inl w9))), (a 11, .inl (cm 11, 10240, .inr (.inl w10)))] H := hP1
    obtain ⟨hP, hD⟩ := va_join (wr := []) (w1 := [(h0, .inr (11, gM a (upd (upd (upd (upd i 0 0) 15 w14) 17 w15) 18 w16) (vp_updL (vp_updL (vp_updL (fun _ => 0) 12 w11) 13 w12) 14 w13))), (a 3, .inl (cm 3, 85, .inr (.inl w3))), (a 4, .inl (cm 4, 800, .inl w4)), (a 6, .inl (cm 6, 800, .inl w5)), (a 7, .inl (cm 7, 800, .inl w6)), (a 8, .inl (cm 8, 10240, .inl w7)), (a 9, .inl (cm 9, 10240, .inl w8)), (a 10, .inl (cm 10, 10240, .inr (.inl w9))), (a 11, .inl (cm 11, 10240, .inr (.inl w10)))]) hP hD [0, 1, 2, 3, 4, 5, 6, 7, 8] [] rfl rfl (by decide) (by decide) hk1 hFc hP1 hD1
    have hP : va_P D vwCl [(h0, .inr (11, gM a (upd (upd (upd (upd i 0 0) 15 w14) 17 w15) 18 w16) (vp_updL (vp_updL (vp_updL (fun _ => 0) 12 w11) 13 w12) 14 w13))), (a 3, .inl (cm 3, 85, .inr (.inl w3))), (a 4, .inl (cm 4, 800, .inl w4)), (a 6, .inl (cm 6, 800, .inl w5)), (a 7, .inl (cm 7, 800, .inl w6)), (a 8, .inl (cm 8, 10240, .inl w7)), (a 9, .inl (cm 9, 10240, .inl w8)), (a 10, .inl (cm 10, 10240, .inr (.inl w9))), (a 11, .inl (cm 11, 10240, .inr (.inl w10)))] H := hP
    have hD : va_D A [(h0, .inr (11, gM a (upd (upd (upd (upd i 0 0) 15 w14) 17 w15) 18 w16) (vp_updL (vp_updL (vp_updL (fun _ => 0) 12 w11) 13 w12) 14 w13))), (a 3, .inl (cm 3, 85, .inr (.inl w3))), (a 4, .inl (cm 4, 800, .inl w4)), (a 6, .inl (cm 6, 800, .inl w5)), (a 7, .inl (cm 7, 800, .inl w6)), (a 8, .inl (cm 8, 10240, .inl w7)), (a 9, .inl (cm 9, 10240, .inl w8)), (a 10, .inl (cm 10, 10240, .inr (.inl w9))), (a 11, .inl (cm 11, 10240, .inr (.inl w10)))] := hD
    try dsimp only at hw
    clear hz1 hk1 hFc hPc hKc hDc
    obtain ⟨fz_r, fz_a, fz_s, fz1, fz2, fz3, fz4, fz5⟩ := hw
    have hMz := hM.fz fz_a fz_s fz1 fz2 fz3 fz4 fz5
    have hKz := (show KyS k w4 cn K from ⟨fun j hj => ⟨(fz2 _ (by omega)).trans (hKy.1 j hj).1, (hKy.1 j hj).2⟩, hKy.2⟩)
    refine lv_if_ne (tgt := 27) hx hb dX11_frozenAt_21 (by decide) (fun hc17 => ?_) (fun hc17 => ?_)
    ·
      obtain ⟨-, nbz, hz1, hz2, Jz, hBz, hrz⟩ := fz_r.resolve_left hc17
      refine lv_iload hx hb dX11_frozenAt_27 (lv_at hl 3 rfl) ?_
      have hPc := hP.sub (ws' := []) [] rfl
      have hKc := hK.sub (tys' := []) [] rfl
      have hFc := va_free0 hS hA
      refine va_calli (va_runS (As := [.int z3]) (rest := []) ⟨hx, hb, hml, hown, hts⟩ (c_isKey l D _ z3) (va_cwS 1 hts g_c_frozenAtM_c_isKey_226 rfl rfl rfl (by decide +kernel) ⟨(Nat.le_of_ble_eq_true rfl), (Nat.le_of_ble_eq_true rfl)⟩) (PcR_S hPc hKc) rfl rfl hl.1 rfl (lv_room (Nat.le_of_ble_eq_true rfl)) dX11_frozenAt_29 ⟨(Nat.le_of_ble_eq_true rfl), (Nat.le_of_ble_eq_true rfl)⟩) hS (fun q _ h => hFc q h) hFc (fun r18 uu tt H locs htt hvm hw hB hz1 hk1 hS => ?_)
      have hP := va_keep hP hk1
      try dsimp only at hw
      clear hB hz1 hk1 hFc hPc hKc
      rcases hw with ⟨rfl, hA_r18⟩ | ⟨rfl, hA_r18⟩
      ·
        obtain ⟨kx, hkx, rfl⟩ := hA_r18
        refine lv_if_eq (tgt := 60) hx hb dX11_frozenAt_32 (by decide) (fun hc => absurd hc (by decide)) (fun hc => ?_)
        refine lv_aload_n hx hb dX11_frozenAt_35 rfl (lv_at hl 0 rfl) ?_
        refine lv_iload_n hx hb dX11_frozenAt_36 rfl (lv_at hl 1 rfl) ?_
        refine lv_iload hx hb dX11_frozenAt_37 (lv_at hl 3 rfl) ?_
        have hPc := hP.sub (ws' := [(h0, .inr (11, gM a (upd (upd (upd (upd i 0 0) 15 w14) 17 w15) 18 w16) (vp_updL (vp_updL (vp_updL (fun _ => 0) 12 w11) 13 w12) 14 w13))), (a 3, .inl (cm 3, 85, .inr (.inl w3))), (a 4, .inl (cm 4, 800, .inl w4))]) [0, 1, 2] rfl
        have hKc := hK.sub (tys' := [(cm 3, .long), (cm 4, .int)]) [0, 1] rfl
        have hFc := va_free0 hS hA
        refine va_calli (va_runV (As := [.int (nI k), .int (nI kx)]) (rest := []) ⟨hx, hb, hml, hown, hts⟩ (c_hasKey l D _ h0 a cm (upd (upd (upd (upd i 0 0) 15 w14) 17 w15) 18 w16) (vp_updL (vp_updL (vp_updL (fun _ => 0) 12 w11) 13 w12) 14 w13) w3 w4 k cn K kx (by first | assumption | omega) ((fz1 _ (by omega)).trans h1) (by first | assumption | omega) hKz (by first | assumption | omega)) (cwV 2 hts g_c_frozenAtM_c_hasKey_202 rfl rfl rfl (by decide +kernel) ⟨(Nat.le_of_ble_eq_true rfl), (Nat.le_of_ble_eq_true rfl)⟩) (PcR_V (q0 := 0) hPc hKc rfl rfl) rfl rfl hl.1 rfl (lv_room (Nat.le_of_ble_eq_true rfl)) dX11_frozenAt_39 ⟨(Nat.le_of_ble_eq_true rfl), (Nat.le_of_ble_eq_true rfl)⟩) hS (fun q _ h => hFc q h) hFc (fun r19 uu tt H locs htt hvm hw hB hz1 hk1 hS => ?_)
        have hP := va_keep hP hk1
        try dsimp only at hw
        clear hB hz1 hk1 hFc hPc hKc
        rcases hw with ⟨rfl, hA_r19⟩ | ⟨rfl, hA_r19⟩
        ·
          obtain ⟨qh, hqh, eqh⟩ := hA_r19
          refine lv_if_eq (tgt := 60) hx hb dX11_frozenAt_42 (by decide) (fun hc => absurd hc (by decide)) (fun hc => ?_)
          refine lv_aload_n hx hb dX11_frozenAt_45 rfl (lv_at hl 0 rfl) ?_
          refine lv_aload_n hx hb dX11_frozenAt_46 rfl (lv_at hl 0 rfl) ?_
          refine lv_iload_n hx hb dX11_frozenAt_47 rfl (lv_at hl 1 rfl) ?_
          refine lv_iload hx hb dX11_frozenAt_48 (lv_at hl 3 rfl) ?_
          refine lv_i2l hx hb dX11_frozenAt_50 rfl ?_
          refine lv_topl (fun v20 ev20 => ?_)
          obtain rfl : v20 = lN kx := ev20.trans (nI_l (by omega))
          have hPc := hP.sub (ws' := [(h0, .inr (11, gM a (upd (upd (upd (upd i 0 0) 15 w14) 17 w15) 18 w16) (vp_updL (vp_updL (vp_updL (fun _ => 0) 12 w11) 13 w12) 14 w13))), (a 3, .inl (cm 3, 85, .inr (.inl w3))), (a 4, .inl (cm 4, 800, .inl w4))]) [0, 1, 2] rfl
          have hKc := hK.sub (tys' := [(cm 3, .long), (cm 4, .int)]) [0, 1] rfl
          have hFc := va_free0 hS hA
          refine va_calli (va_runV (As := [.int (nI k), .long (lN kx)]) (rest := [.ref h0]) ⟨hx, hb, hml, hown, hts⟩ (c_whereOf l D _ h0 a cm (upd (upd (upd (upd i 0 0) 15 w14) 17 w15) 18 w16) (vp_updL (vp_updL (vp_updL (fun _ => 0) 12 w11) 13 w12) 14 w13) w3 w4 k cn K (lN kx) (by first | assumption | omega) ((fz1 _ (by omega)).trans h1) (by first | assumption | omega) hKz) (cwV 2 hts g_c_frozenAtM_c_whereOf_99 rfl rfl rfl (by decide +kernel) ⟨(Nat.le_of_ble_eq_true rfl), (Nat.le_of_ble_eq_true rfl)⟩) (PcR_V (q0 := 0) hPc hKc rfl rfl) rfl rfl hl.1 rfl (lv_room (Nat.le_of_ble_eq_true rfl)) dX11_frozenAt_51 ⟨(Nat.le_of_ble_eq_true rfl), (Nat.le_of_ble_eq_true rfl)⟩) hS (fun q _ h => hFc q h) hFc (fun r21 uu tt H locs htt hvm hw hB hz1 hk1 hS => ?_)
          have hP := va_keep hP hk1
          try dsimp only at hw
          clear hB hz1 hk1 hFc hPc hKc
          obtain ⟨q22, hq22a, rfl, hq22b, hq22c⟩ := hw
          have hqlt := (wh_at hkx (fun j a => (hKy.1 j a).2) hKy.2 hq22b hq22c hqh eqh).1
          have hPc := hP.sub (ws' := [(h0, .inr (11, gM a (upd (upd (upd (upd i 0 0) 15 w14) 17 w15) 18 w16) (vp_updL (vp_updL (vp_updL (fun _ => 0) 12 w11) 13 w12) 14 w13))), (a 6, .inl (cm 6, 800, .inl w5)), (a 7, .inl (cm 7, 800, .inl w6)), (a 8, .inl (cm 8, 10240, .inl w7))]) [0, 3, 4, 5] rfl
          have hKc := hK.sub (tys' := [(cm 6, .int), (cm 7, .int), (cm 8, .int)]) [2, 3, 4] rfl
          have hFc := va_free0 hS hA
          refine va_calli (va_runV (As := [.int (nI q22)]) (rest := []) ⟨hx, hb, hml, hown, hts⟩ (c_frozenRoom l D _ h0 a cm (upd (upd (upd (upd i 0 0) 15 w14) 17 w15) 18 w16) (vp_updL (vp_updL (vp_updL (fun _ => 0) 12 w11) 13 w12) 14 w13) w5 w6 w7 q22 cn nbz Jz (by first | assumption | omega) (by first | assumption | omega) hz2 hBz hrz) (cwV 1 hts g_c_frozenAtM_c_frozenRoom_274 rfl rfl rfl (by decide +kernel) ⟨(Nat.le_of_ble_eq_true rfl), (Nat.le_of_ble_eq_true rfl)⟩) (PcR_V (q0 := 0) hPc hKc rfl rfl) rfl rfl hl.1 rfl (lv_room (Nat.le_of_ble_eq_true rfl)) dX11_frozenAt_54 ⟨(Nat.le_of_ble_eq_true rfl), (Nat.le_of_ble_eq_true rfl)⟩) hS (fun q _ h => hFc q h) hFc (fun r23 uu tt H locs htt hvm hw hB hz1 hk1 hS => ?_)
          have hP := va_keep hP hk1
          try dsimp only at hw
          clear hB hz1 hk1 hFc hPc hKc
          refine lv_goto (tgt := 61) hx hb dX11_frozenAt_57 (by decide) ?_
          exact W.iret (v := r23) hx hb hr (fun t ht hW => ⟨⟨r23, (w3, w4, w5, w6, w7, w8, w9, w10, 0, w11, w12, w13, w14, w15, w16), rfl, ⟨hMz, fun j hj => fz1 _ (by omega), fun _ => lsR_fz fz1 fz2⟩, by rw [ht]; exact hP.sub [0, 1, 2, 3, 4, 5, 6, 7, 8] rfl, va_K.moved hW.alike (hK.sub [0, 1, 2, 3, 4, 5, 6, 7] rfl), hD.sub [0, 1, 2, 3, 4, 5, 6, 7, 8] (by decide) rfl⟩, hS.F ht⟩) hS.2.2 dX11_frozenAt_61
        ·
          refine lv_if_eq (tgt := 60) hx hb dX11_frozenAt_42 (by decide) (fun hc => ?_) (fun hc => absurd (by decide) hc)
          refine lv_iconst (v := (-1)) hx hb dX11_frozenAt_60 (by decide) ?_
          exact W.iret (v := (-1)) hx hb hr (fun t ht hW => ⟨⟨(-1), (w3, w4, w5, w6, w7, w8, w9, w10, 0, w11, w12, w13, w14, w15, w16), rfl, ⟨hMz, fun j hj => fz1 _ (by omega), fun _ => lsR_fz fz1 fz2⟩, by rw [ht]; exact hP.sub [0, 1, 2, 3, 4, 5, 6, 7, 8] rfl, va_K.moved hW.alike (hK.sub [0, 1, 2, 3, 4, 5, 6, 7] rfl), hD.sub [0, 1, 2, 3, 4, 5, 6, 7, 8] (by decide) rfl⟩, hS.F ht⟩) hS.2.2 dX11_frozenAt_61
      ·
        refine lv_if_eq (tgt := 60) hx hb dX11_frozenAt_32 (by decide) (fun hc => ?_) (fun hc => absurd (by decide) hc)
        refine lv_iconst (v := (-1)) hx hb dX11_frozenAt_60 (by decide) ?_
        exact W.iret (v := (-1)) hx hb hr (fun t ht hW => ⟨⟨(-1), (w3, w4, w5, w6, w7, w8, w9, w10, 0, w11, w12, w13, w14, w15, w16), rfl, ⟨hMz, fun j hj => fz1 _ (by omega), fun _ => lsR_fz fz1 fz2⟩, by rw [ht]; exact hP.sub [0, 1, 2, 3, 4, 5, 6, 7, 8] rfl, va_K.moved hW.alike (hK.sub [0, 1, 2, 3, 4, 5, 6, 7] rfl), hD.sub [0, 1, 2, 3, 4, 5, 6, 7, 8] (by decide) rfl⟩, hS.F ht⟩) hS.2.2 dX11_frozenAt_61
    ·
      refine lv_bipush (v := (-2)) hx hb dX11_frozenAt_24 (by decide) ?_
      exact W.iret (v := (-2)) hx hb hr (fun t ht hW => ⟨⟨(-2), (w3, w4, w5, w6, w7, w8, w9, w10, 0, w11, w12, w13, w14, w15, w16), rfl, ⟨hMz, fun j hj => fz1 _ (by omega), fun _ => lsR_fz fz1 fz2⟩, by rw [ht]; exact hP.sub [0, 1, 2, 3, 4, 5, 6, 7, 8] rfl, va_K.moved hW.alike (hK.sub [0, 1, 2, 3, 4, 5, 6, 7] rfl), hD.sub [0, 1, 2, 3, 4, 5, 6, 7, 8] (by decide) rfl⟩, hS.F ht⟩) hS.2.2 dX11_frozenAt_26
  ·
    refine lv_if_ne (tgt := 15) hx hb dX11_frozenAt_10 (by decide) (fun hc => absurd (by decide) hc) (fun hc => ?_)
    refine lv_iconst (v := (-1)) hx hb dX11_frozenAt_13 (by decide) ?_
    exact W.iret (v := (-1)) hx hb hr (fun t ht hW => ⟨⟨(-1), (fn, fk, fb, fr, ff, fh, fa, fs, 0, (g 12), (g 13), (g 14), (i 15), (i 17), (i 18)), rfl, ⟨hM, SameT.rfl, fun _ => rfl⟩, by rw [ht]; exact hP.sub [0, 1, 2, 3, 4, 5, 6, 7, 8] rfl, va_K.moved hW.alike (hK.sub [0, 1, 2, 3, 4, 5, 6, 7] rfl), hD.sub [0, 1, 2, 3, 4, 5, 6, 7, 8] (by decide) rfl⟩, hS.F ht⟩) hS.2.2 dX11_frozenAt_14

