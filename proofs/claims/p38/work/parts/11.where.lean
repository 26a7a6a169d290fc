theorem dX11_whereOf_0 : decode cX11_whereOf 0 = .ok (.iconst 0, 1) := by decide +kernel
theorem dX11_whereOf_1 : decode cX11_whereOf 1 = .ok (.istore 4, 2) := by decide +kernel
theorem dX11_whereOf_3 : decode cX11_whereOf 3 = .ok (.aload_n 0, 1) := by decide +kernel
theorem dX11_whereOf_4 : decode cX11_whereOf 4 = .ok (.iload_n 1, 1) := by decide +kernel
theorem dX11_whereOf_5 : decode cX11_whereOf 5 = .ok (.invokevirtual 95, 3) := by decide +kernel
theorem dX11_whereOf_8 : decode cX11_whereOf 8 = .ok (.istore 5, 2) := by decide +kernel
theorem dX11_whereOf_10 : decode cX11_whereOf 10 = .ok (.iload 4, 2) := by decide +kernel
theorem dX11_whereOf_12 : decode cX11_whereOf 12 = .ok (.iload 5, 2) := by decide +kernel
theorem dX11_whereOf_14 : decode cX11_whereOf 14 = .ok (.if_icmp .ge 47, 3) := by decide +kernel
theorem dX11_whereOf_17 : decode cX11_whereOf 17 = .ok (.iload 4, 2) := by decide +kernel
theorem dX11_whereOf_19 : decode cX11_whereOf 19 = .ok (.iload 5, 2) := by decide +kernel
theorem dX11_whereOf_21 : decode cX11_whereOf 21 = .ok (.iadd, 1) := by decide +kernel
theorem dX11_whereOf_22 : decode cX11_whereOf 22 = .ok (.iconst 2, 1) := by decide +kernel
theorem dX11_whereOf_23 : decode cX11_whereOf 23 = .ok (.idiv, 1) := by decide +kernel
theorem dX11_whereOf_24 : decode cX11_whereOf 24 = .ok (.istore 6, 2) := by decide +kernel
theorem dX11_whereOf_26 : decode cX11_whereOf 26 = .ok (.aload_n 0, 1) := by decide +kernel
theorem dX11_whereOf_27 : decode cX11_whereOf 27 = .ok (.getfield 17, 3) := by decide +kernel
theorem dX11_whereOf_30 : decode cX11_whereOf 30 = .ok (.sipush 160, 3) := by decide +kernel
theorem dX11_whereOf_33 : decode cX11_whereOf 33 = .ok (.iload_n 1, 1) := by decide +kernel
theorem dX11_whereOf_34 : decode cX11_whereOf 34 = .ok (.imul, 1) := by decide +kernel
theorem dX11_whereOf_35 : decode cX11_whereOf 35 = .ok (.iload 6, 2) := by decide +kernel
theorem dX11_whereOf_37 : decode cX11_whereOf 37 = .ok (.iadd, 1) := by decide +kernel
theorem dX11_whereOf_38 : decode cX11_whereOf 38 = .ok (.iaload, 1) := by decide +kernel
theorem dX11_whereOf_39 : decode cX11_whereOf 39 = .ok (.i2l, 1) := by decide +kernel
theorem dX11_whereOf_40 : decode cX11_whereOf 40 = .ok (.lload_n 2, 1) := by decide +kernel
theorem dX11_whereOf_41 : decode cX11_whereOf 41 = .ok (.lcmp, 1) := by decide +kernel
theorem dX11_whereOf_42 : decode cX11_whereOf 42 = .ok (.ifCond .ge 12, 3) := by decide +kernel
theorem dX11_whereOf_45 : decode cX11_whereOf 45 = .ok (.iload 6, 2) := by decide +kernel
theorem dX11_whereOf_47 : decode cX11_whereOf 47 = .ok (.iconst 1, 1) := by decide +kernel
theorem dX11_whereOf_48 : decode cX11_whereOf 48 = .ok (.iadd, 1) := by decide +kernel
theorem dX11_whereOf_49 : decode cX11_whereOf 49 = .ok (.istore 4, 2) := by decide +kernel
theorem dX11_whereOf_51 : decode cX11_whereOf 51 = .ok (.goto 7, 3) := by decide +kernel
theorem dX11_whereOf_54 : decode cX11_whereOf 54 = .ok (.iload 6, 2) := by decide +kernel
theorem dX11_whereOf_56 : decode cX11_whereOf 56 = .ok (.istore 5, 2) := by decide +kernel
theorem dX11_whereOf_58 : decode cX11_whereOf 58 = .ok (.goto (-48), 3) := by decide +kernel
theorem dX11_whereOf_61 : decode cX11_whereOf 61 = .ok (.iload 4, 2) := by decide +kernel
theorem dX11_whereOf_63 : decode cX11_whereOf 63 = .ok (.ireturn, 1) := by decide +kernel
theorem dX11_bucketOf_0 : decode cX11_bucketOf 0 = .ok (.aload_n 0, 1) := by decide +kernel
theorem dX11_bucketOf_1 : decode cX11_bucketOf 1 = .ok (.iload_n 1, 1) := by decide +kernel
theorem dX11_bucketOf_2 : decode cX11_bucketOf 2 = .ok (.bipush 6, 2) := by decide +kernel
theorem dX11_bucketOf_4 : decode cX11_bucketOf 4 = .ok (.invokevirtual 89, 3) := by decide +kernel
theorem dX11_bucketOf_7 : decode cX11_bucketOf 7 = .ok (.aload_n 0, 1) := by decide +kernel
theorem dX11_bucketOf_8 : decode cX11_bucketOf 8 = .ok (.iload_n 1, 1) := by decide +kernel
theorem dX11_bucketOf_9 : decode cX11_bucketOf 9 = .ok (.bipush 7, 2) := by decide +kernel
theorem dX11_bucketOf_11 : decode cX11_bucketOf 11 = .ok (.invokevirtual 89, 3) := by decide +kernel
theorem dX11_bucketOf_14 : decode cX11_bucketOf 14 = .ok (.iload_n 2, 1) := by decide +kernel
theorem dX11_bucketOf_15 : decode cX11_bucketOf 15 = .ok (.i2l, 1) := by decide +kernel
theorem dX11_bucketOf_16 : decode cX11_bucketOf 16 = .ok (.aload_n 0, 1) := by decide +kernel
theorem dX11_bucketOf_17 : decode cX11_bucketOf 17 = .ok (.iload_n 1, 1) := by decide +kernel
theorem dX11_bucketOf_18 : decode cX11_bucketOf 18 = .ok (.iconst 4, 1) := by decide +kernel
theorem dX11_bucketOf_19 : decode cX11_bucketOf 19 = .ok (.invokevirtual 89, 3) := by decide +kernel
theorem dX11_bucketOf_22 : decode cX11_bucketOf 22 = .ok (.invokestatic 133, 3) := by decide +kernel
theorem dX11_bucketOf_25 : decode cX11_bucketOf 25 = .ok (.ireturn, 1) := by decide +kernel
theorem dX11_roomsOf_0 : decode cX11_roomsOf 0 = .ok (.aload_n 0, 1) := by decide +kernel
theorem dX11_roomsOf_1 : decode cX11_roomsOf 1 = .ok (.getfield 30, 3) := by decide +kernel
theorem dX11_roomsOf_4 : decode cX11_roomsOf 4 = .ok (.sipush 2048, 3) := by decide +kernel
theorem dX11_roomsOf_7 : decode cX11_roomsOf 7 = .ok (.iload_n 1, 1) := by decide +kernel
theorem dX11_roomsOf_8 : decode cX11_roomsOf 8 = .ok (.imul, 1) := by decide +kernel
theorem dX11_roomsOf_9 : decode cX11_roomsOf 9 = .ok (.iload_n 2, 1) := by decide +kernel
theorem dX11_roomsOf_10 : decode cX11_roomsOf 10 = .ok (.iadd, 1) := by decide +kernel
theorem dX11_roomsOf_11 : decode cX11_roomsOf 11 = .ok (.iaload, 1) := by decide +kernel
theorem dX11_roomsOf_12 : decode cX11_roomsOf 12 = .ok (.istore_n 3, 1) := by decide +kernel
theorem dX11_roomsOf_13 : decode cX11_roomsOf 13 = .ok (.iload_n 3, 1) := by decide +kernel
theorem dX11_roomsOf_14 : decode cX11_roomsOf 14 = .ok (.iload_n 3, 1) := by decide +kernel
theorem dX11_roomsOf_15 : decode cX11_roomsOf 15 = .ok (.imul, 1) := by decide +kernel
theorem dX11_roomsOf_16 : decode cX11_roomsOf 16 = .ok (.ireturn, 1) := by decide +kernel
theorem dX11_roomOf_0 : decode cX11_roomOf 0 = .ok (.aload_n 0, 1) := by decide +kernel
theorem dX11_roomOf_1 : decode cX11_roomOf 1 = .ok (.getfield 36, 3) := by decide +kernel
theorem dX11_roomOf_4 : decode cX11_roomOf 4 = .ok (.sipush 2048, 3) := by decide +kernel
theorem dX11_roomOf_7 : decode cX11_roomOf 7 = .ok (.iload_n 1, 1) := by decide +kernel
theorem dX11_roomOf_8 : decode cX11_roomOf 8 = .ok (.imul, 1) := by decide +kernel
theorem dX11_roomOf_9 : decode cX11_roomOf 9 = .ok (.iload_n 2, 1) := by decide +kernel
theorem dX11_roomOf_10 : decode cX11_roomOf 10 = .ok (.iadd, 1) := by decide +kernel
theorem dX11_roomOf_11 : decode cX11_roomOf 11 = .ok (.laload, 1) := by decide +kernel
theorem dX11_roomOf_12 : decode cX11_roomOf 12 = .ok (.aload_n 0, 1) := by decide +kernel
theorem dX11_roomOf_13 : decode cX11_roomOf 13 = .ok (.getfield 39, 3) := by decide +kernel
theorem dX11_roomOf_16 : decode cX11_roomOf 16 = .ok (.sipush 2048, 3) := by decide +kernel
theorem dX11_roomOf_19 : decode cX11_roomOf 19 = .ok (.iload_n 1, 1) := by decide +kernel
theorem dX11_roomOf_20 : decode cX11_roomOf 20 = .ok (.imul, 1) := by decide +kernel
theorem dX11_roomOf_21 : decode cX11_roomOf 21 = .ok (.iload_n 2, 1) := by decide +kernel
theorem dX11_roomOf_22 : decode cX11_roomOf 22 = .ok (.iadd, 1) := by decide +kernel
theorem dX11_roomOf_23 : decode cX11_roomOf 23 = .ok (.laload, 1) := by decide +kernel
theorem dX11_roomOf_24 : decode cX11_roomOf 24 = .ok (.iload_n 3, 1) := by decide +kernel
theorem dX11_roomOf_25 : decode cX11_roomOf 25 = .ok (.i2l, 1) := by decide +kernel
theorem dX11_roomOf_26 : decode cX11_roomOf 26 = .ok (.aload_n 0, 1) := by decide +kernel
theorem dX11_roomOf_27 : decode cX11_roomOf 27 = .ok (.iload_n 1, 1) := by decide +kernel
theorem dX11_roomOf_28 : decode cX11_roomOf 28 = .ok (.iload_n 2, 1) := by decide +kernel
theorem dX11_roomOf_29 : decode cX11_roomOf 29 = .ok (.invokevirtual 137, 3) := by decide +kernel
theorem dX11_roomOf_32 : decode cX11_roomOf 32 = .ok (.i2l, 1) := by decide +kernel
theorem dX11_roomOf_33 : decode cX11_roomOf 33 = .ok (.invokestatic 133, 3) := by decide +kernel
theorem dX11_roomOf_36 : decode cX11_roomOf 36 = .ok (.ireturn, 1) := by decide +kernel
def own_c_roomsOf : List Cond := [.fieldLink RX11 30 "ClashFreeModel" "roofs" "[I"]
def wp_c_roomsOf : List Cond := .code yX11_roomsOf cX11_roomsOf 4 (some .int) :: (own_c_roomsOf ++ (wsX110 ++ ([] : List Cond)))
set_option maxRecDepth 20000 in
theorem inown_c_roomsOf : ∀ w ∈ own_c_roomsOf, w ∈ lw_tbl := mem_places [1224] (by decide +kernel)
set_option maxRecDepth 20000 in
theorem in_c_roomsOf : ∀ w ∈ wp_c_roomsOf, w ∈ lw_tbl := List.forall_mem_cons.mpr ⟨List.mem_of_getElem? (i := 1440) (by decide +kernel), List.forall_mem_append.mpr ⟨inown_c_roomsOf, List.forall_mem_append.mpr ⟨lwb_X11, fun _ h => absurd h List.not_mem_nil⟩⟩⟩
set_option maxRecDepth 20000 in
theorem good_c_roomsOf : wp_c_roomsOf.all goodWord = true := by decide +kernel
set_option maxHeartbeats 4000000 in
set_option maxRecDepth 100000 in
theorem c_roomsOf (l : Launch) (D : va_G) (sz : Nat) (h0 : Nat) (a : Nat → Nat) (cm : Nat → ClassId) (i : Nat → Int32) (g : Nat → Int64) (ff : Nat → Int32) (k : Nat) (j : Nat) (rf : Nat) (hk : k < 5) (hj : j < 2048) (hrf : ff (2048 * k + j) = nI rf) : Met l yX11_roomsOf wp_c_roomsOf ({ frames := 0, cells := 0, slots := 0, locals := 0 }) (PcR D [.ref h0, .int (nI k), .int (nI j)] sz [(h0, .inr (11, gM a i g)), (a 8, .inl (cm 8, 10240, .inl ff))] [(cm 8, .int)]) (va_Qi (fun (r : Int32) (u : Unit) => r = nI (rf * rf)) (fun (_ : Unit) _ => True) (va_A [] sz)) 0 0 (va_A [] sz) := by
  refine Met.ofW (cc := cX11_roomsOf) (maxL := 4) (ret := (some .int)) (by decide) rfl ?_
  intro p e s m args below meth c s₁ B hml hv
  obtain ⟨rfl, hsz, hP, hK⟩ := hv
  have hx := B.exec
  have hb := B.bytes
  have hr := B.returns
  have hts := atoms_spec (ws := wp_c_roomsOf) B.pre
  have hin_X11 : ∀ w ∈ wsX110, w ∈ wp_c_roomsOf := fun _ h => (List.mem_cons_of_mem _ (List.mem_append_right _ (List.mem_append_left _ h)))
  have hown : s.vm.findClass RX11 = some m.cls := findClass_of_methodNamed B.named
  have hlocks := B.notSynchronized
  subst hsz
  generalize hAe : va_A [] s.heap.size = A at ⊢
  have hA : ∀ q : Nat, s.heap.size ≤ q → A q := fun q h => by rw [← hAe]; exact Or.inr h
  have hS : va_S A s.heap s.heap [] := va_S.rf
  have hP : va_P D vwCl [(h0, .inr (11, gM a i g)), (a 8, .inl (cm 8, 10240, .inl ff))] s.heap := hP
  have hl := lv_entry ([.ref h0, .int (nI k), .int (nI j)]) (n := 4) (Nat.le_of_ble_eq_true rfl)
  rw [lg_entry_eq]
  generalize (lg_sl ([.ref h0, .int (nI k), .int (nI j)]) ++ List.replicate (4 - (lg_sl ([.ref h0, .int (nI k), .int (nI j)])).length) Slot.unset).toArray = ls at hl ⊢
  have hl : lv_has ls 4 [(0, .ref h0), (1, .int (nI k)), (2, .int (nI j))] := hl
  refine lv_aload_n hx hb dX11_roomsOf_0 rfl (lv_at hl 0 rfl) ?_
  refine va_get (D := D) (ci := 11) (v := .ref (a 8)) (C := RX11) (T := TX11) (N := 47) hx hb hts hin_X11 hown hK hP 0 rfl rfl 8 (by decide) (hts (.fieldLink RX11 30 "ClashFreeModel" "roofs" "[I") (List.mem_of_getElem? (i := 1) rfl)) (fun _ h9 => h9) rfl dX11_roomsOf_1 ?_
  refine lv_sipush (v := 2048) hx hb dX11_roomsOf_4 (by decide) ?_
  refine lv_iload_n hx hb dX11_roomsOf_7 rfl (lv_at hl 1 rfl) ?_
  refine lv_imul hx hb dX11_roomsOf_8 ?_
  refine lv_iload_n hx hb dX11_roomsOf_9 rfl (lv_at hl 2 rfl) ?_
  refine lv_iadd hx hb dX11_roomsOf_10 ?_
  refine lv_topi (fun v1 ev1 => ?_)
  obtain rfl : v1 = nI (2048 * k + j) := ev1.trans (ix2048 k j)
  refine va_iald hx hb hK hP 1 0 rfl rfl (vp_in_nI (by omega) (by decide)) dX11_roomsOf_11 ?_
  refine lv_topi (fun v2 ev2 => ?_)
  obtain rfl : v2 = nI rf := ev2.trans (by rw [nI_clamp (by omega)]; exact hrf)
  refine lv_istore_n (lv' := [(3, .int (nI rf)), (0, .ref h0), (1, .int (nI k)), (2, .int (nI j))]) hx hb dX11_roomsOf_12 rfl hl (by decide) rfl (fun ls hl => ?_)
  refine lv_iload_n hx hb dX11_roomsOf_13 rfl (lv_at hl 0 rfl) ?_
  refine lv_iload_n hx hb dX11_roomsOf_14 rfl (lv_at hl 0 rfl) ?_
  refine lv_imul hx hb dX11_roomsOf_15 ?_
  refine lv_topi (fun v3 ev3 => ?_)
  obtain rfl : v3 = nI (rf * rf) := ev3.trans (pk_mul rf rf)
  exact W.iret (v := nI (rf * rf)) hx hb hr (fun t ht hW => ⟨⟨nI (rf * rf), (), rfl, rfl, trivial⟩, hS.F ht⟩) hS.2.2 dX11_roomsOf_16

def own_c_bucketOf : List Cond := [.methodLink RX11 89 yX11_of, .instanceMethod yX11_of, .selects RX11 yX11_of yX11_of, .initialized RX11, .methodLink RX11 133 yX11_placeOf, .static yX11_placeOf]
def wp_c_bucketOf : List Cond := .code yX11_bucketOf cX11_bucketOf 3 (some .int) :: (own_c_bucketOf ++ (wp_c_of ++ (wp_c_placeOf ++ ([] : List Cond))))
set_option maxRecDepth 20000 in
theorem inown_c_bucketOf : ∀ w ∈ own_c_bucketOf, w ∈ lw_tbl := mem_places [1400, 1402, 41, 115, 1434, 1435] (by decide +kernel)
set_option maxRecDepth 20000 in
theorem in_c_bucketOf : ∀ w ∈ wp_c_bucketOf, w ∈ lw_tbl := List.forall_mem_cons.mpr ⟨List.mem_of_getElem? (i := 1433) (by decide +kernel), List.forall_mem_append.mpr ⟨inown_c_bucketOf, List.forall_mem_append.mpr ⟨in_c_of, List.forall_mem_append.mpr ⟨in_c_placeOf, fun _ h => absurd h List.not_mem_nil⟩⟩⟩⟩
set_option maxRecDepth 20000 in
theorem good_c_bucketOf : wp_c_bucketOf.all goodWord = true := by decide +kernel
set_option maxRecDepth 20000 in
theorem g_c_bucketOf_c_of_89 : GoodIn wp_c_bucketOf (wsV RX11 89 RX11 yX11_of wp_c_of) := goodIn_sub (List.forall_mem_append.mpr ⟨List.forall_mem_cons.mpr ⟨(List.mem_of_getElem? (i := 1) rfl), List.forall_mem_cons.mpr ⟨(List.mem_of_getElem? (i := 2) rfl), List.forall_mem_cons.mpr ⟨(List.mem_of_getElem? (i := 3) rfl), List.forall_mem_cons.mpr ⟨(List.mem_of_getElem? (i := 4) rfl), fun _ h => absurd h List.not_mem_nil⟩⟩⟩⟩, (fun _ h => (List.mem_cons_of_mem _ (List.mem_append_right _ (List.mem_append_left _ h))))⟩) (by decide +kernel)
set_option maxRecDepth 20000 in
theorem g_c_bucketOf_c_placeOf_133 : GoodIn wp_c_bucketOf (va_wsS RX11 133 yX11_placeOf wp_c_placeOf) := goodIn_sub (List.forall_mem_append.mpr ⟨List.forall_mem_cons.mpr ⟨(List.mem_of_getElem? (i := 5) rfl), List.forall_mem_cons.mpr ⟨(List.mem_of_getElem? (i := 6) rfl), List.forall_mem_cons.mpr ⟨(List.mem_of_getElem? (i := 4) rfl), fun _ h => absurd h List.not_mem_nil⟩⟩⟩, (fun _ h => (List.mem_cons_of_mem _ (List.mem_append_right _ (List.mem_append_right _ (List.mem_append_left _ h)))))⟩) (by decide +kernel)
set_option maxHeartbeats 4000000 in
set_option maxRecDepth 100000 in
theorem c_bucketOf (l : Launch) (D : va_G) (sz : Nat) (h0 : Nat) (a : Nat → Nat) (cm : Nat → ClassId) (i : Nat → Int32) (g : Nat → Int64) (fn : Nat → Int64) (k : Nat) (kx : Nat) (ka : Nat) (kb : Nat) (nb : Nat) (hk : k < 5) (hkx : kx < 2147483647) (h6 : fn (17 * k + 6) = lN ka) (h7 : fn (17 * k + 7) = lN kb) (h4 : fn (17 * k + 4) = lN nb) (hka : ka < 2147483647) (hkb : kb < 2147483647) (hn1 : 1 ≤ nb) (hn2 : nb ≤ 2048) : Met l yX11_bucketOf wp_c_bucketOf ({ frames := 1, cells := 0, slots := 0, locals := 27 }) (PcR D [.ref h0, .int (nI k), .int (nI kx)] sz [(h0, .inr (11, gM a i g)), (a 3, .inl (cm 3, 85, .inr (.inl fn)))] [(cm 3, .long)]) (va_Qi (fun (r : Int32) (u : Unit) => r = nI ((ka * kx + kb) % 2147483647 % nb)) (fun (_ : Unit) _ => True) (va_A [] sz)) 0 0 (va_A [] sz) := by
  refine Met.ofW (cc := cX11_bucketOf) (maxL := 3) (ret := (some .int)) (by decide) rfl ?_
  intro p e s m args below meth c s₁ B hml hv
  obtain ⟨rfl, hsz, hP, hK⟩ := hv
  have hx := B.exec
  have hb := B.bytes
  have hr := B.returns
  have hts := atoms_spec (ws := wp_c_bucketOf) B.pre
  have hown : s.vm.findClass RX11 = some m.cls := findClass_of_methodNamed B.named
  have hlocks := B.notSynchronized
  subst hsz
  generalize hAe : va_A [] s.heap.size = A at ⊢
  have hA : ∀ q : Nat, s.heap.size ≤ q → A q := fun q h => by rw [← hAe]; exact Or.inr h
  have hS : va_S A s.heap s.heap [] := va_S.rf
  have hP : va_P D vwCl [(h0, .inr (11, gM a i g)), (a 3, .inl (cm 3, 85, .inr (.inl fn)))] s.heap := hP
  have hl := lv_entry ([.ref h0, .int (nI k), .int (nI kx)]) (n := 3) (Nat.le_of_ble_eq_true rfl)
  rw [lg_entry_eq]
  generalize (lg_sl ([.ref h0, .int (nI k), .int (nI kx)]) ++ List.replicate (3 - (lg_sl ([.ref h0, .int (nI k), .int (nI kx)])).length) Slot.unset).toArray = ls at hl ⊢
  have hl : lv_has ls 3 [(0, .ref h0), (1, .int (nI k)), (2, .int (nI kx))] := hl
  refine lv_aload_n hx hb dX11_bucketOf_0 rfl (lv_at hl 0 rfl) ?_
  refine lv_iload_n hx hb dX11_bucketOf_1 rfl (lv_at hl 1 rfl) ?_
  refine lv_bipush (v := 6) hx hb dX11_bucketOf_2 (by decide) ?_
  have hPc := hP.sub (ws' := [(h0, .inr (11, gM a i g)), (a 3, .inl (cm 3, 85, .inr (.inl fn)))]) [0, 1] rfl
  have hKc := hK.sub (tys' := [(cm 3, .long)]) [0] rfl
  have hFc := va_free0 hS hA
  refine va_calll (va_runV (As := [.int (nI k), .int (nI 6)]) (rest := []) ⟨hx, hb, hml, hown, hts⟩ (c_of l D _ h0 a cm i g fn k 6 (by first | assumption | omega) (by first | assumption | omega)) (cwV 2 hts g_c_bucketOf_c_of_89 rfl rfl rfl (by decide +kernel) ⟨(Nat.le_of_ble_eq_true rfl), (Nat.le_of_ble_eq_true rfl)⟩) (PcR_V (q0 := 0) hPc hKc rfl rfl) rfl rfl hl.1 rfl (lv_room (Nat.le_of_ble_eq_true rfl)) dX11_bucketOf_4 ⟨(Nat.le_of_ble_eq_true rfl), (Nat.le_of_ble_eq_true rfl)⟩) hS (fun q _ h => hFc q h) hFc (fun r1 uu tt H locs htt hvm hw hB hz1 hk1 hS => ?_)
  have hP := va_keep hP hk1
  try dsimp only at hw
  clear hB hz1 hk1 hFc hPc hKc
  obtain rfl : r1 = fn (17 * k + 6) := hw
  refine lv_topl (fun v2 ev2 => ?_)
  obtain rfl : v2 = lN ka := ev2.trans (h6)
  refine lv_aload_n hx hb dX11_bucketOf_7 rfl (lv_at hl 0 rfl) ?_
  refine lv_iload_n hx hb dX11_bucketOf_8 rfl (lv_at hl 1 rfl) ?_
  refine lv_bipush (v := 7) hx hb dX11_bucketOf_9 (by decide) ?_
  have hPc := hP.sub (ws' := [(h0, .inr (11, gM a i g)), (a 3, .inl (cm 3, 85, .inr (.inl fn)))]) [0, 1] rfl
  have hKc := hK.sub (tys' := [(cm 3, .long)]) [0] rfl
  have hFc := va_free0 hS hA
  refine va_calll (va_runV (As := [.int (nI k), .int (nI 7)]) (rest := [.long (lN ka)]) ⟨hx, hb, hml, hown, hts⟩ (c_of l D _ h0 a cm i g fn k 7 (by first | assumption | omega) (by first | assumption | omega)) (cwV 2 hts g_c_bucketOf_c_of_89 rfl rfl rfl (by decide +kernel) ⟨(Nat.le_of_ble_eq_true rfl), (Nat.le_of_ble_eq_true rfl)⟩) (PcR_V (q0 := 0) hPc hKc rfl rfl) rfl rfl hl.1 rfl (lv_room (Nat.le_of_ble_eq_true rfl)) dX11_bucketOf_11 ⟨(Nat.le_of_ble_eq_true rfl), (Nat.le_of_ble_eq_true rfl)⟩) hS (fun q _ h => hFc q h) hFc (fun r3 uu tt H locs htt hvm hw hB hz1 hk1 hS => ?_)
  have hP := va_keep hP hk1
  try dsimp only at hw
  clear hB hz1 hk1 hFc hPc hKc
  obtain rfl : r3 = fn (17 * k + 7) := hw
  refine lv_topl (fun v4 ev4 => ?_)
  obtain rfl : v4 = lN kb := ev4.trans (h7)
  refine lv_iload_n hx hb dX11_bucketOf_14 rfl (lv_at hl 2 rfl) ?_
  refine lv_i2l hx hb dX11_bucketOf_15 rfl ?_
  refine lv_topl (fun v5 ev5 => ?_)
  obtain rfl : v5 = lN kx := ev5.trans (nI_l (by omega))
  refine lv_aload_n hx hb dX11_bucketOf_16 rfl (lv_at hl 0 rfl) ?_
  refine lv_iload_n hx hb dX11_bucketOf_17 rfl (lv_at hl 1 rfl) ?_
  refine lv_iconst (v := 4) hx hb dX11_bucketOf_18 (by decide) ?_
  have hPc := hP.sub (ws' := [(h0, .inr (11, gM a i g)), (a 3, .inl (cm 3, 85, .inr (.inl fn)))]) [0, 1] rfl
  have hKc := hK.sub (tys' := [(cm 3, .long)]) [0] rfl
  have hFc := va_free0 hS hA
  refine va_calll (va_runV (As := [.int (nI k), .int (nI 4)]) (rest := [.long (lN kx), .long (lN kb), .long (lN ka)]) ⟨hx, hb, hml, hown, hts⟩ (c_of l D _ h0 a cm i g fn k 4 (by first | assumption | omega) (by first | assumption | omega)) (cwV 2 hts g_c_bucketOf_c_of_89 rfl rfl rfl (by decide +kernel) ⟨(Nat.le_of_ble_eq_true rfl), (Nat.le_of_ble_eq_true rfl)⟩) (PcR_V (q0 := 0) hPc hKc rfl rfl) rfl rfl hl.1 rfl (lv_room (Nat.le_of_ble_eq_true rfl)) dX11_bucketOf_19 ⟨(Nat.le_of_ble_eq_true rfl), (Nat.le_of_ble_eq_true rfl)⟩) hS (fun q _ h => hFc q h) hFc (fun r6 uu tt H locs htt hvm hw hB hz1 hk1 hS => ?_)
  have hP := va_keep hP hk1
  try dsimp only at hw
  clear hB hz1 hk1 hFc hPc hKc
  obtain rfl : r6 = fn (17 * k + 4) := hw
  refine lv_topl (fun v7 ev7 => ?_)
  obtain rfl : v7 = lN nb := ev7.trans (h4)
  have hPc := hP.sub (ws' := []) [] rfl
  have hKc := hK.sub (tys' := []) [] rfl
  have hFc := va_free0 hS hA
  refine va_calli (va_runS (As := [.long (lN ka), .long (lN kb), .long (lN kx), .long (lN nb)]) (rest := []) ⟨hx, hb, hml, hown, hts⟩ (c_placeOf l D _ ka kb kx nb (by first | assumption | omega) (by first | assumption | omega) (by first | assumption | omega | exact hKl _ (by omega)) (by first | assumption | omega) (by first | assumption | omega)) (va_cwS 4 hts g_c_bucketOf_c_placeOf_133 rfl rfl rfl (by decide +kernel) ⟨(Nat.le_of_ble_eq_true rfl), (Nat.le_of_ble_eq_true rfl)⟩) (PcR_S hPc hKc) rfl rfl hl.1 rfl (lv_room (Nat.le_of_ble_eq_true rfl)) dX11_bucketOf_22 ⟨(Nat.le_of_ble_eq_true rfl), (Nat.le_of_ble_eq_true rfl)⟩) hS (fun q _ h => hFc q h) hFc (fun r8 uu tt H locs htt hvm hw hB hz1 hk1 hS => ?_)
  have hP := va_keep hP hk1
  try dsimp only at hw
  clear hB hz1 hk1 hFc hPc hKc
  obtain rfl : r8 = nI ((ka * kx + kb) % 2147483647 % nb) := hw
  exact W.iret (v := nI ((ka * kx + kb) % 2147483647 % nb)) hx hb hr (fun t ht hW => ⟨⟨nI ((ka * kx + kb) % 2147483647 % nb), (), rfl, rfl, trivial⟩, hS.F ht⟩) hS.2.2 dX11_bucketOf_25

def own_c_roomOf : List Cond := [.fieldLink RX11 36 "ClashFreeModel" "as" "[J", .fieldLink RX11 39 "ClashFreeModel" "bs" "[J", .methodLink RX11 137 yX11_roomsOf, .instanceMethod yX11_roomsOf, .selects RX11 yX11_roomsOf yX11_roomsOf, .initialized RX11, .methodLink RX11 133 yX11_placeOf, .static yX11_placeOf]
def wp_c_roomOf : List Cond := .code yX11_roomOf cX11_roomOf 4 (some .int) :: (own_c_roomOf ++ (wp_c_roomsOf ++ (wp_c_placeOf ++ (wsX110 ++ ([] : List Cond)))))
set_option maxRecDepth 20000 in
theorem inown_c_roomOf : ∀ w ∈ own_c_roomOf, w ∈ lw_tbl := mem_places [1226, 1227, 1437, 1439, 48, 115, 1434, 1435] (by decide +kernel)
set_option maxRecDepth 20000 in
theorem in_c_roomOf : ∀ w ∈ wp_c_roomOf, w ∈ lw_tbl := List.forall_mem_cons.mpr ⟨List.mem_of_getElem? (i := 1453) (by decide +kernel), List.forall_mem_append.mpr ⟨inown_c_roomOf, List.forall_mem_append.mpr ⟨in_c_roomsOf, List.forall_mem_append.mpr ⟨in_c_placeOf, List.forall_mem_append.mpr ⟨lwb_X11, fun _ h => absurd h List.not_mem_nil⟩⟩⟩⟩⟩
set_option maxRecDepth 20000 in
theorem good_c_roomOf : wp_c_roomOf.all goodWord = true := by decide +kernel
set_option maxRecDepth 20000 in
theorem g_c_roomOf_c_roomsOf_137 : GoodIn wp_c_roomOf (wsV RX11 137 RX11 yX11_roomsOf wp_c_roomsOf) := goodIn_sub (List.forall_mem_append.mpr ⟨List.forall_mem_cons.mpr ⟨(List.mem_of_getElem? (i := 3) rfl), List.forall_mem_cons.mpr ⟨(List.mem_of_getElem? (i := 4) rfl), List.forall_mem_cons.mpr ⟨(List.mem_of_getElem? (i := 5) rfl), List.forall_mem_cons.mpr ⟨(List.mem_of_getElem? (i := 6) rfl), fun _ h => absurd h List.not_mem_nil⟩⟩⟩⟩, (fun _ h => (List.mem_cons_of_mem _ (List.mem_append_right _ (List.mem_append_left _ h))))⟩) (by decide +kernel)
set_option maxRecDepth 20000 in
theorem g_c_roomOf_c_placeOf_133 : GoodIn wp_c_roomOf (va_wsS RX11 133 yX11_placeOf wp_c_placeOf) := goodIn_sub (List.forall_mem_append.mpr ⟨List.forall_mem_cons.mpr ⟨(List.mem_of_getElem? (i := 7) rfl), List.forall_mem_cons.mpr ⟨(List.mem_of_getElem? (i := 8) rfl), List.forall_mem_cons.mpr ⟨(List.mem_of_getElem? (i := 6) rfl), fun _ h => absurd h List.not_mem_nil⟩⟩⟩, (fun _ h => (List.mem_cons_of_mem _ (List.mem_append_right _ (List.mem_append_right _ (List.mem_append_left _ h)))))⟩) (by decide +kernel)
set_option maxHeartbeats 4000000 in
set_option maxRecDepth 100000 in
theorem c_roomOf (l : Launch) (D : va_G) (sz : Nat) (h0 : Nat) (a : Nat → Nat) (cm : Nat → ClassId) (i : Nat → Int32) (g : Nat → Int64) (ff : Nat → Int32) (fa : Nat → Int64) (fs : Nat → Int64) (k : Nat) (j : Nat) (kx : Nat) (rf : Nat) (hk : k < 5) (hj : j < 2048) (hkx : kx < 2147483647) (hrf : ff (2048 * k + j) = nI rf) (hr0 : 0 < rf) (hr1 : rf ≤ 320) (hfa : RngL fa) (hfs : RngL fs) : Met l yX11_roomOf wp_c_roomOf ({ frames := 1, cells := 0, slots := 0, locals := 27 }) (PcR D [.ref h0, .int (nI k), .int (nI j), .int (nI kx)] sz [(h0, .inr (11, gM a i g)), (a 8, .inl (cm 8, 10240, .inl ff)), (a 10, .inl (cm 10, 10240, .inr (.inl fa))), (a 11, .inl (cm 11, 10240, .inr (.inl fs)))] [(cm 8, .int), (cm 10, .long), (cm 11, .long)]) (va_Qi (fun (r : Int32) (u : Unit) => True) (fun (_ : Unit) _ => True) (va_A [] sz)) 0 0 (va_A [] sz) := by
  refine Met.ofW (cc := cX11_roomOf) (maxL := 4) (ret := (some .int)) (by decide) rfl ?_
  intro p e s m args below meth c s₁ B hml hv
  obtain ⟨rfl, hsz, hP, hK⟩ := hv
  have hx := B.exec
  have hb := B.bytes
  have hr := B.returns
  have hts := atoms_spec (ws := wp_c_roomOf) B.pre
  have hin_X11 : ∀ w ∈ wsX110, w ∈ wp_c_roomOf := fun _ h => (List.mem_cons_of_mem _ (List.mem_append_right _ (List.mem_append_right _ (List.mem_append_right _ (List.mem_append_left _ h)))))
  have hown : s.vm.findClass RX11 = some m.cls := findClass_of_methodNamed B.named
  have hlocks := B.notSynchronized
  subst hsz
  generalize hAe : va_A [] s.heap.size = A at ⊢
  have hA : ∀ q : Nat, s.heap.size ≤ q → A q := fun q h => by rw [← hAe]; exact Or.inr h
  have hS : va_S A s.heap s.heap [] := va_S.rf
  have hP : va_P D vwCl [(h0, .inr (11, gM a i g)), (a 8, .inl (cm 8, 10240, .inl ff)), (a 10, .inl (cm 10, 10240, .inr (.inl fa))), (a 11, .inl (cm 11, 10240, .inr (.inl fs)))] s.heap := hP
  have hl := lv_entry ([.ref h0, .int (nI k), .int (nI j), .int (nI kx)]) (n := 4) (Nat.le_of_ble_eq_true rfl)
  rw [lg_entry_eq]
  generalize (lg_sl ([.ref h0, .int (nI k), .int (nI j), .int (nI kx)]) ++ List.replicate (4 - (lg_sl ([.ref h0, .int (nI k), .int (nI j), .int (nI kx)])).length) Slot.unset).toArray = ls at hl ⊢
  have hl : lv_has ls 4 [(0, .ref h0), (1, .int (nI k)), (2, .int (nI j)), (3, .int (nI kx))] := hl
  obtain ⟨ka, hka, eka⟩ := hfa (2048 * k + j)
  obtain ⟨kb, hkb, ekb⟩ := hfs (2048 * k + j)
  have hq0 : 0 < rf * rf := Nat.mul_pos hr0 hr0
  have hq1 : rf * rf ≤ 320 * 320 := Nat.mul_le_mul hr1 hr1
  refine lv_aload_n hx hb dX11_roomOf_0 rfl (lv_at hl 0 rfl) ?_
  refine va_get (D := D) (ci := 11) (v := .ref (a 10)) (C := RX11) (T := TX11) (N := 47) hx hb hts hin_X11 hown hK hP 0 rfl rfl 10 (by decide) (hts (.fieldLink RX11 36 "ClashFreeModel" "as" "[J") (List.mem_of_getElem? (i := 1) rfl)) (fun _ h9 => h9) rfl dX11_roomOf_1 ?_
  refine lv_sipush (v := 2048) hx hb dX11_roomOf_4 (by decide) ?_
  refine lv_iload_n hx hb dX11_roomOf_7 rfl (lv_at hl 1 rfl) ?_
  refine lv_imul hx hb dX11_roomOf_8 ?_
  refine lv_iload_n hx hb dX11_roomOf_9 rfl (lv_at hl 2 rfl) ?_
  refine lv_iadd hx hb dX11_roomOf_10 ?_
  refine lv_topi (fun v1 ev1 => ?_)
  obtain rfl : v1 = nI (2048 * k + j) := ev1.trans (ix2048 k j)
  refine va_lald hx hb hK hP 2 1 rfl rfl (vp_in_nI (by omega) (by decide)) dX11_roomOf_11 ?_
  refine lv_topl (fun v2 ev2 => ?_)
  obtain rfl : v2 = lN ka := ev2.trans (by rw [nI_clamp (by omega)]; exact eka)
  refine lv_aload_n hx hb dX11_roomOf_12 rfl (lv_at hl 0 rfl) ?_
  refine va_get (D := D) (ci := 11) (v := .ref (a 11)) (C := RX11) (T := TX11) (N := 47) hx hb hts hin_X11 hown hK hP 0 rfl rfl 11 (by decide) (hts (.fieldLink RX11 39 "ClashFreeModel" "bs" "[J") (List.mem_of_getElem? (i := 2) rfl)) (fun _ h9 => h9) rfl dX11_roomOf_13 ?_
  refine lv_sipush (v := 2048) hx hb dX11_roomOf_16 (by decide) ?_
  refine lv_iload_n hx hb dX11_roomOf_19 rfl (lv_at hl 1 rfl) ?_
  refine lv_imul hx hb dX11_roomOf_20 ?_
  refine lv_iload_n hx hb dX11_roomOf_21 rfl (lv_at hl 2 rfl) ?_
  refine lv_iadd hx hb dX11_roomOf_22 ?_
  refine lv_topi (fun v3 ev3 => ?_)
  obtain rfl : v3 = nI (2048 * k + j) := ev3.trans (ix2048 k j)
  refine va_lald hx hb hK hP 3 2 rfl rfl (vp_in_nI (by omega) (by decide)) dX11_roomOf_23 ?_
  refine lv_topl (fun v4 ev4 => ?_)
  obtain rfl : v4 = lN kb := ev4.trans (by rw [nI_clamp (by omega)]; exact ekb)
  refine lv_iload_n hx hb dX11_roomOf_24 rfl (lv_at hl 3 rfl) ?_
  refine lv_i2l hx hb dX11_roomOf_25 rfl ?_
  refine lv_topl (fun v5 ev5 => ?_)
  obtain rfl : v5 = lN kx := ev5.trans (nI_l (by omega))
  refine lv_aload_n hx hb dX11_roomOf_26 rfl (lv_at hl 0 rfl) ?_
  refine lv_iload_n hx hb dX11_roomOf_27 rfl (lv_at hl 1 rfl) ?_
  refine lv_iload_n hx hb dX11_roomOf_28 rfl (lv_at hl 2 rfl) ?_
  have hPc := hP.sub (ws' := [(h0, .inr (11, gM a i g)), (a 8, .inl (cm 8, 10240, .inl ff))]) [0, 1] rfl
  have hKc := hK.sub (tys' := [(cm 8, .int)]) [0] rfl
  have hFc := va_free0 hS hA
  refine va_calli (va_runV (As := [.int (nI k), .int (nI j)]) (rest := [.long (lN kx), .long (lN kb), .long (lN ka)]) ⟨hx, hb, hml, hown, hts⟩ (c_roomsOf l D _ h0 a cm i g ff k j rf (by first | assumption | omega) (by first | assumption | omega) hrf) (cwV 2 hts g_c_roomOf_c_roomsOf_137 rfl rfl rfl (by decide +kernel) ⟨(Nat.le_of_ble_eq_true rfl), (Nat.le_of_ble_eq_true rfl)⟩) (PcR_V (q0 := 0) hPc hKc rfl rfl) rfl rfl hl.1 rfl (lv_room (Nat.le_of_ble_eq_true rfl)) dX11_roomOf_29 ⟨(Nat.le_of_ble_eq_true rfl), (Nat.le_of_ble_eq_true rfl)⟩) hS (fun q _ h => hFc q h) hFc (fun r6 uu tt H locs htt hvm hw hB hz1 hk1 hS => ?_)
  have hP := va_keep hP hk1
  try dsimp only at hw
  clear hB hz1 hk1 hFc hPc hKc
  obtain rfl : r6 = nI (rf * rf) := hw
  refine lv_i2l hx hb dX11_roomOf_32 rfl ?_
  refine lv_topl (fun v7 ev7 => ?_)
  obtain rfl : v7 = lN (rf * rf) := ev7.trans (nI_l (by omega))
  have hPc := hP.sub (ws' := []) [] rfl
  have hKc := hK.sub (tys' := []) [] rfl
  have hFc := va_free0 hS hA
  refine va_calli (va_runS (As := [.long (lN ka), .long (lN kb), .long (lN kx), .long (lN (rf * rf))]) (rest := []) ⟨hx, hb, hml, hown, hts⟩ (c_placeOf l D _ ka kb kx (rf * rf) (by first | assumption | omega) (by first | assumption | omega) (by first | assumption | omega | exact hKl _ (by omega)) (by first | assumption | omega) (by first | assumption | omega)) (va_cwS 4 hts g_c_roomOf_c_placeOf_133 rfl rfl rfl (by decide +kernel) ⟨(Nat.le_of_ble_eq_true rfl), (Nat.le_of_ble_eq_true rfl)⟩) (PcR_S hPc hKc) rfl rfl hl.1 rfl (lv_room (Nat.le_of_ble_eq_true rfl)) dX11_roomOf_33 ⟨(Nat.le_of_ble_eq_true rfl), (Nat.le_of_ble_eq_true rfl)⟩) hS (fun q _ h => hFc q h) hFc (fun r8 uu tt H locs htt hvm hw hB hz1 hk1 hS => ?_)
  have hP := va_keep hP hk1
  try dsimp only at hw
  clear hB hz1 hk1 hFc hPc hKc
  obtain rfl : r8 = nI ((ka * kx + kb) % 2147483647 % (rf * rf)) := hw
  exact W.iret (v := nI ((ka * kx + kb) % 2147483647 % (rf * rf))) hx hb hr (fun t ht hW => ⟨⟨nI ((ka * kx + kb) % 2147483647 % (rf * rf)), (), rfl, trivial, trivial⟩, hS.F ht⟩) hS.2.2 dX11_roomOf_36

def own_c_whereOf : List Cond := [.fieldLink RX11 17 "ClashFreeModel" "keys" "[I", .methodLink RX11 95 yX11_manyOf, .instanceMethod yX11_manyOf, .selects RX11 yX11_manyOf yX11_manyOf, .initialized RX11]
def wp_c_whereOf : List Cond := .code yX11_whereOf cX11_whereOf 7 (some .int) :: (own_c_whereOf ++ (wp_c_manyOf ++ (wsX110 ++ ([] : List Cond))))
set_option maxRecDepth 20000 in
theorem inown_c_whereOf : ∀ w ∈ own_c_whereOf, w ∈ lw_tbl := mem_places [1220, 1396, 1398, 40, 115] (by decide +kernel)
set_option maxRecDepth 20000 in
theorem in_c_whereOf : ∀ w ∈ wp_c_whereOf, w ∈ lw_tbl := List.forall_mem_cons.mpr ⟨List.mem_of_getElem? (i := 1484) (by decide +kernel), List.forall_mem_append.mpr ⟨inown_c_whereOf, List.forall_mem_append.mpr ⟨in_c_manyOf, List.forall_mem_append.mpr ⟨lwb_X11, fun _ h => absurd h List.not_mem_nil⟩⟩⟩⟩
set_option maxRecDepth 20000 in
theorem good_c_whereOf : wp_c_whereOf.all goodWord = true := by decide +kernel
set_option maxRecDepth 20000 in
theorem g_c_whereOf_c_manyOf_95 : GoodIn wp_c_whereOf (wsV RX11 95 RX11 yX11_manyOf wp_c_manyOf) := goodIn_sub (List.forall_mem_append.mpr ⟨List.forall_mem_cons.mpr ⟨(List.mem_of_getElem? (i := 2) rfl), List.forall_mem_cons.mpr ⟨(List.mem_of_getElem? (i := 3) rfl), List.forall_mem_cons.mpr ⟨(List.mem_of_getElem? (i := 4) rfl), List.forall_mem_cons.mpr ⟨(List.mem_of_getElem? (i := 5) rfl), fun _ h => absurd h List.not_mem_nil⟩⟩⟩⟩, (fun _ h => (List.mem_cons_of_mem _ (List.mem_append_right _ (List.mem_append_left _ h))))⟩) (by decide +kernel)
set_option maxHeartbeats 4000000 in
set_option maxRecDepth 100000 in
theorem lp_whereOf (l : Launch) {p : Program} {e : Env} {s : State} {m : MethodId} {args : Array Value} {below : List Frame} {meth : Method} {c : Code} {Q : State → Prop} {A : Nat → Prop} (D : va_G) (h0 : Nat) (a : Nat → Nat) (cm : Nat → ClassId) (i : Nat → Int32) (g : Nat → Int64) (fn : Nat → Int64) (fk : Nat → Int32) (k : Nat) (cn : Nat) (K : Nat → Nat) (y2 : Int64) (hk : k < 5) (h1 : fn (17 * k + 1) = lN cn) (hcn : cn ≤ 160) (hKy : KyS k fk cn K) (hx : p.tables.exec = Jvm.exec) (hb : c.code = cX11_whereOf) (hml : c.maxLocals = 7) (hown : s.vm.findClass RX11 = some m.cls) (hts : ∀ w ∈ wp_c_whereOf, w.before args s = true) (hA : ∀ q, s.heap.size ≤ q → A q) (hK : va_K D vwCl [(cm 3, .long), (cm 4, .int)] s) (kx61 : ∀ (lo : Nat), ∀ (hi : Nat), (lo ≤ hi) → (hi ≤ cn) → (∀ j, j < lo → lN (K j) < y2) → (∀ j, hi ≤ j → j < cn → ¬ lN (K j) < y2) → (hi ≤ lo) → ∀ (H : Heap) (locs : List Loc) (ls : Array Slot), va_P D vwCl [(h0, .inr (11, gM a i g)), (a 3, .inl (cm 3, 85, .inr (.inl fn))), (a 4, .inl (cm 4, 800, .inl fk))] H → va_S A s.heap H locs → lv_has ls 7 [(4, .int (nI lo))] → W p l e ({ frames := 3, cells := 0, slots := 0, locals := 80 }) s m args below meth c H locs 0 0 Q (F0 m 61 ls [])) : ∀ (N : Nat), ∀ (lo : Nat), ∀ (hi : Nat), (lo ≤ hi) → (hi ≤ cn) → (∀ j, j < lo → lN (K j) < y2) → (∀ j, hi ≤ j → j < cn → ¬ lN (K j) < y2) → hi - lo < N → ∀ (H : Heap) (locs : List Loc) (ls : Array Slot), va_P D vwCl [(h0, .inr (11, gM a i g)), (a 3, .inl (cm 3, 85, .inr (.inl fn))), (a 4, .inl (cm 4, 800, .inl fk))] H → va_S A s.heap H locs → lv_has ls 7 [(4, .int (nI lo)), (5, .int (nI hi)), (0, .ref h0), (1, .int (nI k)), (2, .long y2)] → W p l e ({ frames := 3, cells := 0, slots := 0, locals := 80 }) s m args below meth c H locs 0 0 Q (F0 m 10 ls []) := by
  have hin_X11 : ∀ w ∈ wsX110, w ∈ wp_c_whereOf := fun _ h => (List.mem_cons_of_mem _ (List.mem_append_right _ (List.mem_append_right _ (List.mem_append_left _ h))))
  intro N
  induction N with
  | zero =>
    intro lo hi hi1 hi2 hi3 hi4 hm
    exact absurd hm (Nat.not_lt_zero _)
  | succ N ih =>
    intro lo hi hi1 hi2 hi3 hi4 hm H locs ls hP hS hl
    refine lv_iload hx hb dX11_whereOf_10 (lv_at hl 0 rfl) ?_
    refine lv_iload hx hb dX11_whereOf_12 (lv_at hl 1 rfl) ?_
    refine lv_icmp_ge (tgt := 61) hx hb dX11_whereOf_14 (by decide) (fun hc1 => ?_) (fun hc1 => ?_)
    ·
      have hge : hi ≤ lo := (nI_leI (by omega) (by omega)).mp hc1
      exact kx61 lo hi (hi1) (hi2) (hi3) (hi4) (by omega) H locs ls (hP.sub [0, 1, 2] rfl) hS (lv_sub hl [0] rfl)
    ·
      have hlt : lo < hi := by
        rcases Nat.lt_or_ge lo hi with q | q
        · exact q
        · exact absurd (nI_le q (by omega)) hc1
      refine lv_iload hx hb dX11_whereOf_17 (lv_at hl 0 rfl) ?_
      refine lv_iload hx hb dX11_whereOf_19 (lv_at hl 1 rfl) ?_
      refine lv_iadd hx hb dX11_whereOf_21 ?_
      refine lv_topi (fun v2 ev2 => ?_)
      obtain rfl : v2 = nI (lo + hi) := ev2.trans (nI_add lo hi)
      refine lv_iconst (v := 2) hx hb dX11_whereOf_22 (by decide) ?_
      refine lv_idiv hx hb dX11_whereOf_23 (by decide) ?_
      refine lv_topi (fun v3 ev3 => ?_)
      obtain rfl : v3 = nI ((lo + hi) / 2) := ev3.trans (pk_div (d := 2) (by omega) (by decide) (by decide))
      refine lv_istore (lv' := [(6, .int (nI ((lo + hi) / 2))), (4, .int (nI lo)), (5, .int (nI hi)), (0, .ref h0), (1, .int (nI k)), (2, .long y2)]) hx hb dX11_whereOf_24 hl (by decide) rfl (fun ls hl => ?_)
      refine lv_aload_n hx hb dX11_whereOf_26 rfl (lv_at hl 3 rfl) ?_
      refine va_get (D := D) (ci := 11) (v := .ref (a 4)) (C := RX11) (T := TX11) (N := 47) hx hb hts hin_X11 hown hK hP 0 rfl rfl 4 (by decide) (hts (.fieldLink RX11 17 "ClashFreeModel" "keys" "[I") (List.mem_of_getElem? (i := 1) rfl)) (fun _ h9 => h9) rfl dX11_whereOf_27 ?_
      refine lv_sipush (v := 160) hx hb dX11_whereOf_30 (by decide) ?_
      refine lv_iload_n hx hb dX11_whereOf_33 rfl (lv_at hl 4 rfl) ?_
      refine lv_imul hx hb dX11_whereOf_34 ?_
      refine lv_iload hx hb dX11_whereOf_35 (lv_at hl 0 rfl) ?_
      refine lv_iadd hx hb dX11_whereOf_37 ?_
      refine lv_topi (fun v4 ev4 => ?_)
      obtain rfl : v4 = nI (160 * k + ((lo + hi) / 2)) := ev4.trans (ix160 k _)
      refine va_iald hx hb hK hP 2 1 rfl rfl (vp_in_nI (by omega) (by decide)) dX11_whereOf_38 ?_
      refine lv_topi (fun v5 ev5 => ?_)
      obtain rfl : v5 = nI (K ((lo + hi) / 2)) := ev5.trans (by rw [nI_clamp (by omega)]; exact (hKy.1 _ (by omega)).1)
      refine lv_i2l hx hb dX11_whereOf_39 rfl ?_
      refine lv_topl (fun v6 ev6 => ?_)
      obtain rfl : v6 = lN (K ((lo + hi) / 2)) := ev6.trans (nI_l (Nat.lt_trans (hKy.1 _ (by omega)).2 (by decide)))
      refine lv_lload_n hx hb dX11_whereOf_40 rfl (lv_at hl 5 rfl) ?_
      refine W.lcmp hx hb dX11_whereOf_41 ?_
      refine lv_if_ge (tgt := 54) hx hb dX11_whereOf_42 (by decide) (fun hc7 => ?_) (fun hc7 => ?_)
      ·
        refine lv_iload hx hb dX11_whereOf_54 (lv_at hl 0 rfl) ?_
        refine lv_istore (lv' := [(5, .int (nI ((lo + hi) / 2))), (6, .int (nI ((lo + hi) / 2))), (4, .int (nI lo)), (0, .ref h0), (1, .int (nI k)), (2, .long y2)]) hx hb dX11_whereOf_56 hl (by decide) rfl (fun ls hl => ?_)
        refine lv_goto (tgt := 10) hx hb dX11_whereOf_58 (by decide) ?_
        exact ih lo ((lo + hi) / 2) (by omega) (by omega) (hi3) (wh_hi (fun j a => (hKy.1 j a).2) hKy.2 (by omega) (fun q => False.elim ((lg_cmp_ge _ _).mp hc7 |> fun e => absurd q (Int64.not_lt.mpr e)))) (by omega) H locs ls (hP.sub [0, 1, 2] rfl) hS (lv_sub hl [2, 0, 3, 4, 5] rfl)
      ·
        refine lv_iload hx hb dX11_whereOf_45 (lv_at hl 0 rfl) ?_
        refine lv_iconst (v := 1) hx hb dX11_whereOf_47 (by decide) ?_
        refine lv_iadd hx hb dX11_whereOf_48 ?_
        refine lv_topi (fun v8 ev8 => ?_)
        obtain rfl : v8 = nI (((lo + hi) / 2) + 1) := ev8.trans (nI_1 _)
        refine lv_istore (lv' := [(4, .int (nI (((lo + hi) / 2) + 1))), (6, .int (nI ((lo + hi) / 2))), (5, .int (nI hi)), (0, .ref h0), (1, .int (nI k)), (2, .long y2)]) hx hb dX11_whereOf_49 hl (by decide) rfl (fun ls hl => ?_)
        refine lv_goto (tgt := 58) hx hb dX11_whereOf_51 (by decide) ?_
        refine lv_goto (tgt := 10) hx hb dX11_whereOf_58 (by decide) ?_
        exact ih (((lo + hi) / 2) + 1) hi (by omega) (hi2) (wh_lo (fun j a => (hKy.1 j a).2) hKy.2 (by omega) (Int64.not_le.mp (mt (lg_cmp_ge _ _).mpr hc7))) (hi4) (by omega) H locs ls (hP.sub [0, 1, 2] rfl) hS (lv_sub hl [0, 2, 3, 4, 5] rfl)
set_option maxHeartbeats 4000000 in
set_option maxRecDepth 100000 in
theorem c_whereOf (l : Launch) (D : va_G) (sz : Nat) (h0 : Nat) (a : Nat → Nat) (cm : Nat → ClassId) (i : Nat → Int32) (g : Nat → Int64) (fn : Nat → Int64) (fk : Nat → Int32) (k : Nat) (cn : Nat) (K : Nat → Nat) (y2 : Int64) (hk : k < 5) (h1 : fn (17 * k + 1) = lN cn) (hcn : cn ≤ 160) (hKy : KyS k fk cn K) : Met l yX11_whereOf wp_c_whereOf ({ frames := 3, cells := 0, slots := 0, locals := 80 }) (PcR D [.ref h0, .int (nI k), .long y2] sz [(h0, .inr (11, gM a i g)), (a 3, .inl (cm 3, 85, .inr (.inl fn))), (a 4, .inl (cm 4, 800, .inl fk))] [(cm 3, .long), (cm 4, .int)]) (va_Qi (fun (r : Int32) (u : Unit) => ∃ q, q ≤ cn ∧ r = nI q ∧ (∀ j, j < q → lN (K j) < y2) ∧ ∀ j, q ≤ j → j < cn → ¬ lN (K j) < y2) (fun (_ : Unit) _ => True) (va_A [] sz)) 0 0 (va_A [] sz) := by
  refine Met.ofW (cc := cX11_whereOf) (maxL := 7) (ret := (some .int)) (by decide) rfl ?_
  intro p e s m args below meth c s₁ B hml hv
  obtain ⟨rfl, hsz, hP, hK⟩ := hv
  have hx := B.exec
  have hb := B.bytes
  have hr := B.returns
  have hts := atoms_spec (ws := wp_c_whereOf) B.pre
  have hin_X11 : ∀ w ∈ wsX110, w ∈ wp_c_whereOf := fun _ h => (List.mem_cons_of_mem _ (List.mem_append_right _ (List.mem_append_right _ (List.mem_append_left _ h))))
  have hown : s.vm.findClass RX11 = some m.cls := findClass_of_methodNamed B.named
  have hlocks := B.notSynchronized
  subst hsz
  generalize hAe : va_A [] s.heap.size = A at ⊢
  have hA : ∀ q : Nat, s.heap.size ≤ q → A q := fun q h => by rw [← hAe]; exact Or.inr h
  have hS : va_S A s.heap s.heap [] := va_S.rf
  have hP : va_P D vwCl [(h0, .inr (11, gM a i g)), (a 3, .inl (cm 3, 85, .inr (.inl fn))), (a 4, .inl (cm 4, 800, .inl fk))] s.heap := hP
  have hl := lv_entry ([.ref h0, .int (nI k), .long y2]) (n := 7) (Nat.le_of_ble_eq_true rfl)
  rw [lg_entry_eq]
  generalize (lg_sl ([.ref h0, .int (nI k), .long y2]) ++ List.replicate (7 - (lg_sl ([.ref h0, .int (nI k), .long y2])).length) Slot.unset).toArray = ls at hl ⊢
  have hl : lv_has ls 7 [(0, .ref h0), (1, .int (nI k)), (2, .long y2)] := hl
  refine lv_iconst (v := 0) hx hb dX11_whereOf_0 (by decide) ?_
  refine lv_istore (lv' := [(4, .int 0), (0, .ref h0), (1, .int (nI k)), (2, .long y2)]) hx hb dX11_whereOf_1 hl (by decide) rfl (fun ls hl => ?_)
  refine lv_aload_n hx hb dX11_whereOf_3 rfl (lv_at hl 1 rfl) ?_
  refine lv_iload_n hx hb dX11_whereOf_4 rfl (lv_at hl 2 rfl) ?_
  have hPc := hP.sub (ws' := [(h0, .inr (11, gM a i g)), (a 3, .inl (cm 3, 85, .inr (.inl fn)))]) [0, 1] rfl
  have hKc := hK.sub (tys' := [(cm 3, .long)]) [0] rfl
  have hFc := va_free0 hS hA
  refine va_calli (va_runV (As := [.int (nI k)]) (rest := []) ⟨hx, hb, hml, hown, hts⟩ (c_manyOf l D _ h0 a cm i g fn k cn (by first | assumption | omega) h1) (cwV 1 hts g_c_whereOf_c_manyOf_95 rfl rfl rfl (by decide +kernel) ⟨(Nat.le_of_ble_eq_true rfl), (Nat.le_of_ble_eq_true rfl)⟩) (PcR_V (q0 := 0) hPc hKc rfl rfl) rfl rfl hl.1 rfl (lv_room (Nat.le_of_ble_eq_true rfl)) dX11_whereOf_5 ⟨(Nat.le_of_ble_eq_true rfl), (Nat.le_of_ble_eq_true rfl)⟩) hS (fun q _ h => hFc q h) hFc (fun r1 uu tt H locs htt hvm hw hB hz1 hk1 hS => ?_)
  have hP := va_keep hP hk1
  try dsimp only at hw
  clear hB hz1 hk1 hFc hPc hKc
  obtain rfl : r1 = nI cn := hw
  refine lv_istore (lv' := [(5, .int (nI cn)), (4, .int 0), (0, .ref h0), (1, .int (nI k)), (2, .long y2)]) hx hb dX11_whereOf_8 hl (by decide) rfl (fun ls hl => ?_)
  refine lp_whereOf l D h0 a cm i g fn fk k cn K y2 (hk) (h1) (hcn) (hKy) hx hb hml hown hts hA (hK.sub [0, 1] rfl) ?_ (cn + 1) 0 cn (Nat.zero_le _) (Nat.le_refl _) (fun j h => absurd h (Nat.not_lt_zero _)) (fun j a b => absurd a (by omega)) (by omega) _ _ _ (hP.sub [0, 1, 2] rfl) hS (lv_sub hl [1, 0, 2, 3, 4] rfl)
  intro lo_2 hi_3 hi1_4 hi2_5 hi3_6 hi4_7 hx8 H locs ls hP hS hl
  refine lv_iload hx hb dX11_whereOf_61 (lv_at hl 0 rfl) ?_
  exact W.iret (v := nI lo_2) hx hb hr (fun t ht hW => ⟨⟨nI lo_2, (), rfl, ⟨_, by omega, rfl, hi3_6, fun j a b => hi4_7 j (by omega) b⟩, trivial⟩, hS.F ht⟩) hS.2.2 dX11_whereOf_63

