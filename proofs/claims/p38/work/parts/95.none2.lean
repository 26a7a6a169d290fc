theorem dX10_shared_0 : decode cX10_shared 0 = .ok (.aload_n 0, 1) := by decide +kernel
theorem dX10_shared_1 : decode cX10_shared 1 = .ok (.iload_n 1, 1) := by decide +kernel
theorem dX10_shared_2 : decode cX10_shared 2 = .ok (.invokevirtual 74, 3) := by decide +kernel
theorem dX10_shared_5 : decode cX10_shared 5 = .ok (.astore 4, 2) := by decide +kernel
theorem dX10_shared_7 : decode cX10_shared 7 = .ok (.aload_n 0, 1) := by decide +kernel
theorem dX10_shared_8 : decode cX10_shared 8 = .ok (.iload_n 2, 1) := by decide +kernel
theorem dX10_shared_9 : decode cX10_shared 9 = .ok (.invokevirtual 74, 3) := by decide +kernel
theorem dX10_shared_12 : decode cX10_shared 12 = .ok (.astore 5, 2) := by decide +kernel
theorem dX10_shared_14 : decode cX10_shared 14 = .ok (.aload 4, 2) := by decide +kernel
theorem dX10_shared_16 : decode cX10_shared 16 = .ok (.ifnull 8, 3) := by decide +kernel
theorem dX10_shared_19 : decode cX10_shared 19 = .ok (.aload 5, 2) := by decide +kernel
theorem dX10_shared_21 : decode cX10_shared 21 = .ok (.ifnonnull 5, 3) := by decide +kernel
theorem dX10_shared_24 : decode cX10_shared 24 = .ok (.iconst (-1), 1) := by decide +kernel
theorem dX10_shared_25 : decode cX10_shared 25 = .ok (.ireturn, 1) := by decide +kernel
theorem dX10_join_0 : decode cX10_join 0 = .ok (.aload_n 0, 1) := by decide +kernel
theorem dX10_join_1 : decode cX10_join 1 = .ok (.iload_n 1, 1) := by decide +kernel
theorem dX10_join_2 : decode cX10_join 2 = .ok (.invokevirtual 74, 3) := by decide +kernel
theorem dX10_join_5 : decode cX10_join 5 = .ok (.astore_n 3, 1) := by decide +kernel
theorem dX10_join_6 : decode cX10_join 6 = .ok (.aload_n 0, 1) := by decide +kernel
theorem dX10_join_7 : decode cX10_join 7 = .ok (.iload_n 2, 1) := by decide +kernel
theorem dX10_join_8 : decode cX10_join 8 = .ok (.invokevirtual 74, 3) := by decide +kernel
theorem dX10_join_11 : decode cX10_join 11 = .ok (.astore 4, 2) := by decide +kernel
theorem dX10_join_13 : decode cX10_join 13 = .ok (.aload_n 3, 1) := by decide +kernel
theorem dX10_join_14 : decode cX10_join 14 = .ok (.ifnull 13, 3) := by decide +kernel
theorem dX10_join_17 : decode cX10_join 17 = .ok (.aload 4, 2) := by decide +kernel
theorem dX10_join_19 : decode cX10_join 19 = .ok (.ifnull 8, 3) := by decide +kernel
theorem dX10_join_22 : decode cX10_join 22 = .ok (.iload_n 1, 1) := by decide +kernel
theorem dX10_join_23 : decode cX10_join 23 = .ok (.iload_n 2, 1) := by decide +kernel
theorem dX10_join_24 : decode cX10_join 24 = .ok (.if_icmp .ne 6, 3) := by decide +kernel
theorem dX10_join_27 : decode cX10_join 27 = .ok (.bipush (-2), 2) := by decide +kernel
theorem dX10_join_29 : decode cX10_join 29 = .ok (.ireturn, 1) := by decide +kernel
theorem dX10_cut_0 : decode cX10_cut 0 = .ok (.aload_n 0, 1) := by decide +kernel
theorem dX10_cut_1 : decode cX10_cut 1 = .ok (.iload_n 1, 1) := by decide +kernel
theorem dX10_cut_2 : decode cX10_cut 2 = .ok (.invokevirtual 74, 3) := by decide +kernel
theorem dX10_cut_5 : decode cX10_cut 5 = .ok (.astore 4, 2) := by decide +kernel
theorem dX10_cut_7 : decode cX10_cut 7 = .ok (.aload_n 0, 1) := by decide +kernel
theorem dX10_cut_8 : decode cX10_cut 8 = .ok (.iload_n 2, 1) := by decide +kernel
theorem dX10_cut_9 : decode cX10_cut 9 = .ok (.invokevirtual 74, 3) := by decide +kernel
theorem dX10_cut_12 : decode cX10_cut 12 = .ok (.astore 5, 2) := by decide +kernel
theorem dX10_cut_14 : decode cX10_cut 14 = .ok (.aload 4, 2) := by decide +kernel
theorem dX10_cut_16 : decode cX10_cut 16 = .ok (.ifnull 13, 3) := by decide +kernel
theorem dX10_cut_19 : decode cX10_cut 19 = .ok (.aload 5, 2) := by decide +kernel
theorem dX10_cut_21 : decode cX10_cut 21 = .ok (.ifnull 8, 3) := by decide +kernel
theorem dX10_cut_24 : decode cX10_cut 24 = .ok (.iload_n 1, 1) := by decide +kernel
theorem dX10_cut_25 : decode cX10_cut 25 = .ok (.iload_n 2, 1) := by decide +kernel
theorem dX10_cut_26 : decode cX10_cut 26 = .ok (.if_icmp .ne 6, 3) := by decide +kernel
theorem dX10_cut_29 : decode cX10_cut 29 = .ok (.bipush (-2), 2) := by decide +kernel
theorem dX10_cut_31 : decode cX10_cut 31 = .ok (.ireturn, 1) := by decide +kernel
theorem dX10_copy_0 : decode cX10_copy 0 = .ok (.aload_n 0, 1) := by decide +kernel
theorem dX10_copy_1 : decode cX10_copy 1 = .ok (.iload_n 2, 1) := by decide +kernel
theorem dX10_copy_2 : decode cX10_copy 2 = .ok (.invokevirtual 74, 3) := by decide +kernel
theorem dX10_copy_5 : decode cX10_copy 5 = .ok (.astore_n 3, 1) := by decide +kernel
theorem dX10_copy_6 : decode cX10_copy 6 = .ok (.iload_n 1, 1) := by decide +kernel
theorem dX10_copy_7 : decode cX10_copy 7 = .ok (.invokestatic 55, 3) := by decide +kernel
theorem dX10_copy_10 : decode cX10_copy 10 = .ok (.ifCond .eq 12, 3) := by decide +kernel
theorem dX10_copy_13 : decode cX10_copy 13 = .ok (.aload_n 3, 1) := by decide +kernel
theorem dX10_copy_14 : decode cX10_copy 14 = .ok (.ifnull 8, 3) := by decide +kernel
theorem dX10_copy_17 : decode cX10_copy 17 = .ok (.iload_n 1, 1) := by decide +kernel
theorem dX10_copy_18 : decode cX10_copy 18 = .ok (.iload_n 2, 1) := by decide +kernel
theorem dX10_copy_19 : decode cX10_copy 19 = .ok (.if_icmp .ne 6, 3) := by decide +kernel
theorem dX10_copy_22 : decode cX10_copy 22 = .ok (.bipush (-2), 2) := by decide +kernel
theorem dX10_copy_24 : decode cX10_copy 24 = .ok (.ireturn, 1) := by decide +kernel
def own_n_sharedNN : List Cond := [.methodLink RX10 74 yX10_tableAt, .instanceMethod yX10_tableAt, .selects RX10 yX10_tableAt yX10_tableAt, .initialized RX10]
def wp_n_sharedNN : List Cond := .code yX10_shared cX10_shared 7 (some .int) :: (own_n_sharedNN ++ (wp_k_tabN ++ ([] : List Cond)))
set_option maxRecDepth 20000 in
theorem inown_n_sharedNN : ∀ w ∈ own_n_sharedNN, w ∈ lw_tbl := mem_places [610, 612, 2, 106] (by decide +kernel)
set_option maxRecDepth 20000 in
theorem in_n_sharedNN : ∀ w ∈ wp_n_sharedNN, w ∈ lw_tbl := List.forall_mem_cons.mpr ⟨List.mem_of_getElem? (i := 881) (by decide +kernel), List.forall_mem_append.mpr ⟨inown_n_sharedNN, List.forall_mem_append.mpr ⟨in_k_tabN, fun _ h => absurd h List.not_mem_nil⟩⟩⟩
set_option maxRecDepth 20000 in
theorem good_n_sharedNN : wp_n_sharedNN.all goodWord = true := by decide +kernel
set_option maxRecDepth 20000 in
theorem g_n_sharedNN_k_tabN_74 : GoodIn wp_n_sharedNN (wsV RX10 74 RX10 yX10_tableAt wp_k_tabN) := goodIn_sub (List.forall_mem_append.mpr ⟨List.forall_mem_cons.mpr ⟨(List.mem_of_getElem? (i := 1) rfl), List.forall_mem_cons.mpr ⟨(List.mem_of_getElem? (i := 2) rfl), List.forall_mem_cons.mpr ⟨(List.mem_of_getElem? (i := 3) rfl), List.forall_mem_cons.mpr ⟨(List.mem_of_getElem? (i := 4) rfl), fun _ h => absurd h List.not_mem_nil⟩⟩⟩⟩, (fun _ h => (List.mem_cons_of_mem _ (List.mem_append_right _ (List.mem_append_left _ h))))⟩) (by decide +kernel)
set_option maxHeartbeats 4000000 in
set_option maxRecDepth 100000 in
theorem n_sharedNN (l : Launch) (D : va_G) (sz : Nat) (ox : Nat → Nat) (ob3 : Nat → Nat) (og : Nat → Nat) (oq : Nat → Nat) (ow : Nat → Nat) (cI : ClassId) (cT : ClassId) (tp : Nat) (ft : Nat → Option Nat) (z1 : Int32) (z2 : Int32) (z3 : Int32) (hno1 : ∀ k, k < 4 → z1 = nI k → ft k = none) (hno2 : ∀ k, k < 4 → z2 = nI k → ft k = none) : Met l yX10_shared wp_n_sharedNN ({ frames := 2, cells := 0, slots := 0, locals := 41 }) (PcRC D [.ref (ox 0), .int z1, .int z2, .int z3] sz [(ox 0, .inr (10, [.ref (ox 1), .ref (ox 2), .int (nI tp), .ref (ob3 0), .ref (og 0), .ref (oq 0), .ref (ow 0)])), (ox 1, .inl (cT, 4, .inr (.inr (.inr (.inr ft)))))] [(cT, .object RX9)]) (va_Qi (fun (r : Int32) (u : Unit) => r = (-1)) (fun (_ : Unit) _ => True) (va_A [] sz)) 0 0 (va_A [] sz) := by
  refine Met.ofW (cc := cX10_shared) (maxL := 7) (ret := (some .int)) (by decide) rfl ?_
  intro p e s m args below meth c s₁ B hml hv
  obtain ⟨rfl, hsz, hP, hK, hN⟩ := hv
  have hx := B.exec
  have hb := B.bytes
  have hr := B.returns
  have hts := atoms_spec (ws := wp_n_sharedNN) B.pre
  have hown : s.vm.findClass RX10 = some m.cls := findClass_of_methodNamed B.named
  have hlocks := B.notSynchronized
  subst hsz
  generalize hAe : va_A [] s.heap.size = A at ⊢
  have hA : ∀ q : Nat, s.heap.size ≤ q → A q := fun q h => by rw [← hAe]; exact Or.inr h
  have hS : va_S A s.heap s.heap [] := va_S.rf
  have hP : va_P D vwCl [(ox 0, .inr (10, [.ref (ox 1), .ref (ox 2), .int (nI tp), .ref (ob3 0), .ref (og 0), .ref (oq 0), .ref (ow 0)])), (ox 1, .inl (cT, 4, .inr (.inr (.inr (.inr ft)))))] s.heap := hP
  have hl := lv_entry ([.ref (ox 0), .int z1, .int z2, .int z3]) (n := 7) (Nat.le_of_ble_eq_true rfl)
  rw [lg_entry_eq]
  generalize (lg_sl ([.ref (ox 0), .int z1, .int z2, .int z3]) ++ List.replicate (7 - (lg_sl ([.ref (ox 0), .int z1, .int z2, .int z3])).length) Slot.unset).toArray = ls at hl ⊢
  have hl : lv_has ls 7 [(0, .ref (ox 0)), (1, .int z1), (2, .int z2), (3, .int z3)] := hl
  refine lv_aload_n hx hb dX10_shared_0 rfl (lv_at hl 0 rfl) ?_
  refine lv_iload_n hx hb dX10_shared_1 rfl (lv_at hl 1 rfl) ?_
  have hPc := hP.sub (ws' := [(ox 0, .inr (10, [.ref (ox 1), .ref (ox 2), .int (nI tp), .ref (ob3 0), .ref (og 0), .ref (oq 0), .ref (ow 0)])), (ox 1, .inl (cT, 4, .inr (.inr (.inr (.inr ft)))))]) [0, 1] rfl
  have hKc := hK.sub (tys' := [(cT, .object RX9)]) [0] rfl
  have hFc := va_free0 hS hA
  refine va_callq (va_runV (As := [.int z1]) (rest := []) ⟨hx, hb, hml, hown, hts⟩ (k_tabN l D _ ox ob3 og oq ow cI cT tp ft z1 hno1) (cwV 1 hts g_n_sharedNN_k_tabN_74 rfl rfl rfl (by decide +kernel) ⟨(Nat.le_of_ble_eq_true rfl), (Nat.le_of_ble_eq_true rfl)⟩) (PcRC_V (q0 := 0) hPc hKc hN rfl rfl) rfl rfl hl.1 rfl (lv_room (Nat.le_of_ble_eq_true rfl)) dX10_shared_2 ⟨(Nat.le_of_ble_eq_true rfl), (Nat.le_of_ble_eq_true rfl)⟩) hS (fun q _ h => hFc q h) hFc (fun r1 uu tt H locs htt hvm hw hB hz1 hk1 hS => ?_)
  have hP := va_keep hP hk1
  try dsimp only at hw
  clear hB hz1 hk1 hFc hPc hKc
  obtain rfl : r1 = none := hw
  refine W.eq (g2 := F0 m 5 ls [.null]) rfl ?_
  refine lv_astoreN (lv' := [(4, .null), (0, .ref (ox 0)), (1, .int z1), (2, .int z2), (3, .int z3)]) hx hb dX10_shared_5 hl (by decide) rfl (fun ls hl => ?_)
  refine lv_aload_n hx hb dX10_shared_7 rfl (lv_at hl 1 rfl) ?_
  refine lv_iload_n hx hb dX10_shared_8 rfl (lv_at hl 3 rfl) ?_
  have hPc := hP.sub (ws' := [(ox 0, .inr (10, [.ref (ox 1), .ref (ox 2), .int (nI tp), .ref (ob3 0), .ref (og 0), .ref (oq 0), .ref (ow 0)])), (ox 1, .inl (cT, 4, .inr (.inr (.inr (.inr ft)))))]) [0, 1] rfl
  have hKc := hK.sub (tys' := [(cT, .object RX9)]) [0] rfl
  have hFc := va_free0 hS hA
  refine va_callq (va_runV (As := [.int z2]) (rest := []) ⟨hx, hb, hml, hown, hts⟩ (k_tabN l D _ ox ob3 og oq ow cI cT tp ft z2 hno2) (cwV 1 hts g_n_sharedNN_k_tabN_74 rfl rfl rfl (by decide +kernel) ⟨(Nat.le_of_ble_eq_true rfl), (Nat.le_of_ble_eq_true rfl)⟩) (PcRC_V (q0 := 0) hPc hKc hN rfl rfl) rfl rfl hl.1 rfl (lv_room (Nat.le_of_ble_eq_true rfl)) dX10_shared_9 ⟨(Nat.le_of_ble_eq_true rfl), (Nat.le_of_ble_eq_true rfl)⟩) hS (fun q _ h => hFc q h) hFc (fun r2 uu tt H locs htt hvm hw hB hz1 hk1 hS => ?_)
  have hP := va_keep hP hk1
  try dsimp only at hw
  clear hB hz1 hk1 hFc hPc hKc
  obtain rfl : r2 = none := hw
  refine W.eq (g2 := F0 m 12 ls [.null]) rfl ?_
  refine lv_astoreN (lv' := [(5, .null), (4, .null), (0, .ref (ox 0)), (1, .int z1), (2, .int z2), (3, .int z3)]) hx hb dX10_shared_12 hl (by decide) rfl (fun ls hl => ?_)
  refine lv_aloadN hx hb dX10_shared_14 (lv_at hl 1 rfl) ?_
  refine lv_ifnullN (tgt := 24) hx hb dX10_shared_16 (by decide) ?_
  refine lv_iconst (v := (-1)) hx hb dX10_shared_24 (by decide) ?_
  exact W.iret (v := (-1)) hx hb hr (fun t ht hW => ⟨⟨(-1), (), rfl, rfl, trivial⟩, hS.F ht⟩) hS.2.2 dX10_shared_25

def own_n_sharedNS : List Cond := [.methodLink RX10 74 yX10_tableAt, .instanceMethod yX10_tableAt, .selects RX10 yX10_tableAt yX10_tableAt, .initialized RX10]
def wp_n_sharedNS : List Cond := .code yX10_shared cX10_shared 7 (some .int) :: (own_n_sharedNS ++ (wp_k_tabN ++ (wp_k_tabS ++ ([] : List Cond))))
set_option maxRecDepth 20000 in
theorem inown_n_sharedNS : ∀ w ∈ own_n_sharedNS, w ∈ lw_tbl := mem_places [610, 612, 2, 106] (by decide +kernel)
set_option maxRecDepth 20000 in
theorem in_n_sharedNS : ∀ w ∈ wp_n_sharedNS, w ∈ lw_tbl := List.forall_mem_cons.mpr ⟨List.mem_of_getElem? (i := 881) (by decide +kernel), List.forall_mem_append.mpr ⟨inown_n_sharedNS, List.forall_mem_append.mpr ⟨in_k_tabN, List.forall_mem_append.mpr ⟨in_k_tabS, fun _ h => absurd h List.not_mem_nil⟩⟩⟩⟩
set_option maxRecDepth 20000 in
theorem good_n_sharedNS : wp_n_sharedNS.all goodWord = true := by decide +kernel
set_option maxRecDepth 20000 in
theorem g_n_sharedNS_k_tabN_74 : GoodIn wp_n_sharedNS (wsV RX10 74 RX10 yX10_tableAt wp_k_tabN) := goodIn_sub (List.forall_mem_append.mpr ⟨List.forall_mem_cons.mpr ⟨(List.mem_of_getElem? (i := 1) rfl), List.forall_mem_cons.mpr ⟨(List.mem_of_getElem? (i := 2) rfl), List.forall_mem_cons.mpr ⟨(List.mem_of_getElem? (i := 3) rfl), List.forall_mem_cons.mpr ⟨(List.mem_of_getElem? (i := 4) rfl), fun _ h => absurd h List.not_mem_nil⟩⟩⟩⟩, (fun _ h => (List.mem_cons_of_mem _ (List.mem_append_right _ (List.mem_append_left _ h))))⟩) (by decide +kernel)
set_option maxRecDepth 20000 in
theorem g_n_sharedNS_k_tabS_74 : GoodIn wp_n_sharedNS (wsV RX10 74 RX10 yX10_tableAt wp_k_tabS) := goodIn_sub (List.forall_mem_append.mpr ⟨List.forall_mem_cons.mpr ⟨(List.mem_of_getElem? (i := 1) rfl), List.forall_mem_cons.mpr ⟨(List.mem_of_getElem? (i := 2) rfl), List.forall_mem_cons.mpr ⟨(List.mem_of_getElem? (i := 3) rfl), List.forall_mem_cons.mpr ⟨(List.mem_of_getElem? (i := 4) rfl), fun _ h => absurd h List.not_mem_nil⟩⟩⟩⟩, (fun _ h => (List.mem_cons_of_mem _ (List.mem_append_right _ (List.mem_append_right _ (List.mem_append_left _ h)))))⟩) (by decide +kernel)
set_option maxHeartbeats 4000000 in
set_option maxRecDepth 100000 in
theorem n_sharedNS (l : Launch) (D : va_G) (sz : Nat) (ox : Nat → Nat) (ob3 : Nat → Nat) (og : Nat → Nat) (oq : Nat → Nat) (ow : Nat → Nat) (cI : ClassId) (cT : ClassId) (tp : Nat) (ft : Nat → Option Nat) (z1 : Int32) (z3 : Int32) (k2 : Nat) (tq2 : Nat) (hno1 : ∀ k, k < 4 → z1 = nI k → ft k = none) (hk2 : k2 < 4) (hft2 : ft k2 = some tq2) : Met l yX10_shared wp_n_sharedNS ({ frames := 2, cells := 0, slots := 0, locals := 41 }) (PcRC D [.ref (ox 0), .int z1, .int (nI k2), .int z3] sz [(ox 0, .inr (10, [.ref (ox 1), .ref (ox 2), .int (nI tp), .ref (ob3 0), .ref (og 0), .ref (oq 0), .ref (ow 0)])), (ox 1, .inl (cT, 4, .inr (.inr (.inr (.inr ft)))))] [(cT, .object RX9)]) (va_Qi (fun (r : Int32) (u : Unit) => r = (-1)) (fun (_ : Unit) _ => True) (va_A [] sz)) 0 0 (va_A [] sz) := by
  refine Met.ofW (cc := cX10_shared) (maxL := 7) (ret := (some .int)) (by decide) rfl ?_
  intro p e s m args below meth c s₁ B hml hv
  obtain ⟨rfl, hsz, hP, hK, hN⟩ := hv
  have hx := B.exec
  have hb := B.bytes
  have hr := B.returns
  have hts := atoms_spec (ws := wp_n_sharedNS) B.pre
  have hown : s.vm.findClass RX10 = some m.cls := findClass_of_methodNamed B.named
  have hlocks := B.notSynchronized
  subst hsz
  generalize hAe : va_A [] s.heap.size = A at ⊢
  have hA : ∀ q : Nat, s.heap.size ≤ q → A q := fun q h => by rw [← hAe]; exact Or.inr h
  have hS : va_S A s.heap s.heap [] := va_S.rf
  have hP : va_P D vwCl [(ox 0, .inr (10, [.ref (ox 1), .ref (ox 2), .int (nI tp), .ref (ob3 0), .ref (og 0), .ref (oq 0), .ref (ow 0)])), (ox 1, .inl (cT, 4, .inr (.inr (.inr (.inr ft)))))] s.heap := hP
  have hl := lv_entry ([.ref (ox 0), .int z1, .int (nI k2), .int z3]) (n := 7) (Nat.le_of_ble_eq_true rfl)
  rw [lg_entry_eq]
  generalize (lg_sl ([.ref (ox 0), .int z1, .int (nI k2), .int z3]) ++ List.replicate (7 - (lg_sl ([.ref (ox 0), .int z1, .int (nI k2), .int z3])).length) Slot.unset).toArray = ls at hl ⊢
  have hl : lv_has ls 7 [(0, .ref (ox 0)), (1, .int z1), (2, .int (nI k2)), (3, .int z3)] := hl
  refine lv_aload_n hx hb dX10_shared_0 rfl (lv_at hl 0 rfl) ?_
  refine lv_iload_n hx hb dX10_shared_1 rfl (lv_at hl 1 rfl) ?_
  have hPc := hP.sub (ws' := [(ox 0, .inr (10, [.ref (ox 1), .ref (ox 2), .int (nI tp), .ref (ob3 0), .ref (og 0), .ref (oq 0), .ref (ow 0)])), (ox 1, .inl (cT, 4, .inr (.inr (.inr (.inr ft)))))]) [0, 1] rfl
  have hKc := hK.sub (tys' := [(cT, .object RX9)]) [0] rfl
  have hFc := va_free0 hS hA
  refine va_callq (va_runV (As := [.int z1]) (rest := []) ⟨hx, hb, hml, hown, hts⟩ (k_tabN l D _ ox ob3 og oq ow cI cT tp ft z1 hno1) (cwV 1 hts g_n_sharedNS_k_tabN_74 rfl rfl rfl (by decide +kernel) ⟨(Nat.le_of_ble_eq_true rfl), (Nat.le_of_ble_eq_true rfl)⟩) (PcRC_V (q0 := 0) hPc hKc hN rfl rfl) rfl rfl hl.1 rfl (lv_room (Nat.le_of_ble_eq_true rfl)) dX10_shared_2 ⟨(Nat.le_of_ble_eq_true rfl), (Nat.le_of_ble_eq_true rfl)⟩) hS (fun q _ h => hFc q h) hFc (fun r1 uu tt H locs htt hvm hw hB hz1 hk1 hS => ?_)
  have hP := va_keep hP hk1
  try dsimp only at hw
  clear hB hz1 hk1 hFc hPc hKc
  obtain rfl : r1 = none := hw
  refine W.eq (g2 := F0 m 5 ls [.null]) rfl ?_
  refine lv_astoreN (lv' := [(4, .null), (0, .ref (ox 0)), (1, .int z1), (2, .int (nI k2)), (3, .int z3)]) hx hb dX10_shared_5 hl (by decide) rfl (fun ls hl => ?_)
  refine lv_aload_n hx hb dX10_shared_7 rfl (lv_at hl 1 rfl) ?_
  refine lv_iload_n hx hb dX10_shared_8 rfl (lv_at hl 3 rfl) ?_
  have hPc := hP.sub (ws' := [(ox 0, .inr (10, [.ref (ox 1), .ref (ox 2), .int (nI tp), .ref (ob3 0), .ref (og 0), .ref (oq 0), .ref (ow 0)])), (ox 1, .inl (cT, 4, .inr (.inr (.inr (.inr ft)))))]) [0, 1] rfl
  have hKc := hK.sub (tys' := [(cT, .object RX9)]) [0] rfl
  have hFc := va_free0 hS hA
  refine va_callq (va_runV (As := [.int (nI k2)]) (rest := []) ⟨hx, hb, hml, hown, hts⟩ (k_tabS l D _ ox ob3 og oq ow cI cT tp ft k2 tq2 hk2 hft2) (cwV 1 hts g_n_sharedNS_k_tabS_74 rfl rfl rfl (by decide +kernel) ⟨(Nat.le_of_ble_eq_true rfl), (Nat.le_of_ble_eq_true rfl)⟩) (PcRC_V (q0 := 0) hPc hKc hN rfl rfl) rfl rfl hl.1 rfl (lv_room (Nat.le_of_ble_eq_true rfl)) dX10_shared_9 ⟨(Nat.le_of_ble_eq_true rfl), (Nat.le_of_ble_eq_true rfl)⟩) hS (fun q _ h => hFc q h) hFc (fun r2 uu tt H locs htt hvm hw hB hz1 hk1 hS => ?_)
  have hP := va_keep hP hk1
  try dsimp only at hw
  clear hB hz1 hk1 hFc hPc hKc
  obtain rfl : r2 = some tq2 := hw
  refine W.eq (g2 := F0 m 12 ls [.ref tq2]) rfl ?_
  refine lv_astore (lv' := [(5, .ref tq2), (4, .null), (0, .ref (ox 0)), (1, .int z1), (2, .int (nI k2)), (3, .int z3)]) hx hb dX10_shared_12 hl (by decide) rfl (fun ls hl => ?_)
  refine lv_aloadN hx hb dX10_shared_14 (lv_at hl 1 rfl) ?_
  refine lv_ifnullN (tgt := 24) hx hb dX10_shared_16 (by decide) ?_
  refine lv_iconst (v := (-1)) hx hb dX10_shared_24 (by decide) ?_
  exact W.iret (v := (-1)) hx hb hr (fun t ht hW => ⟨⟨(-1), (), rfl, rfl, trivial⟩, hS.F ht⟩) hS.2.2 dX10_shared_25

def own_n_sharedSN : List Cond := [.methodLink RX10 74 yX10_tableAt, .instanceMethod yX10_tableAt, .selects RX10 yX10_tableAt yX10_tableAt, .initialized RX10]
def wp_n_sharedSN : List Cond := .code yX10_shared cX10_shared 7 (some .int) :: (own_n_sharedSN ++ (wp_k_tabS ++ (wp_k_tabN ++ ([] : List Cond))))
set_option maxRecDepth 20000 in
theorem inown_n_sharedSN : ∀ w ∈ own_n_sharedSN, w ∈ lw_tbl := mem_places [610, 612, 2, 106] (by decide +kernel)
set_option maxRecDepth 20000 in
theorem in_n_sharedSN : ∀ w ∈ wp_n_sharedSN, w ∈ lw_tbl := List.forall_mem_cons.mpr ⟨List.mem_of_getElem? (i := 881) (by decide +kernel), List.forall_mem_append.mpr ⟨inown_n_sharedSN, List.forall_mem_append.mpr ⟨in_k_tabS, List.forall_mem_append.mpr ⟨in_k_tabN, fun _ h => absurd h List.not_mem_nil⟩⟩⟩⟩
set_option maxRecDepth 20000 in
theorem good_n_sharedSN : wp_n_sharedSN.all goodWord = true := by decide +kernel
set_option maxRecDepth 20000 in
theorem g_n_sharedSN_k_tabS_74 : GoodIn wp_n_sharedSN (wsV RX10 74 RX10 yX10_tableAt wp_k_tabS) := goodIn_sub (List.forall_mem_append.mpr ⟨List.forall_mem_cons.mpr ⟨(List.mem_of_getElem? (i := 1) rfl), List.forall_mem_cons.mpr ⟨(List.mem_of_getElem? (i := 2) rfl), List.forall_mem_cons.mpr ⟨(List.mem_of_getElem? (i := 3) rfl), List.forall_mem_cons.mpr ⟨(List.mem_of_getElem? (i := 4) rfl), fun _ h => absurd h List.not_mem_nil⟩⟩⟩⟩, (fun _ h => (List.mem_cons_of_mem _ (List.mem_append_right _ (List.mem_append_left _ h))))⟩) (by decide +kernel)
set_option maxRecDepth 20000 in
theorem g_n_sharedSN_k_tabN_74 : GoodIn wp_n_sharedSN (wsV RX10 74 RX10 yX10_tableAt wp_k_tabN) := goodIn_sub (List.forall_mem_append.mpr ⟨List.forall_mem_cons.mpr ⟨(List.mem_of_getElem? (i := 1) rfl), List.forall_mem_cons.mpr ⟨(List.mem_of_getElem? (i := 2) rfl), List.forall_mem_cons.mpr ⟨(List.mem_of_getElem? (i := 3) rfl), List.forall_mem_cons.mpr ⟨(List.mem_of_getElem? (i := 4) rfl), fun _ h => absurd h List.not_mem_nil⟩⟩⟩⟩, (fun _ h => (List.mem_cons_of_mem _ (List.mem_append_right _ (List.mem_append_right _ (List.mem_append_left _ h)))))⟩) (by decide +kernel)
set_option maxHeartbeats 4000000 in
set_option maxRecDepth 100000 in
theorem n_sharedSN (l : Launch) (D : va_G) (sz : Nat) (ox : Nat → Nat) (ob3 : Nat → Nat) (og : Nat → Nat) (oq : Nat → Nat) (ow : Nat → Nat) (cI : ClassId) (cT : ClassId) (tp : Nat) (ft : Nat → Option Nat) (z2 : Int32) (z3 : Int32) (k1 : Nat) (tq1 : Nat) (hk1 : k1 < 4) (hft1 : ft k1 = some tq1) (hno2 : ∀ k, k < 4 → z2 = nI k → ft k = none) : Met l yX10_shared wp_n_sharedSN ({ frames := 2, cells := 0, slots := 0, locals := 41 }) (PcRC D [.ref (ox 0), .int (nI k1), .int z2, .int z3] sz [(ox 0, .inr (10, [.ref (ox 1), .ref (ox 2), .int (nI tp), .ref (ob3 0), .ref (og 0), .ref (oq 0), .ref (ow 0)])), (ox 1, .inl (cT, 4, .inr (.inr (.inr (.inr ft)))))] [(cT, .object RX9)]) (va_Qi (fun (r : Int32) (u : Unit) => r = (-1)) (fun (_ : Unit) _ => True) (va_A [] sz)) 0 0 (va_A [] sz) := by
  refine Met.ofW (cc := cX10_shared) (maxL := 7) (ret := (some .int)) (by decide) rfl ?_
  intro p e s m args below meth c s₁ B hml hv
  obtain ⟨rfl, hsz, hP, hK, hN⟩ := hv
  have hx := B.exec
  have hb := B.bytes
  have hr := B.returns
  have hts := atoms_spec (ws := wp_n_sharedSN) B.pre
  have hown : s.vm.findClass RX10 = some m.cls := findClass_of_methodNamed B.named
  have hlocks := B.notSynchronized
  subst hsz
  generalize hAe : va_A [] s.heap.size = A at ⊢
  have hA : ∀ q : Nat, s.heap.size ≤ q → A q := fun q h => by rw [← hAe]; exact Or.inr h
  have hS : va_S A s.heap s.heap [] := va_S.rf
  have hP : va_P D vwCl [(ox 0, .inr (10, [.ref (ox 1), .ref (ox 2), .int (nI tp), .ref (ob3 0), .ref (og 0), .ref (oq 0), .ref (ow 0)])), (ox 1, .inl (cT, 4, .inr (.inr (.inr (.inr ft)))))] s.heap := hP
  have hl := lv_entry ([.ref (ox 0), .int (nI k1), .int z2, .int z3]) (n := 7) (Nat.le_of_ble_eq_true rfl)
  rw [lg_entry_eq]
  generalize (lg_sl ([.ref (ox 0), .int (nI k1), .int z2, .int z3]) ++ List.replicate (7 - (lg_sl ([.ref (ox 0), .int (nI k1), .int z2, .int z3])).length) Slot.unset).toArray = ls at hl ⊢
  have hl : lv_has ls 7 [(0, .ref (ox 0)), (1, .int (nI k1)), (2, .int z2), (3, .int z3)] := hl
  refine lv_aload_n hx hb dX10_shared_0 rfl (lv_at hl 0 rfl) ?_
  refine lv_iload_n hx hb dX10_shared_1 rfl (lv_at hl 1 rfl) ?_
  have hPc := hP.sub (ws' := [(ox 0, .inr (10, [.ref (ox 1), .ref (ox 2), .int (nI tp), .ref (ob3 0), .ref (og 0), .ref (oq 0), .ref (ow 0)])), (ox 1, .inl (cT, 4, .inr (.inr (.inr (.inr ft)))))]) [0, 1] rfl
  have hKc := hK.sub (tys' := [(cT, .object RX9)]) [0] rfl
  have hFc := va_free0 hS hA
  refine va_callq (va_runV (As := [.int (nI k1)]) (rest := []) ⟨hx, hb, hml, hown, hts⟩ (k_tabS l D _ ox ob3 og oq ow cI cT tp ft k1 tq1 hk1 hft1) (cwV 1 hts g_n_sharedSN_k_tabS_74 rfl rfl rfl (by decide +kernel) ⟨(Nat.le_of_ble_eq_true rfl), (Nat.le_of_ble_eq_true rfl)⟩) (PcRC_V (q0 := 0) hPc hKc hN rfl rfl) rfl rfl hl.1 rfl (lv_room (Nat.le_of_ble_eq_true rfl)) dX10_shared_2 ⟨(Nat.le_of_ble_eq_true rfl), (Nat.le_of_ble_eq_true rfl)⟩) hS (fun q _ h => hFc q h) hFc (fun r1 uu tt H locs htt hvm hw hB hz1 hk1 hS => ?_)
  have hP := va_keep hP hk1
  try dsimp only at hw
  clear hB hz1 hk1 hFc hPc hKc
  obtain rfl : r1 = some tq1 := hw
  refine W.eq (g2 := F0 m 5 ls [.ref tq1]) rfl ?_
  refine lv_astore (lv' := [(4, .ref tq1), (0, .ref (ox 0)), (1, .int (nI k1)), (2, .int z2), (3, .int z3)]) hx hb dX10_shared_5 hl (by decide) rfl (fun ls hl => ?_)
  refine lv_aload_n hx hb dX10_shared_7 rfl (lv_at hl 1 rfl) ?_
  refine lv_iload_n hx hb dX10_shared_8 rfl (lv_at hl 3 rfl) ?_
  have hPc := hP.sub (ws' := [(ox 0, .inr (10, [.ref (ox 1), .ref (ox 2), .int (nI tp), .ref (ob3 0), .ref (og 0), .ref (oq 0), .ref (ow 0)])), (ox 1, .inl (cT, 4, .inr (.inr (.inr (.inr ft)))))]) [0, 1] rfl
  have hKc := hK.sub (tys' := [(cT, .object RX9)]) [0] rfl
  have hFc := va_free0 hS hA
  refine va_callq (va_runV (As := [.int z2]) (rest := []) ⟨hx, hb, hml, hown, hts⟩ (k_tabN l D _ ox ob3 og oq ow cI cT tp ft z2 hno2) (cwV 1 hts g_n_sharedSN_k_tabN_74 rfl rfl rfl (by decide +kernel) ⟨(Nat.le_of_ble_eq_true rfl), (Nat.le_of_ble_eq_true rfl)⟩) (PcRC_V (q0 := 0) hPc hKc hN rfl rfl) rfl rfl hl.1 rfl (lv_room (Nat.le_of_ble_eq_true rfl)) dX10_shared_9 ⟨(Nat.le_of_ble_eq_true rfl), (Nat.le_of_ble_eq_true rfl)⟩) hS (fun q _ h => hFc q h) hFc (fun r2 uu tt H locs htt hvm hw hB hz1 hk1 hS => ?_)
  have hP := va_keep hP hk1
  try dsimp only at hw
  clear hB hz1 hk1 hFc hPc hKc
  obtain rfl : r2 = none := hw
  refine W.eq (g2 := F0 m 12 ls [.null]) rfl ?_
  refine lv_astoreN (lv' := [(5, .null), (4, .ref tq1), (0, .ref (ox 0)), (1, .int (nI k1)), (2, .int z2), (3, .int z3)]) hx hb dX10_shared_12 hl (by decide) rfl (fun ls hl => ?_)
  refine lv_aload hx hb dX10_shared_14 (lv_at hl 1 rfl) ?_
  refine lv_ifnull hx hb dX10_shared_16 ?_
  refine lv_aloadN hx hb dX10_shared_19 (lv_at hl 0 rfl) ?_
  refine lv_ifnonnullN hx hb dX10_shared_21 ?_
  refine lv_iconst (v := (-1)) hx hb dX10_shared_24 (by decide) ?_
  exact W.iret (v := (-1)) hx hb hr (fun t ht hW => ⟨⟨(-1), (), rfl, rfl, trivial⟩, hS.F ht⟩) hS.2.2 dX10_shared_25

def own_n_joinNN : List Cond := [.methodLink RX10 74 yX10_tableAt, .instanceMethod yX10_tableAt, .selects RX10 yX10_tableAt yX10_tableAt, .initialized RX10]
def wp_n_joinNN : List Cond := .code yX10_join cX10_join 8 (some .int) :: (own_n_joinNN ++ (wp_k_tabN ++ ([] : List Cond)))
set_option maxRecDepth 20000 in
theorem inown_n_joinNN : ∀ w ∈ own_n_joinNN, w ∈ lw_tbl := mem_places [610, 612, 2, 106] (by decide +kernel)
set_option maxRecDepth 20000 in
theorem in_n_joinNN : ∀ w ∈ wp_n_joinNN, w ∈ lw_tbl := List.forall_mem_cons.mpr ⟨List.mem_of_getElem? (i := 890) (by decide +kernel), List.forall_mem_append.mpr ⟨inown_n_joinNN, List.forall_mem_append.mpr ⟨in_k_tabN, fun _ h => absurd h List.not_mem_nil⟩⟩⟩
set_option maxRecDepth 20000 in
theorem good_n_joinNN : wp_n_joinNN.all goodWord = true := by decide +kernel
set_option maxRecDepth 20000 in
theorem g_n_joinNN_k_tabN_74 : GoodIn wp_n_joinNN (wsV RX10 74 RX10 yX10_tableAt wp_k_tabN) := goodIn_sub (List.forall_mem_append.mpr ⟨List.forall_mem_cons.mpr ⟨(List.mem_of_getElem? (i := 1) rfl), List.forall_mem_cons.mpr ⟨(List.mem_of_getElem? (i := 2) rfl), List.forall_mem_cons.mpr ⟨(List.mem_of_getElem? (i := 3) rfl), List.forall_mem_cons.mpr ⟨(List.mem_of_getElem? (i := 4) rfl), fun _ h => absurd h List.not_mem_nil⟩⟩⟩⟩, (fun _ h => (List.mem_cons_of_mem _ (List.mem_append_right _ (List.mem_append_left _ h))))⟩) (by decide +kernel)
set_option maxHeartbeats 4000000 in
set_option maxRecDepth 100000 in
theorem n_joinNN (l : Launch) (D : va_G) (sz : Nat) (ox : Nat → Nat) (ob3 : Nat → Nat) (og : Nat → Nat) (oq : Nat → Nat) (ow : Nat → Nat) (cI : ClassId) (cT : ClassId) (tp : Nat) (ft : Nat → Option Nat) (z1 : Int32) (z2 : Int32) (hno1 : ∀ k, k < 4 → z1 = nI k → ft k = none) (hno2 : ∀ k, k < 4 → z2 = nI k → ft k = none) : Met l yX10_join wp_n_joinNN ({ frames := 2, cells := 0, slots := 0, locals := 41 }) (PcRC D [.ref (ox 0), .int z1, .int z2] sz [(ox 0, .inr (10, [.ref (ox 1), .ref (ox 2), .int (nI tp), .ref (ob3 0), .ref (og 0), .ref (oq 0), .ref (ow 0)])), (ox 1, .inl (cT, 4, .inr (.inr (.inr (.inr ft)))))] [(cT, .object RX9)]) (va_Qi (fun (r : Int32) (u : Unit) => r = (-2)) (fun (_ : Unit) _ => True) (va_A [] sz)) 0 0 (va_A [] sz) := by
  refine Met.ofW (cc := cX10_join) (maxL := 8) (ret := (some .int)) (by decide) rfl ?_
  intro p e s m args below meth c s₁ B hml hv
  obtain ⟨rfl, hsz, hP, hK, hN⟩ := hv
  have hx := B.exec
  have hb := B.bytes
  have hr := B.returns
  have hts := atoms_spec (ws := wp_n_joinNN) B.pre
  have hown : s.vm.findClass RX10 = some m.cls := findClass_of_methodNamed B.named
  have hlocks := B.notSynchronized
  subst hsz
  generalize hAe : va_A [] s.heap.size = A at ⊢
  have hA : ∀ q : Nat, s.heap.size ≤ q → A q := fun q h => by rw [← hAe]; exact Or.inr h
  have hS : va_S A s.heap s.heap [] := va_S.rf
  have hP : va_P D vwCl [(ox 0, .inr (10, [.ref (ox 1), .ref (ox 2), .int (nI tp), .ref (ob3 0), .ref (og 0), .ref (oq 0), .ref (ow 0)])), (ox 1, .inl (cT, 4, .inr (.inr (.inr (.inr ft)))))] s.heap := hP
  have hl := lv_entry ([.ref (ox 0), .int z1, .int z2]) (n := 8) (Nat.le_of_ble_eq_true rfl)
  rw [lg_entry_eq]
  generalize (lg_sl ([.ref (ox 0), .int z1, .int z2]) ++ List.replicate (8 - (lg_sl ([.ref (ox 0), .int z1, .int z2])).length) Slot.unset).toArray = ls at hl ⊢
  have hl : lv_has ls 8 [(0, .ref (ox 0)), (1, .int z1), (2, .int z2)] := hl
  refine lv_aload_n hx hb dX10_join_0 rfl (lv_at hl 0 rfl) ?_
  refine lv_iload_n hx hb dX10_join_1 rfl (lv_at hl 1 rfl) ?_
  have hPc := hP.sub (ws' := [(ox 0, .inr (10, [.ref (ox 1), .ref (ox 2), .int (nI tp), .ref (ob3 0), .ref (og 0), .ref (oq 0), .ref (ow 0)])), (ox 1, .inl (cT, 4, .inr (.inr (.inr (.inr ft)))))]) [0, 1] rfl
  have hKc := hK.sub (tys' := [(cT, .object RX9)]) [0] rfl
  have hFc := va_free0 hS hA
  refine va_callq (va_runV (As := [.int z1]) (rest := []) ⟨hx, hb, hml, hown, hts⟩ (k_tabN l D _ ox ob3 og oq ow cI cT tp ft z1 hno1) (cwV 1 hts g_n_joinNN_k_tabN_74 rfl rfl rfl (by decide +kernel) ⟨(Nat.le_of_ble_eq_true rfl), (Nat.le_of_ble_eq_true rfl)⟩) (PcRC_V (q0 := 0) hPc hKc hN rfl rfl) rfl rfl hl.1 rfl (lv_room (Nat.le_of_ble_eq_true rfl)) dX10_join_2 ⟨(Nat.le_of_ble_eq_true rfl), (Nat.le_of_ble_eq_true rfl)⟩) hS (fun q _ h => hFc q h) hFc (fun r1 uu tt H locs htt hvm hw hB hz1 hk1 hS => ?_)
  have hP := va_keep hP hk1
  try dsimp only at hw
  clear hB hz1 hk1 hFc hPc hKc
  obtain rfl : r1 = none := hw
  refine W.eq (g2 := F0 m 5 ls [.null]) rfl ?_
  refine lv_astore_nN (lv' := [(3, .null), (0, .ref (ox 0)), (1, .int z1), (2, .int z2)]) hx hb dX10_join_5 rfl hl (by decide) rfl (fun ls hl => ?_)
  refine lv_aload_n hx hb dX10_join_6 rfl (lv_at hl 1 rfl) ?_
  refine lv_iload_n hx hb dX10_join_7 rfl (lv_at hl 3 rfl) ?_
  have hPc := hP.sub (ws' := [(ox 0, .inr (10, [.ref (ox 1), .ref (ox 2), .int (nI tp), .ref (ob3 0), .ref (og 0), .ref (oq 0), .ref (ow 0)])), (ox 1, .inl (cT, 4, .inr (.inr (.inr (.inr ft)))))]) [0, 1] rfl
  have hKc := hK.sub (tys' := [(cT, .object RX9)]) [0] rfl
  have hFc := va_free0 hS hA
  refine va_callq (va_runV (As := [.int z2]) (rest := []) ⟨hx, hb, hml, hown, hts⟩ (k_tabN l D _ ox ob3 og oq ow cI cT tp ft z2 hno2) (cwV 1 hts g_n_joinNN_k_tabN_74 rfl rfl rfl (by decide +kernel) ⟨(Nat.le_of_ble_eq_true rfl), (Nat.le_of_ble_eq_true rfl)⟩) (PcRC_V (q0 := 0) hPc hKc hN rfl rfl) rfl rfl hl.1 rfl (lv_room (Nat.le_of_ble_eq_true rfl)) dX10_join_8 ⟨(Nat.le_of_ble_eq_true rfl), (Nat.le_of_ble_eq_true rfl)⟩) hS (fun q _ h => hFc q h) hFc (fun r2 uu tt H locs htt hvm hw hB hz1 hk1 hS => ?_)
  have hP := va_keep hP hk1
  try dsimp only at hw
  clear hB hz1 hk1 hFc hPc hKc
  obtain rfl : r2 = none := hw
  refine W.eq (g2 := F0 m 11 ls [.null]) rfl ?_
  refine lv_astoreN (lv' := [(4, .null), (3, .null), (0, .ref (ox 0)), (1, .int z1), (2, .int z2)]) hx hb dX10_join_11 hl (by decide) rfl (fun ls hl => ?_)
  refine lv_aload_nN hx hb dX10_join_13 rfl (lv_at hl 1 rfl) ?_
  refine lv_ifnullN (tgt := 27) hx hb dX10_join_14 (by decide) ?_
  refine lv_bipush (v := (-2)) hx hb dX10_join_27 (by decide) ?_
  exact W.iret (v := (-2)) hx hb hr (fun t ht hW => ⟨⟨(-2), (), rfl, rfl, trivial⟩, hS.F ht⟩) hS.2.2 dX10_join_29

def own_n_joinNS : List Cond := [.methodLink RX10 74 yX10_tableAt, .instanceMethod yX10_tableAt, .selects RX10 yX10_tableAt yX10_tableAt, .initialized RX10]
def wp_n_joinNS : List Cond := .code yX10_join cX10_join 8 (some .int) :: (own_n_joinNS ++ (wp_k_tabN ++ (wp_k_tabS ++ ([] : List Cond))))
set_option maxRecDepth 20000 in
theorem inown_n_joinNS : ∀ w ∈ own_n_joinNS, w ∈ lw_tbl := mem_places [610, 612, 2, 106] (by decide +kernel)
set_option maxRecDepth 20000 in
theorem in_n_joinNS : ∀ w ∈ wp_n_joinNS, w ∈ lw_tbl := List.forall_mem_cons.mpr ⟨List.mem_of_getElem? (i := 890) (by decide +kernel), List.forall_mem_append.mpr ⟨inown_n_joinNS, List.forall_mem_append.mpr ⟨in_k_tabN, List.forall_mem_append.mpr ⟨in_k_tabS, fun _ h => absurd h List.not_mem_nil⟩⟩⟩⟩
set_option maxRecDepth 20000 in
theorem good_n_joinNS : wp_n_joinNS.all goodWord = true := by decide +kernel
set_option maxRecDepth 20000 in
theorem g_n_joinNS_k_tabN_74 : GoodIn wp_n_joinNS (wsV RX10 74 RX10 yX10_tableAt wp_k_tabN) := goodIn_sub (List.forall_mem_append.mpr ⟨List.forall_mem_cons.mpr ⟨(List.mem_of_getElem? (i := 1) rfl), List.forall_mem_cons.mpr ⟨(List.mem_of_getElem? (i := 2) rfl), List.forall_mem_cons.mpr ⟨(List.mem_of_getElem? (i := 3) rfl), List.forall_mem_cons.mpr ⟨(List.mem_of_getElem? (i := 4) rfl), fun _ h => absurd h List.not_mem_nil⟩⟩⟩⟩, (fun _ h => (List.mem_cons_of_mem _ (List.mem_append_right _ (List.mem_append_left _ h))))⟩) (by decide +kernel)
set_option maxRecDepth 20000 in
theorem g_n_joinNS_k_tabS_74 : GoodIn wp_n_joinNS (wsV RX10 74 RX10 yX10_tableAt wp_k_tabS) := goodIn_sub (List.forall_mem_append.mpr ⟨List.forall_mem_cons.mpr ⟨(List.mem_of_getElem? (i := 1) rfl), List.forall_mem_cons.mpr ⟨(List.mem_of_getElem? (i := 2) rfl), List.forall_mem_cons.mpr ⟨(List.mem_of_getElem? (i := 3) rfl), List.forall_mem_cons.mpr ⟨(List.mem_of_getElem? (i := 4) rfl), fun _ h => absurd h List.not_mem_nil⟩⟩⟩⟩, (fun _ h => (List.mem_cons_of_mem _ (List.mem_append_right _ (List.mem_append_right _ (List.mem_append_left _ h)))))⟩) (by decide +kernel)
set_option maxHeartbeats 4000000 in
set_option maxRecDepth 100000 in
theorem n_joinNS (l : Launch) (D : va_G) (sz : Nat) (ox : Nat → Nat) (ob3 : Nat → Nat) (og : Nat → Nat) (oq : Nat → Nat) (ow : Nat → Nat) (cI : ClassId) (cT : ClassId) (tp : Nat) (ft : Nat → Option Nat) (z1 : Int32) (k2 : Nat) (tq2 : Nat) (hno1 : ∀ k, k < 4 → z1 = nI k → ft k = none) (hk2 : k2 < 4) (hft2 : ft k2 = some tq2) : Met l yX10_join wp_n_joinNS ({ frames := 2, cells := 0, slots := 0, locals := 41 }) (PcRC D [.ref (ox 0), .int z1, .int (nI k2)] sz [(ox 0, .inr (10, [.ref (ox 1), .ref (ox 2), .int (nI tp), .ref (ob3 0), .ref (og 0), .ref (oq 0), .ref (ow 0)])), (ox 1, .inl (cT, 4, .inr (.inr (.inr (.inr ft)))))] [(cT, .object RX9)]) (va_Qi (fun (r : Int32) (u : Unit) => r = (-2)) (fun (_ : Unit) _ => True) (va_A [] sz)) 0 0 (va_A [] sz) := by
  refine Met.ofW (cc := cX10_join) (maxL := 8) (ret := (some .int)) (by decide) rfl ?_
  intro p e s m args below meth c s₁ B hml hv
  obtain ⟨rfl, hsz, hP, hK, hN⟩ := hv
  have hx := B.exec
  have hb := B.bytes
  have hr := B.returns
  have hts := atoms_spec (ws := wp_n_joinNS) B.pre
  have hown : s.vm.findClass RX10 = some m.cls := findClass_of_methodNamed B.named
  have hlocks := B.notSynchronized
  subst hsz
  generalize hAe : va_A [] s.heap.size = A at ⊢
  have hA : ∀ q : Nat, s.heap.size ≤ q → A q := fun q h => by rw [← hAe]; exact Or.inr h
  have hS : va_S A s.heap s.heap [] := va_S.rf
  have hP : va_P D vwCl [(ox 0, .inr (10, [.ref (ox 1), .ref (ox 2), .int (nI tp), .ref (ob3 0), .ref (og 0), .ref (oq 0), .ref (ow 0)])), (ox 1, .inl (cT, 4, .inr (.inr (.inr (.inr ft)))))] s.heap := hP
  have hl := lv_entry ([.ref (ox 0), .int z1, .int (nI k2)]) (n := 8) (Nat.le_of_ble_eq_true rfl)
  rw [lg_entry_eq]
  generalize (lg_sl ([.ref (ox 0), .int z1, .int (nI k2)]) ++ List.replicate (8 - (lg_sl ([.ref (ox 0), .int z1, .int (nI k2)])).length) Slot.unset).toArray = ls at hl ⊢
  have hl : lv_has ls 8 [(0, .ref (ox 0)), (1, .int z1), (2, .int (nI k2))] := hl
  refine lv_aload_n hx hb dX10_join_0 rfl (lv_at hl 0 rfl) ?_
  refine lv_iload_n hx hb dX10_join_1 rfl (lv_at hl 1 rfl) ?_
  have hPc := hP.sub (ws' := [(ox 0, .inr (10, [.ref (ox 1), .ref (ox 2), .int (nI tp), .ref (ob3 0), .ref (og 0), .ref (oq 0), .ref (ow 0)])), (ox 1, .inl (cT, 4, .inr (.inr (.inr (.inr ft)))))]) [0, 1] rfl
  have hKc := hK.sub (tys' := [(cT, .object RX9)]) [0] rfl
  have hFc := va_free0 hS hA
  refine va_callq (va_runV (As := [.int z1]) (rest := []) ⟨hx, hb, hml, hown, hts⟩ (k_tabN l D _ ox ob3 og oq ow cI cT tp ft z1 hno1) (cwV 1 hts g_n_joinNS_k_tabN_74 rfl rfl rfl (by decide +kernel) ⟨(Nat.le_of_ble_eq_true rfl), (Nat.le_of_ble_eq_true rfl)⟩) (PcRC_V (q0 := 0) hPc hKc hN rfl rfl) rfl rfl hl.1 rfl (lv_room (Nat.le_of_ble_eq_true rfl)) dX10_join_2 ⟨(Nat.le_of_ble_eq_true rfl), (Nat.le_of_ble_eq_true rfl)⟩) hS (fun q _ h => hFc q h) hFc (fun r1 uu tt H locs htt hvm hw hB hz1 hk1 hS => ?_)
  have hP := va_keep hP hk1
  try dsimp only at hw
  clear hB hz1 hk1 hFc hPc hKc
  obtain rfl : r1 = none := hw
  refine W.eq (g2 := F0 m 5 ls [.null]) rfl ?_
  refine lv_astore_nN (lv' := [(3, .null), (0, .ref (ox 0)), (1, .int z1), (2, .int (nI k2))]) hx hb dX10_join_5 rfl hl (by decide) rfl (fun ls hl => ?_)
  refine lv_aload_n hx hb dX10_join_6 rfl (lv_at hl 1 rfl) ?_
  refine lv_iload_n hx hb dX10_join_7 rfl (lv_at hl 3 rfl) ?_
  have hPc := hP.sub (ws' := [(ox 0, .inr (10, [.ref (ox 1), .ref (ox 2), .int (nI tp), .ref (ob3 0), .ref (og 0), .ref (oq 0), .ref (ow 0)])), (ox 1, .inl (cT, 4, .inr (.inr (.inr (.inr ft)))))]) [0, 1] rfl
  have hKc := hK.sub (tys' := [(cT, .object RX9)]) [0] rfl
  have hFc := va_free0 hS hA
  refine va_callq (va_runV (As := [.int (nI k2)]) (rest := []) ⟨hx, hb, hml, hown, hts⟩ (k_tabS l D _ ox ob3 og oq ow cI cT tp ft k2 tq2 hk2 hft2) (cwV 1 hts g_n_joinNS_k_tabS_74 rfl rfl rfl (by decide +kernel) ⟨(Nat.le_of_ble_eq_true rfl), (Nat.le_of_ble_eq_true rfl)⟩) (PcRC_V (q0 := 0) hPc hKc hN rfl rfl) rfl rfl hl.1 rfl (lv_room (Nat.le_of_ble_eq_true rfl)) dX10_join_8 ⟨(Nat.le_of_ble_eq_true rfl), (Nat.le_of_ble_eq_true rfl)⟩) hS (fun q _ h => hFc q h) hFc (fun r2 uu tt H locs htt hvm hw hB hz1 hk1 hS => ?_)
  have hP := va_keep hP hk1
  try dsimp only at hw
  clear hB hz1 hk1 hFc hPc hKc
  obtain rfl : r2 = some tq2 := hw
  refine W.eq (g2 := F0 m 11 ls [.ref tq2]) rfl ?_
  refine lv_astore (lv' := [(4, .ref tq2), (3, .null), (0, .ref (ox 0)), (1, .int z1), (2, .int (nI k2))]) hx hb dX10_join_11 hl (by decide) rfl (fun ls hl => ?_)
  refine lv_aload_nN hx hb dX10_join_13 rfl (lv_at hl 1 rfl) ?_
  refine lv_ifnullN (tgt := 27) hx hb dX10_join_14 (by decide) ?_
  refine lv_bipush (v := (-2)) hx hb dX10_join_27 (by decide) ?_
  exact W.iret (v := (-2)) hx hb hr (fun t ht hW => ⟨⟨(-2), (), rfl, rfl, trivial⟩, hS.F ht⟩) hS.2.2 dX10_join_29

def own_n_joinSN : List Cond := [.methodLink RX10 74 yX10_tableAt, .instanceMethod yX10_tableAt, .selects RX10 yX10_tableAt yX10_tableAt, .initialized RX10]
def wp_n_joinSN : List Cond := .code yX10_join cX10_join 8 (some .int) :: (own_n_joinSN ++ (wp_k_tabS ++ (wp_k_tabN ++ ([] : List Cond))))
set_option maxRecDepth 20000 in
theorem inown_n_joinSN : ∀ w ∈ own_n_joinSN, w ∈ lw_tbl := mem_places [610, 612, 2, 106] (by decide +kernel)
set_option maxRecDepth 20000 in
theorem in_n_joinSN : ∀ w ∈ wp_n_joinSN, w ∈ lw_tbl := List.forall_mem_cons.mpr ⟨List.mem_of_getElem? (i := 890) (by decide +kernel), List.forall_mem_append.mpr ⟨inown_n_joinSN, List.forall_mem_append.mpr ⟨in_k_tabS, List.forall_mem_append.mpr ⟨in_k_tabN, fun _ h => absurd h List.not_mem_nil⟩⟩⟩⟩
set_option maxRecDepth 20000 in
theorem good_n_joinSN : wp_n_joinSN.all goodWord = true := by decide +kernel
set_option maxRecDepth 20000 in
theorem g_n_joinSN_k_tabS_74 : GoodIn wp_n_joinSN (wsV RX10 74 RX10 yX10_tableAt wp_k_tabS) := goodIn_sub (List.forall_mem_append.mpr ⟨List.forall_mem_cons.mpr ⟨(List.mem_of_getElem? (i := 1) rfl), List.forall_mem_cons.mpr ⟨(List.mem_of_getElem? (i := 2) rfl), List.forall_mem_cons.mpr ⟨(List.mem_of_getElem? (i := 3) rfl), List.forall_mem_cons.mpr ⟨(List.mem_of_getElem? (i := 4) rfl), fun _ h => absurd h List.not_mem_nil⟩⟩⟩⟩, (fun _ h => (List.mem_cons_of_mem _ (List.mem_append_right _ (List.mem_append_left _ h))))⟩) (by decide +kernel)
set_option maxRecDepth 20000 in
theorem g_n_joinSN_k_tabN_74 : GoodIn wp_n_joinSN (wsV RX10 74 RX10 yX10_tableAt wp_k_tabN) := goodIn_sub (List.forall_mem_append.mpr ⟨List.forall_mem_cons.mpr ⟨(List.mem_of_getElem? (i := 1) rfl), List.forall_mem_cons.mpr ⟨(List.mem_of_getElem? (i := 2) rfl), List.forall_mem_cons.mpr ⟨(List.mem_of_getElem? (i := 3) rfl), List.forall_mem_cons.mpr ⟨(List.mem_of_getElem? (i := 4) rfl), fun _ h => absurd h List.not_mem_nil⟩⟩⟩⟩, (fun _ h => (List.mem_cons_of_mem _ (List.mem_append_right _ (List.mem_append_right _ (List.mem_append_left _ h)))))⟩) (by decide +kernel)
set_option maxHeartbeats 4000000 in
set_option maxRecDepth 100000 in
theorem n_joinSN (l : Launch) (D : va_G) (sz : Nat) (ox : Nat → Nat) (ob3 : Nat → Nat) (og : Nat → Nat) (oq : Nat → Nat) (ow : Nat → Nat) (cI : ClassId) (cT : ClassId) (tp : Nat) (ft : Nat → Option Nat) (z2 : Int32) (k1 : Nat) (tq1 : Nat) (hk1 : k1 < 4) (hft1 : ft k1 = some tq1) (hno2 : ∀ k, k < 4 → z2 = nI k → ft k = none) : Met l yX10_join wp_n_joinSN ({ frames := 2, cells := 0, slots := 0, locals := 41 }) (PcRC D [.ref (ox 0), .int (nI k1), .int z2] sz [(ox 0, .inr (10, [.ref (ox 1), .ref (ox 2), .int (nI tp), .ref (ob3 0), .ref (og 0), .ref (oq 0), .ref (ow 0)])), (ox 1, .inl (cT, 4, .inr (.inr (.inr (.inr ft)))))] [(cT, .object RX9)]) (va_Qi (fun (r : Int32) (u : Unit) => r = (-2)) (fun (_ : Unit) _ => True) (va_A [] sz)) 0 0 (va_A [] sz) := by
  refine Met.ofW (cc := cX10_join) (maxL := 8) (ret := (some .int)) (by decide) rfl ?_
  intro p e s m args below meth c s₁ B hml hv
  obtain ⟨rfl, hsz, hP, hK, hN⟩ := hv
  have hx := B.exec
  have hb := B.bytes
  have hr := B.returns
  have hts := atoms_spec (ws := wp_n_joinSN) B.pre
  have hown : s.vm.findClass RX10 = some m.cls := findClass_of_methodNamed B.named
  have hlocks := B.notSynchronized
  subst hsz
  generalize hAe : va_A [] s.heap.size = A at ⊢
  have hA : ∀ q : Nat, s.heap.size ≤ q → A q := fun q h => by rw [← hAe]; exact Or.inr h
  have hS : va_S A s.heap s.heap [] := va_S.rf
  have hP : va_P D vwCl [(ox 0, .inr (10, [.ref (ox 1), .ref (ox 2), .int (nI tp), .ref (ob3 0), .ref (og 0), .ref (oq 0), .ref (ow 0)])), (ox 1, .inl (cT, 4, .inr (.inr (.inr (.inr ft)))))] s.heap := hP
  have hl := lv_entry ([.ref (ox 0), .int (nI k1), .int z2]) (n := 8) (Nat.le_of_ble_eq_true rfl)
  rw [lg_entry_eq]
  generalize (lg_sl ([.ref (ox 0), .int (nI k1), .int z2]) ++ List.replicate (8 - (lg_sl ([.ref (ox 0), .int (nI k1), .int z2])).length) Slot.unset).toArray = ls at hl ⊢
  have hl : lv_has ls 8 [(0, .ref (ox 0)), (1, .int (nI k1)), (2, .int z2)] := hl
  refine lv_aload_n hx hb dX10_join_0 rfl (lv_at hl 0 rfl) ?_
  refine lv_iload_n hx hb dX10_join_1 rfl (lv_at hl 1 rfl) ?_
  have hPc := hP.sub (ws' := [(ox 0, .inr (10, [.ref (ox 1), .ref (ox 2), .int (nI tp), .ref (ob3 0), .ref (og 0), .ref (oq 0), .ref (ow 0)])), (ox 1, .inl (cT, 4, .inr (.inr (.inr (.inr ft)))))]) [0, 1] rfl
  have hKc := hK.sub (tys' := [(cT, .object RX9)]) [0] rfl
  have hFc := va_free0 hS hA
  refine va_callq (va_runV (As := [.int (nI k1)]) (rest := []) ⟨hx, hb, hml, hown, hts⟩ (k_tabS l D _ ox ob3 og oq ow cI cT tp ft k1 tq1 hk1 hft1) (cwV 1 hts g_n_joinSN_k_tabS_74 rfl rfl rfl (by decide +kernel) ⟨(Nat.le_of_ble_eq_true rfl), (Nat.le_of_ble_eq_true rfl)⟩) (PcRC_V (q0 := 0) hPc hKc hN rfl rfl) rfl rfl hl.1 rfl (lv_room (Nat.le_of_ble_eq_true rfl)) dX10_join_2 ⟨(Nat.le_of_ble_eq_true rfl), (Nat.le_of_ble_eq_true rfl)⟩) hS (fun q _ h => hFc q h) hFc (fun r1 uu tt H locs htt hvm hw hB hz1 hk1 hS => ?_)
  have hP := va_keep hP hk1
  try dsimp only at hw
  clear hB hz1 hk1 hFc hPc hKc
  obtain rfl : r1 = some tq1 := hw
  refine W.eq (g2 := F0 m 5 ls [.ref tq1]) rfl ?_
  refine lv_astore_n (lv' := [(3, .ref tq1), (0, .ref (ox 0)), (1, .int (nI k1)), (2, .int z2)]) hx hb dX10_join_5 rfl hl (by decide) rfl (fun ls hl => ?_)
  refine lv_aload_n hx hb dX10_join_6 rfl (lv_at hl 1 rfl) ?_
  refine lv_iload_n hx hb dX10_join_7 rfl (lv_at hl 3 rfl) ?_
  have hPc := hP.sub (ws' := [(ox 0, .inr (10, [.ref (ox 1), .ref (ox 2), .int (nI tp), .ref (ob3 0), .ref (og 0), .ref (oq 0), .ref (ow 0)])), (ox 1, .inl (cT, 4, .inr (.inr (.inr (.inr ft)))))]) [0, 1] rfl
  have hKc := hK.sub (tys' := [(cT, .object RX9)]) [0] rfl
  have hFc := va_free0 hS hA
  refine va_callq (va_runV (As := [.int z2]) (rest := []) ⟨hx, hb, hml, hown, hts⟩ (k_tabN l D _ ox ob3 og oq ow cI cT tp ft z2 hno2) (cwV 1 hts g_n_joinSN_k_tabN_74 rfl rfl rfl (by decide +kernel) ⟨(Nat.le_of_ble_eq_true rfl), (Nat.le_of_ble_eq_true rfl)⟩) (PcRC_V (q0 := 0) hPc hKc hN rfl rfl) rfl rfl hl.1 rfl (lv_room (Nat.le_of_ble_eq_true rfl)) dX10_join_8 ⟨(Nat.le_of_ble_eq_true rfl), (Nat.le_of_ble_eq_true rfl)⟩) hS (fun q _ h => hFc q h) hFc (fun r2 uu tt H locs htt hvm hw hB hz1 hk1 hS => ?_)
  have hP := va_keep hP hk1
  try dsimp only at hw
  clear hB hz1 hk1 hFc hPc hKc
  obtain rfl : r2 = none := hw
  refine W.eq (g2 := F0 m 11 ls [.null]) rfl ?_
  refine lv_astoreN (lv' := [(4, .null), (3, .ref tq1), (0, .ref (ox 0)), (1, .int (nI k1)), (2, .int z2)]) hx hb dX10_join_11 hl (by decide) rfl (fun ls hl => ?_)
  refine lv_aload_n hx hb dX10_join_13 rfl (lv_at hl 1 rfl) ?_
  refine lv_ifnull hx hb dX10_join_14 ?_
  refine lv_aloadN hx hb dX10_join_17 (lv_at hl 0 rfl) ?_
  refine lv_ifnullN (tgt := 27) hx hb dX10_join_19 (by decide) ?_
  refine lv_bipush (v := (-2)) hx hb dX10_join_27 (by decide) ?_
  exact W.iret (v := (-2)) hx hb hr (fun t ht hW => ⟨⟨(-2), (), rfl, rfl, trivial⟩, hS.F ht⟩) hS.2.2 dX10_join_29

def own_n_cutNN : List Cond := [.methodLink RX10 74 yX10_tableAt, .instanceMethod yX10_tableAt, .selects RX10 yX10_tableAt yX10_tableAt, .initialized RX10]
def wp_n_cutNN : List Cond := .code yX10_cut cX10_cut 10 (some .int) :: (own_n_cutNN ++ (wp_k_tabN ++ ([] : List Cond)))
set_option maxRecDepth 20000 in
theorem inown_n_cutNN : ∀ w ∈ own_n_cutNN, w ∈ lw_tbl := mem_places [610, 612, 2, 106] (by decide +kernel)
set_option maxRecDepth 20000 in
theorem in_n_cutNN : ∀ w ∈ wp_n_cutNN, w ∈ lw_tbl := List.forall_mem_cons.mpr ⟨List.mem_of_getElem? (i := 894) (by decide +kernel), List.forall_mem_append.mpr ⟨inown_n_cutNN, List.forall_mem_append.mpr ⟨in_k_tabN, fun _ h => absurd h List.not_mem_nil⟩⟩⟩
set_option maxRecDepth 20000 in
theorem good_n_cutNN : wp_n_cutNN.all goodWord = true := by decide +kernel
set_option maxRecDepth 20000 in
theorem g_n_cutNN_k_tabN_74 : GoodIn wp_n_cutNN (wsV RX10 74 RX10 yX10_tableAt wp_k_tabN) := goodIn_sub (List.forall_mem_append.mpr ⟨List.forall_mem_cons.mpr ⟨(List.mem_of_getElem? (i := 1) rfl), List.forall_mem_cons.mpr ⟨(List.mem_of_getElem? (i := 2) rfl), List.forall_mem_cons.mpr ⟨(List.mem_of_getElem? (i := 3) rfl), List.forall_mem_cons.mpr ⟨(List.mem_of_getElem? (i := 4) rfl), fun _ h => absurd h List.not_mem_nil⟩⟩⟩⟩, (fun _ h => (List.mem_cons_of_mem _ (List.mem_append_right _ (List.mem_append_left _ h))))⟩) (by decide +kernel)
set_option maxHeartbeats 4000000 in
set_option maxRecDepth 100000 in
theorem n_cutNN (l : Launch) (D : va_G) (sz : Nat) (ox : Nat → Nat) (ob3 : Nat → Nat) (og : Nat → Nat) (oq : Nat → Nat) (ow : Nat → Nat) (cI : ClassId) (cT : ClassId) (tp : Nat) (ft : Nat → Option Nat) (z1 : Int32) (z2 : Int32) (z3 : Int32) (hno1 : ∀ k, k < 4 → z1 = nI k → ft k = none) (hno2 : ∀ k, k < 4 → z2 = nI k → ft k = none) : Met l yX10_cut wp_n_cutNN ({ frames := 2, cells := 0, slots := 0, locals := 41 }) (PcRC D [.ref (ox 0), .int z1, .int z2, .int z3] sz [(ox 0, .inr (10, [.ref (ox 1), .ref (ox 2), .int (nI tp), .ref (ob3 0), .ref (og 0), .ref (oq 0), .ref (ow 0)])), (ox 1, .inl (cT, 4, .inr (.inr (.inr (.inr ft)))))] [(cT, .object RX9)]) (va_Qi (fun (r : Int32) (u : Unit) => r = (-2)) (fun (_ : Unit) _ => True) (va_A [] sz)) 0 0 (va_A [] sz) := by
  refine Met.ofW (cc := cX10_cut) (maxL := 10) (ret := (some .int)) (by decide) rfl ?_
  intro p e s m args below meth c s₁ B hml hv
  obtain ⟨rfl, hsz, hP, hK, hN⟩ := hv
  have hx := B.exec
  have hb := B.bytes
  have hr := B.returns
  have hts := atoms_spec (ws := wp_n_cutNN) B.pre
  have hown : s.vm.findClass RX10 = some m.cls := findClass_of_methodNamed B.named
  have hlocks := B.notSynchronized
  subst hsz
  generalize hAe : va_A [] s.heap.size = A at ⊢
  have hA : ∀ q : Nat, s.heap.size ≤ q → A q := fun q h => by rw [← hAe]; exact Or.inr h
  have hS : va_S A s.heap s.heap [] := va_S.rf
  have hP : va_P D vwCl [(ox 0, .inr (10, [.ref (ox 1), .ref (ox 2), .int (nI tp), .ref (ob3 0), .ref (og 0), .ref (oq 0), .ref (ow 0)])), (ox 1, .inl (cT, 4, .inr (.inr (.inr (.inr ft)))))] s.heap := hP
  have hl := lv_entry ([.ref (ox 0), .int z1, .int z2, .int z3]) (n := 10) (Nat.le_of_ble_eq_true rfl)
  rw [lg_entry_eq]
  generalize (lg_sl ([.ref (ox 0), .int z1, .int z2, .int z3]) ++ List.replicate (10 - (lg_sl ([.ref (ox 0), .int z1, .int z2, .int z3])).length) Slot.unset).toArray = ls at hl ⊢
  have hl : lv_has ls 10 [(0, .ref (ox 0)), (1, .int z1), (2, .int z2), (3, .int z3)] := hl
  refine lv_aload_n hx hb dX10_cut_0 rfl (lv_at hl 0 rfl) ?_
  refine lv_iload_n hx hb dX10_cut_1 rfl (lv_at hl 1 rfl) ?_
  have hPc := hP.sub (ws' := [(ox 0, .inr (10, [.ref (ox 1), .ref (ox 2), .int (nI tp), .ref (ob3 0), .ref (og 0), .ref (oq 0), .ref (ow 0)])), (ox 1, .inl (cT, 4, .inr (.inr (.inr (.inr ft)))))]) [0, 1] rfl
  have hKc := hK.sub (tys' := [(cT, .object RX9)]) [0] rfl
  have hFc := va_free0 hS hA
  refine va_callq (va_runV (As := [.int z1]) (rest := []) ⟨hx, hb, hml, hown, hts⟩ (k_tabN l D _ ox ob3 og oq ow cI cT tp ft z1 hno1) (cwV 1 hts g_n_cutNN_k_tabN_74 rfl rfl rfl (by decide +kernel) ⟨(Nat.le_of_ble_eq_true rfl), (Nat.le_of_ble_eq_true rfl)⟩) (PcRC_V (q0 := 0) hPc hKc hN rfl rfl) rfl rfl hl.1 rfl (lv_room (Nat.le_of_ble_eq_true rfl)) dX10_cut_2 ⟨(Nat.le_of_ble_eq_true rfl), (Nat.le_of_ble_eq_true rfl)⟩) hS (fun q _ h => hFc q h) hFc (fun r1 uu tt H locs htt hvm hw hB hz1 hk1 hS => ?_)
  have hP := va_keep hP hk1
  try dsimp only at hw
  clear hB hz1 hk1 hFc hPc hKc
  obtain rfl : r1 = none := hw
  refine W.eq (g2 := F0 m 5 ls [.null]) rfl ?_
  refine lv_astoreN (lv' := [(4, .null), (0, .ref (ox 0)), (1, .int z1), (2, .int z2), (3, .int z3)]) hx hb dX10_cut_5 hl (by decide) rfl (fun ls hl => ?_)
  refine lv_aload_n hx hb dX10_cut_7 rfl (lv_at hl 1 rfl) ?_
  refine lv_iload_n hx hb dX10_cut_8 rfl (lv_at hl 3 rfl) ?_
  have hPc := hP.sub (ws' := [(ox 0, .inr (10, [.ref (ox 1), .ref (ox 2), .int (nI tp), .ref (ob3 0), .ref (og 0), .ref (oq 0), .ref (ow 0)])), (ox 1, .inl (cT, 4, .inr (.inr (.inr (.inr ft)))))]) [0, 1] rfl
  have hKc := hK.sub (tys' := [(cT, .object RX9)]) [0] rfl
  have hFc := va_free0 hS hA
  refine va_callq (va_runV (As := [.int z2]) (rest := []) ⟨hx, hb, hml, hown, hts⟩ (k_tabN l D _ ox ob3 og oq ow cI cT tp ft z2 hno2) (cwV 1 hts g_n_cutNN_k_tabN_74 rfl rfl rfl (by decide +kernel) ⟨(Nat.le_of_ble_eq_true rfl), (Nat.le_of_ble_eq_true rfl)⟩) (PcRC_V (q0 := 0) hPc hKc hN rfl rfl) rfl rfl hl.1 rfl (lv_room (Nat.le_of_ble_eq_true rfl)) dX10_cut_9 ⟨(Nat.le_of_ble_eq_true rfl), (Nat.le_of_ble_eq_true rfl)⟩) hS (fun q _ h => hFc q h) hFc (fun r2 uu tt H locs htt hvm hw hB hz1 hk1 hS => ?_)
  have hP := va_keep hP hk1
  try dsimp only at hw
  clear hB hz1 hk1 hFc hPc hKc
  obtain rfl : r2 = none := hw
  refine W.eq (g2 := F0 m 12 ls [.null]) rfl ?_
  refine lv_astoreN (lv' := [(5, .null), (4, .null), (0, .ref (ox 0)), (1, .int z1), (2, .int z2), (3, .int z3)]) hx hb dX10_cut_12 hl (by decide) rfl (fun ls hl => ?_)
  refine lv_aloadN hx hb dX10_cut_14 (lv_at hl 1 rfl) ?_
  refine lv_ifnullN (tgt := 29) hx hb dX10_cut_16 (by decide) ?_
  refine lv_bipush (v := (-2)) hx hb dX10_cut_29 (by decide) ?_
  exact W.iret (v := (-2)) hx hb hr (fun t ht hW => ⟨⟨(-2), (), rfl, rfl, trivial⟩, hS.F ht⟩) hS.2.2 dX10_cut_31

def own_n_cutNS : List Cond := [.methodLink RX10 74 yX10_tableAt, .instanceMethod yX10_tableAt, .selects RX10 yX10_tableAt yX10_tableAt, .initialized RX10]
def wp_n_cutNS : List Cond := .code yX10_cut cX10_cut 10 (some .int) :: (own_n_cutNS ++ (wp_k_tabN ++ (wp_k_tabS ++ ([] : List Cond))))
set_option maxRecDepth 20000 in
theorem inown_n_cutNS : ∀ w ∈ own_n_cutNS, w ∈ lw_tbl := mem_places [610, 612, 2, 106] (by decide +kernel)
set_option maxRecDepth 20000 in
theorem in_n_cutNS : ∀ w ∈ wp_n_cutNS, w ∈ lw_tbl := List.forall_mem_cons.mpr ⟨List.mem_of_getElem? (i := 894) (by decide +kernel), List.forall_mem_append.mpr ⟨inown_n_cutNS, List.forall_mem_append.mpr ⟨in_k_tabN, List.forall_mem_append.mpr ⟨in_k_tabS, fun _ h => absurd h List.not_mem_nil⟩⟩⟩⟩
set_option maxRecDepth 20000 in
theorem good_n_cutNS : wp_n_cutNS.all goodWord = true := by decide +kernel
set_option maxRecDepth 20000 in
theorem g_n_cutNS_k_tabN_74 : GoodIn wp_n_cutNS (wsV RX10 74 RX10 yX10_tableAt wp_k_tabN) := goodIn_sub (List.forall_mem_append.mpr ⟨List.forall_mem_cons.mpr ⟨(List.mem_of_getElem? (i := 1) rfl), List.forall_mem_cons.mpr ⟨(List.mem_of_getElem? (i := 2) rfl), List.forall_mem_cons.mpr ⟨(List.mem_of_getElem? (i := 3) rfl), List.forall_mem_cons.mpr ⟨(List.mem_of_getElem? (i := 4) rfl), fun _ h => absurd h List.not_mem_nil⟩⟩⟩⟩, (fun _ h => (List.mem_cons_of_mem _ (List.mem_append_right _ (List.mem_append_left _ h))))⟩) (by decide +kernel)
set_option maxRecDepth 20000 in
theorem g_n_cutNS_k_tabS_74 : GoodIn wp_n_cutNS (wsV RX10 74 RX10 yX10_tableAt wp_k_tabS) := goodIn_sub (List.forall_mem_append.mpr ⟨List.forall_mem_cons.mpr ⟨(List.mem_of_getElem? (i := 1) rfl), List.forall_mem_cons.mpr ⟨(List.mem_of_getElem? (i := 2) rfl), List.forall_mem_cons.mpr ⟨(List.mem_of_getElem? (i := 3) rfl), List.forall_mem_cons.mpr ⟨(List.mem_of_getElem? (i := 4) rfl), fun _ h => absurd h List.not_mem_nil⟩⟩⟩⟩, (fun _ h => (List.mem_cons_of_mem _ (List.mem_append_right _ (List.mem_append_right _ (List.mem_append_left _ h)))))⟩) (by decide +kernel)
set_option maxHeartbeats 4000000 in
set_option maxRecDepth 100000 in
theorem n_cutNS (l : Launch) (D : va_G) (sz : Nat) (ox : Nat → Nat) (ob3 : Nat → Nat) (og : Nat → Nat) (oq : Nat → Nat) (ow : Nat → Nat) (cI : ClassId) (cT : ClassId) (tp : Nat) (ft : Nat → Option Nat) (z1 : Int32) (z3 : Int32) (k2 : Nat) (tq2 : Nat) (hno1 : ∀ k, k < 4 → z1 = nI k → ft k = none) (hk2 : k2 < 4) (hft2 : ft k2 = some tq2) : Met l yX10_cut wp_n_cutNS ({ frames := 2, cells := 0, slots := 0, locals := 41 }) (PcRC D [.ref (ox 0), .int z1, .int (nI k2), .int z3] sz [(ox 0, .inr (10, [.ref (ox 1), .ref (ox 2), .int (nI tp), .ref (ob3 0), .ref (og 0), .ref (oq 0), .ref (ow 0)])), (ox 1, .inl (cT, 4, .inr (.inr (.inr (.inr ft)))))] [(cT, .object RX9)]) (va_Qi (fun (r : Int32) (u : Unit) => r = (-2)) (fun (_ : Unit) _ => True) (va_A [] sz)) 0 0 (va_A [] sz) := by
  refine Met.ofW (cc := cX10_cut) (maxL := 10) (ret := (some .int)) (by decide) rfl ?_
  intro p e s m args below meth c s₁ B hml hv
  obtain ⟨rfl, hsz, hP, hK, hN⟩ := hv
  have hx := B.exec
  have hb := B.bytes
  have hr := B.returns
  have hts := atoms_spec (ws := wp_n_cutNS) B.pre
  have hown : s.vm.findClass RX10 = some m.cls := findClass_of_methodNamed B.named
  have hlocks := B.notSynchronized
  subst hsz
  generalize hAe : va_A [] s.heap.size = A at ⊢
  have hA : ∀ q : Nat, s.heap.size ≤ q → A q := fun q h => by rw [← hAe]; exact Or.inr h
  have hS : va_S A s.heap s.heap [] := va_S.rf
  have hP : va_P D vwCl [(ox 0, .inr (10, [.ref (ox 1), .ref (ox 2), .int (nI tp), .ref (ob3 0), .ref (og 0), .ref (oq 0), .ref (ow 0)])), (ox 1, .inl (cT, 4, .inr (.inr (.inr (.inr ft)))))] s.heap := hP
  have hl := lv_entry ([.ref (ox 0), .int z1, .int (nI k2), .int z3]) (n := 10) (Nat.le_of_ble_eq_true rfl)
  rw [lg_entry_eq]
  generalize (lg_sl ([.ref (ox 0), .int z1, .int (nI k2), .int z3]) ++ List.replicate (10 - (lg_sl ([.ref (ox 0), .int z1, .int (nI k2), .int z3])).length) Slot.unset).toArray = ls at hl ⊢
  have hl : lv_has ls 10 [(0, .ref (ox 0)), (1, .int z1), (2, .int (nI k2)), (3, .int z3)] := hl
  refine lv_aload_n hx hb dX10_cut_0 rfl (lv_at hl 0 rfl) ?_
  refine lv_iload_n hx hb dX10_cut_1 rfl (lv_at hl 1 rfl) ?_
  have hPc := hP.sub (ws' := [(ox 0, .inr (10, [.ref (ox 1), .ref (ox 2), .int (nI tp), .ref (ob3 0), .ref (og 0), .ref (oq 0), .ref (ow 0)])), (ox 1, .inl (cT, 4, .inr (.inr (.inr (.inr ft)))))]) [0, 1] rfl
  have hKc := hK.sub (tys' := [(cT, .object RX9)]) [0] rfl
  have hFc := va_free0 hS hA
  refine va_callq (va_runV (As := [.int z1]) (rest := []) ⟨hx, hb, hml, hown, hts⟩ (k_tabN l D _ ox ob3 og oq ow cI cT tp ft z1 hno1) (cwV 1 hts g_n_cutNS_k_tabN_74 rfl rfl rfl (by decide +kernel) ⟨(Nat.le_of_ble_eq_true rfl), (Nat.le_of_ble_eq_true rfl)⟩) (PcRC_V (q0 := 0) hPc hKc hN rfl rfl) rfl rfl hl.1 rfl (lv_room (Nat.le_of_ble_eq_true rfl)) dX10_cut_2 ⟨(Nat.le_of_ble_eq_true rfl), (Nat.le_of_ble_eq_true rfl)⟩) hS (fun q _ h => hFc q h) hFc (fun r1 uu tt H locs htt hvm hw hB hz1 hk1 hS => ?_)
  have hP := va_keep hP hk1
  try dsimp only at hw
  clear hB hz1 hk1 hFc hPc hKc
  obtain rfl : r1 = none := hw
  refine W.eq (g2 := F0 m 5 ls [.null]) rfl ?_
  refine lv_astoreN (lv' := [(4, .null), (0, .ref (ox 0)), (1, .int z1), (2, .int (nI k2)), (3, .int z3)]) hx hb dX10_cut_5 hl (by decide) rfl (fun ls hl => ?_)
  refine lv_aload_n hx hb dX10_cut_7 rfl (lv_at hl 1 rfl) ?_
  refine lv_iload_n hx hb dX10_cut_8 rfl (lv_at hl 3 rfl) ?_
  have hPc := hP.sub (ws' := [(ox 0, .inr (10, [.ref (ox 1), .ref (ox 2), .int (nI tp), .ref (ob3 0), .ref (og 0), .ref (oq 0), .ref (ow 0)])), (ox 1, .inl (cT, 4, .inr (.inr (.inr (.inr ft)))))]) [0, 1] rfl
  have hKc := hK.sub (tys' := [(cT, .object RX9)]) [0] rfl
  have hFc := va_free0 hS hA
  refine va_callq (va_runV (As := [.int (nI k2)]) (rest := []) ⟨hx, hb, hml, hown, hts⟩ (k_tabS l D _ ox ob3 og oq ow cI cT tp ft k2 tq2 hk2 hft2) (cwV 1 hts g_n_cutNS_k_tabS_74 rfl rfl rfl (by decide +kernel) ⟨(Nat.le_of_ble_eq_true rfl), (Nat.le_of_ble_eq_true rfl)⟩) (PcRC_V (q0 := 0) hPc hKc hN rfl rfl) rfl rfl hl.1 rfl (lv_room (Nat.le_of_ble_eq_true rfl)) dX10_cut_9 ⟨(Nat.le_of_ble_eq_true rfl), (Nat.le_of_ble_eq_true rfl)⟩) hS (fun q _ h => hFc q h) hFc (fun r2 uu tt H locs htt hvm hw hB hz1 hk1 hS => ?_)
  have hP := va_keep hP hk1
  try dsimp only at hw
  clear hB hz1 hk1 hFc hPc hKc
  obtain rfl : r2 = some tq2 := hw
  refine W.eq (g2 := F0 m 12 ls [.ref tq2]) rfl ?_
  refine lv_astore (lv' := [(5, .ref tq2), (4, .null), (0, .ref (ox 0)), (1, .int z1), (2, .int (nI k2)), (3, .int z3)]) hx hb dX10_cut_12 hl (by decide) rfl (fun ls hl => ?_)
  refine lv_aloadN hx hb dX10_cut_14 (lv_at hl 1 rfl) ?_
  refine lv_ifnullN (tgt := 29) hx hb dX10_cut_16 (by decide) ?_
  refine lv_bipush (v := (-2)) hx hb dX10_cut_29 (by decide) ?_
  exact W.iret (v := (-2)) hx hb hr (fun t ht hW => ⟨⟨(-2), (), rfl, rfl, trivial⟩, hS.F ht⟩) hS.2.2 dX10_cut_31

def own_n_cutSN : List Cond := [.methodLink RX10 74 yX10_tableAt, .instanceMethod yX10_tableAt, .selects RX10 yX10_tableAt yX10_tableAt, .initialized RX10]
def wp_n_cutSN : List Cond := .code yX10_cut cX10_cut 10 (some .int) :: (own_n_cutSN ++ (wp_k_tabS ++ (wp_k_tabN ++ ([] : List Cond))))
set_option maxRecDepth 20000 in
theorem inown_n_cutSN : ∀ w ∈ own_n_cutSN, w ∈ lw_tbl := mem_places [610, 612, 2, 106] (by decide +kernel)
set_option maxRecDepth 20000 in
theorem in_n_cutSN : ∀ w ∈ wp_n_cutSN, w ∈ lw_tbl := List.forall_mem_cons.mpr ⟨List.mem_of_getElem? (i := 894) (by decide +kernel), List.forall_mem_append.mpr ⟨inown_n_cutSN, List.forall_mem_append.mpr ⟨in_k_tabS, List.forall_mem_append.mpr ⟨in_k_tabN, fun _ h => absurd h List.not_mem_nil⟩⟩⟩⟩
set_option maxRecDepth 20000 in
theorem good_n_cutSN : wp_n_cutSN.all goodWord = true := by decide +kernel
set_option maxRecDepth 20000 in
theorem g_n_cutSN_k_tabS_74 : GoodIn wp_n_cutSN (wsV RX10 74 RX10 yX10_tableAt wp_k_tabS) := goodIn_sub (List.forall_mem_append.mpr ⟨List.forall_mem_cons.mpr ⟨(List.mem_of_getElem? (i := 1) rfl), List.forall_mem_cons.mpr ⟨(List.mem_of_getElem? (i := 2) rfl), List.forall_mem_cons.mpr ⟨(List.mem_of_getElem? (i := 3) rfl), List.forall_mem_cons.mpr ⟨(List.mem_of_getElem? (i := 4) rfl), fun _ h => absurd h List.not_mem_nil⟩⟩⟩⟩, (fun _ h => (List.mem_cons_of_mem _ (List.mem_append_right _ (List.mem_append_left _ h))))⟩) (by decide +kernel)
set_option maxRecDepth 20000 in
theorem g_n_cutSN_k_tabN_74 : GoodIn wp_n_cutSN (wsV RX10 74 RX10 yX10_tableAt wp_k_tabN) := goodIn_sub (List.forall_mem_append.mpr ⟨List.forall_mem_cons.mpr ⟨(List.mem_of_getElem? (i := 1) rfl), List.forall_mem_cons.mpr ⟨(List.mem_of_getElem? (i := 2) rfl), List.forall_mem_cons.mpr ⟨(List.mem_of_getElem? (i := 3) rfl), List.forall_mem_cons.mpr ⟨(List.mem_of_getElem? (i := 4) rfl), fun _ h => absurd h List.not_mem_nil⟩⟩⟩⟩, (fun _ h => (List.mem_cons_of_mem _ (List.mem_append_right _ (List.mem_append_right _ (List.mem_append_left _ h)))))⟩) (by decide +kernel)
set_option maxHeartbeats 4000000 in
set_option maxRecDepth 100000 in
theorem n_cutSN (l : Launch) (D : va_G) (sz : Nat) (ox : Nat → Nat) (ob3 : Nat → Nat) (og : Nat → Nat) (oq : Nat → Nat) (ow : Nat → Nat) (cI : ClassId) (cT : ClassId) (tp : Nat) (ft : Nat → Option Nat) (z2 : Int32) (z3 : Int32) (k1 : Nat) (tq1 : Nat) (hk1 : k1 < 4) (hft1 : ft k1 = some tq1) (hno2 : ∀ k, k < 4 → z2 = nI k → ft k = none) : Met l yX10_cut wp_n_cutSN ({ frames := 2, cells := 0, slots := 0, locals := 41 }) (PcRC D [.ref (ox 0), .int (nI k1), .int z2, .int z3] sz [(ox 0, .inr (10, [.ref (ox 1), .ref (ox 2), .int (nI tp), .ref (ob3 0), .ref (og 0), .ref (oq 0), .ref (ow 0)])), (ox 1, .inl (cT, 4, .inr (.inr (.inr (.inr ft)))))] [(cT, .object RX9)]) (va_Qi (fun (r : Int32) (u : Unit) => r = (-2)) (fun (_ : Unit) _ => True) (va_A [] sz)) 0 0 (va_A [] sz) := by
  refine Met.ofW (cc := cX10_cut) (maxL := 10) (ret := (some .int)) (by decide) rfl ?_
  intro p e s m args below meth c s₁ B hml hv
  obtain ⟨rfl, hsz, hP, hK, hN⟩ := hv
  have hx := B.exec
  have hb := B.bytes
  have hr := B.returns
  have hts := atoms_spec (ws := wp_n_cutSN) B.pre
  have hown : s.vm.findClass RX10 = some m.cls := findClass_of_methodNamed B.named
  have hlocks := B.notSynchronized
  subst hsz
  generalize hAe : va_A [] s.heap.size = A at ⊢
  have hA : ∀ q : Nat, s.heap.size ≤ q → A q := fun q h => by rw [← hAe]; exact Or.inr h
  have hS : va_S A s.heap s.heap [] := va_S.rf
  have hP : va_P D vwCl [(ox 0, .inr (10, [.ref (ox 1), .ref (ox 2), .int (nI tp), .ref (ob3 0), .ref (og 0), .ref (oq 0), .ref (ow 0)])), (ox 1, .inl (cT, 4, .inr (.inr (.inr (.inr ft)))))] s.heap := hP
  have hl := lv_entry ([.ref (ox 0), .int (nI k1), .int z2, .int z3]) (n := 10) (Nat.le_of_ble_eq_true rfl)
  rw [lg_entry_eq]
  generalize (lg_sl ([.ref (ox 0), .int (nI k1), .int z2, .int z3]) ++ List.replicate (10 - (lg_sl ([.ref (ox 0), .int (nI k1), .int z2, .int z3])).length) Slot.unset).toArray = ls at hl ⊢
  have hl : lv_has ls 10 [(0, .ref (ox 0)), (1, .int (nI k1)), (2, .int z2), (3, .int z3)] := hl
  refine lv_aload_n hx hb dX10_cut_0 rfl (lv_at hl 0 rfl) ?_
  refine lv_iload_n hx hb dX10_cut_1 rfl (lv_at hl 1 rfl) ?_
  have hPc := hP.sub (ws' := [(ox 0, .inr (10, [.ref (ox 1), .ref (ox 2), .int (nI tp), .ref (ob3 0), .ref (og 0), .ref (oq 0), .ref (ow 0)])), (ox 1, .inl (cT, 4, .inr (.inr (.inr (.inr ft)))))]) [0, 1] rfl
  have hKc := hK.sub (tys' := [(cT, .object RX9)]) [0] rfl
  have hFc := va_free0 hS hA
  refine va_callq (va_runV (As := [.int (nI k1)]) (rest := []) ⟨hx, hb, hml, hown, hts⟩ (k_tabS l D _ ox ob3 og oq ow cI cT tp ft k1 tq1 hk1 hft1) (cwV 1 hts g_n_cutSN_k_tabS_74 rfl rfl rfl (by decide +kernel) ⟨(Nat.le_of_ble_eq_true rfl), (Nat.le_of_ble_eq_true rfl)⟩) (PcRC_V (q0 := 0) hPc hKc hN rfl rfl) rfl rfl hl.1 rfl (lv_room (Nat.le_of_ble_eq_true rfl)) dX10_cut_2 ⟨(Nat.le_of_ble_eq_true rfl), (Nat.le_of_ble_eq_true rfl)⟩) hS (fun q _ h => hFc q h) hFc (fun r1 uu tt H locs htt hvm hw hB hz1 hk1 hS => ?_)
  have hP := va_keep hP hk1
  try dsimp only at hw
  clear hB hz1 hk1 hFc hPc hKc
  obtain rfl : r1 = some tq1 := hw
  refine W.eq (g2 := F0 m 5 ls [.ref tq1]) rfl ?_
  refine lv_astore (lv' := [(4, .ref tq1), (0, .ref (ox 0)), (1, .int (nI k1)), (2, .int z2), (3, .int z3)]) hx hb dX10_cut_5 hl (by decide) rfl (fun ls hl => ?_)
  refine lv_aload_n hx hb dX10_cut_7 rfl (lv_at hl 1 rfl) ?_
  refine lv_iload_n hx hb dX10_cut_8 rfl (lv_at hl 3 rfl) ?_
  have hPc := hP.sub (ws' := [(ox 0, .inr (10, [.ref (ox 1), .ref (ox 2), .int (nI tp), .ref (ob3 0), .ref (og 0), .ref (oq 0), .ref (ow 0)])), (ox 1, .inl (cT, 4, .inr (.inr (.inr (.inr ft)))))]) [0, 1] rfl
  have hKc := hK.sub (tys' := [(cT, .object RX9)]) [0] rfl
  have hFc := va_free0 hS hA
  refine va_callq (va_runV (As := [.int z2]) (rest := []) ⟨hx, hb, hml, hown, hts⟩ (k_tabN l D _ ox ob3 og oq ow cI cT tp ft z2 hno2) (cwV 1 hts g_n_cutSN_k_tabN_74 rfl rfl rfl (by decide +kernel) ⟨(Nat.le_of_ble_eq_true rfl), (Nat.le_of_ble_eq_true rfl)⟩) (PcRC_V (q0 := 0) hPc hKc hN rfl rfl) rfl rfl hl.1 rfl (lv_room (Nat.le_of_ble_eq_true rfl)) dX10_cut_9 ⟨(Nat.le_of_ble_eq_true rfl), (Nat.le_of_ble_eq_true rfl)⟩) hS (fun q _ h => hFc q h) hFc (fun r2 uu tt H locs htt hvm hw hB hz1 hk1 hS => ?_)
  have hP := va_keep hP hk1
  try dsimp only at hw
  clear hB hz1 hk1 hFc hPc hKc
  obtain rfl : r2 = none := hw
  refine W.eq (g2 := F0 m 12 ls [.null]) rfl ?_
  refine lv_astoreN (lv' := [(5, .null), (4, .ref tq1), (0, .ref (ox 0)), (1, .int (nI k1)), (2, .int z2), (3, .int z3)]) hx hb dX10_cut_12 hl (by decide) rfl (fun ls hl => ?_)
  refine lv_aload hx hb dX10_cut_14 (lv_at hl 1 rfl) ?_
  refine lv_ifnull hx hb dX10_cut_16 ?_
  refine lv_aloadN hx hb dX10_cut_19 (lv_at hl 0 rfl) ?_
  refine lv_ifnullN (tgt := 29) hx hb dX10_cut_21 (by decide) ?_
  refine lv_bipush (v := (-2)) hx hb dX10_cut_29 (by decide) ?_
  exact W.iret (v := (-2)) hx hb hr (fun t ht hW => ⟨⟨(-2), (), rfl, rfl, trivial⟩, hS.F ht⟩) hS.2.2 dX10_cut_31

def own_n_joinEQ : List Cond := [.methodLink RX10 74 yX10_tableAt, .instanceMethod yX10_tableAt, .selects RX10 yX10_tableAt yX10_tableAt, .initialized RX10]
def wp_n_joinEQ : List Cond := .code yX10_join cX10_join 8 (some .int) :: (own_n_joinEQ ++ (wp_k_tabS ++ ([] : List Cond)))
set_option maxRecDepth 20000 in
theorem inown_n_joinEQ : ∀ w ∈ own_n_joinEQ, w ∈ lw_tbl := mem_places [610, 612, 2, 106] (by decide +kernel)
set_option maxRecDepth 20000 in
theorem in_n_joinEQ : ∀ w ∈ wp_n_joinEQ, w ∈ lw_tbl := List.forall_mem_cons.mpr ⟨List.mem_of_getElem? (i := 890) (by decide +kernel), List.forall_mem_append.mpr ⟨inown_n_joinEQ, List.forall_mem_append.mpr ⟨in_k_tabS, fun _ h => absurd h List.not_mem_nil⟩⟩⟩
set_option maxRecDepth 20000 in
theorem good_n_joinEQ : wp_n_joinEQ.all goodWord = true := by decide +kernel
set_option maxRecDepth 20000 in
theorem g_n_joinEQ_k_tabS_74 : GoodIn wp_n_joinEQ (wsV RX10 74 RX10 yX10_tableAt wp_k_tabS) := goodIn_sub (List.forall_mem_append.mpr ⟨List.forall_mem_cons.mpr ⟨(List.mem_of_getElem? (i := 1) rfl), List.forall_mem_cons.mpr ⟨(List.mem_of_getElem? (i := 2) rfl), List.forall_mem_cons.mpr ⟨(List.mem_of_getElem? (i := 3) rfl), List.forall_mem_cons.mpr ⟨(List.mem_of_getElem? (i := 4) rfl), fun _ h => absurd h List.not_mem_nil⟩⟩⟩⟩, (fun _ h => (List.mem_cons_of_mem _ (List.mem_append_right _ (List.mem_append_left _ h))))⟩) (by decide +kernel)
set_option maxHeartbeats 4000000 in
set_option maxRecDepth 100000 in
theorem n_joinEQ (l : Launch) (D : va_G) (sz : Nat) (ox : Nat → Nat) (ob3 : Nat → Nat) (og : Nat → Nat) (oq : Nat → Nat) (ow : Nat → Nat) (cI : ClassId) (cT : ClassId) (tp : Nat) (ft : Nat → Option Nat) (k : Nat) (tq : Nat) (hk : k < 4) (hft : ft k = some tq) : Met l yX10_join wp_n_joinEQ ({ frames := 2, cells := 0, slots := 0, locals := 41 }) (PcRC D [.ref (ox 0), .int (nI k), .int (nI k)] sz [(ox 0, .inr (10, [.ref (ox 1), .ref (ox 2), .int (nI tp), .ref (ob3 0), .ref (og 0), .ref (oq 0), .ref (ow 0)])), (ox 1, .inl (cT, 4, .inr (.inr (.inr (.inr ft)))))] [(cT, .object RX9)]) (va_Qi (fun (r : Int32) (u : Unit) => r = (-2)) (fun (_ : Unit) _ => True) (va_A [] sz)) 0 0 (va_A [] sz) := by
  refine Met.ofW (cc := cX10_join) (maxL := 8) (ret := (some .int)) (by decide) rfl ?_
  intro p e s m args below meth c s₁ B hml hv
  obtain ⟨rfl, hsz, hP, hK, hN⟩ := hv
  have hx := B.exec
  have hb := B.bytes
  have hr := B.returns
  have hts := atoms_spec (ws := wp_n_joinEQ) B.pre
  have hown : s.vm.findClass RX10 = some m.cls := findClass_of_methodNamed B.named
  have hlocks := B.notSynchronized
  subst hsz
  generalize hAe : va_A [] s.heap.size = A at ⊢
  have hA : ∀ q : Nat, s.heap.size ≤ q → A q := fun q h => by rw [← hAe]; exact Or.inr h
  have hS : va_S A s.heap s.heap [] := va_S.rf
  have hP : va_P D vwCl [(ox 0, .inr (10, [.ref (ox 1), .ref (ox 2), .int (nI tp), .ref (ob3 0), .ref (og 0), .ref (oq 0), .ref (ow 0)])), (ox 1, .inl (cT, 4, .inr (.inr (.inr (.inr ft)))))] s.heap := hP
  have hl := lv_entry ([.ref (ox 0), .int (nI k), .int (nI k)]) (n := 8) (Nat.le_of_ble_eq_true rfl)
  rw [lg_entry_eq]
  generalize (lg_sl ([.ref (ox 0), .int (nI k), .int (nI k)]) ++ List.replicate (8 - (lg_sl ([.ref (ox 0), .int (nI k), .int (nI k)])).length) Slot.unset).toArray = ls at hl ⊢
  have hl : lv_has ls 8 [(0, .ref (ox 0)), (1, .int (nI k)), (2, .int (nI k))] := hl
  refine lv_aload_n hx hb dX10_join_0 rfl (lv_at hl 0 rfl) ?_
  refine lv_iload_n hx hb dX10_join_1 rfl (lv_at hl 1 rfl) ?_
  have hPc := hP.sub (ws' := [(ox 0, .inr (10, [.ref (ox 1), .ref (ox 2), .int (nI tp), .ref (ob3 0), .ref (og 0), .ref (oq 0), .ref (ow 0)])), (ox 1, .inl (cT, 4, .inr (.inr (.inr (.inr ft)))))]) [0, 1] rfl
  have hKc := hK.sub (tys' := [(cT, .object RX9)]) [0] rfl
  have hFc := va_free0 hS hA
  refine va_callq (va_runV (As := [.int (nI k)]) (rest := []) ⟨hx, hb, hml, hown, hts⟩ (k_tabS l D _ ox ob3 og oq ow cI cT tp ft k tq hk hft) (cwV 1 hts g_n_joinEQ_k_tabS_74 rfl rfl rfl (by decide +kernel) ⟨(Nat.le_of_ble_eq_true rfl), (Nat.le_of_ble_eq_true rfl)⟩) (PcRC_V (q0 := 0) hPc hKc hN rfl rfl) rfl rfl hl.1 rfl (lv_room (Nat.le_of_ble_eq_true rfl)) dX10_join_2 ⟨(Nat.le_of_ble_eq_true rfl), (Nat.le_of_ble_eq_true rfl)⟩) hS (fun q _ h => hFc q h) hFc (fun r1 uu tt H locs htt hvm hw hB hz1 hk1 hS => ?_)
  have hP := va_keep hP hk1
  try dsimp only at hw
  clear hB hz1 hk1 hFc hPc hKc
  obtain rfl : r1 = some tq := hw
  refine W.eq (g2 := F0 m 5 ls [.ref tq]) rfl ?_
  refine lv_astore_n (lv' := [(3, .ref tq), (0, .ref (ox 0)), (1, .int (nI k)), (2, .int (nI k))]) hx hb dX10_join_5 rfl hl (by decide) rfl (fun ls hl => ?_)
  refine lv_aload_n hx hb dX10_join_6 rfl (lv_at hl 1 rfl) ?_
  refine lv_iload_n hx hb dX10_join_7 rfl (lv_at hl 3 rfl) ?_
  have hPc := hP.sub (ws' := [(ox 0, .inr (10, [.ref (ox 1), .ref (ox 2), .int (nI tp), .ref (ob3 0), .ref (og 0), .ref (oq 0), .ref (ow 0)])), (ox 1, .inl (cT, 4, .inr (.inr (.inr (.inr ft)))))]) [0, 1] rfl
  have hKc := hK.sub (tys' := [(cT, .object RX9)]) [0] rfl
  have hFc := va_free0 hS hA
  refine va_callq (va_runV (As := [.int (nI k)]) (rest := []) ⟨hx, hb, hml, hown, hts⟩ (k_tabS l D _ ox ob3 og oq ow cI cT tp ft k tq hk hft) (cwV 1 hts g_n_joinEQ_k_tabS_74 rfl rfl rfl (by decide +kernel) ⟨(Nat.le_of_ble_eq_true rfl), (Nat.le_of_ble_eq_true rfl)⟩) (PcRC_V (q0 := 0) hPc hKc hN rfl rfl) rfl rfl hl.1 rfl (lv_room (Nat.le_of_ble_eq_true rfl)) dX10_join_8 ⟨(Nat.le_of_ble_eq_true rfl), (Nat.le_of_ble_eq_true rfl)⟩) hS (fun q _ h => hFc q h) hFc (fun r2 uu tt H locs htt hvm hw hB hz1 hk1 hS => ?_)
  have hP := va_keep hP hk1
  try dsimp only at hw
  clear hB hz1 hk1 hFc hPc hKc
  obtain rfl : r2 = some tq := hw
  refine W.eq (g2 := F0 m 11 ls [.ref tq]) rfl ?_
  refine lv_astore (lv' := [(4, .ref tq), (3, .ref tq), (0, .ref (ox 0)), (1, .int (nI k)), (2, .int (nI k))]) hx hb dX10_join_11 hl (by decide) rfl (fun ls hl => ?_)
  refine lv_aload_n hx hb dX10_join_13 rfl (lv_at hl 1 rfl) ?_
  refine lv_ifnull hx hb dX10_join_14 ?_
  refine lv_aload hx hb dX10_join_17 (lv_at hl 0 rfl) ?_
  refine lv_ifnull hx hb dX10_join_19 ?_
  refine lv_iload_n hx hb dX10_join_22 rfl (lv_at hl 3 rfl) ?_
  refine lv_iload_n hx hb dX10_join_23 rfl (lv_at hl 4 rfl) ?_
  refine lv_icmp_ne (tgt := 30) hx hb dX10_join_24 (by decide) (fun hc => absurd (rfl) hc) (fun hc => ?_)
  refine lv_bipush (v := (-2)) hx hb dX10_join_27 (by decide) ?_
  exact W.iret (v := (-2)) hx hb hr (fun t ht hW => ⟨⟨(-2), (), rfl, rfl, trivial⟩, hS.F ht⟩) hS.2.2 dX10_join_29

def own_n_cutEQ : List Cond := [.methodLink RX10 74 yX10_tableAt, .instanceMethod yX10_tableAt, .selects RX10 yX10_tableAt yX10_tableAt, .initialized RX10]
def wp_n_cutEQ : List Cond := .code yX10_cut cX10_cut 10 (some .int) :: (own_n_cutEQ ++ (wp_k_tabS ++ ([] : List Cond)))
set_option maxRecDepth 20000 in
theorem inown_n_cutEQ : ∀ w ∈ own_n_cutEQ, w ∈ lw_tbl := mem_places [610, 612, 2, 106] (by decide +kernel)
set_option maxRecDepth 20000 in
theorem in_n_cutEQ : ∀ w ∈ wp_n_cutEQ, w ∈ lw_tbl := List.forall_mem_cons.mpr ⟨List.mem_of_getElem? (i := 894) (by decide +kernel), List.forall_mem_append.mpr ⟨inown_n_cutEQ, List.forall_mem_append.mpr ⟨in_k_tabS, fun _ h => absurd h List.not_mem_nil⟩⟩⟩
set_option maxRecDepth 20000 in
theorem good_n_cutEQ : wp_n_cutEQ.all goodWord = true := by decide +kernel
set_option maxRecDepth 20000 in
theorem g_n_cutEQ_k_tabS_74 : GoodIn wp_n_cutEQ (wsV RX10 74 RX10 yX10_tableAt wp_k_tabS) := goodIn_sub (List.forall_mem_append.mpr ⟨List.forall_mem_cons.mpr ⟨(List.mem_of_getElem? (i := 1) rfl), List.forall_mem_cons.mpr ⟨(List.mem_of_getElem? (i := 2) rfl), List.forall_mem_cons.mpr ⟨(List.mem_of_getElem? (i := 3) rfl), List.forall_mem_cons.mpr ⟨(List.mem_of_getElem? (i := 4) rfl), fun _ h => absurd h List.not_mem_nil⟩⟩⟩⟩, (fun _ h => (List.mem_cons_of_mem _ (List.mem_append_right _ (List.mem_append_left _ h))))⟩) (by decide +kernel)
set_option maxHeartbeats 4000000 in
set_option maxRecDepth 100000 in
theorem n_cutEQ (l : Launch) (D : va_G) (sz : Nat) (ox : Nat → Nat) (ob3 : Nat → Nat) (og : Nat → Nat) (oq : Nat → Nat) (ow : Nat → Nat) (cI : ClassId) (cT : ClassId) (tp : Nat) (ft : Nat → Option Nat) (z3 : Int32) (k : Nat) (tq : Nat) (hk : k < 4) (hft : ft k = some tq) : Met l yX10_cut wp_n_cutEQ ({ frames := 2, cells := 0, slots := 0, locals := 41 }) (PcRC D [.ref (ox 0), .int (nI k), .int (nI k), .int z3] sz [(ox 0, .inr (10, [.ref (ox 1), .ref (ox 2), .int (nI tp), .ref (ob3 0), .ref (og 0), .ref (oq 0), .ref (ow 0)])), (ox 1, .inl (cT, 4, .inr (.inr (.inr (.inr ft)))))] [(cT, .object RX9)]) (va_Qi (fun (r : Int32) (u : Unit) => r = (-2)) (fun (_ : Unit) _ => True) (va_A [] sz)) 0 0 (va_A [] sz) := by
  refine Met.ofW (cc := cX10_cut) (maxL := 10) (ret := (some .int)) (by decide) rfl ?_
  intro p e s m args below meth c s₁ B hml hv
  obtain ⟨rfl, hsz, hP, hK, hN⟩ := hv
  have hx := B.exec
  have hb := B.bytes
  have hr := B.returns
  have hts := atoms_spec (ws := wp_n_cutEQ) B.pre
  have hown : s.vm.findClass RX10 = some m.cls := findClass_of_methodNamed B.named
  have hlocks := B.notSynchronized
  subst hsz
  generalize hAe : va_A [] s.heap.size = A at ⊢
  have hA : ∀ q : Nat, s.heap.size ≤ q → A q := fun q h => by rw [← hAe]; exact Or.inr h
  have hS : va_S A s.heap s.heap [] := va_S.rf
  have hP : va_P D vwCl [(ox 0, .inr (10, [.ref (ox 1), .ref (ox 2), .int (nI tp), .ref (ob3 0), .ref (og 0), .ref (oq 0), .ref (ow 0)])), (ox 1, .inl (cT, 4, .inr (.inr (.inr (.inr ft)))))] s.heap := hP
  have hl := lv_entry ([.ref (ox 0), .int (nI k), .int (nI k), .int z3]) (n := 10) (Nat.le_of_ble_eq_true rfl)
  rw [lg_entry_eq]
  generalize (lg_sl ([.ref (ox 0), .int (nI k), .int (nI k), .int z3]) ++ List.replicate (10 - (lg_sl ([.ref (ox 0), .int (nI k), .int (nI k), .int z3])).length) Slot.unset).toArray = ls at hl ⊢
  have hl : lv_has ls 10 [(0, .ref (ox 0)), (1, .int (nI k)), (2, .int (nI k)), (3, .int z3)] := hl
  refine lv_aload_n hx hb dX10_cut_0 rfl (lv_at hl 0 rfl) ?_
  refine lv_iload_n hx hb dX10_cut_1 rfl (lv_at hl 1 rfl) ?_
  have hPc := hP.sub (ws' := [(ox 0, .inr (10, [.ref (ox 1), .ref (ox 2), .int (nI tp), .ref (ob3 0), .ref (og 0), .ref (oq 0), .ref (ow 0)])), (ox 1, .inl (cT, 4, .inr (.inr (.inr (.inr ft)))))]) [0, 1] rfl
  have hKc := hK.sub (tys' := [(cT, .object RX9)]) [0] rfl
  have hFc := va_free0 hS hA
  refine va_callq (va_runV (As := [.int (nI k)]) (rest := []) ⟨hx, hb, hml, hown, hts⟩ (k_tabS l D _ ox ob3 og oq ow cI cT tp ft k tq hk hft) (cwV 1 hts g_n_cutEQ_k_tabS_74 rfl rfl rfl (by decide +kernel) ⟨(Nat.le_of_ble_eq_true rfl), (Nat.le_of_ble_eq_true rfl)⟩) (PcRC_V (q0 := 0) hPc hKc hN rfl rfl) rfl rfl hl.1 rfl (lv_room (Nat.le_of_ble_eq_true rfl)) dX10_cut_2 ⟨(Nat.le_of_ble_eq_true rfl), (Nat.le_of_ble_eq_true rfl)⟩) hS (fun q _ h => hFc q h) hFc (fun r1 uu tt H locs htt hvm hw hB hz1 hk1 hS => ?_)
  have hP := va_keep hP hk1
  try dsimp only at hw
  clear hB hz1 hk1 hFc hPc hKc
  obtain rfl : r1 = some tq := hw
  refine W.eq (g2 := F0 m 5 ls [.ref tq]) rfl ?_
  refine lv_astore (lv' := [(4, .ref tq), (0, .ref (ox 0)), (1, .int (nI k)), (2, .int (nI k)), (3, .int z3)]) hx hb dX10_cut_5 hl (by decide) rfl (fun ls hl => ?_)
  refine lv_aload_n hx hb dX10_cut_7 rfl (lv_at hl 1 rfl) ?_
  refine lv_iload_n hx hb dX10_cut_8 rfl (lv_at hl 3 rfl) ?_
  have hPc := hP.sub (ws' := [(ox 0, .inr (10, [.ref (ox 1), .ref (ox 2), .int (nI tp), .ref (ob3 0), .ref (og 0), .ref (oq 0), .ref (ow 0)])), (ox 1, .inl (cT, 4, .inr (.inr (.inr (.inr ft)))))]) [0, 1] rfl
  have hKc := hK.sub (tys' := [(cT, .object RX9)]) [0] rfl
  have hFc := va_free0 hS hA
  refine va_callq (va_runV (As := [.int (nI k)]) (rest := []) ⟨hx, hb, hml, hown, hts⟩ (k_tabS l D _ ox ob3 og oq ow cI cT tp ft k tq hk hft) (cwV 1 hts g_n_cutEQ_k_tabS_74 rfl rfl rfl (by decide +kernel) ⟨(Nat.le_of_ble_eq_true rfl), (Nat.le_of_ble_eq_true rfl)⟩) (PcRC_V (q0 := 0) hPc hKc hN rfl rfl) rfl rfl hl.1 rfl (lv_room (Nat.le_of_ble_eq_true rfl)) dX10_cut_9 ⟨(Nat.le_of_ble_eq_true rfl), (Nat.le_of_ble_eq_true rfl)⟩) hS (fun q _ h => hFc q h) hFc (fun r2 uu tt H locs htt hvm hw hB hz1 hk1 hS => ?_)
  have hP := va_keep hP hk1
  try dsimp only at hw
  clear hB hz1 hk1 hFc hPc hKc
  obtain rfl : r2 = some tq := hw
  refine W.eq (g2 := F0 m 12 ls [.ref tq]) rfl ?_
  refine lv_astore (lv' := [(5, .ref tq), (4, .ref tq), (0, .ref (ox 0)), (1, .int (nI k)), (2, .int (nI k)), (3, .int z3)]) hx hb dX10_cut_12 hl (by decide) rfl (fun ls hl => ?_)
  refine lv_aload hx hb dX10_cut_14 (lv_at hl 1 rfl) ?_
  refine lv_ifnull hx hb dX10_cut_16 ?_
  refine lv_aload hx hb dX10_cut_19 (lv_at hl 0 rfl) ?_
  refine lv_ifnull hx hb dX10_cut_21 ?_
  refine lv_iload_n hx hb dX10_cut_24 rfl (lv_at hl 3 rfl) ?_
  refine lv_iload_n hx hb dX10_cut_25 rfl (lv_at hl 4 rfl) ?_
  refine lv_icmp_ne (tgt := 32) hx hb dX10_cut_26 (by decide) (fun hc => absurd (rfl) hc) (fun hc => ?_)
  refine lv_bipush (v := (-2)) hx hb dX10_cut_29 (by decide) ?_
  exact W.iret (v := (-2)) hx hb hr (fun t ht hW => ⟨⟨(-2), (), rfl, rfl, trivial⟩, hS.F ht⟩) hS.2.2 dX10_cut_31

def own_n_copyN : List Cond := [.methodLink RX10 74 yX10_tableAt, .instanceMethod yX10_tableAt, .selects RX10 yX10_tableAt yX10_tableAt, .initialized RX10, .methodLink RX10 55 yX10_isTableNumber, .static yX10_isTableNumber]
def wp_n_copyN : List Cond := .code yX10_copy cX10_copy 4 (some .int) :: (own_n_copyN ++ (wp_k_tabN ++ (wp_k_isTN ++ ([] : List Cond))))
set_option maxRecDepth 20000 in
theorem inown_n_copyN : ∀ w ∈ own_n_copyN, w ∈ lw_tbl := mem_places [610, 612, 2, 106, 449, 450] (by decide +kernel)
set_option maxRecDepth 20000 in
theorem in_n_copyN : ∀ w ∈ wp_n_copyN, w ∈ lw_tbl := List.forall_mem_cons.mpr ⟨List.mem_of_getElem? (i := 1184) (by decide +kernel), List.forall_mem_append.mpr ⟨inown_n_copyN, List.forall_mem_append.mpr ⟨in_k_tabN, List.forall_mem_append.mpr ⟨in_k_isTN, fun _ h => absurd h List.not_mem_nil⟩⟩⟩⟩
set_option maxRecDepth 20000 in
theorem good_n_copyN : wp_n_copyN.all goodWord = true := by decide +kernel
set_option maxRecDepth 20000 in
theorem g_n_copyN_k_tabN_74 : GoodIn wp_n_copyN (wsV RX10 74 RX10 yX10_tableAt wp_k_tabN) := goodIn_sub (List.forall_mem_append.mpr ⟨List.forall_mem_cons.mpr ⟨(List.mem_of_getElem? (i := 1) rfl), List.forall_mem_cons.mpr ⟨(List.mem_of_getElem? (i := 2) rfl), List.forall_mem_cons.mpr ⟨(List.mem_of_getElem? (i := 3) rfl), List.forall_mem_cons.mpr ⟨(List.mem_of_getElem? (i := 4) rfl), fun _ h => absurd h List.not_mem_nil⟩⟩⟩⟩, (fun _ h => (List.mem_cons_of_mem _ (List.mem_append_right _ (List.mem_append_left _ h))))⟩) (by decide +kernel)
set_option maxRecDepth 20000 in
theorem g_n_copyN_k_isTN_55 : GoodIn wp_n_copyN (va_wsS RX10 55 yX10_isTableNumber wp_k_isTN) := goodIn_sub (List.forall_mem_append.mpr ⟨List.forall_mem_cons.mpr ⟨(List.mem_of_getElem? (i := 5) rfl), List.forall_mem_cons.mpr ⟨(List.mem_of_getElem? (i := 6) rfl), List.forall_mem_cons.mpr ⟨(List.mem_of_getElem? (i := 4) rfl), fun _ h => absurd h List.not_mem_nil⟩⟩⟩, (fun _ h => (List.mem_cons_of_mem _ (List.mem_append_right _ (List.mem_append_right _ (List.mem_append_left _ h)))))⟩) (by decide +kernel)
set_option maxHeartbeats 4000000 in
set_option maxRecDepth 100000 in
theorem n_copyN (l : Launch) (D : va_G) (sz : Nat) (ox : Nat → Nat) (ob3 : Nat → Nat) (og : Nat → Nat) (oq : Nat → Nat) (ow : Nat → Nat) (cI : ClassId) (cT : ClassId) (tp : Nat) (ft : Nat → Option Nat) (z1 : Int32) (z2 : Int32) (hno2 : ∀ k, k < 4 → z2 = nI k → ft k = none) : Met l yX10_copy wp_n_copyN ({ frames := 2, cells := 0, slots := 0, locals := 41 }) (PcRC D [.ref (ox 0), .int z1, .int z2] sz [(ox 0, .inr (10, [.ref (ox 1), .ref (ox 2), .int (nI tp), .ref (ob3 0), .ref (og 0), .ref (oq 0), .ref (ow 0)])), (ox 1, .inl (cT, 4, .inr (.inr (.inr (.inr ft)))))] [(cT, .object RX9)]) (va_Qi (fun (r : Int32) (u : Unit) => r = -2) (fun (_ : Unit) _ => True) (va_A [] sz)) 0 0 (va_A [] sz) := by
  refine Met.ofW (cc := cX10_copy) (maxL := 4) (ret := (some .int)) (by decide) rfl ?_
  intro p e s m args below meth c s₁ B hml hv
  obtain ⟨rfl, hsz, hP, hK, hN⟩ := hv
  have hx := B.exec
  have hb := B.bytes
  have hr := B.returns
  have hts := atoms_spec (ws := wp_n_copyN) B.pre
  have hown : s.vm.findClass RX10 = some m.cls := findClass_of_methodNamed B.named
  have hlocks := B.notSynchronized
  subst hsz
  generalize hAe : va_A [] s.heap.size = A at ⊢
  have hA : ∀ q : Nat, s.heap.size ≤ q → A q := fun q h => by rw [← hAe]; exact Or.inr h
  have hS : va_S A s.heap s.heap [] := va_S.rf
  have hP : va_P D vwCl [(ox 0, .inr (10, [.ref (ox 1), .ref (ox 2), .int (nI tp), .ref (ob3 0), .ref (og 0), .ref (oq 0), .ref (ow 0)])), (ox 1, .inl (cT, 4, .inr (.inr (.inr (.inr ft)))))] s.heap := hP
  have hl := lv_entry ([.ref (ox 0), .int z1, .int z2]) (n := 4) (Nat.le_of_ble_eq_true rfl)
  rw [lg_entry_eq]
  generalize (lg_sl ([.ref (ox 0), .int z1, .int z2]) ++ List.replicate (4 - (lg_sl ([.ref (ox 0), .int z1, .int z2])).length) Slot.unset).toArray = ls at hl ⊢
  have hl : lv_has ls 4 [(0, .ref (ox 0)), (1, .int z1), (2, .int z2)] := hl
  refine lv_aload_n hx hb dX10_copy_0 rfl (lv_at hl 0 rfl) ?_
  refine lv_iload_n hx hb dX10_copy_1 rfl (lv_at hl 2 rfl) ?_
  have hPc := hP.sub (ws' := [(ox 0, .inr (10, [.ref (ox 1), .ref (ox 2), .int (nI tp), .ref (ob3 0), .ref (og 0), .ref (oq 0), .ref (ow 0)])), (ox 1, .inl (cT, 4, .inr (.inr (.inr (.inr ft)))))]) [0, 1] rfl
  have hKc := hK.sub (tys' := [(cT, .object RX9)]) [0] rfl
  have hFc := va_free0 hS hA
  refine va_callq (va_runV (As := [.int z2]) (rest := []) ⟨hx, hb, hml, hown, hts⟩ (k_tabN l D _ ox ob3 og oq ow cI cT tp ft z2 hno2) (cwV 1 hts g_n_copyN_k_tabN_74 rfl rfl rfl (by decide +kernel) ⟨(Nat.le_of_ble_eq_true rfl), (Nat.le_of_ble_eq_true rfl)⟩) (PcRC_V (q0 := 0) hPc hKc hN rfl rfl) rfl rfl hl.1 rfl (lv_room (Nat.le_of_ble_eq_true rfl)) dX10_copy_2 ⟨(Nat.le_of_ble_eq_true rfl), (Nat.le_of_ble_eq_true rfl)⟩) hS (fun q _ h => hFc q h) hFc (fun r1 uu tt H locs htt hvm hw hB hz1 hk1 hS => ?_)
  have hP := va_keep hP hk1
  try dsimp only at hw
  clear hB hz1 hk1 hFc hPc hKc
  obtain rfl : r1 = none := hw
  refine W.eq (g2 := F0 m 5 ls [.null]) rfl ?_
  refine lv_astore_nN (lv' := [(3, .null), (0, .ref (ox 0)), (1, .int z1), (2, .int z2)]) hx hb dX10_copy_5 rfl hl (by decide) rfl (fun ls hl => ?_)
  refine lv_iload_n hx hb dX10_copy_6 rfl (lv_at hl 2 rfl) ?_
  have hPc := hP.sub (ws' := []) [] rfl
  have hKc := hK.sub (tys' := []) [] rfl
  have hFc := va_free0 hS hA
  refine va_calli (va_runS (As := [.int z1]) (rest := []) ⟨hx, hb, hml, hown, hts⟩ (k_isTN l D _ cI z1) (va_cwS 1 hts g_n_copyN_k_isTN_55 rfl rfl rfl (by decide +kernel) ⟨(Nat.le_of_ble_eq_true rfl), (Nat.le_of_ble_eq_true rfl)⟩) (PcRC_S hPc hKc hN) rfl rfl hl.1 rfl (lv_room (Nat.le_of_ble_eq_true rfl)) dX10_copy_7 ⟨(Nat.le_of_ble_eq_true rfl), (Nat.le_of_ble_eq_true rfl)⟩) hS (fun q _ h => hFc q h) hFc (fun r2 uu tt H locs htt hvm hw hB hz1 hk1 hS => ?_)
  have hP := va_keep hP hk1
  try dsimp only at hw
  clear hB hz1 hk1 hFc hPc hKc
  rcases hw with ⟨rfl, hA_r2⟩ | ⟨rfl, hA_r2⟩
  ·
    refine lv_if_eq (tgt := 22) hx hb dX10_copy_10 (by decide) (fun hc => absurd hc (by decide)) (fun hc => ?_)
    refine lv_aload_nN hx hb dX10_copy_13 rfl (lv_at hl 0 rfl) ?_
    refine lv_ifnullN (tgt := 22) hx hb dX10_copy_14 (by decide) ?_
    refine lv_bipush (v := (-2)) hx hb dX10_copy_22 (by decide) ?_
    exact W.iret (v := (-2)) hx hb hr (fun t ht hW => ⟨⟨(-2), (), rfl, rfl, trivial⟩, hS.F ht⟩) hS.2.2 dX10_copy_24
  ·
    refine lv_if_eq (tgt := 22) hx hb dX10_copy_10 (by decide) (fun hc => ?_) (fun hc => absurd (by decide) hc)
    refine lv_bipush (v := (-2)) hx hb dX10_copy_22 (by decide) ?_
    exact W.iret (v := (-2)) hx hb hr (fun t ht hW => ⟨⟨(-2), (), rfl, rfl, trivial⟩, hS.F ht⟩) hS.2.2 dX10_copy_24

def own_n_copyB : List Cond := [.methodLink RX10 74 yX10_tableAt, .instanceMethod yX10_tableAt, .selects RX10 yX10_tableAt yX10_tableAt, .initialized RX10, .methodLink RX10 55 yX10_isTableNumber, .static yX10_isTableNumber]
def wp_n_copyB : List Cond := .code yX10_copy cX10_copy 4 (some .int) :: (own_n_copyB ++ (wp_k_tabS ++ (wp_k_isTN ++ ([] : List Cond))))
set_option maxRecDepth 20000 in
theorem inown_n_copyB : ∀ w ∈ own_n_copyB, w ∈ lw_tbl := mem_places [610, 612, 2, 106, 449, 450] (by decide +kernel)
set_option maxRecDepth 20000 in
theorem in_n_copyB : ∀ w ∈ wp_n_copyB, w ∈ lw_tbl := List.forall_mem_cons.mpr ⟨List.mem_of_getElem? (i := 1184) (by decide +kernel), List.forall_mem_append.mpr ⟨inown_n_copyB, List.forall_mem_append.mpr ⟨in_k_tabS, List.forall_mem_append.mpr ⟨in_k_isTN, fun _ h => absurd h List.not_mem_nil⟩⟩⟩⟩
set_option maxRecDepth 20000 in
theorem good_n_copyB : wp_n_copyB.all goodWord = true := by decide +kernel
set_option maxRecDepth 20000 in
theorem g_n_copyB_k_tabS_74 : GoodIn wp_n_copyB (wsV RX10 74 RX10 yX10_tableAt wp_k_tabS) := goodIn_sub (List.forall_mem_append.mpr ⟨List.forall_mem_cons.mpr ⟨(List.mem_of_getElem? (i := 1) rfl), List.forall_mem_cons.mpr ⟨(List.mem_of_getElem? (i := 2) rfl), List.forall_mem_cons.mpr ⟨(List.mem_of_getElem? (i := 3) rfl), List.forall_mem_cons.mpr ⟨(List.mem_of_getElem? (i := 4) rfl), fun _ h => absurd h List.not_mem_nil⟩⟩⟩⟩, (fun _ h => (List.mem_cons_of_mem _ (List.mem_append_right _ (List.mem_append_left _ h))))⟩) (by decide +kernel)
set_option maxRecDepth 20000 in
theorem g_n_copyB_k_isTN_55 : GoodIn wp_n_copyB (va_wsS RX10 55 yX10_isTableNumber wp_k_isTN) := goodIn_sub (List.forall_mem_append.mpr ⟨List.forall_mem_cons.mpr ⟨(List.mem_of_getElem? (i := 5) rfl), List.forall_mem_cons.mpr ⟨(List.mem_of_getElem? (i := 6) rfl), List.forall_mem_cons.mpr ⟨(List.mem_of_getElem? (i := 4) rfl), fun _ h => absurd h List.not_mem_nil⟩⟩⟩, (fun _ h => (List.mem_cons_of_mem _ (List.mem_append_right _ (List.mem_append_right _ (List.mem_append_left _ h)))))⟩) (by decide +kernel)
set_option maxHeartbeats 4000000 in
set_option maxRecDepth 100000 in
theorem n_copyB (l : Launch) (D : va_G) (sz : Nat) (ox : Nat → Nat) (ob3 : Nat → Nat) (og : Nat → Nat) (oq : Nat → Nat) (ow : Nat → Nat) (cI : ClassId) (cT : ClassId) (tp : Nat) (ft : Nat → Option Nat) (z1 : Int32) (k : Nat) (tq : Nat) (hk : k < 4) (hft : ft k = some tq) (hb9 : ¬ (0 ≤ z1 ∧ z1 < 4) ∨ z1 = nI k) : Met l yX10_copy wp_n_copyB ({ frames := 2, cells := 0, slots := 0, locals := 41 }) (PcRC D [.ref (ox 0), .int z1, .int (nI k)] sz [(ox 0, .inr (10, [.ref (ox 1), .ref (ox 2), .int (nI tp), .ref (ob3 0), .ref (og 0), .ref (oq 0), .ref (ow 0)])), (ox 1, .inl (cT, 4, .inr (.inr (.inr (.inr ft)))))] [(cT, .object RX9)]) (va_Qi (fun (r : Int32) (u : Unit) => r = -2) (fun (_ : Unit) _ => True) (va_A [] sz)) 0 0 (va_A [] sz) := by
  refine Met.ofW (cc := cX10_copy) (maxL := 4) (ret := (some .int)) (by decide) rfl ?_
  intro p e s m args below meth c s₁ B hml hv
  obtain ⟨rfl, hsz, hP, hK, hN⟩ := hv
  have hx := B.exec
  have hb := B.bytes
  have hr := B.returns
  have hts := atoms_spec (ws := wp_n_copyB) B.pre
  have hown : s.vm.findClass RX10 = some m.cls := findClass_of_methodNamed B.named
  have hlocks := B.notSynchronized
  subst hsz
  generalize hAe : va_A [] s.heap.size = A at ⊢
  have hA : ∀ q : Nat, s.heap.size ≤ q → A q := fun q h => by rw [← hAe]; exact Or.inr h
  have hS : va_S A s.heap s.heap [] := va_S.rf
  have hP : va_P D vwCl [(ox 0, .inr (10, [.ref (ox 1), .ref (ox 2), .int (nI tp), .ref (ob3 0), .ref (og 0), .ref (oq 0), .ref (ow 0)])), (ox 1, .inl (cT, 4, .inr (.inr (.inr (.inr ft)))))] s.heap := hP
  have hl := lv_entry ([.ref (ox 0), .int z1, .int (nI k)]) (n := 4) (Nat.le_of_ble_eq_true rfl)
  rw [lg_entry_eq]
  generalize (lg_sl ([.ref (ox 0), .int z1, .int (nI k)]) ++ List.replicate (4 - (lg_sl ([.ref (ox 0), .int z1, .int (nI k)])).length) Slot.unset).toArray = ls at hl ⊢
  have hl : lv_has ls 4 [(0, .ref (ox 0)), (1, .int z1), (2, .int (nI k))] := hl
  refine lv_aload_n hx hb dX10_copy_0 rfl (lv_at hl 0 rfl) ?_
  refine lv_iload_n hx hb dX10_copy_1 rfl (lv_at hl 2 rfl) ?_
  have hPc := hP.sub (ws' := [(ox 0, .inr (10, [.ref (ox 1), .ref (ox 2), .int (nI tp), .ref (ob3 0), .ref (og 0), .ref (oq 0), .ref (ow 0)])), (ox 1, .inl (cT, 4, .inr (.inr (.inr (.inr ft)))))]) [0, 1] rfl
  have hKc := hK.sub (tys' := [(cT, .object RX9)]) [0] rfl
  have hFc := va_free0 hS hA
  refine va_callq (va_runV (As := [.int (nI k)]) (rest := []) ⟨hx, hb, hml, hown, hts⟩ (k_tabS l D _ ox ob3 og oq ow cI cT tp ft k tq hk hft) (cwV 1 hts g_n_copyB_k_tabS_74 rfl rfl rfl (by decide +kernel) ⟨(Nat.le_of_ble_eq_true rfl), (Nat.le_of_ble_eq_true rfl)⟩) (PcRC_V (q0 := 0) hPc hKc hN rfl rfl) rfl rfl hl.1 rfl (lv_room (Nat.le_of_ble_eq_true rfl)) dX10_copy_2 ⟨(Nat.le_of_ble_eq_true rfl), (Nat.le_of_ble_eq_true rfl)⟩) hS (fun q _ h => hFc q h) hFc (fun r1 uu tt H locs htt hvm hw hB hz1 hk1 hS => ?_)
  have hP := va_keep hP hk1
  try dsimp only at hw
  clear hB hz1 hk1 hFc hPc hKc
  obtain rfl : r1 = some tq := hw
  refine W.eq (g2 := F0 m 5 ls [.ref tq]) rfl ?_
  refine lv_astore_n (lv' := [(3, .ref tq), (0, .ref (ox 0)), (1, .int z1), (2, .int (nI k))]) hx hb dX10_copy_5 rfl hl (by decide) rfl (fun ls hl => ?_)
  refine lv_iload_n hx hb dX10_copy_6 rfl (lv_at hl 2 rfl) ?_
  have hPc := hP.sub (ws' := []) [] rfl
  have hKc := hK.sub (tys' := []) [] rfl
  have hFc := va_free0 hS hA
  refine va_calli (va_runS (As := [.int z1]) (rest := []) ⟨hx, hb, hml, hown, hts⟩ (k_isTN l D _ cI z1) (va_cwS 1 hts g_n_copyB_k_isTN_55 rfl rfl rfl (by decide +kernel) ⟨(Nat.le_of_ble_eq_true rfl), (Nat.le_of_ble_eq_true rfl)⟩) (PcRC_S hPc hKc hN) rfl rfl hl.1 rfl (lv_room (Nat.le_of_ble_eq_true rfl)) dX10_copy_7 ⟨(Nat.le_of_ble_eq_true rfl), (Nat.le_of_ble_eq_true rfl)⟩) hS (fun q _ h => hFc q h) hFc (fun r2 uu tt H locs htt hvm hw hB hz1 hk1 hS => ?_)
  have hP := va_keep hP hk1
  try dsimp only at hw
  clear hB hz1 hk1 hFc hPc hKc
  rcases hw with ⟨rfl, hA_r2⟩ | ⟨rfl, hA_r2⟩
  ·
    have hz9 : z1 = nI k := hb9.resolve_left (fun q => q hA_r2)
    refine lv_if_eq (tgt := 22) hx hb dX10_copy_10 (by decide) (fun hc => absurd hc (by decide)) (fun hc => ?_)
    refine lv_aload_n hx hb dX10_copy_13 rfl (lv_at hl 0 rfl) ?_
    refine lv_ifnull hx hb dX10_copy_14 ?_
    refine lv_iload_n hx hb dX10_copy_17 rfl (lv_at hl 2 rfl) ?_
    refine lv_iload_n hx hb dX10_copy_18 rfl (lv_at hl 3 rfl) ?_
    refine lv_icmp_ne (tgt := 25) hx hb dX10_copy_19 (by decide) (fun hc => absurd (hz9) hc) (fun hc => ?_)
    refine lv_bipush (v := (-2)) hx hb dX10_copy_22 (by decide) ?_
    exact W.iret (v := (-2)) hx hb hr (fun t ht hW => ⟨⟨(-2), (), rfl, rfl, trivial⟩, hS.F ht⟩) hS.2.2 dX10_copy_24
  ·
    refine lv_if_eq (tgt := 22) hx hb dX10_copy_10 (by decide) (fun hc => ?_) (fun hc => absurd (by decide) hc)
    refine lv_bipush (v := (-2)) hx hb dX10_copy_22 (by decide) ?_
    exact W.iret (v := (-2)) hx hb hr (fun t ht hW => ⟨⟨(-2), (), rfl, rfl, trivial⟩, hS.F ht⟩) hS.2.2 dX10_copy_24

