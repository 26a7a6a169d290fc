theorem dX11_signHere_0 : decode cX11_signHere 0 = .ok (.aload_n 0, 1) := by decide +kernel
theorem dX11_signHere_1 : decode cX11_signHere 1 = .ok (.bipush 43, 2) := by decide +kernel
theorem dX11_signHere_3 : decode cX11_signHere 3 = .ok (.invokevirtual 317, 3) := by decide +kernel
theorem dX11_signHere_6 : decode cX11_signHere 6 = .ok (.ifCond .eq 8, 3) := by decide +kernel
theorem dX11_signHere_9 : decode cX11_signHere 9 = .ok (.bipush 13, 2) := by decide +kernel
theorem dX11_signHere_11 : decode cX11_signHere 11 = .ok (.goto 60, 3) := by decide +kernel
theorem dX11_signHere_14 : decode cX11_signHere 14 = .ok (.aload_n 0, 1) := by decide +kernel
theorem dX11_signHere_15 : decode cX11_signHere 15 = .ok (.bipush 45, 2) := by decide +kernel
theorem dX11_signHere_17 : decode cX11_signHere 17 = .ok (.invokevirtual 317, 3) := by decide +kernel
theorem dX11_signHere_20 : decode cX11_signHere 20 = .ok (.ifCond .eq 8, 3) := by decide +kernel
theorem dX11_signHere_23 : decode cX11_signHere 23 = .ok (.bipush 14, 2) := by decide +kernel
theorem dX11_signHere_25 : decode cX11_signHere 25 = .ok (.goto 46, 3) := by decide +kernel
theorem dX11_signHere_28 : decode cX11_signHere 28 = .ok (.aload_n 0, 1) := by decide +kernel
theorem dX11_signHere_29 : decode cX11_signHere 29 = .ok (.bipush 42, 2) := by decide +kernel
theorem dX11_signHere_31 : decode cX11_signHere 31 = .ok (.invokevirtual 317, 3) := by decide +kernel
theorem dX11_signHere_34 : decode cX11_signHere 34 = .ok (.ifCond .eq 8, 3) := by decide +kernel
theorem dX11_signHere_37 : decode cX11_signHere 37 = .ok (.bipush 15, 2) := by decide +kernel
theorem dX11_signHere_39 : decode cX11_signHere 39 = .ok (.goto 32, 3) := by decide +kernel
theorem dX11_signHere_42 : decode cX11_signHere 42 = .ok (.aload_n 0, 1) := by decide +kernel
theorem dX11_signHere_43 : decode cX11_signHere 43 = .ok (.bipush 47, 2) := by decide +kernel
theorem dX11_signHere_45 : decode cX11_signHere 45 = .ok (.invokevirtual 317, 3) := by decide +kernel
theorem dX11_signHere_48 : decode cX11_signHere 48 = .ok (.ifCond .eq 8, 3) := by decide +kernel
theorem dX11_signHere_51 : decode cX11_signHere 51 = .ok (.bipush 16, 2) := by decide +kernel
theorem dX11_signHere_53 : decode cX11_signHere 53 = .ok (.goto 18, 3) := by decide +kernel
theorem dX11_signHere_56 : decode cX11_signHere 56 = .ok (.aload_n 0, 1) := by decide +kernel
theorem dX11_signHere_57 : decode cX11_signHere 57 = .ok (.bipush 37, 2) := by decide +kernel
theorem dX11_signHere_59 : decode cX11_signHere 59 = .ok (.invokevirtual 317, 3) := by decide +kernel
theorem dX11_signHere_62 : decode cX11_signHere 62 = .ok (.ifCond .eq 8, 3) := by decide +kernel
theorem dX11_signHere_65 : decode cX11_signHere 65 = .ok (.bipush 17, 2) := by decide +kernel
theorem dX11_signHere_67 : decode cX11_signHere 67 = .ok (.goto 4, 3) := by decide +kernel
theorem dX11_signHere_70 : decode cX11_signHere 70 = .ok (.iconst (-1), 1) := by decide +kernel
theorem dX11_signHere_71 : decode cX11_signHere 71 = .ok (.ireturn, 1) := by decide +kernel
theorem dX11_closesBracket_0 : decode cX11_closesBracket 0 = .ok (.aload_n 0, 1) := by decide +kernel
theorem dX11_closesBracket_1 : decode cX11_closesBracket 1 = .ok (.bipush 41, 2) := by decide +kernel
theorem dX11_closesBracket_3 : decode cX11_closesBracket 3 = .ok (.invokevirtual 363, 3) := by decide +kernel
theorem dX11_closesBracket_6 : decode cX11_closesBracket 6 = .ok (.aload_n 0, 1) := by decide +kernel
theorem dX11_closesBracket_7 : decode cX11_closesBracket 7 = .ok (.invokevirtual 313, 3) := by decide +kernel
theorem dX11_closesBracket_10 : decode cX11_closesBracket 10 = .ok (.ifCond .ne 4, 3) := by decide +kernel
theorem dX11_closesBracket_13 : decode cX11_closesBracket 13 = .ok (.return_, 1) := by decide +kernel
theorem dX11_closesBracket_14 : decode cX11_closesBracket 14 = .ok (.aload_n 0, 1) := by decide +kernel
theorem dX11_closesBracket_15 : decode cX11_closesBracket 15 = .ok (.dup, 1) := by decide +kernel
theorem dX11_closesBracket_16 : decode cX11_closesBracket 16 = .ok (.getfield 341, 3) := by decide +kernel
theorem dX11_closesBracket_19 : decode cX11_closesBracket 19 = .ok (.iconst 1, 1) := by decide +kernel
theorem dX11_closesBracket_20 : decode cX11_closesBracket 20 = .ok (.isub, 1) := by decide +kernel
theorem dX11_closesBracket_21 : decode cX11_closesBracket 21 = .ok (.putfield 341, 3) := by decide +kernel
theorem dX11_closesBracket_24 : decode cX11_closesBracket 24 = .ok (.aload_n 0, 1) := by decide +kernel
theorem dX11_closesBracket_25 : decode cX11_closesBracket 25 = .ok (.dup, 1) := by decide +kernel
theorem dX11_closesBracket_26 : decode cX11_closesBracket 26 = .ok (.getfield 338, 3) := by decide +kernel
theorem dX11_closesBracket_29 : decode cX11_closesBracket 29 = .ok (.iconst 1, 1) := by decide +kernel
theorem dX11_closesBracket_30 : decode cX11_closesBracket 30 = .ok (.isub, 1) := by decide +kernel
theorem dX11_closesBracket_31 : decode cX11_closesBracket 31 = .ok (.putfield 338, 3) := by decide +kernel
theorem dX11_closesBracket_34 : decode cX11_closesBracket 34 = .ok (.return_, 1) := by decide +kernel
def own_c_signHere : List Cond := [.methodLink RX11 317 yX11_isSign, .instanceMethod yX11_isSign, .selects RX11 yX11_isSign yX11_isSign, .initialized RX11]
def wp_c_signHere : List Cond := .code yX11_signHere cX11_signHere 1 (some .int) :: (own_c_signHere ++ (wp_c_isSign ++ ([] : List Cond)))
set_option maxRecDepth 20000 in
theorem inown_c_signHere : ∀ w ∈ own_c_signHere, w ∈ lw_tbl := mem_places [1677, 1679, 76, 115] (by decide +kernel)
set_option maxRecDepth 20000 in
theorem in_c_signHere : ∀ w ∈ wp_c_signHere, w ∈ lw_tbl := List.forall_mem_cons.mpr ⟨List.mem_of_getElem? (i := 1733) (by decide +kernel), List.forall_mem_append.mpr ⟨inown_c_signHere, List.forall_mem_append.mpr ⟨in_c_isSign, fun _ h => absurd h List.not_mem_nil⟩⟩⟩
set_option maxRecDepth 20000 in
theorem good_c_signHere : wp_c_signHere.all goodWord = true := by decide +kernel
set_option maxRecDepth 20000 in
theorem g_c_signHere_c_isSign_317 : GoodIn wp_c_signHere (wsV RX11 317 RX11 yX11_isSign wp_c_isSign) := goodIn_sub (List.forall_mem_append.mpr ⟨List.forall_mem_cons.mpr ⟨(List.mem_of_getElem? (i := 1) rfl), List.forall_mem_cons.mpr ⟨(List.mem_of_getElem? (i := 2) rfl), List.forall_mem_cons.mpr ⟨(List.mem_of_getElem? (i := 3) rfl), List.forall_mem_cons.mpr ⟨(List.mem_of_getElem? (i := 4) rfl), fun _ h => absurd h List.not_mem_nil⟩⟩⟩⟩, (fun _ h => (List.mem_cons_of_mem _ (List.mem_append_right _ (List.mem_append_left _ h))))⟩) (by decide +kernel)
set_option maxHeartbeats 4000000 in
set_option maxRecDepth 100000 in
theorem c_signHere (l : Launch) (D : va_G) (sz : Nat) (h0 : Nat) (a : Nat → Nat) (cm : Nat → ClassId) (i : Nat → Int32) (g : Nat → Int64) (fT : Nat → Int32) (cd : Nat) (zs : Nat) (ta : Nat) (en : Int32) (bd : Int32) (bp : Int32) (bq : Int32) (bk : Nat) (pl : Nat) (br : Int32) (bt : Nat → Nat) (hzs : zs ≤ 1400) (hta : ta ≤ zs) (hbt : TieB fT bt) : Met l yX11_signHere wp_c_signHere ({ frames := 2, cells := 0, slots := 0, locals := 41 }) (PcW D [.ref h0] sz [(h0, .inr (11, gP a i g (nI cd) (nI zs) (nI ta) en bd bp bq (nI bk) (nI pl) br)), (a 1, .inl (cm 1, 1400, .inl fT))] [(cm 1, .byte)]) (va_Qi (fun (r : Int32) (u : (Nat) × (Nat)) => (r = -1 ∧ ta ≤ u.1 ∧ u.1 ≤ zs ∧ u.1 = tkA bt zs ta ∧ NoSg bt zs ta) ∨ (r = nI u.2 ∧ (13 ≤ u.2 ∧ u.2 ≤ 17) ∧ ta ≤ u.1 ∧ u.1 < zs ∧ u.1 = tkA bt zs ta ∧ SgP bt zs ta (sgK u.2))) (fun (u : (Nat) × (Nat)) t => va_P D vwCl [(h0, .inr (11, gP a i g (nI cd) (nI zs) (nI u.1) en bd bp bq (nI bk) (nI pl) br)), (a 1, .inl (cm 1, 1400, .inl fT))] t.heap ∧ va_K D vwCl [(cm 1, .byte)] t ∧ va_D (va_A [(h0, .inr (11, gP a i g (nI cd) (nI zs) (nI ta) en bd bp bq (nI bk) (nI pl) br)), (a 1, .inl (cm 1, 1400, .inl fT))] sz) [(h0, .inr (11, gP a i g (nI cd) (nI zs) (nI u.1) en bd bp bq (nI bk) (nI pl) br)), (a 1, .inl (cm 1, 1400, .inl fT))]) (va_A [(h0, .inr (11, gP a i g (nI cd) (nI zs) (nI ta) en bd bp bq (nI bk) (nI pl) br)), (a 1, .inl (cm 1, 1400, .inl fT))] sz)) 0 0 (va_A [(h0, .inr (11, gP a i g (nI cd) (nI zs) (nI ta) en bd bp bq (nI bk) (nI pl) br)), (a 1, .inl (cm 1, 1400, .inl fT))] sz) := by
  refine Met.ofW (cc := cX11_signHere) (maxL := 1) (ret := (some .int)) (by decide) rfl ?_
  intro p e s m args below meth c s₁ B hml hv
  obtain ⟨rfl, hsz, hP, hK, hD0⟩ := hv
  have hx := B.exec
  have hb := B.bytes
  have hr := B.returns
  have hts := atoms_spec (ws := wp_c_signHere) B.pre
  have hown : s.vm.findClass RX11 = some m.cls := findClass_of_methodNamed B.named
  have hlocks := B.notSynchronized
  subst hsz
  have hD := hD0.self (sz := s.heap.size)
  generalize hAe : va_A [(h0, .inr (11, gP a i g (nI cd) (nI zs) (nI ta) en bd bp bq (nI bk) (nI pl) br)), (a 1, .inl (cm 1, 1400, .inl fT))] s.heap.size = A at hD ⊢
  have hA : ∀ q : Nat, s.heap.size ≤ q → A q := fun q h => by rw [← hAe]; exact Or.inr h
  have hS : va_S A s.heap s.heap [] := va_S.rf
  have hP : va_P D vwCl [(h0, .inr (11, gP a i g (nI cd) (nI zs) (nI ta) en bd bp bq (nI bk) (nI pl) br)), (a 1, .inl (cm 1, 1400, .inl fT))] s.heap := hP
  have hl := lv_entry ([.ref h0]) (n := 1) (Nat.le_of_ble_eq_true rfl)
  rw [lg_entry_eq]
  generalize (lg_sl ([.ref h0]) ++ List.replicate (1 - (lg_sl ([.ref h0])).length) Slot.unset).toArray = ls at hl ⊢
  have hl : lv_has ls 1 [(0, .ref h0)] := hl
  refine lv_aload_n hx hb dX11_signHere_0 rfl (lv_at hl 0 rfl) ?_
  refine lv_bipush (v := 43) hx hb dX11_signHere_1 (by decide) ?_
  have hPc := hP.sub (ws' := [(h0, .inr (11, gP a i g (nI cd) (nI zs) (nI ta) en bd bp bq (nI bk) (nI pl) br)), (a 1, .inl (cm 1, 1400, .inl fT))]) [0, 1] rfl
  have hKc := hK.sub (tys' := [(cm 1, .byte)]) [0] rfl
  have hDc := hD.sub (ws' := [(h0, .inr (11, gP a i g (nI cd) (nI zs) (nI ta) en bd bp bq (nI bk) (nI pl) br)), (a 1, .inl (cm 1, 1400, .inl fT))]) [0, 1] (by decide) rfl
  have hFc := va_free (wc := [(h0, .inr (11, gP a i g (nI cd) (nI zs) (nI ta) en bd bp bq (nI bk) (nI pl) br)), (a 1, .inl (cm 1, 1400, .inl fT))]) hD hS hA [0, 1] rfl
  refine va_calli (va_runV (As := [.int 43]) (rest := []) ⟨hx, hb, hml, hown, hts⟩ (c_isSign l D _ h0 a cm i g fT cd zs ta en bd bp bq bk pl br 43 43 bt (by omega) (by omega) hbt rfl (by decide)) (cwV 1 hts g_c_signHere_c_isSign_317 rfl rfl rfl (by decide +kernel) ⟨(Nat.le_of_ble_eq_true rfl), (Nat.le_of_ble_eq_true rfl)⟩) (PcW_V (q0 := 0) hPc hKc hDc rfl rfl) rfl rfl hl.1 rfl (lv_room (Nat.le_of_ble_eq_true rfl)) dX11_signHere_3 ⟨(Nat.le_of_ble_eq_true rfl), (Nat.le_of_ble_eq_true rfl)⟩) hS (fun q _ h => hFc q h) hFc (fun r1 uu tt H locs htt hvm hw hB hz1 hk1 hS => ?_)
  obtain ⟨w2, rfl⟩ : ∃ z, z = uu := ⟨_, rfl⟩
  obtain ⟨hP1, hK1, hD1⟩ := hB
  rw [htt] at hP1
  have hK1 := va_K.moved hvm.symm hK1
  have hP1 : va_P D vwCl [(h0, .inr (11, gP a i g (nI cd) (nI zs) (nI w2) en bd bp bq (nI bk) (nI pl) br)), (a 1, .inl (cm 1, 1400, .inl fT))] H := hP1
  obtain ⟨hP, hD⟩ := va_join (wr := []) (w1 := [(h0, .inr (11, gP a i g (nI cd) (nI zs) (nI w2) en bd bp bq (nI bk) (nI pl) br)), (a 1, .inl (cm 1, 1400, .inl fT))]) hP hD [0, 1] [] rfl rfl (by decide) (by decide) hk1 hFc hP1 hD1
  have hP : va_P D vwCl [(h0, .inr (11, gP a i g (nI cd) (nI zs) (nI w2) en bd bp bq (nI bk) (nI pl) br)), (a 1, .inl (cm 1, 1400, .inl fT))] H := hP
  have hD : va_D A [(h0, .inr (11, gP a i g (nI cd) (nI zs) (nI w2) en bd bp bq (nI bk) (nI pl) br)), (a 1, .inl (cm 1, 1400, .inl fT))] := hD
  try dsimp only at hw
  clear hz1 hk1 hFc hPc hKc hDc
  rcases hw with ⟨rfl, hA_r1⟩ | ⟨rfl, hA_r1⟩
  ·
    obtain ⟨hA_r1_1, hA_r1_2, hA_r1_e, hA_r1_s⟩ := hA_r1
    have hq3 : w2 = tkA bt zs ta := hA_r1_e
    have hq3_s := hA_r1_s
    refine lv_if_eq (tgt := 14) hx hb dX11_signHere_6 (by decide) (fun hc => absurd hc (by decide)) (fun hc => ?_)
    refine lv_bipush (v := 13) hx hb dX11_signHere_9 (by decide) ?_
    refine lv_goto (tgt := 71) hx hb dX11_signHere_11 (by decide) ?_
    exact W.iret (v := 13) hx hb hr (fun t ht hW => ⟨⟨13, (w2, 13), rfl, (by (try dsimp only); exact Or.inr ⟨rfl, by omega, by omega, by omega, hq3, hq3_s⟩), by rw [ht]; exact hP.sub [0, 1] rfl, va_K.moved hW.alike (hK.sub [0] rfl), hD.sub [0, 1] (by decide) rfl⟩, hS.F ht⟩) hS.2.2 dX11_signHere_71
  ·
    obtain ⟨hA_r1_1, hA_r1_2, hA_r1_e, hA_r1_s⟩ := hA_r1
    have hq4 : w2 = tkA bt zs ta := hA_r1_e
    have hq4_s := hA_r1_s
    refine lv_if_eq (tgt := 14) hx hb dX11_signHere_6 (by decide) (fun hc => ?_) (fun hc => absurd (by decide) hc)
    refine lv_aload_n hx hb dX11_signHere_14 rfl (lv_at hl 0 rfl) ?_
    refine lv_bipush (v := 45) hx hb dX11_signHere_15 (by decide) ?_
    have hPc := hP.sub (ws' := [(h0, .inr (11, gP a i g (nI cd) (nI zs) (nI w2) en bd bp bq (nI bk) (nI pl) br)), (a 1, .inl (cm 1, 1400, .inl fT))]) [0, 1] rfl
    have hKc := hK.sub (tys' := [(cm 1, .byte)]) [0] rfl
    have hDc := hD.sub (ws' := [(h0, .inr (11, gP a i g (nI cd) (nI zs) (nI w2) en bd bp bq (nI bk) (nI pl) br)), (a 1, .inl (cm 1, 1400, .inl fT))]) [0, 1] (by decide) rfl
    have hFc := va_free (wc := [(h0, .inr (11, gP a i g (nI cd) (nI zs) (nI w2) en bd bp bq (nI bk) (nI pl) br)), (a 1, .inl (cm 1, 1400, .inl fT))]) hD hS hA [0, 1] rfl
    refine va_calli (va_runV (As := [.int 45]) (rest := []) ⟨hx, hb, hml, hown, hts⟩ (c_isSign l D _ h0 a cm i g fT cd zs w2 en bd bp bq bk pl br 45 45 bt (by omega) (by omega) hbt rfl (by decide)) (cwV 1 hts g_c_signHere_c_isSign_317 rfl rfl rfl (by decide +kernel) ⟨(Nat.le_of_ble_eq_true rfl), (Nat.le_of_ble_eq_true rfl)⟩) (PcW_V (q0 := 0) hPc hKc hDc rfl rfl) rfl rfl hl.1 rfl (lv_room (Nat.le_of_ble_eq_true rfl)) dX11_signHere_17 ⟨(Nat.le_of_ble_eq_true rfl), (Nat.le_of_ble_eq_true rfl)⟩) hS (fun q _ h => hFc q h) hFc (fun r5 uu tt H locs htt hvm hw hB hz1 hk1 hS => ?_)
    obtain ⟨w6, rfl⟩ : ∃ z, z = uu := ⟨_, rfl⟩
    obtain ⟨hP1, hK1, hD1⟩ := hB
    rw [htt] at hP1
    have hK1 := va_K.moved hvm.symm hK1
    have hP1 : va_P D vwCl [(h0, .inr (11, gP a i g (nI cd) (nI zs) (nI w6) en bd bp bq (nI bk) (nI pl) br)), (a 1, .inl (cm 1, 1400, .inl fT))] H := hP1
    obtain ⟨hP, hD⟩ := va_join (wr := []) (w1 := [(h0, .inr (11, gP a i g (nI cd) (nI zs) (nI w6) en bd bp bq (nI bk) (nI pl) br)), (a 1, .inl (cm 1, 1400, .inl fT))]) hP hD [0, 1] [] rfl rfl (by decide) (by decide) hk1 hFc hP1 hD1
    have hP : va_P D vwCl [(h0, .inr (11, gP a i g (nI cd) (nI zs) (nI w6) en bd bp bq (nI bk) (nI pl) br)), (a 1, .inl (cm 1, 1400, .inl fT))] H := hP
    have hD : va_D A [(h0, .inr (11, gP a i g (nI cd) (nI zs) (nI w6) en bd bp bq (nI bk) (nI pl) br)), (a 1, .inl (cm 1, 1400, .inl fT))] := hD
    try dsimp only at hw
    clear hz1 hk1 hFc hPc hKc hDc
    rcases hw with ⟨rfl, hA_r5⟩ | ⟨rfl, hA_r5⟩
    ·
      obtain ⟨hA_r5_1, hA_r5_2, hA_r5_e, hA_r5_s⟩ := hA_r5
      have hq7 : w6 = tkA bt zs ta := hA_r5_e.trans (tkA_w hq4 hta)
      have hq7_s := hA_r5_s
      rw [SgP_at hq4 hta] at hq7_s
      refine lv_if_eq (tgt := 28) hx hb dX11_signHere_20 (by decide) (fun hc => absurd hc (by decide)) (fun hc => ?_)
      refine lv_bipush (v := 14) hx hb dX11_signHere_23 (by decide) ?_
      refine lv_goto (tgt := 71) hx hb dX11_signHere_25 (by decide) ?_
      exact W.iret (v := 14) hx hb hr (fun t ht hW => ⟨⟨14, (w6, 14), rfl, (by (try dsimp only); exact Or.inr ⟨rfl, by omega, by omega, by omega, hq7, hq7_s⟩), by rw [ht]; exact hP.sub [0, 1] rfl, va_K.moved hW.alike (hK.sub [0] rfl), hD.sub [0, 1] (by decide) rfl⟩, hS.F ht⟩) hS.2.2 dX11_signHere_71
    ·
      obtain ⟨hA_r5_1, hA_r5_2, hA_r5_e, hA_r5_s⟩ := hA_r5
      have hq8 : w6 = tkA bt zs ta := hA_r5_e.trans (tkA_w hq4 hta)
      have hq8_s := hA_r5_s
      rw [SgP_at hq4 hta] at hq8_s
      refine lv_if_eq (tgt := 28) hx hb dX11_signHere_20 (by decide) (fun hc => ?_) (fun hc => absurd (by decide) hc)
      refine lv_aload_n hx hb dX11_signHere_28 rfl (lv_at hl 0 rfl) ?_
      refine lv_bipush (v := 42) hx hb dX11_signHere_29 (by decide) ?_
      have hPc := hP.sub (ws' := [(h0, .inr (11, gP a i g (nI cd) (nI zs) (nI w6) en bd bp bq (nI bk) (nI pl) br)), (a 1, .inl (cm 1, 1400, .inl fT))]) [0, 1] rfl
      have hKc := hK.sub (tys' := [(cm 1, .byte)]) [0] rfl
      have hDc := hD.sub (ws' := [(h0, .inr (11, gP a i g (nI cd) (nI zs) (nI w6) en bd bp bq (nI bk) (nI pl) br)), (a 1, .inl (cm 1, 1400, .inl fT))]) [0, 1] (by decide) rfl
      have hFc := va_free (wc := [(h0, .inr (11, gP a i g (nI cd) (nI zs) (nI w6) en bd bp bq (nI bk) (nI pl) br)), (a 1, .inl (cm 1, 1400, .inl fT))]) hD hS hA [0, 1] rfl
      refine va_calli (va_runV (As := [.int 42]) (rest := []) ⟨hx, hb, hml, hown, hts⟩ (c_isSign l D _ h0 a cm i g fT cd zs w6 en bd bp bq bk pl br 42 42 bt (by omega) (by omega) hbt rfl (by decide)) (cwV 1 hts g_c_signHere_c_isSign_317 rfl rfl rfl (by decide +kernel) ⟨(Nat.le_of_ble_eq_true rfl), (Nat.le_of_ble_eq_true rfl)⟩) (PcW_V (q0 := 0) hPc hKc hDc rfl rfl) rfl rfl hl.1 rfl (lv_room (Nat.le_of_ble_eq_true rfl)) dX11_signHere_31 ⟨(Nat.le_of_ble_eq_true rfl), (Nat.le_of_ble_eq_true rfl)⟩) hS (fun q _ h => hFc q h) hFc (fun r9 uu tt H locs htt hvm hw hB hz1 hk1 hS => ?_)
      obtain ⟨w10, rfl⟩ : ∃ z, z = uu := ⟨_, rfl⟩
      obtain ⟨hP1, hK1, hD1⟩ := hB
      rw [htt] at hP1
      have hK1 := va_K.moved hvm.symm hK1
      have hP1 : va_P D vwCl [(h0, .inr (11, gP a i g (nI cd) (nI zs) (nI w10) en bd bp bq (nI bk) (nI pl) br)), (a 1, .inl (cm 1, 1400, .inl fT))] H := hP1
      obtain ⟨hP, hD⟩ := va_join (wr := []) (w1 := [(h0, .inr (11, gP a i g (nI cd) (nI zs) (nI w10) en bd bp bq (nI bk) (nI pl) br)), (a 1, .inl (cm 1, 1400, .inl fT))]) hP hD [0, 1] [] rfl rfl (by decide) (by decide) hk1 hFc hP1 hD1
      have hP : va_P D vwCl [(h0, .inr (11, gP a i g (nI cd) (nI zs) (nI w10) en bd bp bq (nI bk) (nI pl) br)), (a 1, .inl (cm 1, 1400, .inl fT))] H := hP
      have hD : va_D A [(h0, .inr (11, gP a i g (nI cd) (nI zs) (nI w10) en bd bp bq (nI bk) (nI pl) br)), (a 1, .inl (cm 1, 1400, .inl fT))] := hD
      try dsimp only at hw
      clear hz1 hk1 hFc hPc hKc hDc
      rcases hw with ⟨rfl, hA_r9⟩ | ⟨rfl, hA_r9⟩
      ·
        obtain ⟨hA_r9_1, hA_r9_2, hA_r9_e, hA_r9_s⟩ := hA_r9
        have hq11 : w10 = tkA bt zs ta := hA_r9_e.trans (tkA_w hq8 hta)
        have hq11_s := hA_r9_s
        rw [SgP_at hq8 hta] at hq11_s
        refine lv_if_eq (tgt := 42) hx hb dX11_signHere_34 (by decide) (fun hc => absurd hc (by decide)) (fun hc => ?_)
        refine lv_bipush (v := 15) hx hb dX11_signHere_37 (by decide) ?_
        refine lv_goto (tgt := 71) hx hb dX11_signHere_39 (by decide) ?_
        exact W.iret (v := 15) hx hb hr (fun t ht hW => ⟨⟨15, (w10, 15), rfl, (by (try dsimp only); exact Or.inr ⟨rfl, by omega, by omega, by omega, hq11, hq11_s⟩), by rw [ht]; exact hP.sub [0, 1] rfl, va_K.moved hW.alike (hK.sub [0] rfl), hD.sub [0, 1] (by decide) rfl⟩, hS.F ht⟩) hS.2.2 dX11_signHere_71
      ·
        obtain ⟨hA_r9_1, hA_r9_2, hA_r9_e, hA_r9_s⟩ := hA_r9
        have hq12 : w10 = tkA bt zs ta := hA_r9_e.trans (tkA_w hq8 hta)
        have hq12_s := hA_r9_s
        rw [SgP_at hq8 hta] at hq12_s
        refine lv_if_eq (tgt := 42) hx hb dX11_signHere_34 (by decide) (fun hc => ?_) (fun hc => absurd (by decide) hc)
        refine lv_aload_n hx hb dX11_signHere_42 rfl (lv_at hl 0 rfl) ?_
        refine lv_bipush (v := 47) hx hb dX11_signHere_43 (by decide) ?_
        have hPc := hP.sub (ws' := [(h0, .inr (11, gP a i g (nI cd) (nI zs) (nI w10) en bd bp bq (nI bk) (nI pl) br)), (a 1, .inl (cm 1, 1400, .inl fT))]) [0, 1] rfl
        have hKc := hK.sub (tys' := [(cm 1, .byte)]) [0] rfl
        have hDc := hD.sub (ws' := [(h0, .inr (11, gP a i g (nI cd) (nI zs) (nI w10) en bd bp bq (nI bk) (nI pl) br)), (a 1, .inl (cm 1, 1400, .inl fT))]) [0, 1] (by decide) rfl
        have hFc := va_free (wc := [(h0, .inr (11, gP a i g (nI cd) (nI zs) (nI w10) en bd bp bq (nI bk) (nI pl) br)), (a 1, .inl (cm 1, 1400, .inl fT))]) hD hS hA [0, 1] rfl
        refine va_calli (va_runV (As := [.int 47]) (rest := []) ⟨hx, hb, hml, hown, hts⟩ (c_isSign l D _ h0 a cm i g fT cd zs w10 en bd bp bq bk pl br 47 47 bt (by omega) (by omega) hbt rfl (by decide)) (cwV 1 hts g_c_signHere_c_isSign_317 rfl rfl rfl (by decide +kernel) ⟨(Nat.le_of_ble_eq_true rfl), (Nat.le_of_ble_eq_true rfl)⟩) (PcW_V (q0 := 0) hPc hKc hDc rfl rfl) rfl rfl hl.1 rfl (lv_room (Nat.le_of_ble_eq_true rfl)) dX11_signHere_45 ⟨(Nat.le_of_ble_eq_true rfl), (Nat.le_of_ble_eq_true rfl)⟩) hS (fun q _ h => hFc q h) hFc (fun r13 uu tt H locs htt hvm hw hB hz1 hk1 hS => ?_)
        obtain ⟨w14, rfl⟩ : ∃ z, z = uu := ⟨_, rfl⟩
        obtain ⟨hP1, hK1, hD1⟩ := hB
        rw [htt] at hP1
        have hK1 := va_K.moved hvm.symm hK1
        have hP1 : va_P D vwCl [(h0, .inr (11, gP a i g (nI cd) (nI zs) (nI w14) en bd bp bq (nI bk) (nI pl) br)), (a 1, .inl (cm 1, 1400, .inl fT))] H := hP1
        obtain ⟨hP, hD⟩ := va_join (wr := []) (w1 := [(h0, .inr (11, gP a i g (nI cd) (nI zs) (nI w14) en bd bp bq (nI bk) (nI pl) br)), (a 1, .inl (cm 1, 1400, .inl fT))]) hP hD [0, 1] [] rfl rfl (by decide) (by decide) hk1 hFc hP1 hD1
        have hP : va_P D vwCl [(h0, .inr (11, gP a i g (nI cd) (nI zs) (nI w14) en bd bp bq (nI bk) (nI pl) br)), (a 1, .inl (cm 1, 1400, .inl fT))] H := hP
        have hD : va_D A [(h0, .inr (11, gP a i g (nI cd) (nI zs) (nI w14) en bd bp bq (nI bk) (nI pl) br)), (a 1, .inl (cm 1, 1400, .inl fT))] := hD
        try dsimp only at hw
        clear hz1 hk1 hFc hPc hKc hDc
        rcases hw with ⟨rfl, hA_r13⟩ | ⟨rfl, hA_r13⟩
        ·
          obtain ⟨hA_r13_1, hA_r13_2, hA_r13_e, hA_r13_s⟩ := hA_r13
          have hq15 : w14 = tkA bt zs ta := hA_r13_e.trans (tkA_w hq12 hta)
          have hq15_s := hA_r13_s
          rw [SgP_at hq12 hta] at hq15_s
          refine lv_if_eq (tgt := 56) hx hb dX11_signHere_48 (by decide) (fun hc => absurd hc (by decide)) (fun hc => ?_)
          refine lv_bipush (v := 16) hx hb dX11_signHere_51 (by decide) ?_
          refine lv_goto (tgt := 71) hx hb dX11_signHere_53 (by decide) ?_
          exact W.iret (v := 16) hx hb hr (fun t ht hW => ⟨⟨16, (w14, 16), rfl, (by (try dsimp only); exact Or.inr ⟨rfl, by omega, by omega, by omega, hq15, hq15_s⟩), by rw [ht]; exact hP.sub [0, 1] rfl, va_K.moved hW.alike (hK.sub [0] rfl), hD.sub [0, 1] (by decide) rfl⟩, hS.F ht⟩) hS.2.2 dX11_signHere_71
        ·
          obtain ⟨hA_r13_1, hA_r13_2, hA_r13_e, hA_r13_s⟩ := hA_r13
          have hq16 : w14 = tkA bt zs ta := hA_r13_e.trans (tkA_w hq12 hta)
          have hq16_s := hA_r13_s
          rw [SgP_at hq12 hta] at hq16_s
          refine lv_if_eq (tgt := 56) hx hb dX11_signHere_48 (by decide) (fun hc => ?_) (fun hc => absurd (by decide) hc)
          refine lv_aload_n hx hb dX11_signHere_56 rfl (lv_at hl 0 rfl) ?_
          refine lv_bipush (v := 37) hx hb dX11_signHere_57 (by decide) ?_
          have hPc := hP.sub (ws' := [(h0, .inr (11, gP a i g (nI cd) (nI zs) (nI w14) en bd bp bq (nI bk) (nI pl) br)), (a 1, .inl (cm 1, 1400, .inl fT))]) [0, 1] rfl
          have hKc := hK.sub (tys' := [(cm 1, .byte)]) [0] rfl
          have hDc := hD.sub (ws' := [(h0, .inr (11, gP a i g (nI cd) (nI zs) (nI w14) en bd bp bq (nI bk) (nI pl) br)), (a 1, .inl (cm 1, 1400, .inl fT))]) [0, 1] (by decide) rfl
          have hFc := va_free (wc := [(h0, .inr (11, gP a i g (nI cd) (nI zs) (nI w14) en bd bp bq (nI bk) (nI pl) br)), (a 1, .inl (cm 1, 1400, .inl fT))]) hD hS hA [0, 1] rfl
          refine va_calli (va_runV (As := [.int 37]) (rest := []) ⟨hx, hb, hml, hown, hts⟩ (c_isSign l D _ h0 a cm i g fT cd zs w14 en bd bp bq bk pl br 37 37 bt (by omega) (by omega) hbt rfl (by decide)) (cwV 1 hts g_c_signHere_c_isSign_317 rfl rfl rfl (by decide +kernel) ⟨(Nat.le_of_ble_eq_true rfl), (Nat.le_of_ble_eq_true rfl)⟩) (PcW_V (q0 := 0) hPc hKc hDc rfl rfl) rfl rfl hl.1 rfl (lv_room (Nat.le_of_ble_eq_true rfl)) dX11_signHere_59 ⟨(Nat.le_of_ble_eq_true rfl), (Nat.le_of_ble_eq_true rfl)⟩) hS (fun q _ h => hFc q h) hFc (fun r17 uu tt H locs htt hvm hw hB hz1 hk1 hS => ?_)
          obtain ⟨w18, rfl⟩ : ∃ z, z = uu := ⟨_, rfl⟩
          obtain ⟨hP1, hK1, hD1⟩ := hB
          rw [htt] at hP1
          have hK1 := va_K.moved hvm.symm hK1
          have hP1 : va_P D vwCl [(h0, .inr (11, gP a i g (nI cd) (nI zs) (nI w18) en bd bp bq (nI bk) (nI pl) br)), (a 1, .inl (cm 1, 1400, .inl fT))] H := hP1
          obtain ⟨hP, hD⟩ := va_join (wr := []) (w1 := [(h0, .inr (11, gP a i g (nI cd) (nI zs) (nI w18) en bd bp bq (nI bk) (nI pl) br)), (a 1, .inl (cm 1, 1400, .inl fT))]) hP hD [0, 1] [] rfl rfl (by decide) (by decide) hk1 hFc hP1 hD1
          have hP : va_P D vwCl [(h0, .inr (11, gP a i g (nI cd) (nI zs) (nI w18) en bd bp bq (nI bk) (nI pl) br)), (a 1, .inl (cm 1, 1400, .inl fT))] H := hP
          have hD : va_D A [(h0, .inr (11, gP a i g (nI cd) (nI zs) (nI w18) en bd bp bq (nI bk) (nI pl) br)), (a 1, .inl (cm 1, 1400, .inl fT))] := hD
          try dsimp only at hw
          clear hz1 hk1 hFc hPc hKc hDc
          rcases hw with ⟨rfl, hA_r17⟩ | ⟨rfl, hA_r17⟩
          ·
            obtain ⟨hA_r17_1, hA_r17_2, hA_r17_e, hA_r17_s⟩ := hA_r17
            have hq19 : w18 = tkA bt zs ta := hA_r17_e.trans (tkA_w hq16 hta)
            have hq19_s := hA_r17_s
            rw [SgP_at hq16 hta] at hq19_s
            refine lv_if_eq (tgt := 70) hx hb dX11_signHere_62 (by decide) (fun hc => absurd hc (by decide)) (fun hc => ?_)
            refine lv_bipush (v := 17) hx hb dX11_signHere_65 (by decide) ?_
            refine lv_goto (tgt := 71) hx hb dX11_signHere_67 (by decide) ?_
            exact W.iret (v := 17) hx hb hr (fun t ht hW => ⟨⟨17, (w18, 17), rfl, (by (try dsimp only); exact Or.inr ⟨rfl, by omega, by omega, by omega, hq19, hq19_s⟩), by rw [ht]; exact hP.sub [0, 1] rfl, va_K.moved hW.alike (hK.sub [0] rfl), hD.sub [0, 1] (by decide) rfl⟩, hS.F ht⟩) hS.2.2 dX11_signHere_71
          ·
            obtain ⟨hA_r17_1, hA_r17_2, hA_r17_e, hA_r17_s⟩ := hA_r17
            have hq20 : w18 = tkA bt zs ta := hA_r17_e.trans (tkA_w hq16 hta)
            have hq20_s := hA_r17_s
            rw [SgP_at hq16 hta] at hq20_s
            refine lv_if_eq (tgt := 70) hx hb dX11_signHere_62 (by decide) (fun hc => ?_) (fun hc => absurd (by decide) hc)
            refine lv_iconst (v := (-1)) hx hb dX11_signHere_70 (by decide) ?_
            exact W.iret (v := (-1)) hx hb hr (fun t ht hW => ⟨⟨(-1), (w18, 0), rfl, (by (try dsimp only); exact Or.inl ⟨rfl, by omega, by omega, hq20, hq4_s, hq8_s, hq12_s, hq16_s, hq20_s⟩), by rw [ht]; exact hP.sub [0, 1] rfl, va_K.moved hW.alike (hK.sub [0] rfl), hD.sub [0, 1] (by decide) rfl⟩, hS.F ht⟩) hS.2.2 dX11_signHere_71

def own_c_closesBracket : List Cond := [.methodLink RX11 363 yX11_needsSign, .instanceMethod yX11_needsSign, .selects RX11 yX11_needsSign yX11_needsSign, .initialized RX11, .methodLink RX11 313 yX11_isFine, .instanceMethod yX11_isFine, .selects RX11 yX11_isFine yX11_isFine, .fieldLink RX11 341 "ClashFreeModel" "piled" "I", .fieldLink RX11 338 "ClashFreeModel" "brackets" "I"]
def wp_c_closesBracket : List Cond := .code yX11_closesBracket cX11_closesBracket 1 none :: (own_c_closesBracket ++ (wp_c_needsSign ++ (wp_c_isFine ++ (wsX110 ++ ([] : List Cond)))))
set_option maxRecDepth 20000 in
theorem inown_c_closesBracket : ∀ w ∈ own_c_closesBracket, w ∈ lw_tbl := mem_places [1689, 1691, 79, 115, 1669, 1671, 74, 1246, 1247] (by decide +kernel)
set_option maxRecDepth 20000 in
theorem in_c_closesBracket : ∀ w ∈ wp_c_closesBracket, w ∈ lw_tbl := List.forall_mem_cons.mpr ⟨List.mem_of_getElem? (i := 1741) (by decide +kernel), List.forall_mem_append.mpr ⟨inown_c_closesBracket, List.forall_mem_append.mpr ⟨in_c_needsSign, List.forall_mem_append.mpr ⟨in_c_isFine, List.forall_mem_append.mpr ⟨lwb_X11, fun _ h => absurd h List.not_mem_nil⟩⟩⟩⟩⟩
set_option maxRecDepth 20000 in
theorem good_c_closesBracket : wp_c_closesBracket.all goodWord = true := by decide +kernel
set_option maxRecDepth 20000 in
theorem g_c_closesBracket_c_needsSign_363 : GoodIn wp_c_closesBracket (wsV RX11 363 RX11 yX11_needsSign wp_c_needsSign) := goodIn_sub (List.forall_mem_append.mpr ⟨List.forall_mem_cons.mpr ⟨(List.mem_of_getElem? (i := 1) rfl), List.forall_mem_cons.mpr ⟨(List.mem_of_getElem? (i := 2) rfl), List.forall_mem_cons.mpr ⟨(List.mem_of_getElem? (i := 3) rfl), List.forall_mem_cons.mpr ⟨(List.mem_of_getElem? (i := 4) rfl), fun _ h => absurd h List.not_mem_nil⟩⟩⟩⟩, (fun _ h => (List.mem_cons_of_mem _ (List.mem_append_right _ (List.mem_append_left _ h))))⟩) (by decide +kernel)
set_option maxRecDepth 20000 in
theorem g_c_closesBracket_c_isFine_313 : GoodIn wp_c_closesBracket (wsV RX11 313 RX11 yX11_isFine wp_c_isFine) := goodIn_sub (List.forall_mem_append.mpr ⟨List.forall_mem_cons.mpr ⟨(List.mem_of_getElem? (i := 5) rfl), List.forall_mem_cons.mpr ⟨(List.mem_of_getElem? (i := 6) rfl), List.forall_mem_cons.mpr ⟨(List.mem_of_getElem? (i := 7) rfl), List.forall_mem_cons.mpr ⟨(List.mem_of_getElem? (i := 4) rfl), fun _ h => absurd h List.not_mem_nil⟩⟩⟩⟩, (fun _ h => (List.mem_cons_of_mem _ (List.mem_append_right _ (List.mem_append_right _ (List.mem_append_left _ h)))))⟩) (by decide +kernel)
set_option maxHeartbeats 4000000 in
set_option maxRecDepth 100000 in
theorem c_closesBracket (l : Launch) (D : va_G) (sz : Nat) (h0 : Nat) (a : Nat → Nat) (cm : Nat → ClassId) (i : Nat → Int32) (g : Nat → Int64) (fT : Nat → Int32) (cd : Nat) (zs : Nat) (ta : Nat) (en : Int32) (bd : Int32) (bp : Int32) (bq : Int32) (bk : Nat) (pl : Nat) (br : Int32) (bt : Nat → Nat) (hzs : zs ≤ 1400) (hta : ta ≤ zs) (hp1 : 1 ≤ pl) (hp2 : pl ≤ 700) (hbt : TieB fT bt) : Met l yX11_closesBracket wp_c_closesBracket ({ frames := 3, cells := 0, slots := 0, locals := 63 }) (PcW D [.ref h0] sz [(h0, .inr (11, gP a i g (nI cd) (nI zs) (nI ta) en bd bp bq (nI bk) (nI pl) br)), (a 1, .inl (cm 1, 1400, .inl fT))] [(cm 1, .byte)]) (va_Qv (fun (u : (Nat) × (Int32) × (Int32) × (Int32) × (Nat) × (Int32)) => ta ≤ u.1 ∧ u.1 ≤ zs ∧ u.2.2.2.2.1 ≤ pl ∧ (u.2.1 = 0 → bd = 0 ∧ ta + 1 ≤ u.1 ∧ u.2.2.2.2.1 + 1 = pl) ∧ (u.2.1 = 0 → u.1 = tkA bt zs ta + 1 ∧ SgP bt zs ta 41 ∧ u.2.2.2.2.2 = br - 1) ∧ (bd = 0 → ¬ u.2.1 = 0 → ¬ SgP bt zs ta 41)) (fun (u : (Nat) × (Int32) × (Int32) × (Int32) × (Nat) × (Int32)) t => va_P D vwCl [(h0, .inr (11, gP a i g (nI cd) (nI zs) (nI u.1) en u.2.1 u.2.2.1 u.2.2.2.1 (nI bk) (nI u.2.2.2.2.1) u.2.2.2.2.2)), (a 1, .inl (cm 1, 1400, .inl fT))] t.heap ∧ va_K D vwCl [(cm 1, .byte)] t ∧ va_D (va_A [(h0, .inr (11, gP a i g (nI cd) (nI zs) (nI ta) en bd bp bq (nI bk) (nI pl) br)), (a 1, .inl (cm 1, 1400, .inl fT))] sz) [(h0, .inr (11, gP a i g (nI cd) (nI zs) (nI u.1) en u.2.1 u.2.2.1 u.2.2.2.1 (nI bk) (nI u.2.2.2.2.1) u.2.2.2.2.2)), (a 1, .inl (cm 1, 1400, .inl fT))]) (va_A [(h0, .inr (11, gP a i g (nI cd) (nI zs) (nI ta) en bd bp bq (nI bk) (nI pl) br)), (a 1, .inl (cm 1, 1400, .inl fT))] sz)) 0 0 (va_A [(h0, .inr (11, gP a i g (nI cd) (nI zs) (nI ta) en bd bp bq (nI bk) (nI pl) br)), (a 1, .inl (cm 1, 1400, .inl fT))] sz) := by
  refine Met.ofW (cc := cX11_closesBracket) (maxL := 1) (ret := none) (by decide) rfl ?_
  intro p e s m args below meth c s₁ B hml hv
  obtain ⟨rfl, hsz, hP, hK, hD0⟩ := hv
  have hx := B.exec
  have hb := B.bytes
  have hr := B.returns
  have hts := atoms_spec (ws := wp_c_closesBracket) B.pre
  have hin_X11 : ∀ w ∈ wsX110, w ∈ wp_c_closesBracket := fun _ h => (List.mem_cons_of_mem _ (List.mem_append_right _ (List.mem_append_right _ (List.mem_append_right _ (List.mem_append_left _ h)))))
  have hown : s.vm.findClass RX11 = some m.cls := findClass_of_methodNamed B.named
  have hlocks := B.notSynchronized
  subst hsz
  have hD := hD0.self (sz := s.heap.size)
  generalize hAe : va_A [(h0, .inr (11, gP a i g (nI cd) (nI zs) (nI ta) en bd bp bq (nI bk) (nI pl) br)), (a 1, .inl (cm 1, 1400, .inl fT))] s.heap.size = A at hD ⊢
  have hA : ∀ q : Nat, s.heap.size ≤ q → A q := fun q h => by rw [← hAe]; exact Or.inr h
  have hS : va_S A s.heap s.heap [] := va_S.rf
  have hP : va_P D vwCl [(h0, .inr (11, gP a i g (nI cd) (nI zs) (nI ta) en bd bp bq (nI bk) (nI pl) br)), (a 1, .inl (cm 1, 1400, .inl fT))] s.heap := hP
  have hl := lv_entry ([.ref h0]) (n := 1) (Nat.le_of_ble_eq_true rfl)
  rw [lg_entry_eq]
  generalize (lg_sl ([.ref h0]) ++ List.replicate (1 - (lg_sl ([.ref h0])).length) Slot.unset).toArray = ls at hl ⊢
  have hl : lv_has ls 1 [(0, .ref h0)] := hl
  refine lv_aload_n hx hb dX11_closesBracket_0 rfl (lv_at hl 0 rfl) ?_
  refine lv_bipush (v := 41) hx hb dX11_closesBracket_1 (by decide) ?_
  have hPc := hP.sub (ws' := [(h0, .inr (11, gP a i g (nI cd) (nI zs) (nI ta) en bd bp bq (nI bk) (nI pl) br)), (a 1, .inl (cm 1, 1400, .inl fT))]) [0, 1] rfl
  have hKc := hK.sub (tys' := [(cm 1, .byte)]) [0] rfl
  have hDc := hD.sub (ws' := [(h0, .inr (11, gP a i g (nI cd) (nI zs) (nI ta) en bd bp bq (nI bk) (nI pl) br)), (a 1, .inl (cm 1, 1400, .inl fT))]) [0, 1] (by decide) rfl
  have hFc := va_free (wc := [(h0, .inr (11, gP a i g (nI cd) (nI zs) (nI ta) en bd bp bq (nI bk) (nI pl) br)), (a 1, .inl (cm 1, 1400, .inl fT))]) hD hS hA [0, 1] rfl
  refine va_callv (va_runV (As := [.int 41]) (rest := []) ⟨hx, hb, hml, hown, hts⟩ (c_needsSign l D _ h0 a cm i g fT cd zs ta en bd bp bq bk pl br 41 41 bt (by omega) (by omega) hbt rfl (by decide)) (cwV 1 hts g_c_closesBracket_c_needsSign_363 rfl rfl rfl (by decide +kernel) ⟨(Nat.le_of_ble_eq_true rfl), (Nat.le_of_ble_eq_true rfl)⟩) (PcW_V (q0 := 0) hPc hKc hDc rfl rfl) rfl rfl hl.1 rfl (lv_room (Nat.le_of_ble_eq_true rfl)) dX11_closesBracket_3 ⟨(Nat.le_of_ble_eq_true rfl), (Nat.le_of_ble_eq_true rfl)⟩) hS (fun q _ h => hFc q h) hFc (fun uu tt H locs htt hvm hw hB hz1 hk1 hS => ?_)
  obtain ⟨w2, w3, w4, w5⟩ := uu
  obtain ⟨hP1, hK1, hD1⟩ := hB
  rw [htt] at hP1
  have hK1 := va_K.moved hvm.symm hK1
  have hP1 : va_P D vwCl [(h0, .inr (11, gP a i g (nI cd) (nI zs) (nI w2) en w3 w4 w5 (nI bk) (nI pl) br)), (a 1, .inl (cm 1, 1400, .inl fT))] H := hP1
  obtain ⟨hP, hD⟩ := va_join (wr := []) (w1 := [(h0, .inr (11, gP a i g (nI cd) (nI zs) (nI w2) en w3 w4 w5 (nI bk) (nI pl) br)), (a 1, .inl (cm 1, 1400, .inl fT))]) hP hD [0, 1] [] rfl rfl (by decide) (by decide) hk1 hFc hP1 hD1
  have hP : va_P D vwCl [(h0, .inr (11, gP a i g (nI cd) (nI zs) (nI w2) en w3 w4 w5 (nI bk) (nI pl) br)), (a 1, .inl (cm 1, 1400, .inl fT))] H := hP
  have hD : va_D A [(h0, .inr (11, gP a i g (nI cd) (nI zs) (nI w2) en w3 w4 w5 (nI bk) (nI pl) br)), (a 1, .inl (cm 1, 1400, .inl fT))] := hD
  try dsimp only at hw
  clear hz1 hk1 hFc hPc hKc hDc
  obtain ⟨hb6_1, hb6_2, hb6_b, hb6_s, hb6_n⟩ := hw
  refine lv_aload_n hx hb dX11_closesBracket_6 rfl (lv_at hl 0 rfl) ?_
  have hPc := hP.sub (ws' := [(h0, .inr (11, gP a i g (nI cd) (nI zs) (nI w2) en w3 w4 w5 (nI bk) (nI pl) br))]) [0] rfl
  have hKc := hK.sub (tys' := []) [] rfl
  have hFc := va_free0 hS hA
  refine va_calli (va_runV (As := []) (rest := []) ⟨hx, hb, hml, hown, hts⟩ (c_isFine l D _ h0 a cm i g cd zs w2 en w3 w4 w5 bk pl br) (cwV 0 hts g_c_closesBracket_c_isFine_313 rfl rfl rfl (by decide +kernel) ⟨(Nat.le_of_ble_eq_true rfl), (Nat.le_of_ble_eq_true rfl)⟩) (PcR_V (q0 := 0) hPc hKc rfl rfl) rfl rfl hl.1 rfl (lv_room (Nat.le_of_ble_eq_true rfl)) dX11_closesBracket_7 ⟨(Nat.le_of_ble_eq_true rfl), (Nat.le_of_ble_eq_true rfl)⟩) hS (fun q _ h => hFc q h) hFc (fun r7 uu tt H locs htt hvm hw hB hz1 hk1 hS => ?_)
  have hP := va_keep hP hk1
  try dsimp only at hw
  clear hB hz1 hk1 hFc hPc hKc
  rcases hw with ⟨rfl, hA_r7⟩ | ⟨rfl, hA_r7⟩
  ·
    refine lv_if_ne (tgt := 14) hx hb dX11_closesBracket_10 (by decide) (fun hc => ?_) (fun hc => absurd hc (by decide))
    refine lv_aload_n hx hb dX11_closesBracket_14 rfl (lv_at hl 0 rfl) ?_
    refine lv_dup hx hb dX11_closesBracket_15 rfl ?_
    refine va_get (D := D) (ci := 11) (v := .int (nI pl)) (C := RX11) (T := TX11) (N := 47) hx hb hts hin_X11 hown hK hP 0 rfl rfl 30 (by decide) (hts (.fieldLink RX11 341 "ClashFreeModel" "piled" "I") (List.mem_of_getElem? (i := 8) rfl)) (fun _ h9 => h9) rfl dX11_closesBracket_16 ?_
    refine lv_iconst (v := 1) hx hb dX11_closesBracket_19 (by decide) ?_
    refine lv_isub hx hb dX11_closesBracket_20 ?_
    refine lv_topi (fun v8 ev8 => ?_)
    obtain rfl : v8 = nI (pl - 1) := ev8.trans (pk_sub (b := 1) (by omega))
    refine va_put (D := D) (ci := 11) (v := .int (nI (pl - 1))) (ty := .int) (C := RX11) (T := TX11) (N := 47) hx hb hts hin_X11 tyX11 tyX11_ok nmX11 hown hK hP hD hS 0 rfl rfl 30 (by decide) (hts (.fieldLink RX11 341 "ClashFreeModel" "piled" "I") (List.mem_of_getElem? (i := 8) rfl)) (fun _ h9 => h9) rfl (by decide +kernel) rfl rfl (Nat.le_of_ble_eq_true rfl) dX11_closesBracket_21 (fun H locs hP hD hS => ?_)
    have hP : va_P D vwCl [(h0, .inr (11, gP a i g (nI cd) (nI zs) (nI w2) en w3 w4 w5 (nI bk) (nI (pl - 1)) br)), (a 1, .inl (cm 1, 1400, .inl fT))] H := hP
    have hD : va_D A [(h0, .inr (11, gP a i g (nI cd) (nI zs) (nI w2) en w3 w4 w5 (nI bk) (nI (pl - 1)) br)), (a 1, .inl (cm 1, 1400, .inl fT))] := hD
    refine lv_aload_n hx hb dX11_closesBracket_24 rfl (lv_at hl 0 rfl) ?_
    refine lv_dup hx hb dX11_closesBracket_25 rfl ?_
    refine va_get (D := D) (ci := 11) (v := .int br) (C := RX11) (T := TX11) (N := 47) hx hb hts hin_X11 hown hK hP 0 rfl rfl 31 (by decide) (hts (.fieldLink RX11 338 "ClashFreeModel" "brackets" "I") (List.mem_of_getElem? (i := 9) rfl)) (fun _ h9 => h9) rfl dX11_closesBracket_26 ?_
    refine lv_iconst (v := 1) hx hb dX11_closesBracket_29 (by decide) ?_
    refine lv_isub hx hb dX11_closesBracket_30 ?_
    refine lv_topi (fun v9 ev9 => ?_)
    obtain rfl : v9 = br - 1 := ev9.trans (rfl)
    refine va_put (D := D) (ci := 11) (v := .int (br - 1)) (ty := .int) (C := RX11) (T := TX11) (N := 47) hx hb hts hin_X11 tyX11 tyX11_ok nmX11 hown hK hP hD hS 0 rfl rfl 31 (by decide) (hts (.fieldLink RX11 338 "ClashFreeModel" "brackets" "I") (List.mem_of_getElem? (i := 9) rfl)) (fun _ h9 => h9) rfl (by decide +kernel) rfl rfl (Nat.le_of_ble_eq_true rfl) dX11_closesBracket_31 (fun H locs hP hD hS => ?_)
    have hP : va_P D vwCl [(h0, .inr (11, gP a i g (nI cd) (nI zs) (nI w2) en w3 w4 w5 (nI bk) (nI (pl - 1)) (br - 1))), (a 1, .inl (cm 1, 1400, .inl fT))] H := hP
    have hD : va_D A [(h0, .inr (11, gP a i g (nI cd) (nI zs) (nI w2) en w3 w4 w5 (nI bk) (nI (pl - 1)) (br - 1))), (a 1, .inl (cm 1, 1400, .inl fT))] := hD
    exact W.vret hx hb hr (fun t ht hW => ⟨⟨(w2, w3, w4, w5, (pl - 1), (br - 1)), rfl, (by (try dsimp only); exact ⟨by omega, by omega, by omega, fun z => ⟨(hb6_b z).1, by have := (hb6_b z).2; omega, by omega⟩, fun z => ⟨(hb6_s z).1, (hb6_s z).2, rfl⟩, fun _ z => absurd hA_r7 z⟩), by rw [ht]; exact hP.sub [0, 1] rfl, va_K.moved hW.alike (hK.sub [0] rfl), hD.sub [0, 1] (by decide) rfl⟩, hS.F ht⟩) hS.2.2 dX11_closesBracket_34
  ·
    refine lv_if_ne (tgt := 14) hx hb dX11_closesBracket_10 (by decide) (fun hc => absurd (by decide) hc) (fun hc => ?_)
    exact W.vret hx hb hr (fun t ht hW => ⟨⟨(w2, w3, w4, w5, pl, br), rfl, (by (try dsimp only); exact ⟨by omega, by omega, by omega, fun z => absurd z hA_r7, fun z => absurd z hA_r7, hb6_n⟩), by rw [ht]; exact hP.sub [0, 1] rfl, va_K.moved hW.alike (hK.sub [0] rfl), hD.sub [0, 1] (by decide) rfl⟩, hS.F ht⟩) hS.2.2 dX11_closesBracket_13

