theorem sw37 {x : Int32} (h0 : ¬ x = 0) (h1 : ¬ x = 1) (h2 : ¬ x = 2) (h3 : ¬ x = 3) (h4 : ¬ x = 4) (h5 : ¬ x = 5) (h6 : ¬ x = 6) (h7 : ¬ x = 7) (h8 : ¬ x = 8) (h9 : ¬ x = 9) (h10 : ¬ x = 10) (h11 : ¬ x = 11) (h12 : ¬ x = 12) (h13 : ¬ x = 13) (h14 : ¬ x = 14) (h15 : ¬ x = 15) (h16 : ¬ x = 16) (h17 : ¬ x = 17) (h18 : ¬ x = 18) (h19 : ¬ x = 19) (h20 : ¬ x = 20) (h21 : ¬ x = 21) (h22 : ¬ x = 22) (h23 : ¬ x = 23) (h24 : ¬ x = 24) (h25 : ¬ x = 25) (h26 : ¬ x = 26) (h27 : ¬ x = 27) (h28 : ¬ x = 28) (h29 : ¬ x = 29) (h30 : ¬ x = 30) (h31 : ¬ x = 31) (h32 : ¬ x = 32) (h33 : ¬ x = 33) (h34 : ¬ x = 34) (h35 : ¬ x = 35) (h36 : ¬ x = 36) : x.toInt < 0 ∨ 36 < x.toInt := by
  have a0 := sw_ne (n := 0) h0 (by decide) (by decide)
  have a1 := sw_ne (n := 1) h1 (by decide) (by decide)
  have a2 := sw_ne (n := 2) h2 (by decide) (by decide)
  have a3 := sw_ne (n := 3) h3 (by decide) (by decide)
  have a4 := sw_ne (n := 4) h4 (by decide) (by decide)
  have a5 := sw_ne (n := 5) h5 (by decide) (by decide)
  have a6 := sw_ne (n := 6) h6 (by decide) (by decide)
  have a7 := sw_ne (n := 7) h7 (by decide) (by decide)
  have a8 := sw_ne (n := 8) h8 (by decide) (by decide)
  have a9 := sw_ne (n := 9) h9 (by decide) (by decide)
  have a10 := sw_ne (n := 10) h10 (by decide) (by decide)
  have a11 := sw_ne (n := 11) h11 (by decide) (by decide)
  have a12 := sw_ne (n := 12) h12 (by decide) (by decide)
  have a13 := sw_ne (n := 13) h13 (by decide) (by decide)
  have a14 := sw_ne (n := 14) h14 (by decide) (by decide)
  have a15 := sw_ne (n := 15) h15 (by decide) (by decide)
  have a16 := sw_ne (n := 16) h16 (by decide) (by decide)
  have a17 := sw_ne (n := 17) h17 (by decide) (by decide)
  have a18 := sw_ne (n := 18) h18 (by decide) (by decide)
  have a19 := sw_ne (n := 19) h19 (by decide) (by decide)
  have a20 := sw_ne (n := 20) h20 (by decide) (by decide)
  have a21 := sw_ne (n := 21) h21 (by decide) (by decide)
  have a22 := sw_ne (n := 22) h22 (by decide) (by decide)
  have a23 := sw_ne (n := 23) h23 (by decide) (by decide)
  have a24 := sw_ne (n := 24) h24 (by decide) (by decide)
  have a25 := sw_ne (n := 25) h25 (by decide) (by decide)
  have a26 := sw_ne (n := 26) h26 (by decide) (by decide)
  have a27 := sw_ne (n := 27) h27 (by decide) (by decide)
  have a28 := sw_ne (n := 28) h28 (by decide) (by decide)
  have a29 := sw_ne (n := 29) h29 (by decide) (by decide)
  have a30 := sw_ne (n := 30) h30 (by decide) (by decide)
  have a31 := sw_ne (n := 31) h31 (by decide) (by decide)
  have a32 := sw_ne (n := 32) h32 (by decide) (by decide)
  have a33 := sw_ne (n := 33) h33 (by decide) (by decide)
  have a34 := sw_ne (n := 34) h34 (by decide) (by decide)
  have a35 := sw_ne (n := 35) h35 (by decide) (by decide)
  have a36 := sw_ne (n := 36) h36 (by decide) (by decide)
  omega
set_option maxHeartbeats 4000000 in
set_option maxRecDepth 100000 in
theorem whole_start {p : Program} {e : Env} {s : State} {m : MethodId} {below : List Frame} {meth : Method} {c : Code} (l : Launch) (hflags : l.flags = flags0) {b L : Nat} {xs : Nat → Int32} (hL : L ≤ 7) (C0 : lw_At p s m meth c b L xs) : W p l e room_1 s m #[Value.ref b] below meth c s.heap [] 0 0 (lw_Z below #[Value.ref b] s) (entryFrame m ([Value.ref b] : List Value).toArray 4) := by
  obtain ⟨hx, hb, hr, hml, hown, hts, hX, hbl, hlocks, hgv⟩ := id C0
  have hown : s.vm.findClass RL = some m.cls := hown
  have hA : ∀ q : Nat, s.heap.size ≤ q → (fun q : Nat => s.heap.size ≤ q) q := fun _ h => h
  have hA2 : ∀ q : Nat, (fun q : Nat => s.heap.size ≤ q) q → s.heap.size ≤ q := fun _ h => h
  have hbA : ¬ (fun q : Nat => s.heap.size ≤ q) b := Nat.not_le.mpr hbl
  generalize (fun q : Nat => s.heap.size ≤ q) = A at hA hA2 hbA
  have hN : NN s := ⟨va_Nw.of rfl (hts _ lww_225), va_Nw.of rfl (hts _ lww_226), va_Nw.of rfl (hts _ lww_227), va_AO.of (hts _ lww_228)⟩
  obtain ⟨kX0, iX0, hKnX0⟩ := u_known (C := RX0) (T := TX0) (N := 4) (n := 4) hts lwb_X0 (hts (.instantiable RX0 4) lww_229)
  obtain ⟨kX1, iX1, hKnX1⟩ := u_known (C := RX1) (T := TX1) (N := 2) (n := 2) hts lwb_X1 (hts (.instantiable RX1 2) lww_230)
  obtain ⟨kX2, iX2, hKnX2⟩ := u_known (C := RX2) (T := TX2) (N := 3) (n := 3) hts lwb_X2 (hts (.instantiable RX2 3) lww_231)
  obtain ⟨kX3, iX3, hKnX3⟩ := u_known (C := RX3) (T := TX3) (N := 13) (n := 13) hts lwb_X3 (hts (.instantiable RX3 13) lww_232)
  obtain ⟨kX4, iX4, hKnX4⟩ := u_known (C := RX4) (T := TX4) (N := 8) (n := 8) hts lwb_X4 (hts (.instantiable RX4 8) lww_233)
  obtain ⟨kX5, iX5, hKnX5⟩ := u_known (C := RX5) (T := TX5) (N := 3) (n := 3) hts lwb_X5 (hts (.instantiable RX5 3) lww_234)
  obtain ⟨kX6, iX6, hKnX6⟩ := u_known (C := RX6) (T := TX6) (N := 15) (n := 15) hts lwb_X6 (hts (.instantiable RX6 15) lww_235)
  obtain ⟨kX7, iX7, hKnX7⟩ := u_known (C := RX7) (T := TX7) (N := 4) (n := 4) hts lwb_X7 (hts (.instantiable RX7 4) lww_236)
  obtain ⟨kX8, iX8, hKnX8⟩ := u_known (C := RX8) (T := TX8) (N := 7) (n := 7) hts lwb_X8 (hts (.instantiable RX8 7) lww_237)
  obtain ⟨kX9, iX9, hKnX9⟩ := u_known (C := RX9) (T := TX9) (N := 12) (n := 12) hts lwb_X9 (hts (.instantiable RX9 12) lww_238)
  obtain ⟨kX10, iX10, hKnX10⟩ := u_known (C := RX10) (T := TX10) (N := 7) (n := 7) hts lwb_X10 (hts (.instantiable RX10 7) lww_239)
  obtain ⟨kX11, iX11, hKnX11⟩ := u_known (C := RX11) (T := TX11) (N := 47) (n := 47) hts lwb_X11 (hts (.instantiable RX11 47) lww_240)
  obtain ⟨D, hKc⟩ : ∃ D : va_G, ∀ (k : Nat) (q : vw_C), vwCl[k]? = some q → u_Kn s q.1 q.2.1 q.2.2 (D.1 k) (D.2 k) := by
    refine ⟨(fun k => [kX0, kX1, kX2, kX3, kX4, kX5, kX6, kX7, kX8, kX9, kX10, kX11].getD k kX0, fun k => [iX0, iX1, iX2, iX3, iX4, iX5, iX6, iX7, iX8, iX9, iX10, iX11].getD k iX0), ?_⟩
    intro k q hq
    match k, hq with
    | 0, hq => cases hq; exact hKnX0
    | 1, hq => cases hq; exact hKnX1
    | 2, hq => cases hq; exact hKnX2
    | 3, hq => cases hq; exact hKnX3
    | 4, hq => cases hq; exact hKnX4
    | 5, hq => cases hq; exact hKnX5
    | 6, hq => cases hq; exact hKnX6
    | 7, hq => cases hq; exact hKnX7
    | 8, hq => cases hq; exact hKnX8
    | 9, hq => cases hq; exact hKnX9
    | 10, hq => cases hq; exact hKnX10
    | 11, hq => cases hq; exact hKnX11
    | k + 12, hq => simp [vwCl] at hq
  have hS : va_S A s.heap s.heap [] := va_S.rf
  have hK : va_K D vwCl [] s := ⟨hKc, fun k q h => by simp at h⟩
  have hP : va_P D vwCl [] s.heap := va_P_nil
  have hD : va_D A [] := va_D_nil
  have hl := lv_entry ([.ref b]) (n := 4) (Nat.le_of_ble_eq_true rfl)
  rw [lg_entry_eq]
  generalize (lg_sl ([.ref b]) ++ List.replicate (4 - (lg_sl ([.ref b])).length) Slot.unset).toArray = ls at hl ⊢
  have hl : lv_has ls 4 [(0, .ref b)] := hl
  refine va_new (ci := 10) (fs := [.null, .null, .int 0, .null, .null, .null, .null]) (C := RX10) (T := TX10) (N := 7) hx hb hts lwb_X10 tyX10 tyX10_ok hown (hts (.classLink RL 7 RX10) lww_241) (hts (.instantiable RX10 7) lww_239) (hts (.initialized RX10) lww_3) hK hP hD hS hA rfl (fun j hj => by rcases (show j = 0 ∨ j = 1 ∨ j = 2 ∨ j = 3 ∨ j = 4 ∨ j = 5 ∨ j = 6 by omega) with rfl | rfl | rfl | rfl | rfl | rfl | rfl <;> rfl) (Nat.le_of_ble_eq_true rfl) (Nat.le_of_ble_eq_true rfl) dL_law_0 (fun q1 H hP hD hS => ?_)
  refine W.widen (k := 1) (n := 7) (Nat.le_of_ble_eq_true rfl) (Nat.le_of_ble_eq_true rfl) ?_
  have hP : va_P D vwCl [(q1, .inr (10, [.null, .null, .int 0, .null, .null, .null, .null]))] H := hP
  have hD : va_D A [(q1, .inr (10, [.null, .null, .int 0, .null, .null, .null, .null]))] := hD
  refine lv_dup hx hb dL_law_3 rfl ?_
  have hPc := hP.sub (ws' := [(q1, .inr (10, [.null, .null, .int 0, .null, .null, .null, .null]))]) [0] rfl
  have hKc := hK.sub (tys' := []) [] rfl
  have hDc := hD.sub (ws' := [(q1, .inr (10, [.null, .null, .int 0, .null, .null, .null, .null]))]) [0] (by decide) rfl
  have hFc := va_free (wc := [(q1, .inr (10, [.null, .null, .int 0, .null, .null, .null, .null]))]) hD hS hA [0] rfl
  refine va_callv (va_runI (As := []) (rest := [.ref q1]) ⟨hx, hb, hml, hown, hts⟩ (c_X10_init l D _ q1) (cwI 0 hts g_L_c_X10_init_9 rfl rfl rfl (hts (.initialized RX10) lww_3) (hts (.methodLink RL 9 yX10_init) lww_242) (hts (.instanceMethod yX10_init) lww_243) rfl (by decide +kernel) ⟨(Nat.le_of_ble_eq_true rfl), (Nat.le_of_ble_eq_true rfl)⟩) (PcWN_S hPc hKc hDc hN) rfl rfl hl.1 rfl (lv_room (Nat.le_of_ble_eq_true rfl)) dL_law_4 ⟨(Nat.le_of_ble_eq_true rfl), (Nat.le_of_ble_eq_true rfl)⟩) hS (fun q _ h => hFc q h) hFc (fun uu tt H locs htt hvm hw hB hz1 hk1 hS => ?_)
  obtain ⟨qb3, cb4, qi5, qp6, qm7⟩ := uu
  obtain ⟨hP1, hK1, hD1⟩ := hB
  rw [htt] at hP1
  have hK1 := va_K.moved hvm.symm hK1
  have hP1 : va_P D vwCl [(q1, .inr (10, [.ref (qb3 0), .ref (qb3 1), .int 0, .ref (qb3 3), .ref (qb3 4), .ref (qb3 5), .ref (qb3 6)])), (qb3 0, .inl (cb4 0, 4, .inr (.inr (.inr (.inr (fun _ => none)))))), (qb3 1, .inl (cb4 1, 1400, .inl (fun _ => 0))), (qb3 4, .inr (1, [.int 0, .ref qi5])), (qb3 5, .inr (6, [.int 0, .int 0, .int 0, .ref (qp6 3), .ref (qp6 4), .int 0, .int 0, .int 0, .int 0, .int 0, .int 0, .int 0, .ref (qp6 12), .int 0, .ref (qp6 14)])), (qb3 6, .inr (4, [.int 0, .int 0, .int 0, .int 0, .int 0, .ref (qm7 5), .int 0, .ref (qm7 7)]))] H := hP1
  obtain ⟨hP, hD⟩ := va_join (wr := []) (w1 := [(q1, .inr (10, [.ref (qb3 0), .ref (qb3 1), .int 0, .ref (qb3 3), .ref (qb3 4), .ref (qb3 5), .ref (qb3 6)])), (qb3 0, .inl (cb4 0, 4, .inr (.inr (.inr (.inr (fun _ => none)))))), (qb3 1, .inl (cb4 1, 1400, .inl (fun _ => 0))), (qb3 4, .inr (1, [.int 0, .ref qi5])), (qb3 5, .inr (6, [.int 0, .int 0, .int 0, .ref (qp6 3), .ref (qp6 4), .int 0, .int 0, .int 0, .int 0, .int 0, .int 0, .int 0, .ref (qp6 12), .int 0, .ref (qp6 14)])), (qb3 6, .inr (4, [.int 0, .int 0, .int 0, .int 0, .int 0, .ref (qm7 5), .int 0, .ref (qm7 7)]))]) hP hD [0] [] rfl rfl (by decide) (by decide) hk1 hFc hP1 hD1
  have hK : va_K D vwCl [(cb4 0, .object RX9), (cb4 1, .int)] s := hK.app (hK1.sub (tys' := [(cb4 0, .object RX9), (cb4 1, .int)]) [0, 1] rfl)
  have hP : va_P D vwCl [(q1, .inr (10, [.ref (qb3 0), .ref (qb3 1), .int 0, .ref (qb3 3), .ref (qb3 4), .ref (qb3 5), .ref (qb3 6)])), (qb3 0, .inl (cb4 0, 4, .inr (.inr (.inr (.inr (fun _ => none)))))), (qb3 1, .inl (cb4 1, 1400, .inl (fun _ => 0))), (qb3 4, .inr (1, [.int 0, .ref qi5])), (qb3 5, .inr (6, [.int 0, .int 0, .int 0, .ref (qp6 3), .ref (qp6 4), .int 0, .int 0, .int 0, .int 0, .int 0, .int 0, .int 0, .ref (qp6 12), .int 0, .ref (qp6 14)])), (qb3 6, .inr (4, [.int 0, .int 0, .int 0, .int 0, .int 0, .ref (qm7 5), .int 0, .ref (qm7 7)]))] H := hP
  have hD : va_D A [(q1, .inr (10, [.ref (qb3 0), .ref (qb3 1), .int 0, .ref (qb3 3), .ref (qb3 4), .ref (qb3 5), .ref (qb3 6)])), (qb3 0, .inl (cb4 0, 4, .inr (.inr (.inr (.inr (fun _ => none)))))), (qb3 1, .inl (cb4 1, 1400, .inl (fun _ => 0))), (qb3 4, .inr (1, [.int 0, .ref qi5])), (qb3 5, .inr (6, [.int 0, .int 0, .int 0, .ref (qp6 3), .ref (qp6 4), .int 0, .int 0, .int 0, .int 0, .int 0, .int 0, .int 0, .ref (qp6 12), .int 0, .ref (qp6 14)])), (qb3 6, .inr (4, [.int 0, .int 0, .int 0, .int 0, .int 0, .ref (qm7 5), .int 0, .ref (qm7 7)]))] := hD
  refine W.widen (k := 27) (n := 15955) (Nat.le_of_ble_eq_true rfl) (Nat.le_of_ble_eq_true rfl) ?_
  try dsimp only at hw
  clear hz1 hk1 hFc hPc hKc hDc
  refine lv_astore_n (lv' := [(1, .ref q1), (0, .ref b)]) hx hb dL_law_7 rfl hl (by decide) rfl (fun ls hl => ?_)
  refine va_new (ci := 11) (fs := [.int 0, .null, .int 0, .null, .null, .null, .null, .null, .null, .null, .null, .null, .long 0, .long 0, .long 0, .int 0, .null, .int 0, .int 0, .null, .int 0, .int 0, .int 0, .int 0, .int 0, .int 0, .int 0, .int 0, .null, .null, .int 0, .int 0, .int 0, .int 0, .int 0, .int 0, .int 0, .int 0, .null, .int 0, .null, .null, .int 0, .int 0, .int 0, .null, .int 0]) (C := RX11) (T := TX11) (N := 47) hx hb hts lwb_X11 tyX11 tyX11_ok hown (hts (.classLink RL 10 RX11) lww_244) (hts (.instantiable RX11 47) lww_240) (hts (.initialized RX11) lww_7) hK hP hD hS hA rfl (fun j hj => by rcases (show j = 0 ∨ j = 1 ∨ j = 2 ∨ j = 3 ∨ j = 4 ∨ j = 5 ∨ j = 6 ∨ j = 7 ∨ j = 8 ∨ j = 9 ∨ j = 10 ∨ j = 11 ∨ j = 12 ∨ j = 13 ∨ j = 14 ∨ j = 15 ∨ j = 16 ∨ j = 17 ∨ j = 18 ∨ j = 19 ∨ j = 20 ∨ j = 21 ∨ j = 22 ∨ j = 23 ∨ j = 24 ∨ j = 25 ∨ j = 26 ∨ j = 27 ∨ j = 28 ∨ j = 29 ∨ j = 30 ∨ j = 31 ∨ j = 32 ∨ j = 33 ∨ j = 34 ∨ j = 35 ∨ j = 36 ∨ j = 37 ∨ j = 38 ∨ j = 39 ∨ j = 40 ∨ j = 41 ∨ j = 42 ∨ j = 43 ∨ j = 44 ∨ j = 45 ∨ j = 46 by omega) with rfl | rfl | rfl | rfl | rfl | rfl | rfl | rfl | rfl | rfl | rfl | rfl | rfl | rfl | rfl | rfl | rfl | rfl | rfl | rfl | rfl | rfl | rfl | rfl | rfl | rfl | rfl | rfl | rfl | rfl | rfl | rfl | rfl | rfl | rfl | rfl | rfl | rfl | rfl | rfl | rfl | rfl | rfl | rfl | rfl | rfl | rfl <;> rfl) (Nat.le_of_ble_eq_true rfl) (Nat.le_of_ble_eq_true rfl) dL_law_8 (fun q8 H hP hD hS => ?_)
  refine W.widen (k := 28) (n := 16002) (Nat.le_of_ble_eq_true rfl) (Nat.le_of_ble_eq_true rfl) ?_
  have hP : va_P D vwCl [(q1, .inr (10, [.ref (qb3 0), .ref (qb3 1), .int 0, .ref (qb3 3), .ref (qb3 4), .ref (qb3 5), .ref (qb3 6)])), (qb3 0, .inl (cb4 0, 4, .inr (.inr (.inr (.inr (fun _ => none)))))), (qb3 1, .inl (cb4 1, 1400, .inl (fun _ => 0))), (qb3 4, .inr (1, [.int 0, .ref qi5])), (qb3 5, .inr (6, [.int 0, .int 0, .int 0, .ref (qp6 3), .ref (qp6 4), .int 0, .int 0, .int 0, .int 0, .int 0, .int 0, .int 0, .ref (qp6 12), .int 0, .ref (qp6 14)])), (qb3 6, .inr (4, [.int 0, .int 0, .int 0, .int 0, .int 0, .ref (qm7 5), .int 0, .ref (qm7 7)])), (q8, .inr (11, [.int 0, .null, .int 0, .null, .null, .null, .null, .null, .null, .null, .null, .null, .long 0, .long 0, .long 0, .int 0, .null, .int 0, .int 0, .null, .int 0, .int 0, .int 0, .int 0, .int 0, .int 0, .int 0, .int 0, .null, .null, .int 0, .int 0, .int 0, .int 0, .int 0, .int 0, .int 0, .int 0, .null, .int 0, .null, .null, .int 0, .int 0, .int 0, .null, .int 0]))] H := hP
  have hD : va_D A [(q1, .inr (10, [.ref (qb3 0), .ref (qb3 1), .int 0, .ref (qb3 3), .ref (qb3 4), .ref (qb3 5), .ref (qb3 6)])), (qb3 0, .inl (cb4 0, 4, .inr (.inr (.inr (.inr (fun _ => none)))))), (qb3 1, .inl (cb4 1, 1400, .inl (fun _ => 0))), (qb3 4, .inr (1, [.int 0, .ref qi5])), (qb3 5, .inr (6, [.int 0, .int 0, .int 0, .ref (qp6 3), .ref (qp6 4), .int 0, .int 0, .int 0, .int 0, .int 0, .int 0, .int 0, .ref (qp6 12), .int 0, .ref (qp6 14)])), (qb3 6, .inr (4, [.int 0, .int 0, .int 0, .int 0, .int 0, .ref (qm7 5), .int 0, .ref (qm7 7)])), (q8, .inr (11, [.int 0, .null, .int 0, .null, .null, .null, .null, .null, .null, .null, .null, .null, .long 0, .long 0, .long 0, .int 0, .null, .int 0, .int 0, .null, .int 0, .int 0, .int 0, .int 0, .int 0, .int 0, .int 0, .int 0, .null, .null, .int 0, .int 0, .int 0, .int 0, .int 0, .int 0, .int 0, .int 0, .null, .int 0, .null, .null, .int 0, .int 0, .int 0, .null, .int 0]))] := hD
  refine lv_dup hx hb dL_law_11 rfl ?_
  have hPc := hP.sub (ws' := [(q8, .inr (11, [.int 0, .null, .int 0, .null, .null, .null, .null, .null, .null, .null, .null, .null, .long 0, .long 0, .long 0, .int 0, .null, .int 0, .int 0, .null, .int 0, .int 0, .int 0, .int 0, .int 0, .int 0, .int 0, .int 0, .null, .null, .int 0, .int 0, .int 0, .int 0, .int 0, .int 0, .int 0, .int 0, .null, .int 0, .null, .null, .int 0, .int 0, .int 0, .null, .int 0]))]) [6] rfl
  have hKc := hK.sub (tys' := []) [] rfl
  have hDc := hD.sub (ws' := [(q8, .inr (11, [.int 0, .null, .int 0, .null, .null, .null, .null, .null, .null, .null, .null, .null, .long 0, .long 0, .long 0, .int 0, .null, .int 0, .int 0, .null, .int 0, .int 0, .int 0, .int 0, .int 0, .int 0, .int 0, .int 0, .null, .null, .int 0, .int 0, .int 0, .int 0, .int 0, .int 0, .int 0, .int 0, .null, .int 0, .null, .null, .int 0, .int 0, .int 0, .null, .int 0]))]) [6] (by decide) rfl
  have hFc := va_free (wc := [(q8, .inr (11, [.int 0, .null, .int 0, .null, .null, .null, .null, .null, .null, .null, .null, .null, .long 0, .long 0, .long 0, .int 0, .null, .int 0, .int 0, .null, .int 0, .int 0, .int 0, .int 0, .int 0, .int 0, .int 0, .int 0, .null, .null, .int 0, .int 0, .int 0, .int 0, .int 0, .int 0, .int 0, .int 0, .null, .int 0, .null, .null, .int 0, .int 0, .int 0, .null, .int 0]))]) hD hS hA [6] rfl
  refine va_callv (va_runI (As := []) (rest := [.ref q8]) ⟨hx, hb, hml, hown, hts⟩ (c_X11_init l D _ q8) (cwI 0 hts g_L_c_X11_init_12 rfl rfl rfl (hts (.initialized RX11) lww_7) (hts (.methodLink RL 12 yX11_init) lww_245) (hts (.instanceMethod yX11_init) lww_246) rfl (by decide +kernel) ⟨(Nat.le_of_ble_eq_true rfl), (Nat.le_of_ble_eq_true rfl)⟩) (PcW_S hPc hKc hDc) rfl rfl hl.1 rfl (lv_room (Nat.le_of_ble_eq_true rfl)) dL_law_12 ⟨(Nat.le_of_ble_eq_true rfl), (Nat.le_of_ble_eq_true rfl)⟩) hS (fun q _ h => hFc q h) hFc (fun uu tt H locs htt hvm hw hB hz1 hk1 hS => ?_)
  obtain ⟨qb10, cb11⟩ := uu
  obtain ⟨hP1, hK1, hD1⟩ := hB
  rw [htt] at hP1
  have hK1 := va_K.moved hvm.symm hK1
  have hP1 : va_P D vwCl [(q8, .inr (11, fM qb10 0 0 0 0 0)), (qb10 1, .inl (cb11 1, 1400, .inl (fun _ => 0))), (qb10 3, .inl (cb11 3, 85, .inr (.inl (fun _ => 0)))), (qb10 8, .inl (cb11 8, 10240, .inl (fun _ => 0))), (qb10 9, .inl (cb11 9, 10240, .inl (fun _ => 0)))] H := hP1
  obtain ⟨hP, hD⟩ := va_join (wr := [(q1, .inr (10, [.ref (qb3 0), .ref (qb3 1), .int 0, .ref (qb3 3), .ref (qb3 4), .ref (qb3 5), .ref (qb3 6)])), (qb3 0, .inl (cb4 0, 4, .inr (.inr (.inr (.inr (fun _ => none)))))), (qb3 1, .inl (cb4 1, 1400, .inl (fun _ => 0))), (qb3 4, .inr (1, [.int 0, .ref qi5])), (qb3 5, .inr (6, [.int 0, .int 0, .int 0, .ref (qp6 3), .ref (qp6 4), .int 0, .int 0, .int 0, .int 0, .int 0, .int 0, .int 0, .ref (qp6 12), .int 0, .ref (qp6 14)])), (qb3 6, .inr (4, [.int 0, .int 0, .int 0, .int 0, .int 0, .ref (qm7 5), .int 0, .ref (qm7 7)]))]) (w1 := [(q8, .inr (11, fM qb10 0 0 0 0 0)), (qb10 1, .inl (cb11 1, 1400, .inl (fun _ => 0))), (qb10 3, .inl (cb11 3, 85, .inr (.inl (fun _ => 0)))), (qb10 8, .inl (cb11 8, 10240, .inl (fun _ => 0))), (qb10 9, .inl (cb11 9, 10240, .inl (fun _ => 0)))]) hP hD [6] [0, 1, 2, 3, 4, 5] rfl rfl (by decide) (by decide) hk1 hFc hP1 hD1
  have hK : va_K D vwCl [(cb4 0, .object RX9), (cb4 1, .int), (cb11 1, .byte), (cb11 3, .long), (cb11 8, .int), (cb11 9, .int)] s := hK.app (hK1.sub (tys' := [(cb11 1, .byte), (cb11 3, .long), (cb11 8, .int), (cb11 9, .int)]) [0, 1, 2, 3] rfl)
  have hP : va_P D vwCl [(q1, .inr (10, [.ref (qb3 0), .ref (qb3 1), .int 0, .ref (qb3 3), .ref (qb3 4), .ref (qb3 5), .ref (qb3 6)])), (qb3 0, .inl (cb4 0, 4, .inr (.inr (.inr (.inr (fun _ => none)))))), (qb3 1, .inl (cb4 1, 1400, .inl (fun _ => 0))), (qb3 4, .inr (1, [.int 0, .ref qi5])), (qb3 5, .inr (6, [.int 0, .int 0, .int 0, .ref (qp6 3), .ref (qp6 4), .int 0, .int 0, .int 0, .int 0, .int 0, .int 0, .int 0, .ref (qp6 12), .int 0, .ref (qp6 14)])), (qb3 6, .inr (4, [.int 0, .int 0, .int 0, .int 0, .int 0, .ref (qm7 5), .int 0, .ref (qm7 7)])), (q8, .inr (11, fM qb10 0 0 0 0 0)), (qb10 1, .inl (cb11 1, 1400, .inl (fun _ => 0))), (qb10 3, .inl (cb11 3, 85, .inr (.inl (fun _ => 0)))), (qb10 8, .inl (cb11 8, 10240, .inl (fun _ => 0))), (qb10 9, .inl (cb11 9, 10240, .inl (fun _ => 0)))] H := hP
  have hD : va_D A [(q1, .inr (10, [.ref (qb3 0), .ref (qb3 1), .int 0, .ref (qb3 3), .ref (qb3 4), .ref (qb3 5), .ref (qb3 6)])), (qb3 0, .inl (cb4 0, 4, .inr (.inr (.inr (.inr (fun _ => none)))))), (qb3 1, .inl (cb4 1, 1400, .inl (fun _ => 0))), (qb3 4, .inr (1, [.int 0, .ref qi5])), (qb3 5, .inr (6, [.int 0, .int 0, .int 0, .ref (qp6 3), .ref (qp6 4), .int 0, .int 0, .int 0, .int 0, .int 0, .int 0, .int 0, .ref (qp6 12), .int 0, .ref (qp6 14)])), (qb3 6, .inr (4, [.int 0, .int 0, .int 0, .int 0, .int 0, .ref (qm7 5), .int 0, .ref (qm7 7)])), (q8, .inr (11, fM qb10 0 0 0 0 0)), (qb10 1, .inl (cb11 1, 1400, .inl (fun _ => 0))), (qb10 3, .inl (cb11 3, 85, .inr (.inl (fun _ => 0)))), (qb10 8, .inl (cb11 8, 10240, .inl (fun _ => 0))), (qb10 9, .inl (cb11 9, 10240, .inl (fun _ => 0)))] := hD
  refine W.widen (k := 46) (n := 68513) (Nat.le_of_ble_eq_true rfl) (Nat.le_of_ble_eq_true rfl) ?_
  try dsimp only at hw
  clear hz1 hk1 hFc hPc hKc hDc
  refine lv_astore_n (lv' := [(2, .ref q8), (1, .ref q1), (0, .ref b)]) hx hb dL_law_15 rfl hl (by decide) rfl (fun ls hl => ?_)
  refine lv_iconst (v := 0) hx hb dL_law_16 (by decide) ?_
  refine lv_istore_n (lv' := [(3, .int 0), (2, .ref q8), (1, .ref q1), (0, .ref b)]) hx hb dL_law_17 rfl hl (by decide) rfl (fun ls hl => ?_)
  refine lv_iload_n hx hb dL_law_18 rfl (lv_at hl 0 rfl) ?_
  refine lv_aload_n hx hb dL_law_19 rfl (lv_at hl 3 rfl) ?_
  refine va_slen hx hb hX hbl hbA hS dL_law_20 ?_
  refine lv_bipush (v := 7) hx hb dL_law_21 (by decide) ?_
  refine lv_isub hx hb dL_law_23 ?_
  by_cases hL7 : L = 7
  ·
    subst hL7
    have hin : ∀ k : Nat, k < 7 → vp_in (nI k) 7 := fun k hk => vp_in_nI hk (by decide)
    refine lv_topi (fun v1 ev1 => ?_)
    obtain rfl : v1 = 0 := ev1.trans (by decide)
    refine lv_icmp_gt (tgt := 1741) hx hb dL_law_24 (by decide) (fun hc => absurd hc (by decide)) (fun hc => ?_)
    refine lv_aload_n hx hb dL_law_27 rfl (lv_at hl 3 rfl) ?_
    refine lv_iload_n hx hb dL_law_28 rfl (lv_at hl 0 rfl) ?_
    refine va_sld hx hb hX hbl hbA hS (hin 0 (by omega)) dL_law_29 ?_
    refine lv_bipush (v := 63) hx hb dL_law_30 (by decide) ?_
    refine lv_iand hx hb dL_law_32 ?_
    refine lv_topi (fun v2 ev2 => ?_)
    by_cases hs : v2 = 0
    ·
      subst hs
      refine lv_tableIn (off := 163) (tgt := 196) hx hb dL_law_33 (by decide) (by decide) (by decide +kernel) (by decide) ?_
      exact law_case_0 l C0 hN hA hbA hA2 q1 q8 qb3 cb4 qi5 qp6 qm7 qb10 cb11 H locs (hK.sub [0, 1, 2, 3, 4, 5] rfl) (hP.sub [0, 1, 2, 3, 4, 5, 6, 7, 8, 9, 10] rfl) (hD.sub [0, 1, 2, 3, 4, 5, 6, 7, 8, 9, 10] (by decide) rfl) hS ls (lv_sub hl [0, 1, 2, 3] rfl)
    have hs0 := hs
    clear hs
    by_cases hs : v2 = 1
    ·
      subst hs
      refine lv_tableIn (off := 226) (tgt := 259) hx hb dL_law_33 (by decide) (by decide) (by decide +kernel) (by decide) ?_
      exact law_case_1 l C0 hN hA hbA hA2 q1 q8 qb3 cb4 qi5 qp6 qm7 qb10 cb11 H locs (hK.sub [0, 1, 2, 3, 4, 5] rfl) (hP.sub [0, 1, 2, 3, 4, 5, 6, 7, 8, 9, 10] rfl) (hD.sub [0, 1, 2, 3, 4, 5, 6, 7, 8, 9, 10] (by decide) rfl) hS ls (lv_sub hl [0, 1, 2, 3] rfl)
    have hs1 := hs
    clear hs
    by_cases hs : v2 = 2
    ·
      subst hs
      refine lv_tableIn (off := 249) (tgt := 282) hx hb dL_law_33 (by decide) (by decide) (by decide +kernel) (by decide) ?_
      exact law_case_2 l C0 hN hA hbA hA2 q1 q8 qb3 cb4 qi5 qp6 qm7 qb10 cb11 H locs (hK.sub [0, 1, 2, 3, 4, 5] rfl) (hP.sub [0, 1, 2, 3, 4, 5, 6, 7, 8, 9, 10] rfl) (hD.sub [0, 1, 2, 3, 4, 5, 6, 7, 8, 9, 10] (by decide) rfl) hS ls (lv_sub hl [0, 1, 2, 3] rfl)
    have hs2 := hs
    clear hs
    by_cases hs : v2 = 3
    ·
      subst hs
      refine lv_tableIn (off := 344) (tgt := 377) hx hb dL_law_33 (by decide) (by decide) (by decide +kernel) (by decide) ?_
      exact law_case_3 l C0 hN hA hbA hA2 q1 q8 qb3 cb4 qi5 qp6 qm7 qb10 cb11 H locs (hK.sub [0, 1, 2, 3, 4, 5] rfl) (hP.sub [0, 1, 2, 3, 4, 5, 6, 7, 8, 9, 10] rfl) (hD.sub [0, 1, 2, 3, 4, 5, 6, 7, 8, 9, 10] (by decide) rfl) hS ls (lv_sub hl [0, 1, 2, 3] rfl)
    have hs3 := hs
    clear hs
    by_cases hs : v2 = 4
    ·
      subst hs
      refine lv_tableIn (off := 387) (tgt := 420) hx hb dL_law_33 (by decide) (by decide) (by decide +kernel) (by decide) ?_
      exact law_case_4 l C0 hN hA hbA hA2 q1 q8 qb3 cb4 qi5 qp6 qm7 qb10 cb11 H locs (hK.sub [0, 1, 2, 3, 4, 5] rfl) (hP.sub [0, 1, 2, 3, 4, 5, 6, 7, 8, 9, 10] rfl) (hD.sub [0, 1, 2, 3, 4, 5, 6, 7, 8, 9, 10] (by decide) rfl) hS ls (lv_sub hl [0, 1, 2, 3] rfl)
    have hs4 := hs
    clear hs
    by_cases hs : v2 = 5
    ·
      subst hs
      refine lv_tableIn (off := 421) (tgt := 454) hx hb dL_law_33 (by decide) (by decide) (by decide +kernel) (by decide) ?_
      exact law_case_5 l C0 hN hA hbA hA2 q1 q8 qb3 cb4 qi5 qp6 qm7 qb10 cb11 H locs (hK.sub [0, 1, 2, 3, 4, 5] rfl) (hP.sub [0, 1, 2, 3, 4, 5, 6, 7, 8, 9, 10] rfl) (hD.sub [0, 1, 2, 3, 4, 5, 6, 7, 8, 9, 10] (by decide) rfl) hS ls (lv_sub hl [0, 1, 2, 3] rfl)
    have hs5 := hs
    clear hs
    by_cases hs : v2 = 6
    ·
      subst hs
      refine lv_tableIn (off := 454) (tgt := 487) hx hb dL_law_33 (by decide) (by decide) (by decide +kernel) (by decide) ?_
      exact law_case_6 l C0 hN hA hbA hA2 q1 q8 qb3 cb4 qi5 qp6 qm7 qb10 cb11 H locs (hK.sub [0, 1, 2, 3, 4, 5] rfl) (hP.sub [0, 1, 2, 3, 4, 5, 6, 7, 8, 9, 10] rfl) (hD.sub [0, 1, 2, 3, 4, 5, 6, 7, 8, 9, 10] (by decide) rfl) hS ls (lv_sub hl [0, 1, 2, 3] rfl)
    have hs6 := hs
    clear hs
    by_cases hs : v2 = 7
    ·
      subst hs
      refine lv_tableIn (off := 477) (tgt := 510) hx hb dL_law_33 (by decide) (by decide) (by decide +kernel) (by decide) ?_
      exact law_case_7 l C0 hN hA hbA hA2 q1 q8 qb3 cb4 qi5 qp6 qm7 qb10 cb11 H locs (hK.sub [0, 1, 2, 3, 4, 5] rfl) (hP.sub [0, 1, 2, 3, 4, 5, 6, 7, 8, 9, 10] rfl) (hD.sub [0, 1, 2, 3, 4, 5, 6, 7, 8, 9, 10] (by decide) rfl) hS ls (lv_sub hl [0, 1, 2, 3] rfl)
    have hs7 := hs
    clear hs
    by_cases hs : v2 = 8
    ·
      subst hs
      refine lv_tableIn (off := 511) (tgt := 544) hx hb dL_law_33 (by decide) (by decide) (by decide +kernel) (by decide) ?_
      exact law_case_8 l C0 hN hA hbA hA2 q1 q8 qb3 cb4 qi5 qp6 qm7 qb10 cb11 H locs (hK.sub [0, 1, 2, 3, 4, 5] rfl) (hP.sub [0, 1, 2, 3, 4, 5, 6, 7, 8, 9, 10] rfl) (hD.sub [0, 1, 2, 3, 4, 5, 6, 7, 8, 9, 10] (by decide) rfl) hS ls (lv_sub hl [0, 1, 2, 3] rfl)
    have hs8 := hs
    clear hs
    by_cases hs : v2 = 9
    ·
      subst hs
      refine lv_tableIn (off := 555) (tgt := 588) hx hb dL_law_33 (by decide) (by decide) (by decide +kernel) (by decide) ?_
      exact law_case_9 l C0 hN hA hbA hA2 q1 q8 qb3 cb4 qi5 qp6 qm7 qb10 cb11 H locs (hK.sub [0, 1, 2, 3, 4, 5] rfl) (hP.sub [0, 1, 2, 3, 4, 5, 6, 7, 8, 9, 10] rfl) (hD.sub [0, 1, 2, 3, 4, 5, 6, 7, 8, 9, 10] (by decide) rfl) hS ls (lv_sub hl [0, 1, 2, 3] rfl)
    have hs9 := hs
    clear hs
    by_cases hs : v2 = 10
    ·
      subst hs
      refine lv_tableIn (off := 598) (tgt := 631) hx hb dL_law_33 (by decide) (by decide) (by decide +kernel) (by decide) ?_
      exact law_case_10 l C0 hN hA hbA hA2 q1 q8 qb3 cb4 qi5 qp6 qm7 qb10 cb11 H locs (hK.sub [0, 1, 2, 3, 4, 5] rfl) (hP.sub [0, 1, 2, 3, 4, 5, 6, 7, 8, 9, 10] rfl) (hD.sub [0, 1, 2, 3, 4, 5, 6, 7, 8, 9, 10] (by decide) rfl) hS ls (lv_sub hl [0, 1, 2, 3] rfl)
    have hs10 := hs
    clear hs
    by_cases hs : v2 = 11
    ·
      subst hs
      refine lv_tableIn (off := 641) (tgt := 674) hx hb dL_law_33 (by decide) (by decide) (by decide +kernel) (by decide) ?_
      exact law_case_11 l C0 hN hA hbA hA2 q1 q8 qb3 cb4 qi5 qp6 qm7 qb10 cb11 H locs (hK.sub [0, 1, 2, 3, 4, 5] rfl) (hP.sub [0, 1, 2, 3, 4, 5, 6, 7, 8, 9, 10] rfl) (hD.sub [0, 1, 2, 3, 4, 5, 6, 7, 8, 9, 10] (by decide) rfl) hS ls (lv_sub hl [0, 1, 2, 3] rfl)
    have hs11 := hs
    clear hs
    by_cases hs : v2 = 12
    ·
      subst hs
      refine lv_tableIn (off := 674) (tgt := 707) hx hb dL_law_33 (by decide) (by decide) (by decide +kernel) (by decide) ?_
      exact law_case_12 l C0 hN hA hbA hA2 q1 q8 qb3 cb4 qi5 qp6 qm7 qb10 cb11 H locs (hK.sub [0, 1, 2, 3, 4, 5] rfl) (hP.sub [0, 1, 2, 3, 4, 5, 6, 7, 8, 9, 10] rfl) (hD.sub [0, 1, 2, 3, 4, 5, 6, 7, 8, 9, 10] (by decide) rfl) hS ls (lv_sub hl [0, 1, 2, 3] rfl)
    have hs12 := hs
    clear hs
    by_cases hs : v2 = 13
    ·
      subst hs
      refine lv_tableIn (off := 707) (tgt := 740) hx hb dL_law_33 (by decide) (by decide) (by decide +kernel) (by decide) ?_
      exact law_case_13 l C0 hN hA hbA hA2 q1 q8 qb3 cb4 qi5 qp6 qm7 qb10 cb11 H locs (hK.sub [0, 1, 2, 3, 4, 5] rfl) (hP.sub [0, 1, 2, 3, 4, 5, 6, 7, 8, 9, 10] rfl) (hD.sub [0, 1, 2, 3, 4, 5, 6, 7, 8, 9, 10] (by decide) rfl) hS ls (lv_sub hl [0, 1, 2, 3] rfl)
    have hs13 := hs
    clear hs
    by_cases hs : v2 = 14
    ·
      subst hs
      refine lv_tableIn (off := 740) (tgt := 773) hx hb dL_law_33 (by decide) (by decide) (by decide +kernel) (by decide) ?_
      exact law_case_14 l C0 hN hA hbA hA2 q1 q8 qb3 cb4 qi5 qp6 qm7 qb10 cb11 H locs (hK.sub [0, 1, 2, 3, 4, 5] rfl) (hP.sub [0, 1, 2, 3, 4, 5, 6, 7, 8, 9, 10] rfl) (hD.sub [0, 1, 2, 3, 4, 5, 6, 7, 8, 9, 10] (by decide) rfl) hS ls (lv_sub hl [0, 1, 2, 3] rfl)
    have hs14 := hs
    clear hs
    by_cases hs : v2 = 15
    ·
      subst hs
      refine lv_tableIn (off := 773) (tgt := 806) hx hb dL_law_33 (by decide) (by decide) (by decide +kernel) (by decide) ?_
      exact law_case_15 l C0 hN hA hbA hA2 q1 q8 qb3 cb4 qi5 qp6 qm7 qb10 cb11 H locs (hK.sub [0, 1, 2, 3, 4, 5] rfl) (hP.sub [0, 1, 2, 3, 4, 5, 6, 7, 8, 9, 10] rfl) (hD.sub [0, 1, 2, 3, 4, 5, 6, 7, 8, 9, 10] (by decide) rfl) hS ls (lv_sub hl [0, 1, 2, 3] rfl)
    have hs15 := hs
    clear hs
    by_cases hs : v2 = 16
    ·
      subst hs
      refine lv_tableIn (off := 806) (tgt := 839) hx hb dL_law_33 (by decide) (by decide) (by decide +kernel) (by decide) ?_
      exact law_case_16 l C0 hN hA hbA hA2 q1 q8 qb3 cb4 qi5 qp6 qm7 qb10 cb11 H locs (hK.sub [0, 1, 2, 3, 4, 5] rfl) (hP.sub [0, 1, 2, 3, 4, 5, 6, 7, 8, 9, 10] rfl) (hD.sub [0, 1, 2, 3, 4, 5, 6, 7, 8, 9, 10] (by decide) rfl) hS ls (lv_sub hl [0, 1, 2, 3] rfl)
    have hs16 := hs
    clear hs
    by_cases hs : v2 = 17
    ·
      subst hs
      refine lv_tableIn (off := 839) (tgt := 872) hx hb dL_law_33 (by decide) (by decide) (by decide +kernel) (by decide) ?_
      exact law_case_17 l C0 hN hA hbA hA2 q1 q8 qb3 cb4 qi5 qp6 qm7 qb10 cb11 H locs (hK.sub [0, 1, 2, 3, 4, 5] rfl) (hP.sub [0, 1, 2, 3, 4, 5, 6, 7, 8, 9, 10] rfl) (hD.sub [0, 1, 2, 3, 4, 5, 6, 7, 8, 9, 10] (by decide) rfl) hS ls (lv_sub hl [0, 1, 2, 3] rfl)
    have hs17 := hs
    clear hs
    by_cases hs : v2 = 18
    ·
      subst hs
      refine lv_tableIn (off := 862) (tgt := 895) hx hb dL_law_33 (by decide) (by decide) (by decide +kernel) (by decide) ?_
      exact law_case_18 l C0 hN hA hbA hA2 q1 q8 qb3 cb4 qi5 qp6 qm7 qb10 cb11 H locs (hK.sub [0, 1, 2, 3, 4, 5] rfl) (hP.sub [0, 1, 2, 3, 4, 5, 6, 7, 8, 9, 10] rfl) (hD.sub [0, 1, 2, 3, 4, 5, 6, 7, 8, 9, 10] (by decide) rfl) hS ls (lv_sub hl [0, 1, 2, 3] rfl)
    have hs18 := hs
    clear hs
    by_cases hs : v2 = 19
    ·
      subst hs
      refine lv_tableIn (off := 885) (tgt := 918) hx hb dL_law_33 (by decide) (by decide) (by decide +kernel) (by decide) ?_
      exact law_case_19 l C0 hN hA hbA hA2 q1 q8 qb3 cb4 qi5 qp6 qm7 qb10 cb11 H locs (hK.sub [0, 1, 2, 3, 4, 5] rfl) (hP.sub [0, 1, 2, 3, 4, 5, 6, 7, 8, 9, 10] rfl) (hD.sub [0, 1, 2, 3, 4, 5, 6, 7, 8, 9, 10] (by decide) rfl) hS ls (lv_sub hl [0, 1, 2, 3] rfl)
    have hs19 := hs
    clear hs
    by_cases hs : v2 = 20
    ·
      subst hs
      refine lv_tableIn (off := 949) (tgt := 982) hx hb dL_law_33 (by decide) (by decide) (by decide +kernel) (by decide) ?_
      exact law_case_20 l C0 hN hA hbA hA2 q1 q8 qb3 cb4 qi5 qp6 qm7 qb10 cb11 H locs (hK.sub [0, 1, 2, 3, 4, 5] rfl) (hP.sub [0, 1, 2, 3, 4, 5, 6, 7, 8, 9, 10] rfl) (hD.sub [0, 1, 2, 3, 4, 5, 6, 7, 8, 9, 10] (by decide) rfl) hS ls (lv_sub hl [0, 1, 2, 3] rfl)
    have hs20 := hs
    clear hs
    by_cases hs : v2 = 21
    ·
      subst hs
      refine lv_tableIn (off := 1033) (tgt := 1066) hx hb dL_law_33 (by decide) (by decide) (by decide +kernel) (by decide) ?_
      exact law_case_21 l C0 hN hA hbA hA2 q1 q8 qb3 cb4 qi5 qp6 qm7 qb10 cb11 H locs (hK.sub [0, 1, 2, 3, 4, 5] rfl) (hP.sub [0, 1, 2, 3, 4, 5, 6, 7, 8, 9, 10] rfl) (hD.sub [0, 1, 2, 3, 4, 5, 6, 7, 8, 9, 10] (by decide) rfl) hS ls (lv_sub hl [0, 1, 2, 3] rfl)
    have hs21 := hs
    clear hs
    by_cases hs : v2 = 22
    ·
      subst hs
      refine lv_tableIn (off := 1086) (tgt := 1119) hx hb dL_law_33 (by decide) (by decide) (by decide +kernel) (by decide) ?_
      exact law_case_22 l C0 hN hA hbA hA2 q1 q8 qb3 cb4 qi5 qp6 qm7 qb10 cb11 H locs (hK.sub [0, 1, 2, 3, 4, 5] rfl) (hP.sub [0, 1, 2, 3, 4, 5, 6, 7, 8, 9, 10] rfl) (hD.sub [0, 1, 2, 3, 4, 5, 6, 7, 8, 9, 10] (by decide) rfl) hS ls (lv_sub hl [0, 1, 2, 3] rfl)
    have hs22 := hs
    clear hs
    by_cases hs : v2 = 23
    ·
      subst hs
      refine lv_tableIn (off := 1181) (tgt := 1214) hx hb dL_law_33 (by decide) (by decide) (by decide +kernel) (by decide) ?_
      exact law_case_23 l C0 hN hA hbA hA2 q1 q8 qb3 cb4 qi5 qp6 qm7 qb10 cb11 H locs (hK.sub [0, 1, 2, 3, 4, 5] rfl) (hP.sub [0, 1, 2, 3, 4, 5, 6, 7, 8, 9, 10] rfl) (hD.sub [0, 1, 2, 3, 4, 5, 6, 7, 8, 9, 10] (by decide) rfl) hS ls (lv_sub hl [0, 1, 2, 3] rfl)
    have hs23 := hs
    clear hs
    by_cases hs : v2 = 24
    ·
      subst hs
      refine lv_tableIn (off := 1214) (tgt := 1247) hx hb dL_law_33 (by decide) (by decide) (by decide +kernel) (by decide) ?_
      exact law_case_24 l C0 hN hA hbA hA2 q1 q8 qb3 cb4 qi5 qp6 qm7 qb10 cb11 H locs (hK.sub [0, 1, 2, 3, 4, 5] rfl) (hP.sub [0, 1, 2, 3, 4, 5, 6, 7, 8, 9, 10] rfl) (hD.sub [0, 1, 2, 3, 4, 5, 6, 7, 8, 9, 10] (by decide) rfl) hS ls (lv_sub hl [0, 1, 2, 3] rfl)
    have hs24 := hs
    clear hs
    by_cases hs : v2 = 25
    ·
      subst hs
      refine lv_tableIn (off := 1288) (tgt := 1321) hx hb dL_law_33 (by decide) (by decide) (by decide +kernel) (by decide) ?_
      exact law_case_25 l C0 hN hA hbA hA2 q1 q8 qb3 cb4 qi5 qp6 qm7 qb10 cb11 H locs (hK.sub [0, 1, 2, 3, 4, 5] rfl) (hP.sub [0, 1, 2, 3, 4, 5, 6, 7, 8, 9, 10] rfl) (hD.sub [0, 1, 2, 3, 4, 5, 6, 7, 8, 9, 10] (by decide) rfl) hS ls (lv_sub hl [0, 1, 2, 3] rfl)
    have hs25 := hs
    clear hs
    by_cases hs : v2 = 26
    ·
      subst hs
      refine lv_tableIn (off := 1361) (tgt := 1394) hx hb dL_law_33 (by decide) (by decide) (by decide +kernel) (by decide) ?_
      exact law_case_26 l C0 hN hA hbA hA2 q1 q8 qb3 cb4 qi5 qp6 qm7 qb10 cb11 H locs (hK.sub [0, 1, 2, 3, 4, 5] rfl) (hP.sub [0, 1, 2, 3, 4, 5, 6, 7, 8, 9, 10] rfl) (hD.sub [0, 1, 2, 3, 4, 5, 6, 7, 8, 9, 10] (by decide) rfl) hS ls (lv_sub hl [0, 1, 2, 3] rfl)
    have hs26 := hs
    clear hs
    by_cases hs : v2 = 27
    ·
      subst hs
      refine lv_tableIn (off := 1404) (tgt := 1437) hx hb dL_law_33 (by decide) (by decide) (by decide +kernel) (by decide) ?_
      exact law_case_27 l C0 hN hA hbA hA2 q1 q8 qb3 cb4 qi5 qp6 qm7 qb10 cb11 H locs (hK.sub [0, 1, 2, 3, 4, 5] rfl) (hP.sub [0, 1, 2, 3, 4, 5, 6, 7, 8, 9, 10] rfl) (hD.sub [0, 1, 2, 3, 4, 5, 6, 7, 8, 9, 10] (by decide) rfl) hS ls (lv_sub hl [0, 1, 2, 3] rfl)
    have hs27 := hs
    clear hs
    by_cases hs : v2 = 28
    ·
      subst hs
      refine lv_tableIn (off := 1437) (tgt := 1470) hx hb dL_law_33 (by decide) (by decide) (by decide +kernel) (by decide) ?_
      exact law_case_28 l C0 hN hA hbA hA2 q1 q8 qb3 cb4 qi5 qp6 qm7 qb10 cb11 H locs (hK.sub [0, 1, 2, 3, 4, 5] rfl) (hP.sub [0, 1, 2, 3, 4, 5, 6, 7, 8, 9, 10] rfl) (hD.sub [0, 1, 2, 3, 4, 5, 6, 7, 8, 9, 10] (by decide) rfl) hS ls (lv_sub hl [0, 1, 2, 3] rfl)
    have hs28 := hs
    clear hs
    by_cases hs : v2 = 29
    ·
      subst hs
      refine lv_tableIn (off := 1496) (tgt := 1529) hx hb dL_law_33 (by decide) (by decide) (by decide +kernel) (by decide) ?_
      exact law_case_29 l C0 hN hA hbA hA2 q1 q8 qb3 cb4 qi5 qp6 qm7 qb10 cb11 H locs (hK.sub [0, 1, 2, 3, 4, 5] rfl) (hP.sub [0, 1, 2, 3, 4, 5, 6, 7, 8, 9, 10] rfl) (hD.sub [0, 1, 2, 3, 4, 5, 6, 7, 8, 9, 10] (by decide) rfl) hS ls (lv_sub hl [0, 1, 2, 3] rfl)
    have hs29 := hs
    clear hs
    by_cases hs : v2 = 30
    ·
      subst hs
      refine lv_tableIn (off := 1530) (tgt := 1563) hx hb dL_law_33 (by decide) (by decide) (by decide +kernel) (by decide) ?_
      exact law_case_30 l C0 hN hA hbA hA2 q1 q8 qb3 cb4 qi5 qp6 qm7 qb10 cb11 H locs (hK.sub [0, 1, 2, 3, 4, 5] rfl) (hP.sub [0, 1, 2, 3, 4, 5, 6, 7, 8, 9, 10] rfl) (hD.sub [0, 1, 2, 3, 4, 5, 6, 7, 8, 9, 10] (by decide) rfl) hS ls (lv_sub hl [0, 1, 2, 3] rfl)
    have hs30 := hs
    clear hs
    by_cases hs : v2 = 31
    ·
      subst hs
      refine lv_tableIn (off := 1553) (tgt := 1586) hx hb dL_law_33 (by decide) (by decide) (by decide +kernel) (by decide) ?_
      exact law_case_31 l C0 hN hA hbA hA2 q1 q8 qb3 cb4 qi5 qp6 qm7 qb10 cb11 H locs (hK.sub [0, 1, 2, 3, 4, 5] rfl) (hP.sub [0, 1, 2, 3, 4, 5, 6, 7, 8, 9, 10] rfl) (hD.sub [0, 1, 2, 3, 4, 5, 6, 7, 8, 9, 10] (by decide) rfl) hS ls (lv_sub hl [0, 1, 2, 3] rfl)
    have hs31 := hs
    clear hs
    by_cases hs : v2 = 32
    ·
      subst hs
      refine lv_tableIn (off := 1577) (tgt := 1610) hx hb dL_law_33 (by decide) (by decide) (by decide +kernel) (by decide) ?_
      exact law_case_32 l C0 hN hA hbA hA2 q1 q8 qb3 cb4 qi5 qp6 qm7 qb10 cb11 H locs (hK.sub [0, 1, 2, 3, 4, 5] rfl) (hP.sub [0, 1, 2, 3, 4, 5, 6, 7, 8, 9, 10] rfl) (hD.sub [0, 1, 2, 3, 4, 5, 6, 7, 8, 9, 10] (by decide) rfl) hS ls (lv_sub hl [0, 1, 2, 3] rfl)
    have hs32 := hs
    clear hs
    by_cases hs : v2 = 33
    ·
      subst hs
      refine lv_tableIn (off := 1600) (tgt := 1633) hx hb dL_law_33 (by decide) (by decide) (by decide +kernel) (by decide) ?_
      exact law_case_33 l C0 hN hA hbA hA2 q1 q8 qb3 cb4 qi5 qp6 qm7 qb10 cb11 H locs (hK.sub [0, 1, 2, 3, 4, 5] rfl) (hP.sub [0, 1, 2, 3, 4, 5, 6, 7, 8, 9, 10] rfl) (hD.sub [0, 1, 2, 3, 4, 5, 6, 7, 8, 9, 10] (by decide) rfl) hS ls (lv_sub hl [0, 1, 2, 3] rfl)
    have hs33 := hs
    clear hs
    by_cases hs : v2 = 34
    ·
      subst hs
      refine lv_tableIn (off := 1623) (tgt := 1656) hx hb dL_law_33 (by decide) (by decide) (by decide +kernel) (by decide) ?_
      exact law_case_34 l C0 hN hA hbA hA2 q1 q8 qb3 cb4 qi5 qp6 qm7 qb10 cb11 H locs (hK.sub [0, 1, 2, 3, 4, 5] rfl) (hP.sub [0, 1, 2, 3, 4, 5, 6, 7, 8, 9, 10] rfl) (hD.sub [0, 1, 2, 3, 4, 5, 6, 7, 8, 9, 10] (by decide) rfl) hS ls (lv_sub hl [0, 1, 2, 3] rfl)
    have hs34 := hs
    clear hs
    by_cases hs : v2 = 35
    ·
      subst hs
      refine lv_tableIn (off := 1646) (tgt := 1679) hx hb dL_law_33 (by decide) (by decide) (by decide +kernel) (by decide) ?_
      exact law_case_35 l C0 hN hA hbA hA2 q1 q8 qb3 cb4 qi5 qp6 qm7 qb10 cb11 H locs (hK.sub [0, 1, 2, 3, 4, 5] rfl) (hP.sub [0, 1, 2, 3, 4, 5, 6, 7, 8, 9, 10] rfl) (hD.sub [0, 1, 2, 3, 4, 5, 6, 7, 8, 9, 10] (by decide) rfl) hS ls (lv_sub hl [0, 1, 2, 3] rfl)
    have hs35 := hs
    clear hs
    by_cases hs : v2 = 36
    ·
      subst hs
      refine lv_tableIn (off := 1679) (tgt := 1712) hx hb dL_law_33 (by decide) (by decide) (by decide +kernel) (by decide) ?_
      exact law_case_36 l C0 hN hA hbA hA2 q1 q8 qb3 cb4 qi5 qp6 qm7 qb10 cb11 H locs (hK.sub [0, 1, 2, 3, 4, 5] rfl) (hP.sub [0, 1, 2, 3, 4, 5, 6, 7, 8, 9, 10] rfl) (hD.sub [0, 1, 2, 3, 4, 5, 6, 7, 8, 9, 10] (by decide) rfl) hS ls (lv_sub hl [0, 1, 2, 3] rfl)
    have hs36 := hs
    clear hs
    refine lv_tableOut (tgt := 1735) hx hb dL_law_33 (sw37 hs0 hs1 hs2 hs3 hs4 hs5 hs6 hs7 hs8 hs9 hs10 hs11 hs12 hs13 hs14 hs15 hs16 hs17 hs18 hs19 hs20 hs21 hs22 hs23 hs24 hs25 hs26 hs27 hs28 hs29 hs30 hs31 hs32 hs33 hs34 hs35 hs36) (by decide) ?_
    exact law_tail (D := D) l C0 hN hA hbA hA2 (Nat.le_of_ble_eq_true rfl) (Nat.le_of_ble_eq_true rfl) hS hl
  ·
    refine lv_icmp_gt (tgt := 1741) hx hb dL_law_24 (by decide) (fun hc => ?_) (fun hc => absurd (show nI L - 7 < 0 from pk_sneg (b := 7) (by decide) (by omega)) hc)
    refine lv_iconst (v := 1) hx hb dL_law_1741 (by decide) ?_
    refine va_forget (fun q hq => hA2 _ (hS.2.2 q hq)) ?_
    refine W.widen (k := 600000) (n := 7302250) (Nat.le_of_ble_eq_true rfl) (Nat.le_of_ble_eq_true rfl) ?_
    exact lw_ret hx hb hr hlocks dL_law_1742
