theorem dX0_begin_0 : decode cX0_begin 0 = .ok (.aload_n 0, 1) := by decide +kernel
theorem dX0_begin_1 : decode cX0_begin 1 = .ok (.lload_n 1, 1) := by decide +kernel
theorem dX0_begin_2 : decode cX0_begin 2 = .ok (.putfield 9, 3) := by decide +kernel
theorem dX0_begin_5 : decode cX0_begin 5 = .ok (.aload_n 0, 1) := by decide +kernel
theorem dX0_begin_6 : decode cX0_begin 6 = .ok (.iconst 0, 1) := by decide +kernel
theorem dX0_begin_7 : decode cX0_begin 7 = .ok (.putfield 15, 3) := by decide +kernel
theorem dX0_begin_10 : decode cX0_begin 10 = .ok (.return_, 1) := by decide +kernel
theorem dX0_pair_0 : decode cX0_pair 0 = .ok (.aload_n 0, 1) := by decide +kernel
theorem dX0_pair_1 : decode cX0_pair 1 = .ok (.aload_n 0, 1) := by decide +kernel
theorem dX0_pair_2 : decode cX0_pair 2 = .ok (.getfield 9, 3) := by decide +kernel
theorem dX0_pair_5 : decode cX0_pair 5 = .ok (.ldc2_w 19, 3) := by decide +kernel
theorem dX0_pair_8 : decode cX0_pair 8 = .ok (.lmul, 1) := by decide +kernel
theorem dX0_pair_9 : decode cX0_pair 9 = .ok (.ldc2_w 21, 3) := by decide +kernel
theorem dX0_pair_12 : decode cX0_pair 12 = .ok (.ladd, 1) := by decide +kernel
theorem dX0_pair_13 : decode cX0_pair 13 = .ok (.putfield 9, 3) := by decide +kernel
theorem dX0_pair_16 : decode cX0_pair 16 = .ok (.aload_n 0, 1) := by decide +kernel
theorem dX0_pair_17 : decode cX0_pair 17 = .ok (.iconst 1, 1) := by decide +kernel
theorem dX0_pair_18 : decode cX0_pair 18 = .ok (.aload_n 0, 1) := by decide +kernel
theorem dX0_pair_19 : decode cX0_pair 19 = .ok (.getfield 9, 3) := by decide +kernel
theorem dX0_pair_22 : decode cX0_pair 22 = .ok (.bipush 33, 2) := by decide +kernel
theorem dX0_pair_24 : decode cX0_pair 24 = .ok (.lushr, 1) := by decide +kernel
theorem dX0_pair_25 : decode cX0_pair 25 = .ok (.ldc2_w 23, 3) := by decide +kernel
theorem dX0_pair_28 : decode cX0_pair 28 = .ok (.lrem, 1) := by decide +kernel
theorem dX0_pair_29 : decode cX0_pair 29 = .ok (.l2i, 1) := by decide +kernel
theorem dX0_pair_30 : decode cX0_pair 30 = .ok (.iadd, 1) := by decide +kernel
theorem dX0_pair_31 : decode cX0_pair 31 = .ok (.putfield 25, 3) := by decide +kernel
theorem dX0_pair_34 : decode cX0_pair 34 = .ok (.aload_n 0, 1) := by decide +kernel
theorem dX0_pair_35 : decode cX0_pair 35 = .ok (.aload_n 0, 1) := by decide +kernel
theorem dX0_pair_36 : decode cX0_pair 36 = .ok (.getfield 9, 3) := by decide +kernel
theorem dX0_pair_39 : decode cX0_pair 39 = .ok (.ldc2_w 19, 3) := by decide +kernel
theorem dX0_pair_42 : decode cX0_pair 42 = .ok (.lmul, 1) := by decide +kernel
theorem dX0_pair_43 : decode cX0_pair 43 = .ok (.ldc2_w 21, 3) := by decide +kernel
theorem dX0_pair_46 : decode cX0_pair 46 = .ok (.ladd, 1) := by decide +kernel
theorem dX0_pair_47 : decode cX0_pair 47 = .ok (.putfield 9, 3) := by decide +kernel
theorem dX0_pair_50 : decode cX0_pair 50 = .ok (.aload_n 0, 1) := by decide +kernel
theorem dX0_pair_51 : decode cX0_pair 51 = .ok (.aload_n 0, 1) := by decide +kernel
theorem dX0_pair_52 : decode cX0_pair 52 = .ok (.getfield 9, 3) := by decide +kernel
theorem dX0_pair_55 : decode cX0_pair 55 = .ok (.bipush 33, 2) := by decide +kernel
theorem dX0_pair_57 : decode cX0_pair 57 = .ok (.lushr, 1) := by decide +kernel
theorem dX0_pair_58 : decode cX0_pair 58 = .ok (.ldc2_w 28, 3) := by decide +kernel
theorem dX0_pair_61 : decode cX0_pair 61 = .ok (.lrem, 1) := by decide +kernel
theorem dX0_pair_62 : decode cX0_pair 62 = .ok (.l2i, 1) := by decide +kernel
theorem dX0_pair_63 : decode cX0_pair 63 = .ok (.putfield 30, 3) := by decide +kernel
theorem dX0_pair_66 : decode cX0_pair 66 = .ok (.aload_n 0, 1) := by decide +kernel
theorem dX0_pair_67 : decode cX0_pair 67 = .ok (.dup, 1) := by decide +kernel
theorem dX0_pair_68 : decode cX0_pair 68 = .ok (.getfield 15, 3) := by decide +kernel
theorem dX0_pair_71 : decode cX0_pair 71 = .ok (.iconst 1, 1) := by decide +kernel
theorem dX0_pair_72 : decode cX0_pair 72 = .ok (.iadd, 1) := by decide +kernel
theorem dX0_pair_73 : decode cX0_pair 73 = .ok (.putfield 15, 3) := by decide +kernel
theorem dX0_pair_76 : decode cX0_pair 76 = .ok (.return_, 1) := by decide +kernel
theorem dX10_spot_0 : decode cX10_spot 0 = .ok (.iload_n 3, 1) := by decide +kernel
theorem dX10_spot_1 : decode cX10_spot 1 = .ok (.iconst 1, 1) := by decide +kernel
theorem dX10_spot_2 : decode cX10_spot 2 = .ok (.if_icmp .ge 5, 3) := by decide +kernel
theorem dX10_spot_5 : decode cX10_spot 5 = .ok (.iconst (-1), 1) := by decide +kernel
theorem dX10_spot_6 : decode cX10_spot 6 = .ok (.ireturn, 1) := by decide +kernel
theorem dX10_spot_7 : decode cX10_spot 7 = .ok (.iload_n 0, 1) := by decide +kernel
theorem dX10_spot_8 : decode cX10_spot 8 = .ok (.i2l, 1) := by decide +kernel
theorem dX10_spot_9 : decode cX10_spot 9 = .ok (.iload_n 2, 1) := by decide +kernel
theorem dX10_spot_10 : decode cX10_spot 10 = .ok (.i2l, 1) := by decide +kernel
theorem dX10_spot_11 : decode cX10_spot 11 = .ok (.lmul, 1) := by decide +kernel
theorem dX10_spot_12 : decode cX10_spot 12 = .ok (.iload_n 1, 1) := by decide +kernel
theorem dX10_spot_13 : decode cX10_spot 13 = .ok (.i2l, 1) := by decide +kernel
theorem dX10_spot_14 : decode cX10_spot 14 = .ok (.ladd, 1) := by decide +kernel
theorem dX10_spot_15 : decode cX10_spot 15 = .ok (.ldc2_w 353, 3) := by decide +kernel
theorem dX10_spot_18 : decode cX10_spot 18 = .ok (.lrem, 1) := by decide +kernel
theorem dX10_spot_19 : decode cX10_spot 19 = .ok (.iload_n 3, 1) := by decide +kernel
theorem dX10_spot_20 : decode cX10_spot 20 = .ok (.i2l, 1) := by decide +kernel
theorem dX10_spot_21 : decode cX10_spot 21 = .ok (.lrem, 1) := by decide +kernel
theorem dX10_spot_22 : decode cX10_spot 22 = .ok (.l2i, 1) := by decide +kernel
theorem dX10_spot_23 : decode cX10_spot 23 = .ok (.ireturn, 1) := by decide +kernel
def NC (U : State) : Prop := va_Nw (.methodLinkNest RX1 41 yX10_writeInt "ClashFree") U ∧ va_Nw (.methodLinkNest RX1 57 yX10_checkOf "ClashFree") U ∧ va_Nw (.methodLinkNest RX3 46 yX10_spot "ClashFree") U ∧ va_Nw (.methodLinkNest RX4 86 yX10_isKey "ClashFree") U ∧ va_Nw (.methodLinkNest RX5 11 yX0_init "ClashFree") U ∧ va_Nw (.methodLinkNest RX5 86 yX10_spot "ClashFree") U ∧ va_Nw (.methodLinkNest RX6 20 yX8_init "ClashFree") U ∧ va_Nw (.methodLinkNest RX9 11 yX0_init "ClashFree") U ∧ va_AO RX9 U
theorem NC.warm {s U : State} (hW : s.WarmedH U.vm) (h : NC s) : NC U := ⟨va_Nw.warmM hW h.1, va_Nw.warmM hW h.2.1, va_Nw.warmM hW h.2.2.1, va_Nw.warmM hW h.2.2.2.1, va_Nw.warmM hW h.2.2.2.2.1, va_Nw.warmM hW h.2.2.2.2.2.1, va_Nw.warmM hW h.2.2.2.2.2.2.1, va_Nw.warmM hW h.2.2.2.2.2.2.2.1, va_AO.moved hW.alike h.2.2.2.2.2.2.2.2⟩
theorem NC.blind {U : State} {g : JFrame} {mk : MethodId} {a : Array Value} (h : NC U) : NC (U.calling g mk a) := ⟨va_Nw.same rfl rfl h.1, va_Nw.same rfl rfl h.2.1, va_Nw.same rfl rfl h.2.2.1, va_Nw.same rfl rfl h.2.2.2.1, va_Nw.same rfl rfl h.2.2.2.2.1, va_Nw.same rfl rfl h.2.2.2.2.2.1, va_Nw.same rfl rfl h.2.2.2.2.2.2.1, va_Nw.same rfl rfl h.2.2.2.2.2.2.2.1, va_AO.moved (u := U) (U := U.calling g mk a) (Vm.Alike.refl U.vm) h.2.2.2.2.2.2.2.2⟩
def PcWC (D : va_G) (av : List Value) (sz : Nat) (ws : va_W) (tys : List (ClassId × FieldType)) : Array Value → State → Prop := va_Pc av (fun U => U.heap.size = sz ∧ va_P D vwCl ws U.heap ∧ va_K D vwCl tys U ∧ va_D (fun _ => True) ws ∧ NC U)
theorem PcWC_b {D : va_G} {av : List Value} {sz : Nat} {ws : va_W} {tys : List (ClassId × FieldType)} : FrameBlind (PcWC D av sz ws tys) := fun a U g mk q => by
  obtain ⟨q0, q1, qP, qK, qD, qN⟩ := q
  exact ⟨q0, q1, qP, va_K.moved (u := U) (U := U.calling g mk a) (Vm.Alike.refl U.vm) qK, qD, qN.blind⟩
theorem PcWC_S {D : va_G} {s : State} {H : Heap} {A : Nat → Prop} {av : List Value} {ws : va_W} {tys : List (ClassId × FieldType)} (hP : va_P D vwCl ws H) (hK : va_K D vwCl tys s) (hD : va_D A ws) (hN : NC s) : PreS s H (PcWC D av H.size ws tys) av := ⟨PcWC_b, fun U hU hW => ⟨rfl, by rw [hU], by rw [hU]; exact hP, va_K.moved hW.alike hK, hD.weaken (fun _ _ _ _ => trivial), hN.warm hW⟩⟩
theorem PcWC_V {D : va_G} {s : State} {H : Heap} {A : Nat → Prop} {C : String} {T : u_T} {N ci q0 b : Nat} {fs As : List Value} {ws : va_W} {tys : List (ClassId × FieldType)} (hP : va_P D vwCl ws H) (hK : va_K D vwCl tys s) (hD : va_D A ws) (hN : NC s) (he : ws[q0]? = some (b, .inr (ci, fs))) (hc : vwCl[ci]? = some (C, T, N)) : PreV s H C b (PcWC D (.ref b :: As) H.size ws tys) As := ⟨PcWC_b, va_recv hK hP hc he, fun U hU hW => ⟨rfl, by rw [hU], by rw [hU]; exact hP, va_K.moved hW.alike hK, hD.weaken (fun _ _ _ _ => trivial), hN.warm hW⟩⟩
def PcRC (D : va_G) (av : List Value) (sz : Nat) (ws : va_W) (tys : List (ClassId × FieldType)) : Array Value → State → Prop := va_Pc av (fun U => U.heap.size = sz ∧ va_P D vwCl ws U.heap ∧ va_K D vwCl tys U ∧ NC U)
theorem PcRC_b {D : va_G} {av : List Value} {sz : Nat} {ws : va_W} {tys : List (ClassId × FieldType)} : FrameBlind (PcRC D av sz ws tys) := fun a U g mk q => by
  obtain ⟨q0, q1, qP, qK, qN⟩ := q
  exact ⟨q0, q1, qP, va_K.moved (u := U) (U := U.calling g mk a) (Vm.Alike.refl U.vm) qK, qN.blind⟩
theorem PcRC_S {D : va_G} {s : State} {H : Heap} {av : List Value} {ws : va_W} {tys : List (ClassId × FieldType)} (hP : va_P D vwCl ws H) (hK : va_K D vwCl tys s) (hN : NC s) : PreS s H (PcRC D av H.size ws tys) av := ⟨PcRC_b, fun U hU hW => ⟨rfl, by rw [hU], by rw [hU]; exact hP, va_K.moved hW.alike hK, hN.warm hW⟩⟩
theorem PcRC_V {D : va_G} {s : State} {H : Heap} {C : String} {T : u_T} {N ci q0 b : Nat} {fs As : List Value} {ws : va_W} {tys : List (ClassId × FieldType)} (hP : va_P D vwCl ws H) (hK : va_K D vwCl tys s) (hN : NC s) (he : ws[q0]? = some (b, .inr (ci, fs))) (hc : vwCl[ci]? = some (C, T, N)) : PreV s H C b (PcRC D (.ref b :: As) H.size ws tys) As := ⟨PcRC_b, va_recv hK hP hc he, fun U hU hW => ⟨rfl, by rw [hU], by rw [hU]; exact hP, va_K.moved hW.alike hK, hN.warm hW⟩⟩
theorem inz {z : Int32} {n : Nat} (hn : n < 2147483648) (h0 : ¬ z < 0) (h1 : z < nI n) : ∃ j, j < n ∧ z = nI j := by
  rw [Int32.lt_iff_toInt_lt, nI_toInt (by omega)] at h1
  rw [Int32.lt_iff_toInt_lt, show (0 : Int32).toInt = 0 from by decide] at h0
  refine ⟨z.toInt.toNat, by omega, ?_⟩
  apply Int32.toInt_inj.mp
  rw [nI_toInt (by omega)]
  omega
theorem inz_le {z : Int32} {n : Nat} (hn : n < 2147483647) (h0 : ¬ z < 0) (h1 : z ≤ nI n) : ∃ j, j ≤ n ∧ z = nI j := by
  rw [Int32.le_iff_toInt_le, nI_toInt (by omega)] at h1
  rw [Int32.lt_iff_toInt_lt, show (0 : Int32).toInt = 0 from by decide] at h0
  refine ⟨z.toInt.toNat, by omega, ?_⟩
  apply Int32.toInt_inj.mp
  rw [nI_toInt (by omega)]
  omega
def gY (ob : Nat → Nat) (nb : Int32) (ka : Int32) (kb : Int32) (sm : Int32) (ln : Int32) : List Value := [.int nb, .int ka, .int kb, .int sm, .int ln, .ref (ob 6), .ref (ob 7), .ref (ob 8), .ref (ob 9), .ref (ob 10), .ref (ob 11), .ref (ob 12), .ref (ob 13)]
def gT (ob : Nat → Nat) (tb : Int32) (ts : Int32) (tg : Int32) (tl : Int32) (tc : Int32) (tr : Int32) (tu : Int32) (tv : Int32) (tw : Int32) : List Value := [.int tb, .int ts, .int tg, .int tl, .int tc, .int tr, .int tu, .int tv, .int tw, .ref (ob 1), .ref (ob 2), .ref (ob 5)]
def gPs (oq : Nat → Nat) (qf : Int32) (qp : Int32) (qd : Int32) (qs : Int32) (qt : Int32) (qb : Int32) (qh : Int32) (qr : Int32) (qn : Int32) (bk : Int32) (wz : Int32) : List Value := [.int qf, .int qp, .int qd, .ref (oq 1), .ref (oq 5), .int qs, .int qt, .int qb, .int qh, .int qr, .int qn, .int bk, .ref (oq 6), .int wz, .ref (oq 7)]
def gSc (oq : Nat → Nat) (ox : Nat → Nat) (zl : Int32) (ta : Int32) (be : Int32) (ki : Int32) (nu : Int32) (wo : Int32) : List Value := [.ref (ox 2), .int zl, .int ta, .int be, .int ki, .int nu, .int wo]
def gMa (ow : Nat → Nat) (st : Int32) (rf : Int32) (lt : Int32) (en : Int32) (lo : Int32) (oz : Int32) : List Value := [.int st, .int rf, .int lt, .int en, .int lo, .ref (ow 1), .int oz, .ref (ow 2)]
theorem spot_eq {ka kb kx q : Nat} (ha : ka < 2147483647) (hb : kb < 2147483647) (hx : kx < 2147483648) (h0 : 0 < q) (h1 : q < 2147483648) : Int64.toInt32 ((Int32.toInt64 (nI ka)) * (Int32.toInt64 (nI kx)) + (Int32.toInt64 (nI kb)) - ((Int32.toInt64 (nI ka)) * (Int32.toInt64 (nI kx)) + (Int32.toInt64 (nI kb))) / 2147483647 * 2147483647 - ((Int32.toInt64 (nI ka)) * (Int32.toInt64 (nI kx)) + (Int32.toInt64 (nI kb)) - ((Int32.toInt64 (nI ka)) * (Int32.toInt64 (nI kx)) + (Int32.toInt64 (nI kb))) / 2147483647 * 2147483647) / (Int32.toInt64 (nI q)) * (Int32.toInt64 (nI q))) = nI ((ka * kx + kb) % 2147483647 % q) := by
  rw [nI_l (by omega), nI_l (by omega), nI_l (by omega), nI_l (by omega), lN_mul, lN_add, pl_rem ha hb hx, pk_lRem (Nat.lt_trans (Nat.mod_lt _ (by decide)) (by decide)) h0 (by omega), lN_i]
theorem spot_ne0 {z : Int32} (h : (1 : Int32) ≤ z) : ¬ Int32.toInt64 z = 0 := fun e => by
  have e2 : z.toInt64.toInt = (0 : Int64).toInt := congrArg Int64.toInt e
  rw [Int32.toInt_toInt64, show (0 : Int64).toInt = 0 from by decide] at e2
  rw [Int32.le_iff_toInt_le, show (1 : Int32).toInt = 1 from by decide] at h
  omega
def own_k_dbegin : List Cond := [.fieldLink RX0 9 "ClashFree$Draw" "s" "J", .fieldLink RX0 15 "ClashFree$Draw" "pairs" "I"]
def wp_k_dbegin : List Cond := .code yX0_begin cX0_begin 3 none :: (own_k_dbegin ++ (wsX00 ++ ([] : List Cond)))
set_option maxRecDepth 20000 in
theorem inown_k_dbegin : ∀ w ∈ own_k_dbegin, w ∈ lw_tbl := mem_places [146, 158] (by decide +kernel)
set_option maxRecDepth 20000 in
theorem in_k_dbegin : ∀ w ∈ wp_k_dbegin, w ∈ lw_tbl := List.forall_mem_cons.mpr ⟨List.mem_of_getElem? (i := 555) (by decide +kernel), List.forall_mem_append.mpr ⟨inown_k_dbegin, List.forall_mem_append.mpr ⟨lwb_X0, fun _ h => absurd h List.not_mem_nil⟩⟩⟩
set_option maxRecDepth 20000 in
theorem good_k_dbegin : wp_k_dbegin.all goodWord = true := by decide +kernel
set_option maxHeartbeats 4000000 in
set_option maxRecDepth 100000 in
theorem k_dbegin (l : Launch) (D : va_G) (sz : Nat) (ob : Nat → Nat) (cI : ClassId) (sd : Int64) (da : Nat) (db : Nat) (pr : Int32) (y1 : Int64)  : Met l yX0_begin wp_k_dbegin ({ frames := 0, cells := 0, slots := 0, locals := 0 }) (PcWC D [.ref (ob 1), .long y1] sz [(ob 1, .inr (0, [.long sd, .int (nI da), .int (nI db), .int pr]))] []) (va_Qv (fun (u : (Int64) × (Int32)) => u.1 = y1) (fun (u : (Int64) × (Int32)) t => va_P D vwCl [(ob 1, .inr (0, [.long u.1, .int (nI da), .int (nI db), .int u.2]))] t.heap ∧ va_K D vwCl [] t ∧ va_D (va_A [(ob 1, .inr (0, [.long sd, .int (nI da), .int (nI db), .int pr]))] sz) [(ob 1, .inr (0, [.long u.1, .int (nI da), .int (nI db), .int u.2]))]) (va_A [(ob 1, .inr (0, [.long sd, .int (nI da), .int (nI db), .int pr]))] sz)) 0 0 (va_A [(ob 1, .inr (0, [.long sd, .int (nI da), .int (nI db), .int pr]))] sz) := by
  refine Met.ofW (cc := cX0_begin) (maxL := 3) (ret := none) (by decide) rfl ?_
  intro p e s m args below meth c s₁ B hml hv
  obtain ⟨rfl, hsz, hP, hK, hD0, hN⟩ := hv
  have hx := B.exec
  have hb := B.bytes
  have hr := B.returns
  have hts := atoms_spec (ws := wp_k_dbegin) B.pre
  have hin_X0 : ∀ w ∈ wsX00, w ∈ wp_k_dbegin := fun _ h => (List.mem_cons_of_mem _ (List.mem_append_right _ (List.mem_append_left _ h)))
  have hown : s.vm.findClass RX0 = some m.cls := findClass_of_methodNamed B.named
  have hlocks := B.notSynchronized
  subst hsz
  have hD := hD0.self (sz := s.heap.size)
  generalize hAe : va_A [(ob 1, .inr (0, [.long sd, .int (nI da), .int (nI db), .int pr]))] s.heap.size = A at hD ⊢
  have hA : ∀ q : Nat, s.heap.size ≤ q → A q := fun q h => by rw [← hAe]; exact Or.inr h
  have hS : va_S A s.heap s.heap [] := va_S.rf
  have hP : va_P D vwCl [(ob 1, .inr (0, [.long sd, .int (nI da), .int (nI db), .int pr]))] s.heap := hP
  have hl := lv_entry ([.ref (ob 1), .long y1]) (n := 3) (Nat.le_of_ble_eq_true rfl)
  rw [lg_entry_eq]
  generalize (lg_sl ([.ref (ob 1), .long y1]) ++ List.replicate (3 - (lg_sl ([.ref (ob 1), .long y1])).length) Slot.unset).toArray = ls at hl ⊢
  have hl : lv_has ls 3 [(0, .ref (ob 1)), (1, .long y1)] := hl
  refine lv_aload_n hx hb dX0_begin_0 rfl (lv_at hl 0 rfl) ?_
  refine lv_lload_n hx hb dX0_begin_1 rfl (lv_at hl 1 rfl) ?_
  refine va_put (D := D) (ci := 0) (v := .long y1) (ty := .long) (C := RX0) (T := TX0) (N := 4) hx hb hts hin_X0 tyX0 tyX0_ok nmX0 hown hK hP hD hS 0 rfl rfl 0 (by decide) (hts (.fieldLink RX0 9 "ClashFree$Draw" "s" "J") (List.mem_of_getElem? (i := 1) rfl)) (fun _ h9 => h9) rfl (by decide +kernel) rfl rfl (Nat.le_of_ble_eq_true rfl) dX0_begin_2 (fun H locs hP hD hS => ?_)
  have hP : va_P D vwCl [(ob 1, .inr (0, [.long y1, .int (nI da), .int (nI db), .int pr]))] H := hP
  have hD : va_D A [(ob 1, .inr (0, [.long y1, .int (nI da), .int (nI db), .int pr]))] := hD
  refine lv_aload_n hx hb dX0_begin_5 rfl (lv_at hl 0 rfl) ?_
  refine lv_iconst (v := 0) hx hb dX0_begin_6 (by decide) ?_
  refine va_put (D := D) (ci := 0) (v := .int 0) (ty := .int) (C := RX0) (T := TX0) (N := 4) hx hb hts hin_X0 tyX0 tyX0_ok nmX0 hown hK hP hD hS 0 rfl rfl 3 (by decide) (hts (.fieldLink RX0 15 "ClashFree$Draw" "pairs" "I") (List.mem_of_getElem? (i := 2) rfl)) (fun _ h9 => h9) rfl (by decide +kernel) rfl rfl (Nat.le_of_ble_eq_true rfl) dX0_begin_7 (fun H locs hP hD hS => ?_)
  have hP : va_P D vwCl [(ob 1, .inr (0, [.long y1, .int (nI da), .int (nI db), .int 0]))] H := hP
  have hD : va_D A [(ob 1, .inr (0, [.long y1, .int (nI da), .int (nI db), .int 0]))] := hD
  exact W.vret hx hb hr (fun t ht hW => ⟨⟨(y1, 0), rfl, (by (try dsimp only); first | done | exact rfl), by rw [ht]; exact hP.sub [0] rfl, va_K.moved hW.alike (hK.sub [] rfl), hD.sub [0] (by decide) rfl⟩, hS.F ht⟩) hS.2.2 dX0_begin_10

def own_k_pair : List Cond := [.fieldLink RX0 9 "ClashFree$Draw" "s" "J", .constantLong RX0 19 (6364136223846793005), .constantLong RX0 21 (1442695040888963407), .constantLong RX0 23 (2147483646), .fieldLink RX0 25 "ClashFree$Draw" "a" "I", .constantLong RX0 28 (2147483647), .fieldLink RX0 30 "ClashFree$Draw" "b" "I", .fieldLink RX0 15 "ClashFree$Draw" "pairs" "I"]
def wp_k_pair : List Cond := .code yX0_pair cX0_pair 1 none :: (own_k_pair ++ (wsX00 ++ ([] : List Cond)))
set_option maxRecDepth 20000 in
theorem inown_k_pair : ∀ w ∈ own_k_pair, w ∈ lw_tbl := mem_places [146, 567, 568, 569, 150, 570, 155, 158] (by decide +kernel)
set_option maxRecDepth 20000 in
theorem in_k_pair : ∀ w ∈ wp_k_pair, w ∈ lw_tbl := List.forall_mem_cons.mpr ⟨List.mem_of_getElem? (i := 566) (by decide +kernel), List.forall_mem_append.mpr ⟨inown_k_pair, List.forall_mem_append.mpr ⟨lwb_X0, fun _ h => absurd h List.not_mem_nil⟩⟩⟩
set_option maxRecDepth 20000 in
theorem good_k_pair : wp_k_pair.all goodWord = true := by decide +kernel
set_option maxHeartbeats 4000000 in
set_option maxRecDepth 100000 in
theorem k_pair (l : Launch) (D : va_G) (sz : Nat) (ob : Nat → Nat) (cI : ClassId) (sd : Int64) (da : Nat) (db : Nat) (pr : Int32)  : Met l yX0_pair wp_k_pair ({ frames := 0, cells := 0, slots := 0, locals := 0 }) (PcWC D [.ref (ob 1)] sz [(ob 1, .inr (0, [.long sd, .int (nI da), .int (nI db), .int pr]))] []) (va_Qv (fun (u : (Int64) × (Nat) × (Nat) × (Int32)) => u.2.1 < 2147483647 ∧ u.2.2.1 < 2147483647) (fun (u : (Int64) × (Nat) × (Nat) × (Int32)) t => va_P D vwCl [(ob 1, .inr (0, [.long u.1, .int (nI u.2.1), .int (nI u.2.2.1), .int u.2.2.2]))] t.heap ∧ va_K D vwCl [] t ∧ va_D (va_A [(ob 1, .inr (0, [.long sd, .int (nI da), .int (nI db), .int pr]))] sz) [(ob 1, .inr (0, [.long u.1, .int (nI u.2.1), .int (nI u.2.2.1), .int u.2.2.2]))]) (va_A [(ob 1, .inr (0, [.long sd, .int (nI da), .int (nI db), .int pr]))] sz)) 0 0 (va_A [(ob 1, .inr (0, [.long sd, .int (nI da), .int (nI db), .int pr]))] sz) := by
  refine Met.ofW (cc := cX0_pair) (maxL := 1) (ret := none) (by decide) rfl ?_
  intro p e s m args below meth c s₁ B hml hv
  obtain ⟨rfl, hsz, hP, hK, hD0, hN⟩ := hv
  have hx := B.exec
  have hb := B.bytes
  have hr := B.returns
  have hts := atoms_spec (ws := wp_k_pair) B.pre
  have hin_X0 : ∀ w ∈ wsX00, w ∈ wp_k_pair := fun _ h => (List.mem_cons_of_mem _ (List.mem_append_right _ (List.mem_append_left _ h)))
  have hown : s.vm.findClass RX0 = some m.cls := findClass_of_methodNamed B.named
  have hlocks := B.notSynchronized
  subst hsz
  have hD := hD0.self (sz := s.heap.size)
  generalize hAe : va_A [(ob 1, .inr (0, [.long sd, .int (nI da), .int (nI db), .int pr]))] s.heap.size = A at hD ⊢
  have hA : ∀ q : Nat, s.heap.size ≤ q → A q := fun q h => by rw [← hAe]; exact Or.inr h
  have hS : va_S A s.heap s.heap [] := va_S.rf
  have hP : va_P D vwCl [(ob 1, .inr (0, [.long sd, .int (nI da), .int (nI db), .int pr]))] s.heap := hP
  have hl := lv_entry ([.ref (ob 1)]) (n := 1) (Nat.le_of_ble_eq_true rfl)
  rw [lg_entry_eq]
  generalize (lg_sl ([.ref (ob 1)]) ++ List.replicate (1 - (lg_sl ([.ref (ob 1)])).length) Slot.unset).toArray = ls at hl ⊢
  have hl : lv_has ls 1 [(0, .ref (ob 1))] := hl
  refine lv_aload_n hx hb dX0_pair_0 rfl (lv_at hl 0 rfl) ?_
  refine lv_aload_n hx hb dX0_pair_1 rfl (lv_at hl 0 rfl) ?_
  refine va_get (D := D) (ci := 0) (v := .long sd) (C := RX0) (T := TX0) (N := 4) hx hb hts hin_X0 hown hK hP 0 rfl rfl 0 (by decide) (hts (.fieldLink RX0 9 "ClashFree$Draw" "s" "J") (List.mem_of_getElem? (i := 1) rfl)) (fun _ h9 => h9) rfl dX0_pair_2 ?_
  refine lv_ldc2 (v := 6364136223846793005) hx hb hown (hts (.constantLong RX0 19 (6364136223846793005)) (List.mem_of_getElem? (i := 2) rfl)) dX0_pair_5 ?_
  refine lv_lmul hx hb dX0_pair_8 ?_
  refine lv_ldc2 (v := 1442695040888963407) hx hb hown (hts (.constantLong RX0 21 (1442695040888963407)) (List.mem_of_getElem? (i := 3) rfl)) dX0_pair_9 ?_
  refine lv_ladd hx hb dX0_pair_12 ?_
  refine lv_topl (fun v1 ev1 => ?_)
  obtain rfl : v1 = nxS sd := ev1.trans (rfl)
  refine va_put (D := D) (ci := 0) (v := .long (nxS sd)) (ty := .long) (C := RX0) (T := TX0) (N := 4) hx hb hts hin_X0 tyX0 tyX0_ok nmX0 hown hK hP hD hS 0 rfl rfl 0 (by decide) (hts (.fieldLink RX0 9 "ClashFree$Draw" "s" "J") (List.mem_of_getElem? (i := 1) rfl)) (fun _ h9 => h9) rfl (by decide +kernel) rfl rfl (Nat.le_of_ble_eq_true rfl) dX0_pair_13 (fun H locs hP hD hS => ?_)
  have hP : va_P D vwCl [(ob 1, .inr (0, [.long (nxS sd), .int (nI da), .int (nI db), .int pr]))] H := hP
  have hD : va_D A [(ob 1, .inr (0, [.long (nxS sd), .int (nI da), .int (nI db), .int pr]))] := hD
  refine lv_aload_n hx hb dX0_pair_16 rfl (lv_at hl 0 rfl) ?_
  refine lv_iconst (v := 1) hx hb dX0_pair_17 (by decide) ?_
  refine lv_aload_n hx hb dX0_pair_18 rfl (lv_at hl 0 rfl) ?_
  refine va_get (D := D) (ci := 0) (v := .long (nxS sd)) (C := RX0) (T := TX0) (N := 4) hx hb hts hin_X0 hown hK hP 0 rfl rfl 0 (by decide) (hts (.fieldLink RX0 9 "ClashFree$Draw" "s" "J") (List.mem_of_getElem? (i := 1) rfl)) (fun _ h9 => h9) rfl dX0_pair_19 ?_
  refine lv_bipush (v := 33) hx hb dX0_pair_22 (by decide) ?_
  refine lv_lushr hx hb dX0_pair_24 rfl ?_
  refine lv_topl (fun v2 ev2 => ?_)
  obtain rfl : v2 = lN (hi33 (nxS sd)) := ev2.trans (sh33 _)
  refine lv_ldc2 (v := 2147483646) hx hb hown (hts (.constantLong RX0 23 (2147483646)) (List.mem_of_getElem? (i := 4) rfl)) dX0_pair_25 ?_
  refine lv_lrem hx hb dX0_pair_28 (by decide) ?_
  refine lv_topl (fun v3 ev3 => ?_)
  obtain rfl : v3 = lN (hi33 (nxS sd) % 2147483646) := ev3.trans (pk_lRem (b := 2147483646) (sh33_lt _) (by decide) (by decide))
  refine lv_l2i hx hb dX0_pair_29 rfl ?_
  refine lv_topi (fun v4 ev4 => ?_)
  obtain rfl : v4 = nI (hi33 (nxS sd) % 2147483646) := ev4.trans (lN_i _)
  refine lv_iadd hx hb dX0_pair_30 ?_
  refine lv_topi (fun v5 ev5 => ?_)
  obtain rfl : v5 = nI (1 + hi33 (nxS sd) % 2147483646) := ev5.trans (nI_add 1 _)
  refine va_put (D := D) (ci := 0) (v := .int (nI (1 + hi33 (nxS sd) % 2147483646))) (ty := .int) (C := RX0) (T := TX0) (N := 4) hx hb hts hin_X0 tyX0 tyX0_ok nmX0 hown hK hP hD hS 0 rfl rfl 1 (by decide) (hts (.fieldLink RX0 25 "ClashFree$Draw" "a" "I") (List.mem_of_getElem? (i := 5) rfl)) (fun _ h9 => h9) rfl (by decide +kernel) rfl rfl (Nat.le_of_ble_eq_true rfl) dX0_pair_31 (fun H locs hP hD hS => ?_)
  have hP : va_P D vwCl [(ob 1, .inr (0, [.long (nxS sd), .int (nI (1 + hi33 (nxS sd) % 2147483646)), .int (nI db), .int pr]))] H := hP
  have hD : va_D A [(ob 1, .inr (0, [.long (nxS sd), .int (nI (1 + hi33 (nxS sd) % 2147483646)), .int (nI db), .int pr]))] := hD
  refine lv_aload_n hx hb dX0_pair_34 rfl (lv_at hl 0 rfl) ?_
  refine lv_aload_n hx hb dX0_pair_35 rfl (lv_at hl 0 rfl) ?_
  refine va_get (D := D) (ci := 0) (v := .long (nxS sd)) (C := RX0) (T := TX0) (N := 4) hx hb hts hin_X0 hown hK hP 0 rfl rfl 0 (by decide) (hts (.fieldLink RX0 9 "ClashFree$Draw" "s" "J") (List.mem_of_getElem? (i := 1) rfl)) (fun _ h9 => h9) rfl dX0_pair_36 ?_
  refine lv_ldc2 (v := 6364136223846793005) hx hb hown (hts (.constantLong RX0 19 (6364136223846793005)) (List.mem_of_getElem? (i := 2) rfl)) dX0_pair_39 ?_
  refine lv_lmul hx hb dX0_pair_42 ?_
  refine lv_ldc2 (v := 1442695040888963407) hx hb hown (hts (.constantLong RX0 21 (1442695040888963407)) (List.mem_of_getElem? (i := 3) rfl)) dX0_pair_43 ?_
  refine lv_ladd hx hb dX0_pair_46 ?_
  refine lv_topl (fun v6 ev6 => ?_)
  obtain rfl : v6 = nxS (nxS sd) := ev6.trans (rfl)
  refine va_put (D := D) (ci := 0) (v := .long (nxS (nxS sd))) (ty := .long) (C := RX0) (T := TX0) (N := 4) hx hb hts hin_X0 tyX0 tyX0_ok nmX0 hown hK hP hD hS 0 rfl rfl 0 (by decide) (hts (.fieldLink RX0 9 "ClashFree$Draw" "s" "J") (List.mem_of_getElem? (i := 1) rfl)) (fun _ h9 => h9) rfl (by decide +kernel) rfl rfl (Nat.le_of_ble_eq_true rfl) dX0_pair_47 (fun H locs hP hD hS => ?_)
  have hP : va_P D vwCl [(ob 1, .inr (0, [.long (nxS (nxS sd)), .int (nI (1 + hi33 (nxS sd) % 2147483646)), .int (nI db), .int pr]))] H := hP
  have hD : va_D A [(ob 1, .inr (0, [.long (nxS (nxS sd)), .int (nI (1 + hi33 (nxS sd) % 2147483646)), .int (nI db), .int pr]))] := hD
  refine lv_aload_n hx hb dX0_pair_50 rfl (lv_at hl 0 rfl) ?_
  refine lv_aload_n hx hb dX0_pair_51 rfl (lv_at hl 0 rfl) ?_
  refine va_get (D := D) (ci := 0) (v := .long (nxS (nxS sd))) (C := RX0) (T := TX0) (N := 4) hx hb hts hin_X0 hown hK hP 0 rfl rfl 0 (by decide) (hts (.fieldLink RX0 9 "ClashFree$Draw" "s" "J") (List.mem_of_getElem? (i := 1) rfl)) (fun _ h9 => h9) rfl dX0_pair_52 ?_
  refine lv_bipush (v := 33) hx hb dX0_pair_55 (by decide) ?_
  refine lv_lushr hx hb dX0_pair_57 rfl ?_
  refine lv_topl (fun v7 ev7 => ?_)
  obtain rfl : v7 = lN (hi33 (nxS (nxS sd))) := ev7.trans (sh33 _)
  refine lv_ldc2 (v := 2147483647) hx hb hown (hts (.constantLong RX0 28 (2147483647)) (List.mem_of_getElem? (i := 6) rfl)) dX0_pair_58 ?_
  refine lv_lrem hx hb dX0_pair_61 (by decide) ?_
  refine lv_topl (fun v8 ev8 => ?_)
  obtain rfl : v8 = lN (hi33 (nxS (nxS sd)) % 2147483647) := ev8.trans (pk_lRem (b := 2147483647) (sh33_lt _) (by decide) (by decide))
  refine lv_l2i hx hb dX0_pair_62 rfl ?_
  refine lv_topi (fun v9 ev9 => ?_)
  obtain rfl : v9 = nI (hi33 (nxS (nxS sd)) % 2147483647) := ev9.trans (lN_i _)
  refine va_put (D := D) (ci := 0) (v := .int (nI (hi33 (nxS (nxS sd)) % 2147483647))) (ty := .int) (C := RX0) (T := TX0) (N := 4) hx hb hts hin_X0 tyX0 tyX0_ok nmX0 hown hK hP hD hS 0 rfl rfl 2 (by decide) (hts (.fieldLink RX0 30 "ClashFree$Draw" "b" "I") (List.mem_of_getElem? (i := 7) rfl)) (fun _ h9 => h9) rfl (by decide +kernel) rfl rfl (Nat.le_of_ble_eq_true rfl) dX0_pair_63 (fun H locs hP hD hS => ?_)
  have hP : va_P D vwCl [(ob 1, .inr (0, [.long (nxS (nxS sd)), .int (nI (1 + hi33 (nxS sd) % 2147483646)), .int (nI (hi33 (nxS (nxS sd)) % 2147483647)), .int pr]))] H := hP
  have hD : va_D A [(ob 1, .inr (0, [.long (nxS (nxS sd)), .int (nI (1 + hi33 (nxS sd) % 2147483646)), .int (nI (hi33 (nxS (nxS sd)) % 2147483647)), .int pr]))] := hD
  refine lv_aload_n hx hb dX0_pair_66 rfl (lv_at hl 0 rfl) ?_
  refine lv_dup hx hb dX0_pair_67 rfl ?_
  refine va_get (D := D) (ci := 0) (v := .int pr) (C := RX0) (T := TX0) (N := 4) hx hb hts hin_X0 hown hK hP 0 rfl rfl 3 (by decide) (hts (.fieldLink RX0 15 "ClashFree$Draw" "pairs" "I") (List.mem_of_getElem? (i := 8) rfl)) (fun _ h9 => h9) rfl dX0_pair_68 ?_
  refine lv_iconst (v := 1) hx hb dX0_pair_71 (by decide) ?_
  refine lv_iadd hx hb dX0_pair_72 ?_
  refine lv_topi (fun v10 ev10 => ?_)
  refine va_put (D := D) (ci := 0) (v := .int v10) (ty := .int) (C := RX0) (T := TX0) (N := 4) hx hb hts hin_X0 tyX0 tyX0_ok nmX0 hown hK hP hD hS 0 rfl rfl 3 (by decide) (hts (.fieldLink RX0 15 "ClashFree$Draw" "pairs" "I") (List.mem_of_getElem? (i := 8) rfl)) (fun _ h9 => h9) rfl (by decide +kernel) rfl rfl (Nat.le_of_ble_eq_true rfl) dX0_pair_73 (fun H locs hP hD hS => ?_)
  have hP : va_P D vwCl [(ob 1, .inr (0, [.long (nxS (nxS sd)), .int (nI (1 + hi33 (nxS sd) % 2147483646)), .int (nI (hi33 (nxS (nxS sd)) % 2147483647)), .int v10]))] H := hP
  have hD : va_D A [(ob 1, .inr (0, [.long (nxS (nxS sd)), .int (nI (1 + hi33 (nxS sd) % 2147483646)), .int (nI (hi33 (nxS (nxS sd)) % 2147483647)), .int v10]))] := hD
  exact W.vret hx hb hr (fun t ht hW => ⟨⟨((nxS (nxS sd)), (1 + hi33 (nxS sd) % 2147483646), (hi33 (nxS (nxS sd)) % 2147483647), v10), rfl, (by (try dsimp only); first | done | exact ⟨dp_lt1 _, dp_lt2 _⟩), by rw [ht]; exact hP.sub [0] rfl, va_K.moved hW.alike (hK.sub [] rfl), hD.sub [0] (by decide) rfl⟩, hS.F ht⟩) hS.2.2 dX0_pair_76

def own_k_spot : List Cond := [.constantLong RX10 353 (2147483647)]
def wp_k_spot : List Cond := .code yX10_spot cX10_spot 4 (some .int) :: (own_k_spot ++ ([] : List Cond))
set_option maxRecDepth 20000 in
theorem inown_k_spot : ∀ w ∈ own_k_spot, w ∈ lw_tbl := mem_places [586] (by decide +kernel)
set_option maxRecDepth 20000 in
theorem in_k_spot : ∀ w ∈ wp_k_spot, w ∈ lw_tbl := List.forall_mem_cons.mpr ⟨List.mem_of_getElem? (i := 585) (by decide +kernel), List.forall_mem_append.mpr ⟨inown_k_spot, fun _ h => absurd h List.not_mem_nil⟩⟩
set_option maxRecDepth 20000 in
theorem good_k_spot : wp_k_spot.all goodWord = true := by decide +kernel
set_option maxHeartbeats 4000000 in
set_option maxRecDepth 100000 in
theorem k_spot (l : Launch) (D : va_G) (sz : Nat) (cI : ClassId) (z1 : Int32) (z2 : Int32) (z3 : Int32) (z4 : Int32)  : Met l yX10_spot wp_k_spot ({ frames := 0, cells := 0, slots := 0, locals := 0 }) (PcRC D [.int z1, .int z2, .int z3, .int z4] sz [] []) (va_Qi (fun (r : Int32) (u : Unit) => ∀ ka kb kx q : Nat, z1 = nI ka → z2 = nI kb → z3 = nI kx → z4 = nI q → ka < 2147483647 → kb < 2147483647 → kx < 2147483648 → 0 < q → q < 2147483648 → r = nI ((ka * kx + kb) % 2147483647 % q)) (fun (_ : Unit) _ => True) (va_A [] sz)) 0 0 (va_A [] sz) := by
  refine Met.ofW (cc := cX10_spot) (maxL := 4) (ret := (some .int)) (by decide) rfl ?_
  intro p e s m args below meth c s₁ B hml hv
  obtain ⟨rfl, hsz, hP, hK, hN⟩ := hv
  have hx := B.exec
  have hb := B.bytes
  have hr := B.returns
  have hts := atoms_spec (ws := wp_k_spot) B.pre
  have hown : s.vm.findClass RX10 = some m.cls := findClass_of_methodNamed B.named
  have hlocks := B.notSynchronized
  subst hsz
  generalize hAe : va_A [] s.heap.size = A at ⊢
  have hA : ∀ q : Nat, s.heap.size ≤ q → A q := fun q h => by rw [← hAe]; exact Or.inr h
  have hS : va_S A s.heap s.heap [] := va_S.rf
  have hP : va_P D vwCl [] s.heap := hP
  have hl := lv_entry ([.int z1, .int z2, .int z3, .int z4]) (n := 4) (Nat.le_of_ble_eq_true rfl)
  rw [lg_entry_eq]
  generalize (lg_sl ([.int z1, .int z2, .int z3, .int z4]) ++ List.replicate (4 - (lg_sl ([.int z1, .int z2, .int z3, .int z4])).length) Slot.unset).toArray = ls at hl ⊢
  have hl : lv_has ls 4 [(0, .int z1), (1, .int z2), (2, .int z3), (3, .int z4)] := hl
  refine lv_iload_n hx hb dX10_spot_0 rfl (lv_at hl 3 rfl) ?_
  refine lv_iconst (v := 1) hx hb dX10_spot_1 (by decide) ?_
  refine lv_icmp_ge (tgt := 7) hx hb dX10_spot_2 (by decide) (fun hc1 => ?_) (fun hc1 => ?_)
  ·
    refine lv_iload_n hx hb dX10_spot_7 rfl (lv_at hl 0 rfl) ?_
    refine lv_i2l hx hb dX10_spot_8 rfl ?_
    refine lv_iload_n hx hb dX10_spot_9 rfl (lv_at hl 2 rfl) ?_
    refine lv_i2l hx hb dX10_spot_10 rfl ?_
    refine lv_lmul hx hb dX10_spot_11 ?_
    refine lv_iload_n hx hb dX10_spot_12 rfl (lv_at hl 1 rfl) ?_
    refine lv_i2l hx hb dX10_spot_13 rfl ?_
    refine lv_ladd hx hb dX10_spot_14 ?_
    refine lv_ldc2 (v := 2147483647) hx hb hown (hts (.constantLong RX10 353 (2147483647)) (List.mem_of_getElem? (i := 1) rfl)) dX10_spot_15 ?_
    refine lv_lrem hx hb dX10_spot_18 (by decide) ?_
    refine lv_iload_n hx hb dX10_spot_19 rfl (lv_at hl 3 rfl) ?_
    refine lv_i2l hx hb dX10_spot_20 rfl ?_
    refine lv_lrem hx hb dX10_spot_21 (spot_ne0 (by assumption)) ?_
    refine lv_l2i hx hb dX10_spot_22 rfl ?_
    exact W.iret (v := Int64.toInt32 (((((Int32.toInt64 z1) * (Int32.toInt64 z3)) + (Int32.toInt64 z2)) - (((Int32.toInt64 z1) * (Int32.toInt64 z3)) + (Int32.toInt64 z2)) / 2147483647 * 2147483647) - ((((Int32.toInt64 z1) * (Int32.toInt64 z3)) + (Int32.toInt64 z2)) - (((Int32.toInt64 z1) * (Int32.toInt64 z3)) + (Int32.toInt64 z2)) / 2147483647 * 2147483647) / (Int32.toInt64 z4) * (Int32.toInt64 z4))) hx hb hr (fun t ht hW => ⟨⟨Int64.toInt32 (((((Int32.toInt64 z1) * (Int32.toInt64 z3)) + (Int32.toInt64 z2)) - (((Int32.toInt64 z1) * (Int32.toInt64 z3)) + (Int32.toInt64 z2)) / 2147483647 * 2147483647) - ((((Int32.toInt64 z1) * (Int32.toInt64 z3)) + (Int32.toInt64 z2)) - (((Int32.toInt64 z1) * (Int32.toInt64 z3)) + (Int32.toInt64 z2)) / 2147483647 * 2147483647) / (Int32.toInt64 z4) * (Int32.toInt64 z4)), (), rfl, fun ka kb kx q e1 e2 e3 e4 ha hb9 hx9 h0 h1 => by subst e1 e2 e3 e4; exact spot_eq ha hb9 hx9 h0 h1, trivial⟩, hS.F ht⟩) hS.2.2 dX10_spot_23
  ·
    refine lv_iconst (v := (-1)) hx hb dX10_spot_5 (by decide) ?_
    exact W.iret (v := (-1)) hx hb hr (fun t ht hW => ⟨⟨(-1), (), rfl, fun ka kb kx q _ _ _ e4 _ _ _ h0 h1 => absurd (by rw [e4]; exact nI_le (a := 1) h0 (by omega)) hc1, trivial⟩, hS.F ht⟩) hS.2.2 dX10_spot_6

