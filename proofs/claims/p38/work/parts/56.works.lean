theorem dX11_emits_0 : decode cX11_emits 0 = .ok (.aload_n 0, 1) := by decide +kernel
theorem dX11_emits_1 : decode cX11_emits 1 = .ok (.getfield 45, 3) := by decide +kernel
theorem dX11_emits_4 : decode cX11_emits 4 = .ok (.iconst 2, 1) := by decide +kernel
theorem dX11_emits_5 : decode cX11_emits 5 = .ok (.aload_n 0, 1) := by decide +kernel
theorem dX11_emits_6 : decode cX11_emits 6 = .ok (.getfield 335, 3) := by decide +kernel
theorem dX11_emits_9 : decode cX11_emits 9 = .ok (.imul, 1) := by decide +kernel
theorem dX11_emits_10 : decode cX11_emits 10 = .ok (.iload_n 1, 1) := by decide +kernel
theorem dX11_emits_11 : decode cX11_emits 11 = .ok (.iastore, 1) := by decide +kernel
theorem dX11_emits_12 : decode cX11_emits 12 = .ok (.aload_n 0, 1) := by decide +kernel
theorem dX11_emits_13 : decode cX11_emits 13 = .ok (.getfield 45, 3) := by decide +kernel
theorem dX11_emits_16 : decode cX11_emits 16 = .ok (.iconst 2, 1) := by decide +kernel
theorem dX11_emits_17 : decode cX11_emits 17 = .ok (.aload_n 0, 1) := by decide +kernel
theorem dX11_emits_18 : decode cX11_emits 18 = .ok (.getfield 335, 3) := by decide +kernel
theorem dX11_emits_21 : decode cX11_emits 21 = .ok (.imul, 1) := by decide +kernel
theorem dX11_emits_22 : decode cX11_emits 22 = .ok (.iconst 1, 1) := by decide +kernel
theorem dX11_emits_23 : decode cX11_emits 23 = .ok (.iadd, 1) := by decide +kernel
theorem dX11_emits_24 : decode cX11_emits 24 = .ok (.iload_n 2, 1) := by decide +kernel
theorem dX11_emits_25 : decode cX11_emits 25 = .ok (.iastore, 1) := by decide +kernel
theorem dX11_emits_26 : decode cX11_emits 26 = .ok (.aload_n 0, 1) := by decide +kernel
theorem dX11_emits_27 : decode cX11_emits 27 = .ok (.dup, 1) := by decide +kernel
theorem dX11_emits_28 : decode cX11_emits 28 = .ok (.getfield 335, 3) := by decide +kernel
theorem dX11_emits_31 : decode cX11_emits 31 = .ok (.iconst 1, 1) := by decide +kernel
theorem dX11_emits_32 : decode cX11_emits 32 = .ok (.iadd, 1) := by decide +kernel
theorem dX11_emits_33 : decode cX11_emits 33 = .ok (.putfield 335, 3) := by decide +kernel
theorem dX11_emits_36 : decode cX11_emits 36 = .ok (.return_, 1) := by decide +kernel
theorem dX11_works_0 : decode cX11_works 0 = .ok (.aload_n 0, 1) := by decide +kernel
theorem dX11_works_1 : decode cX11_works 1 = .ok (.getfield 341, 3) := by decide +kernel
theorem dX11_works_4 : decode cX11_works 4 = .ok (.ifCond .le 61, 3) := by decide +kernel
theorem dX11_works_7 : decode cX11_works 7 = .ok (.aload_n 0, 1) := by decide +kernel
theorem dX11_works_8 : decode cX11_works 8 = .ok (.getfield 51, 3) := by decide +kernel
theorem dX11_works_11 : decode cX11_works 11 = .ok (.aload_n 0, 1) := by decide +kernel
theorem dX11_works_12 : decode cX11_works 12 = .ok (.getfield 341, 3) := by decide +kernel
theorem dX11_works_15 : decode cX11_works 15 = .ok (.iconst 1, 1) := by decide +kernel
theorem dX11_works_16 : decode cX11_works 16 = .ok (.isub, 1) := by decide +kernel
theorem dX11_works_17 : decode cX11_works 17 = .ok (.iaload, 1) := by decide +kernel
theorem dX11_works_18 : decode cX11_works 18 = .ok (.bipush 18, 2) := by decide +kernel
theorem dX11_works_20 : decode cX11_works 20 = .ok (.if_icmp .eq 45, 3) := by decide +kernel
theorem dX11_works_23 : decode cX11_works 23 = .ok (.aload_n 0, 1) := by decide +kernel
theorem dX11_works_24 : decode cX11_works 24 = .ok (.getfield 51, 3) := by decide +kernel
theorem dX11_works_27 : decode cX11_works 27 = .ok (.aload_n 0, 1) := by decide +kernel
theorem dX11_works_28 : decode cX11_works 28 = .ok (.getfield 341, 3) := by decide +kernel
theorem dX11_works_31 : decode cX11_works 31 = .ok (.iconst 1, 1) := by decide +kernel
theorem dX11_works_32 : decode cX11_works 32 = .ok (.isub, 1) := by decide +kernel
theorem dX11_works_33 : decode cX11_works 33 = .ok (.iaload, 1) := by decide +kernel
theorem dX11_works_34 : decode cX11_works 34 = .ok (.iload_n 1, 1) := by decide +kernel
theorem dX11_works_35 : decode cX11_works 35 = .ok (.if_icmp .lt 30, 3) := by decide +kernel
theorem dX11_works_38 : decode cX11_works 38 = .ok (.aload_n 0, 1) := by decide +kernel
theorem dX11_works_39 : decode cX11_works 39 = .ok (.dup, 1) := by decide +kernel
theorem dX11_works_40 : decode cX11_works 40 = .ok (.getfield 341, 3) := by decide +kernel
theorem dX11_works_43 : decode cX11_works 43 = .ok (.iconst 1, 1) := by decide +kernel
theorem dX11_works_44 : decode cX11_works 44 = .ok (.isub, 1) := by decide +kernel
theorem dX11_works_45 : decode cX11_works 45 = .ok (.putfield 341, 3) := by decide +kernel
theorem dX11_works_48 : decode cX11_works 48 = .ok (.aload_n 0, 1) := by decide +kernel
theorem dX11_works_49 : decode cX11_works 49 = .ok (.aload_n 0, 1) := by decide +kernel
theorem dX11_works_50 : decode cX11_works 50 = .ok (.getfield 51, 3) := by decide +kernel
theorem dX11_works_53 : decode cX11_works 53 = .ok (.aload_n 0, 1) := by decide +kernel
theorem dX11_works_54 : decode cX11_works 54 = .ok (.getfield 341, 3) := by decide +kernel
theorem dX11_works_57 : decode cX11_works 57 = .ok (.iaload, 1) := by decide +kernel
theorem dX11_works_58 : decode cX11_works 58 = .ok (.iconst 0, 1) := by decide +kernel
theorem dX11_works_59 : decode cX11_works 59 = .ok (.invokevirtual 344, 3) := by decide +kernel
theorem dX11_works_62 : decode cX11_works 62 = .ok (.goto (-62), 3) := by decide +kernel
theorem dX11_works_65 : decode cX11_works 65 = .ok (.return_, 1) := by decide +kernel
def own_c_emits : List Cond := [.fieldLink RX11 45 "ClashFreeModel" "code" "[I", .fieldLink RX11 335 "ClashFreeModel" "coded" "I"]
def wp_c_emits : List Cond := .code yX11_emits cX11_emits 3 none :: (own_c_emits ++ (wsX110 ++ ([] : List Cond)))
set_option maxRecDepth 20000 in
theorem inown_c_emits : ∀ w ∈ own_c_emits, w ∈ lw_tbl := mem_places [1235, 1236] (by decide +kernel)
set_option maxRecDepth 20000 in
theorem in_c_emits : ∀ w ∈ wp_c_emits, w ∈ lw_tbl := List.forall_mem_cons.mpr ⟨List.mem_of_getElem? (i := 1688) (by decide +kernel), List.forall_mem_append.mpr ⟨inown_c_emits, List.forall_mem_append.mpr ⟨lwb_X11, fun _ h => absurd h List.not_mem_nil⟩⟩⟩
set_option maxRecDepth 20000 in
theorem good_c_emits : wp_c_emits.all goodWord = true := by decide +kernel
set_option maxHeartbeats 4000000 in
set_option maxRecDepth 100000 in
theorem c_emits (l : Launch) (D : va_G) (sz : Nat) (h0 : Nat) (a : Nat → Nat) (cm : Nat → ClassId) (i : Nat → Int32) (g : Nat → Int64) (fc : Nat → Int32) (cd : Nat) (zs : Nat) (ta : Nat) (en : Int32) (bd : Int32) (bp : Int32) (bq : Int32) (bk : Nat) (pl : Nat) (br : Int32) (z1 : Int32) (z2 : Int32) (hcd : cd ≤ 998) : Met l yX11_emits wp_c_emits ({ frames := 0, cells := 0, slots := 0, locals := 0 }) (PcW D [.ref h0, .int z1, .int z2] sz [(h0, .inr (11, gP a i g (nI cd) (nI zs) (nI ta) en bd bp bq (nI bk) (nI pl) br)), (a 19, .inl (cm 19, 2000, .inl fc))] [(cm 19, .int)]) (va_Qv (fun (u : (Nat → Int32) × (Nat)) => u.1 = upd (upd fc (2 * cd) z1) (2 * cd + 1) z2 ∧ u.2 = cd + 1) (fun (u : (Nat → Int32) × (Nat)) t => va_P D vwCl [(h0, .inr (11, gP a i g (nI u.2) (nI zs) (nI ta) en bd bp bq (nI bk) (nI pl) br)), (a 19, .inl (cm 19, 2000, .inl u.1))] t.heap ∧ va_K D vwCl [(cm 19, .int)] t ∧ va_D (va_A [(h0, .inr (11, gP a i g (nI cd) (nI zs) (nI ta) en bd bp bq (nI bk) (nI pl) br)), (a 19, .inl (cm 19, 2000, .inl fc))] sz) [(h0, .inr (11, gP a i g (nI u.2) (nI zs) (nI ta) en bd bp bq (nI bk) (nI pl) br)), (a 19, .inl (cm 19, 2000, .inl u.1))]) (va_A [(h0, .inr (11, gP a i g (nI cd) (nI zs) (nI ta) en bd bp bq (nI bk) (nI pl) br)), (a 19, .inl (cm 19, 2000, .inl fc))] sz)) 0 0 (va_A [(h0, .inr (11, gP a i g (nI cd) (nI zs) (nI ta) en bd bp bq (nI bk) (nI pl) br)), (a 19, .inl (cm 19, 2000, .inl fc))] sz) := by
  refine Met.ofW (cc := cX11_emits) (maxL := 3) (ret := none) (by decide) rfl ?_
  intro p e s m args below meth c s₁ B hml hv
  obtain ⟨rfl, hsz, hP, hK, hD0⟩ := hv
  have hx := B.exec
  have hb := B.bytes
  have hr := B.returns
  have hts := atoms_spec (ws := wp_c_emits) B.pre
  have hin_X11 : ∀ w ∈ wsX110, w ∈ wp_c_emits := fun _ h => (List.mem_cons_of_mem _ (List.mem_append_right _ (List.mem_append_left _ h)))
  have hown : s.vm.findClass RX11 = some m.cls := findClass_of_methodNamed B.named
  have hlocks := B.notSynchronized
  subst hsz
  have hD := hD0.self (sz := s.heap.size)
  generalize hAe : va_A [(h0, .inr (11, gP a i g (nI cd) (nI zs) (nI ta) en bd bp bq (nI bk) (nI pl) br)), (a 19, .inl (cm 19, 2000, .inl fc))] s.heap.size = A at hD ⊢
  have hA : ∀ q : Nat, s.heap.size ≤ q → A q := fun q h => by rw [← hAe]; exact Or.inr h
  have hS : va_S A s.heap s.heap [] := va_S.rf
  have hP : va_P D vwCl [(h0, .inr (11, gP a i g (nI cd) (nI zs) (nI ta) en bd bp bq (nI bk) (nI pl) br)), (a 19, .inl (cm 19, 2000, .inl fc))] s.heap := hP
  have hl := lv_entry ([.ref h0, .int z1, .int z2]) (n := 3) (Nat.le_of_ble_eq_true rfl)
  rw [lg_entry_eq]
  generalize (lg_sl ([.ref h0, .int z1, .int z2]) ++ List.replicate (3 - (lg_sl ([.ref h0, .int z1, .int z2])).length) Slot.unset).toArray = ls at hl ⊢
  have hl : lv_has ls 3 [(0, .ref h0), (1, .int z1), (2, .int z2)] := hl
  refine lv_aload_n hx hb dX11_emits_0 rfl (lv_at hl 0 rfl) ?_
  refine va_get (D := D) (ci := 11) (v := .ref (a 19)) (C := RX11) (T := TX11) (N := 47) hx hb hts hin_X11 hown hK hP 0 rfl rfl 19 (by decide) (hts (.fieldLink RX11 45 "ClashFreeModel" "code" "[I") (List.mem_of_getElem? (i := 1) rfl)) (fun _ h9 => h9) rfl dX11_emits_1 ?_
  refine lv_iconst (v := 2) hx hb dX11_emits_4 (by decide) ?_
  refine lv_aload_n hx hb dX11_emits_5 rfl (lv_at hl 0 rfl) ?_
  refine va_get (D := D) (ci := 11) (v := .int (nI cd)) (C := RX11) (T := TX11) (N := 47) hx hb hts hin_X11 hown hK hP 0 rfl rfl 20 (by decide) (hts (.fieldLink RX11 335 "ClashFreeModel" "coded" "I") (List.mem_of_getElem? (i := 2) rfl)) (fun _ h9 => h9) rfl dX11_emits_6 ?_
  refine lv_imul hx hb dX11_emits_9 ?_
  refine lv_topi (fun v1 ev1 => ?_)
  obtain rfl : v1 = nI (2 * cd) := ev1.trans (pk_mul 2 cd)
  refine lv_iload_n hx hb dX11_emits_10 rfl (lv_at hl 1 rfl) ?_
  refine va_iast hx hb hK hP hD hS 1 0 rfl rfl (vp_in_nI (by omega) (by decide)) dX11_emits_11 (fun H locs hP hD hS => ?_)
  have hP : va_P D vwCl [(h0, .inr (11, gP a i g (nI cd) (nI zs) (nI ta) en bd bp bq (nI bk) (nI pl) br)), (a 19, .inl (cm 19, 2000, .inl (upd fc (Int32.toNatClampNeg (nI (2 * cd))) z1)))] H := hP
  have hD : va_D A [(h0, .inr (11, gP a i g (nI cd) (nI zs) (nI ta) en bd bp bq (nI bk) (nI pl) br)), (a 19, .inl (cm 19, 2000, .inl (upd fc (Int32.toNatClampNeg (nI (2 * cd))) z1)))] := hD
  rw [show (upd fc (Int32.toNatClampNeg (nI (2 * cd))) z1) = (upd fc (2 * cd) z1) from by rw [nI_clamp (by omega)]] at hP hD
  refine lv_aload_n hx hb dX11_emits_12 rfl (lv_at hl 0 rfl) ?_
  refine va_get (D := D) (ci := 11) (v := .ref (a 19)) (C := RX11) (T := TX11) (N := 47) hx hb hts hin_X11 hown hK hP 0 rfl rfl 19 (by decide) (hts (.fieldLink RX11 45 "ClashFreeModel" "code" "[I") (List.mem_of_getElem? (i := 1) rfl)) (fun _ h9 => h9) rfl dX11_emits_13 ?_
  refine lv_iconst (v := 2) hx hb dX11_emits_16 (by decide) ?_
  refine lv_aload_n hx hb dX11_emits_17 rfl (lv_at hl 0 rfl) ?_
  refine va_get (D := D) (ci := 11) (v := .int (nI cd)) (C := RX11) (T := TX11) (N := 47) hx hb hts hin_X11 hown hK hP 0 rfl rfl 20 (by decide) (hts (.fieldLink RX11 335 "ClashFreeModel" "coded" "I") (List.mem_of_getElem? (i := 2) rfl)) (fun _ h9 => h9) rfl dX11_emits_18 ?_
  refine lv_imul hx hb dX11_emits_21 ?_
  refine lv_topi (fun v2 ev2 => ?_)
  obtain rfl : v2 = nI (2 * cd) := ev2.trans (pk_mul 2 cd)
  refine lv_iconst (v := 1) hx hb dX11_emits_22 (by decide) ?_
  refine lv_iadd hx hb dX11_emits_23 ?_
  refine lv_topi (fun v3 ev3 => ?_)
  obtain rfl : v3 = nI (2 * cd + 1) := ev3.trans (nI_1 _)
  refine lv_iload_n hx hb dX11_emits_24 rfl (lv_at hl 2 rfl) ?_
  refine va_iast hx hb hK hP hD hS 1 0 rfl rfl (vp_in_nI (by omega) (by decide)) dX11_emits_25 (fun H locs hP hD hS => ?_)
  have hP : va_P D vwCl [(h0, .inr (11, gP a i g (nI cd) (nI zs) (nI ta) en bd bp bq (nI bk) (nI pl) br)), (a 19, .inl (cm 19, 2000, .inl (upd (upd fc (2 * cd) z1) (Int32.toNatClampNeg (nI (2 * cd + 1))) z2)))] H := hP
  have hD : va_D A [(h0, .inr (11, gP a i g (nI cd) (nI zs) (nI ta) en bd bp bq (nI bk) (nI pl) br)), (a 19, .inl (cm 19, 2000, .inl (upd (upd fc (2 * cd) z1) (Int32.toNatClampNeg (nI (2 * cd + 1))) z2)))] := hD
  rw [show (upd (upd fc (2 * cd) z1) (Int32.toNatClampNeg (nI (2 * cd + 1))) z2) = (upd (upd fc (2 * cd) z1) (2 * cd + 1) z2) from by rw [nI_clamp (by omega)]] at hP hD
  refine lv_aload_n hx hb dX11_emits_26 rfl (lv_at hl 0 rfl) ?_
  refine lv_dup hx hb dX11_emits_27 rfl ?_
  refine va_get (D := D) (ci := 11) (v := .int (nI cd)) (C := RX11) (T := TX11) (N := 47) hx hb hts hin_X11 hown hK hP 0 rfl rfl 20 (by decide) (hts (.fieldLink RX11 335 "ClashFreeModel" "coded" "I") (List.mem_of_getElem? (i := 2) rfl)) (fun _ h9 => h9) rfl dX11_emits_28 ?_
  refine lv_iconst (v := 1) hx hb dX11_emits_31 (by decide) ?_
  refine lv_iadd hx hb dX11_emits_32 ?_
  refine lv_topi (fun v4 ev4 => ?_)
  obtain rfl : v4 = nI (cd + 1) := ev4.trans (nI_1 _)
  refine va_put (D := D) (ci := 11) (v := .int (nI (cd + 1))) (ty := .int) (C := RX11) (T := TX11) (N := 47) hx hb hts hin_X11 tyX11 tyX11_ok nmX11 hown hK hP hD hS 0 rfl rfl 20 (by decide) (hts (.fieldLink RX11 335 "ClashFreeModel" "coded" "I") (List.mem_of_getElem? (i := 2) rfl)) (fun _ h9 => h9) rfl (by decide +kernel) rfl rfl (Nat.le_of_ble_eq_true rfl) dX11_emits_33 (fun H locs hP hD hS => ?_)
  have hP : va_P D vwCl [(h0, .inr (11, gP a i g (nI (cd + 1)) (nI zs) (nI ta) en bd bp bq (nI bk) (nI pl) br)), (a 19, .inl (cm 19, 2000, .inl (upd (upd fc (2 * cd) z1) (2 * cd + 1) z2)))] H := hP
  have hD : va_D A [(h0, .inr (11, gP a i g (nI (cd + 1)) (nI zs) (nI ta) en bd bp bq (nI bk) (nI pl) br)), (a 19, .inl (cm 19, 2000, .inl (upd (upd fc (2 * cd) z1) (2 * cd + 1) z2)))] := hD
  exact W.vret hx hb hr (fun t ht hW => ⟨⟨((upd (upd fc (2 * cd) z1) (2 * cd + 1) z2), (cd + 1)), rfl, (by (try dsimp only); exact ⟨rfl, rfl⟩), by rw [ht]; exact hP.sub [0, 1] rfl, va_K.moved hW.alike (hK.sub [0] rfl), hD.sub [0, 1] (by decide) rfl⟩, hS.F ht⟩) hS.2.2 dX11_emits_36

def own_c_works : List Cond := [.fieldLink RX11 341 "ClashFreeModel" "piled" "I", .fieldLink RX11 51 "ClashFreeModel" "pile" "[I", .methodLink RX11 344 yX11_emits, .instanceMethod yX11_emits, .selects RX11 yX11_emits yX11_emits, .initialized RX11]
def wp_c_works : List Cond := .code yX11_works cX11_works 2 none :: (own_c_works ++ (wp_c_emits ++ (wsX110 ++ ([] : List Cond))))
set_option maxRecDepth 20000 in
theorem inown_c_works : ∀ w ∈ own_c_works, w ∈ lw_tbl := mem_places [1246, 1245, 1685, 1687, 78, 115] (by decide +kernel)
set_option maxRecDepth 20000 in
theorem in_c_works : ∀ w ∈ wp_c_works, w ∈ lw_tbl := List.forall_mem_cons.mpr ⟨List.mem_of_getElem? (i := 1737) (by decide +kernel), List.forall_mem_append.mpr ⟨inown_c_works, List.forall_mem_append.mpr ⟨in_c_emits, List.forall_mem_append.mpr ⟨lwb_X11, fun _ h => absurd h List.not_mem_nil⟩⟩⟩⟩
set_option maxRecDepth 20000 in
theorem good_c_works : wp_c_works.all goodWord = true := by decide +kernel
set_option maxRecDepth 20000 in
theorem g_c_works_c_emits_344 : GoodIn wp_c_works (wsV RX11 344 RX11 yX11_emits wp_c_emits) := goodIn_sub (List.forall_mem_append.mpr ⟨List.forall_mem_cons.mpr ⟨(List.mem_of_getElem? (i := 3) rfl), List.forall_mem_cons.mpr ⟨(List.mem_of_getElem? (i := 4) rfl), List.forall_mem_cons.mpr ⟨(List.mem_of_getElem? (i := 5) rfl), List.forall_mem_cons.mpr ⟨(List.mem_of_getElem? (i := 6) rfl), fun _ h => absurd h List.not_mem_nil⟩⟩⟩⟩, (fun _ h => (List.mem_cons_of_mem _ (List.mem_append_right _ (List.mem_append_left _ h))))⟩) (by decide +kernel)
set_option maxHeartbeats 4000000 in
set_option maxRecDepth 100000 in
theorem lp_works (l : Launch) {p : Program} {e : Env} {s : State} {m : MethodId} {args : Array Value} {below : List Frame} {meth : Method} {c : Code} {Q : State → Prop} {A : Nat → Prop} (D : va_G) (h0 : Nat) (a : Nat → Nat) (cm : Nat → ClassId) (i : Nat → Int32) (g : Nat → Int64) (fc : Nat → Int32) (fl : Nat → Int32) (cd : Nat) (zs : Nat) (ta : Nat) (en : Int32) (bd : Int32) (bp : Int32) (bq : Int32) (bk : Nat) (pl : Nat) (br : Int32) (le : Nat) (fo : Nat → Int32) (bs : Nat) (wN : Nat → Nat) (l2 : Nat) (rc0 : RC) (hcp : cd + pl ≤ 600) (hPl : PlS fl pl) (hMp : ∀ j, j < pl → fl j = nI (pkN (wN j)) ∧ isSg (wN j)) (hl2 : l2 = 1 ∨ l2 = 2) (hle2 : le = if l2 = 1 then 13 else 15) (hx : p.tables.exec = Jvm.exec) (hb : c.code = cX11_works) (hml : c.maxLocals = 2) (hown : s.vm.findClass RX11 = some m.cls) (hts : ∀ w ∈ wp_c_works, w.before args s = true) (hA : ∀ q, s.heap.size ≤ q → A q) (hK : va_K D vwCl [(cm 19, .int), (cm 29, .int)] s) (kx65 : ∀ (y : Nat), ∀ (c2 : Nat), ∀ (gc : Nat → Int32), ∀ (rc : RC), (c2 + y = cd + pl) → (y ≤ pl) → (bd = 0 → PSt gc fo c2 bk (bs + nops fl y + 1)) → (relW l2 wN pl = relW l2 wN y) → (relR l2 wN pl rc0 = relR l2 wN y rc) → (MatR rc c2 gc) → (le ≤ 13 → y = 0 ∨ fl (y - 1) = 18) → (relW l2 wN y = y) → (relR l2 wN y rc = rc) → ∀ (H : Heap) (locs : List Loc) (ls : Array Slot), va_P D vwCl [(h0, .inr (11, gP a i g (nI c2) (nI zs) (nI ta) en bd bp bq (nI bk) (nI y) br)), (a 19, .inl (cm 19, 2000, .inl gc)), (a 29, .inl (cm 29, 700, .inl fl))] H → va_D A [(h0, .inr (11, gP a i g (nI c2) (nI zs) (nI ta) en bd bp bq (nI bk) (nI y) br)), (a 19, .inl (cm 19, 2000, .inl gc)), (a 29, .inl (cm 29, 700, .inl fl))] → va_S A s.heap H locs → lv_has ls 2 [(0, .ref h0)] → W p l e ({ frames := 2, cells := 0, slots := 0, locals := 40 }) s m args below meth c H locs 0 0 Q (F0 m 65 ls [])) : ∀ (N : Nat), ∀ (y : Nat), ∀ (c2 : Nat), ∀ (gc : Nat → Int32), ∀ (rc : RC), (c2 + y = cd + pl) → (y ≤ pl) → (bd = 0 → PSt gc fo c2 bk (bs + nops fl y + 1)) → (relW l2 wN pl = relW l2 wN y) → (relR l2 wN pl rc0 = relR l2 wN y rc) → (MatR rc c2 gc) → y < N → ∀ (H : Heap) (locs : List Loc) (ls : Array Slot), va_P D vwCl [(h0, .inr (11, gP a i g (nI c2) (nI zs) (nI ta) en bd bp bq (nI bk) (nI y) br)), (a 19, .inl (cm 19, 2000, .inl gc)), (a 29, .inl (cm 29, 700, .inl fl))] H → va_D A [(h0, .inr (11, gP a i g (nI c2) (nI zs) (nI ta) en bd bp bq (nI bk) (nI y) br)), (a 19, .inl (cm 19, 2000, .inl gc)), (a 29, .inl (cm 29, 700, .inl fl))] → va_S A s.heap H locs → lv_has ls 2 [(0, .ref h0), (1, .int (nI le))] → W p l e ({ frames := 2, cells := 0, slots := 0, locals := 40 }) s m args below meth c H locs 0 0 Q (F0 m 0 ls []) := by
  have hin_X11 : ∀ w ∈ wsX110, w ∈ wp_c_works := fun _ h => (List.mem_cons_of_mem _ (List.mem_append_right _ (List.mem_append_right _ (List.mem_append_left _ h))))
  intro N
  induction N with
  | zero =>
    intro y c2 gc rc hi1 hi2 hWl hrw hrr hMr hm
    exact absurd hm (Nat.not_lt_zero _)
  | succ N ih =>
    intro y c2 gc rc hi1 hi2 hWl hrw hrr hMr hm H locs ls hP hD hS hl
    refine lv_aload_n hx hb dX11_works_0 rfl (lv_at hl 0 rfl) ?_
    refine va_get (D := D) (ci := 11) (v := .int (nI y)) (C := RX11) (T := TX11) (N := 47) hx hb hts hin_X11 hown hK hP 0 rfl rfl 30 (by decide) (hts (.fieldLink RX11 341 "ClashFreeModel" "piled" "I") (List.mem_of_getElem? (i := 1) rfl)) (fun _ h9 => h9) rfl dX11_works_1 ?_
    refine lv_if_le (tgt := 65) hx hb dX11_works_4 (by decide) (fun hc1 => ?_) (fun hc1 => ?_)
    ·
      have hy0 : y = 0 := by
        have := (nI_leI (b := 0) (by omega) (by decide)).mp hc1
        omega
      exact kx65 y c2 gc rc (hi1) (hi2) (hWl) (hrw) (hrr) (hMr) (fun _ => Or.inl hy0) (by rw [hy0]; rfl) (by rw [hy0]; rfl) H locs ls (hP.sub [0, 1, 2] rfl) (hD.sub [0, 1, 2] (by decide) rfl) hS (lv_sub hl [0] rfl)
    ·
      have hy0 : 0 < y := by
        rcases Nat.eq_zero_or_pos y with z | z
        · exact absurd (by rw [z]; decide) hc1
        · exact z
      obtain ⟨x, ex, hx1, hx2⟩ := hPl (y - 1) (by omega)
      obtain ⟨ew, hsw⟩ := hMp (y - 1) (by omega)
      have hsb := isSg_b hsw
      have hxw : x = pkN (wN (y - 1)) := (nI_eq (by omega) (by omega)).mp (ex.symm.trans ew)
      have hrw1 : relW l2 wN y = if l2 ≤ strN (wN (y - 1)) then relW l2 wN (y - 1) else y := by
        obtain ⟨y1, rfl⟩ : ∃ q, y = q + 1 := ⟨y - 1, by omega⟩
        rfl
      have hrr1 : relR l2 wN y rc = if l2 ≤ strN (wN (y - 1)) then relR l2 wN (y - 1) (emR rc (pkN (wN (y - 1))) 0) else rc := by
        obtain ⟨y1, rfl⟩ : ∃ q, y = q + 1 := ⟨y - 1, by omega⟩
        rfl
      refine lv_aload_n hx hb dX11_works_7 rfl (lv_at hl 0 rfl) ?_
      refine va_get (D := D) (ci := 11) (v := .ref (a 29)) (C := RX11) (T := TX11) (N := 47) hx hb hts hin_X11 hown hK hP 0 rfl rfl 29 (by decide) (hts (.fieldLink RX11 51 "ClashFreeModel" "pile" "[I") (List.mem_of_getElem? (i := 2) rfl)) (fun _ h9 => h9) rfl dX11_works_8 ?_
      refine lv_aload_n hx hb dX11_works_11 rfl (lv_at hl 0 rfl) ?_
      refine va_get (D := D) (ci := 11) (v := .int (nI y)) (C := RX11) (T := TX11) (N := 47) hx hb hts hin_X11 hown hK hP 0 rfl rfl 30 (by decide) (hts (.fieldLink RX11 341 "ClashFreeModel" "piled" "I") (List.mem_of_getElem? (i := 1) rfl)) (fun _ h9 => h9) rfl dX11_works_12 ?_
      refine lv_iconst (v := 1) hx hb dX11_works_15 (by decide) ?_
      refine lv_isub hx hb dX11_works_16 ?_
      refine lv_topi (fun v2 ev2 => ?_)
      obtain rfl : v2 = nI (y - 1) := ev2.trans (pk_sub (b := 1) (by omega))
      refine va_iald hx hb hK hP 2 1 rfl rfl (vp_in_nI (by omega) (by decide)) dX11_works_17 ?_
      refine lv_topi (fun v3 ev3 => ?_)
      obtain rfl : v3 = nI x := ev3.trans (by rw [nI_clamp (by omega)]; exact ex)
      refine lv_bipush (v := 18) hx hb dX11_works_18 (by decide) ?_
      refine lv_icmp_eq (tgt := 65) hx hb dX11_works_20 (by decide) (fun hc4 => ?_) (fun hc4 => ?_)
      ·
        have hno : ¬ l2 ≤ strN (wN (y - 1)) := by
          have e18 : x = 18 := (nI_eq (b := 18) (by omega) (by decide)).mp hc4
          rw [(isSg_18 hsw).mp (hxw.symm.trans e18), str40]
          omega
        exact kx65 y c2 gc rc (hi1) (hi2) (hWl) (hrw) (hrr) (hMr) (fun _ => Or.inr (ex.trans hc4)) (hrw1.trans (if_neg hno)) (hrr1.trans (if_neg hno)) H locs ls (hP.sub [0, 1, 2] rfl) (hD.sub [0, 1, 2] (by decide) rfl) hS (lv_sub hl [0] rfl)
      ·
        have hn18 : ¬ fl (y - 1) = 18 := fun z => hc4 (ex.symm.trans z)
        have hx17 : x ≤ 17 := by
          rcases Nat.lt_or_ge x 18 with z | z
          · omega
          · exact absurd (by rw [show x = 18 by omega]; rfl) hc4
        have hnp := nops_pop hy0 hn18
        refine lv_aload_n hx hb dX11_works_23 rfl (lv_at hl 0 rfl) ?_
        refine va_get (D := D) (ci := 11) (v := .ref (a 29)) (C := RX11) (T := TX11) (N := 47) hx hb hts hin_X11 hown hK hP 0 rfl rfl 29 (by decide) (hts (.fieldLink RX11 51 "ClashFreeModel" "pile" "[I") (List.mem_of_getElem? (i := 2) rfl)) (fun _ h9 => h9) rfl dX11_works_24 ?_
        refine lv_aload_n hx hb dX11_works_27 rfl (lv_at hl 0 rfl) ?_
        refine va_get (D := D) (ci := 11) (v := .int (nI y)) (C := RX11) (T := TX11) (N := 47) hx hb hts hin_X11 hown hK hP 0 rfl rfl 30 (by decide) (hts (.fieldLink RX11 341 "ClashFreeModel" "piled" "I") (List.mem_of_getElem? (i := 1) rfl)) (fun _ h9 => h9) rfl dX11_works_28 ?_
        refine lv_iconst (v := 1) hx hb dX11_works_31 (by decide) ?_
        refine lv_isub hx hb dX11_works_32 ?_
        refine lv_topi (fun v5 ev5 => ?_)
        obtain rfl : v5 = nI (y - 1) := ev5.trans (pk_sub (b := 1) (by omega))
        refine va_iald hx hb hK hP 2 1 rfl rfl (vp_in_nI (by omega) (by decide)) dX11_works_33 ?_
        refine lv_topi (fun v6 ev6 => ?_)
        obtain rfl : v6 = nI x := ev6.trans (by rw [nI_clamp (by omega)]; exact ex)
        refine lv_iload_n hx hb dX11_works_34 rfl (lv_at hl 1 rfl) ?_
        refine lv_icmp_lt (tgt := 65) hx hb dX11_works_35 (by decide) (fun hc7 => ?_) (fun hc7 => ?_)
        ·
          have h18 : ¬ pkN (wN (y - 1)) = 18 := by omega
          have hil := isSg_le hsw hl2 h18
          have hle15 : le ≤ 15 := by
            rw [hle2]
            split <;> omega
          have hno : ¬ l2 ≤ strN (wN (y - 1)) := fun q => by
            have a := hil.mpr q
            rw [← hle2, ← hxw] at a
            have b := (nI_ltI (by omega) (by omega)).mp hc7
            omega
          exact kx65 y c2 gc rc (hi1) (hi2) (hWl) (hrw) (hrr) (hMr) (fun hq => absurd hc7 (Int32.not_lt.mpr (nI_le (by omega) (by omega)))) (hrw1.trans (if_neg hno)) (hrr1.trans (if_neg hno)) H locs ls (hP.sub [0, 1, 2] rfl) (hD.sub [0, 1, 2] (by decide) rfl) hS (lv_sub hl [0] rfl)
        ·
          have h18 : ¬ pkN (wN (y - 1)) = 18 := by omega
          have hil := isSg_le hsw hl2 h18
          have hle15 : le ≤ 15 := by
            rw [hle2]
            split <;> omega
          have hyes : l2 ≤ strN (wN (y - 1)) := hil.mp (by
            rw [← hle2, ← hxw]
            rcases Nat.lt_or_ge x le with z | z
            · exact absurd (nI_lt z (by omega)) hc7
            · exact z)
          refine lv_aload_n hx hb dX11_works_38 rfl (lv_at hl 0 rfl) ?_
          refine lv_dup hx hb dX11_works_39 rfl ?_
          refine va_get (D := D) (ci := 11) (v := .int (nI y)) (C := RX11) (T := TX11) (N := 47) hx hb hts hin_X11 hown hK hP 0 rfl rfl 30 (by decide) (hts (.fieldLink RX11 341 "ClashFreeModel" "piled" "I") (List.mem_of_getElem? (i := 1) rfl)) (fun _ h9 => h9) rfl dX11_works_40 ?_
          refine lv_iconst (v := 1) hx hb dX11_works_43 (by decide) ?_
          refine lv_isub hx hb dX11_works_44 ?_
          refine lv_topi (fun v8 ev8 => ?_)
          obtain rfl : v8 = nI (y - 1) := ev8.trans (pk_sub (b := 1) (by omega))
          refine va_put (D := D) (ci := 11) (v := .int (nI (y - 1))) (ty := .int) (C := RX11) (T := TX11) (N := 47) hx hb hts hin_X11 tyX11 tyX11_ok nmX11 hown hK hP hD hS 0 rfl rfl 30 (by decide) (hts (.fieldLink RX11 341 "ClashFreeModel" "piled" "I") (List.mem_of_getElem? (i := 1) rfl)) (fun _ h9 => h9) rfl (by decide +kernel) rfl rfl (Nat.le_of_ble_eq_true rfl) dX11_works_45 (fun H locs hP hD hS => ?_)
          have hP : va_P D vwCl [(h0, .inr (11, gP a i g (nI c2) (nI zs) (nI ta) en bd bp bq (nI bk) (nI (y - 1)) br)), (a 19, .inl (cm 19, 2000, .inl gc)), (a 29, .inl (cm 29, 700, .inl fl))] H := hP
          have hD : va_D A [(h0, .inr (11, gP a i g (nI c2) (nI zs) (nI ta) en bd bp bq (nI bk) (nI (y - 1)) br)), (a 19, .inl (cm 19, 2000, .inl gc)), (a 29, .inl (cm 29, 700, .inl fl))] := hD
          refine lv_aload_n hx hb dX11_works_48 rfl (lv_at hl 0 rfl) ?_
          refine lv_aload_n hx hb dX11_works_49 rfl (lv_at hl 0 rfl) ?_
          refine va_get (D := D) (ci := 11) (v := .ref (a 29)) (C := RX11) (T := TX11) (N := 47) hx hb hts hin_X11 hown hK hP 0 rfl rfl 29 (by decide) (hts (.fieldLink RX11 51 "ClashFreeModel" "pile" "[I") (List.mem_of_getElem? (i := 2) rfl)) (fun _ h9 => h9) rfl dX11_works_50 ?_
          refine lv_aload_n hx hb dX11_works_53 rfl (lv_at hl 0 rfl) ?_
          refine va_get (D := D) (ci := 11) (v := .int (nI (y - 1))) (C := RX11) (T := TX11) (N := 47) hx hb hts hin_X11 hown hK hP 0 rfl rfl 30 (by decide) (hts (.fieldLink RX11 341 "ClashFreeModel" "piled" "I") (List.mem_of_getElem? (i := 1) rfl)) (fun _ h9 => h9) rfl dX11_works_54 ?_
          refine va_iald hx hb hK hP 2 1 rfl rfl (vp_in_nI (by omega) (by decide)) dX11_works_57 ?_
          refine lv_topi (fun v9 ev9 => ?_)
          obtain rfl : v9 = nI x := ev9.trans (by rw [nI_clamp (by omega)]; exact ex)
          refine lv_iconst (v := 0) hx hb dX11_works_58 (by decide) ?_
          have hPc := hP.sub (ws' := [(h0, .inr (11, gP a i g (nI c2) (nI zs) (nI ta) en bd bp bq (nI bk) (nI (y - 1)) br)), (a 19, .inl (cm 19, 2000, .inl gc))]) [0, 1] rfl
          have hKc := hK.sub (tys' := [(cm 19, .int)]) [0] rfl
          have hDc := hD.sub (ws' := [(h0, .inr (11, gP a i g (nI c2) (nI zs) (nI ta) en bd bp bq (nI bk) (nI (y - 1)) br)), (a 19, .inl (cm 19, 2000, .inl gc))]) [0, 1] (by decide) rfl
          have hFc := va_free (wc := [(h0, .inr (11, gP a i g (nI c2) (nI zs) (nI ta) en bd bp bq (nI bk) (nI (y - 1)) br)), (a 19, .inl (cm 19, 2000, .inl gc))]) hD hS hA [0, 1] rfl
          refine va_callv (va_runV (As := [.int (nI x), .int 0]) (rest := []) ⟨hx, hb, hml, hown, hts⟩ (c_emits l D _ h0 a cm i g gc c2 zs ta en bd bp bq bk (y - 1) br (nI x) 0 (by first | assumption | omega)) (cwV 2 hts g_c_works_c_emits_344 rfl rfl rfl (by decide +kernel) ⟨(Nat.le_of_ble_eq_true rfl), (Nat.le_of_ble_eq_true rfl)⟩) (PcW_V (q0 := 0) hPc hKc hDc rfl rfl) rfl rfl hl.1 rfl (lv_room (Nat.le_of_ble_eq_true rfl)) dX11_works_59 ⟨(Nat.le_of_ble_eq_true rfl), (Nat.le_of_ble_eq_true rfl)⟩) hS (fun q _ h => hFc q h) hFc (fun uu tt H locs htt hvm hw hB hz1 hk1 hS => ?_)
          obtain ⟨w11, w12⟩ := uu
          obtain ⟨hP1, hK1, hD1⟩ := hB
          rw [htt] at hP1
          have hK1 := va_K.moved hvm.symm hK1
          have hP1 : va_P D vwCl [(h0, .inr (11, gP a i g (nI w12) (nI zs) (nI ta) en bd bp bq (nI bk) (nI (y - 1)) br)), (a 19, .inl (cm 19, 2000, .inl w11))] H := hP1
          obtain ⟨hP, hD⟩ := va_join (wr := [(a 29, .inl (cm 29, 700, .inl fl))]) (w1 := [(h0, .inr (11, gP a i g (nI w12) (nI zs) (nI ta) en bd bp bq (nI bk) (nI (y - 1)) br)), (a 19, .inl (cm 19, 2000, .inl w11))]) hP hD [0, 1] [2] rfl rfl (by decide) (by decide) hk1 hFc hP1 hD1
          have hP : va_P D vwCl [(a 29, .inl (cm 29, 700, .inl fl)), (h0, .inr (11, gP a i g (nI w12) (nI zs) (nI ta) en bd bp bq (nI bk) (nI (y - 1)) br)), (a 19, .inl (cm 19, 2000, .inl w11))] H := hP
          have hD : va_D A [(a 29, .inl (cm 29, 700, .inl fl)), (h0, .inr (11, gP a i g (nI w12) (nI zs) (nI ta) en bd bp bq (nI bk) (nI (y - 1)) br)), (a 19, .inl (cm 19, 2000, .inl w11))] := hD
          try dsimp only at hw
          clear hz1 hk1 hFc hPc hKc hDc
          obtain ⟨rfl, rfl⟩ := hw
          have hP : va_P D vwCl [(a 29, .inl (cm 29, 700, .inl fl)), (h0, .inr (11, gP a i g (nI (c2 + 1)) (nI zs) (nI ta) en bd bp bq (nI bk) (nI (y - 1)) br)), (a 19, .inl (cm 19, 2000, .inl (upd (upd gc (2 * c2) (nI x)) (2 * c2 + 1) 0)))] H := hP
          have hD : va_D A [(a 29, .inl (cm 29, 700, .inl fl)), (h0, .inr (11, gP a i g (nI (c2 + 1)) (nI zs) (nI ta) en bd bp bq (nI bk) (nI (y - 1)) br)), (a 19, .inl (cm 19, 2000, .inl (upd (upd gc (2 * c2) (nI x)) (2 * c2 + 1) 0)))] := hD
          refine lv_goto (tgt := 0) hx hb dX11_works_62 (by decide) ?_
          exact ih (y - 1) (c2 + 1) (upd (upd gc (2 * c2) (nI x)) (2 * c2 + 1) 0) (emR rc (pkN (wN (y - 1))) 0) (by omega) (by omega) (fun z => PSt_app (hWl z) (Or.inr (Or.inl ⟨hx1, hx17, by omega, by omega⟩))) (hrw.trans (hrw1.trans (if_pos hyes))) (hrr.trans (hrr1.trans (if_pos hyes))) (by
              have a := hMr.em (k := pkN (wN (y - 1))) (v := 0)
              rw [← hxw] at a ⊢
              exact a) (by omega) H locs ls (hP.sub [1, 2, 0] rfl) (hD.sub [1, 2, 0] (by decide) rfl) hS (lv_sub hl [0, 1] rfl)
set_option maxHeartbeats 4000000 in
set_option maxRecDepth 100000 in
theorem c_works (l : Launch) (D : va_G) (sz : Nat) (h0 : Nat) (a : Nat → Nat) (cm : Nat → ClassId) (i : Nat → Int32) (g : Nat → Int64) (fc : Nat → Int32) (fl : Nat → Int32) (cd : Nat) (zs : Nat) (ta : Nat) (en : Int32) (bd : Int32) (bp : Int32) (bq : Int32) (bk : Nat) (pl : Nat) (br : Int32) (le : Nat) (fo : Nat → Int32) (bs : Nat) (wN : Nat → Nat) (rc : RC) (l2 : Nat) (hcp : cd + pl ≤ 600) (hPl : PlS fl pl) (hW : bd = 0 → PSt fc fo cd bk (bs + nops fl pl + 1)) (hMp : ∀ j, j < pl → fl j = nI (pkN (wN j)) ∧ isSg (wN j)) (hMr : MatR rc cd fc) (hl2 : l2 = 1 ∨ l2 = 2) (hle2 : le = if l2 = 1 then 13 else 15) : Met l yX11_works wp_c_works ({ frames := 2, cells := 0, slots := 0, locals := 40 }) (PcW D [.ref h0, .int (nI le)] sz [(h0, .inr (11, gP a i g (nI cd) (nI zs) (nI ta) en bd bp bq (nI bk) (nI pl) br)), (a 19, .inl (cm 19, 2000, .inl fc)), (a 29, .inl (cm 29, 700, .inl fl))] [(cm 19, .int), (cm 29, .int)]) (va_Qv (fun (u : (Nat → Int32) × (Nat) × (Nat)) => u.2.1 + u.2.2 = cd + pl ∧ u.2.2 ≤ pl ∧ (bd = 0 → PSt u.1 fo u.2.1 bk (bs + nops fl u.2.2 + 1)) ∧ (le ≤ 13 → u.2.2 = 0 ∨ fl (u.2.2 - 1) = 18) ∧ u.2.2 = relW l2 wN pl ∧ MatR (relR l2 wN pl rc) u.2.1 u.1) (fun (u : (Nat → Int32) × (Nat) × (Nat)) t => va_P D vwCl [(h0, .inr (11, gP a i g (nI u.2.1) (nI zs) (nI ta) en bd bp bq (nI bk) (nI u.2.2) br)), (a 19, .inl (cm 19, 2000, .inl u.1)), (a 29, .inl (cm 29, 700, .inl fl))] t.heap ∧ va_K D vwCl [(cm 19, .int), (cm 29, .int)] t ∧ va_D (va_A [(h0, .inr (11, gP a i g (nI cd) (nI zs) (nI ta) en bd bp bq (nI bk) (nI pl) br)), (a 19, .inl (cm 19, 2000, .inl fc)), (a 29, .inl (cm 29, 700, .inl fl))] sz) [(h0, .inr (11, gP a i g (nI u.2.1) (nI zs) (nI ta) en bd bp bq (nI bk) (nI u.2.2) br)), (a 19, .inl (cm 19, 2000, .inl u.1)), (a 29, .inl (cm 29, 700, .inl fl))]) (va_A [(h0, .inr (11, gP a i g (nI cd) (nI zs) (nI ta) en bd bp bq (nI bk) (nI pl) br)), (a 19, .inl (cm 19, 2000, .inl fc)), (a 29, .inl (cm 29, 700, .inl fl))] sz)) 0 0 (va_A [(h0, .inr (11, gP a i g (nI cd) (nI zs) (nI ta) en bd bp bq (nI bk) (nI pl) br)), (a 19, .inl (cm 19, 2000, .inl fc)), (a 29, .inl (cm 29, 700, .inl fl))] sz) := by
  refine Met.ofW (cc := cX11_works) (maxL := 2) (ret := none) (by decide) rfl ?_
  intro p e s m args below meth c s₁ B hml hv
  obtain ⟨rfl, hsz, hP, hK, hD0⟩ := hv
  have hx := B.exec
  have hb := B.bytes
  have hr := B.returns
  have hts := atoms_spec (ws := wp_c_works) B.pre
  have hin_X11 : ∀ w ∈ wsX110, w ∈ wp_c_works := fun _ h => (List.mem_cons_of_mem _ (List.mem_append_right _ (List.mem_append_right _ (List.mem_append_left _ h))))
  have hown : s.vm.findClass RX11 = some m.cls := findClass_of_methodNamed B.named
  have hlocks := B.notSynchronized
  subst hsz
  have hD := hD0.self (sz := s.heap.size)
  generalize hAe : va_A [(h0, .inr (11, gP a i g (nI cd) (nI zs) (nI ta) en bd bp bq (nI bk) (nI pl) br)), (a 19, .inl (cm 19, 2000, .inl fc)), (a 29, .inl (cm 29, 700, .inl fl))] s.heap.size = A at hD ⊢
  have hA : ∀ q : Nat, s.heap.size ≤ q → A q := fun q h => by rw [← hAe]; exact Or.inr h
  have hS : va_S A s.heap s.heap [] := va_S.rf
  have hP : va_P D vwCl [(h0, .inr (11, gP a i g (nI cd) (nI zs) (nI ta) en bd bp bq (nI bk) (nI pl) br)), (a 19, .inl (cm 19, 2000, .inl fc)), (a 29, .inl (cm 29, 700, .inl fl))] s.heap := hP
  have hl := lv_entry ([.ref h0, .int (nI le)]) (n := 2) (Nat.le_of_ble_eq_true rfl)
  rw [lg_entry_eq]
  generalize (lg_sl ([.ref h0, .int (nI le)]) ++ List.replicate (2 - (lg_sl ([.ref h0, .int (nI le)])).length) Slot.unset).toArray = ls at hl ⊢
  have hl : lv_has ls 2 [(0, .ref h0), (1, .int (nI le))] := hl
  refine lp_works l D h0 a cm i g fc fl cd zs ta en bd bp bq bk pl br le fo bs wN l2 rc (hcp) (hPl) (hMp) (hl2) (hle2) hx hb hml hown hts hA (hK.sub [0, 1] rfl) ?_ (pl + 1) pl cd fc rc (rfl) (Nat.le_refl _) (hW) (rfl) (rfl) (hMr) (by omega) _ _ _ (hP.sub [0, 1, 2] rfl) (hD.sub [0, 1, 2] (by decide) rfl) hS (lv_sub hl [0, 1] rfl)
  intro y_1 c2_2 gc_3 rc_4 hi1_5 hi2_6 hWl_7 hrw_8 hrr_9 hMr_10 hx11 hx12 hx13 H locs ls hP hD hS hl
  exact W.vret hx hb hr (fun t ht hW => ⟨⟨(gc_3, c2_2, y_1), rfl, (by (try dsimp only); exact ⟨hi1_5, hi2_6, hWl_7, hx11, (hrw_8.trans hx12).symm, by rw [hrr_9, hx13]; exact hMr_10⟩), by rw [ht]; exact hP.sub [0, 1, 2] rfl, va_K.moved hW.alike (hK.sub [0, 1] rfl), hD.sub [0, 1, 2] (by decide) rfl⟩, hS.F ht⟩) hS.2.2 dX11_works_65

