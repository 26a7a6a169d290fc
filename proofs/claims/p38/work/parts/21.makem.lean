theorem dX11_make_0 : decode cX11_make 0 = .ok (.aload_n 0, 1) := by decide +kernel
theorem dX11_make_1 : decode cX11_make 1 = .ok (.iconst 0, 1) := by decide +kernel
theorem dX11_make_2 : decode cX11_make 2 = .ok (.putfield 73, 3) := by decide +kernel
theorem dX11_make_5 : decode cX11_make 5 = .ok (.iload_n 1, 1) := by decide +kernel
theorem dX11_make_6 : decode cX11_make 6 = .ok (.i2l, 1) := by decide +kernel
theorem dX11_make_7 : decode cX11_make 7 = .ok (.lconst 0, 1) := by decide +kernel
theorem dX11_make_8 : decode cX11_make 8 = .ok (.ldc2_w 87, 3) := by decide +kernel
theorem dX11_make_11 : decode cX11_make 11 = .ok (.invokestatic 83, 3) := by decide +kernel
theorem dX11_make_14 : decode cX11_make 14 = .ok (.ifCond .eq 44, 3) := by decide +kernel
theorem dX11_make_17 : decode cX11_make 17 = .ok (.iload_n 2, 1) := by decide +kernel
theorem dX11_make_18 : decode cX11_make 18 = .ok (.i2l, 1) := by decide +kernel
theorem dX11_make_19 : decode cX11_make 19 = .ok (.ldc2_w 178, 3) := by decide +kernel
theorem dX11_make_22 : decode cX11_make 22 = .ok (.ldc2_w 180, 3) := by decide +kernel
theorem dX11_make_25 : decode cX11_make 25 = .ok (.invokestatic 83, 3) := by decide +kernel
theorem dX11_make_28 : decode cX11_make 28 = .ok (.ifCond .eq 30, 3) := by decide +kernel
theorem dX11_make_31 : decode cX11_make 31 = .ok (.iload_n 3, 1) := by decide +kernel
theorem dX11_make_32 : decode cX11_make 32 = .ok (.i2l, 1) := by decide +kernel
theorem dX11_make_33 : decode cX11_make 33 = .ok (.ldc2_w 182, 3) := by decide +kernel
theorem dX11_make_36 : decode cX11_make 36 = .ok (.ldc2_w 184, 3) := by decide +kernel
theorem dX11_make_39 : decode cX11_make 39 = .ok (.invokestatic 83, 3) := by decide +kernel
theorem dX11_make_42 : decode cX11_make 42 = .ok (.ifCond .eq 16, 3) := by decide +kernel
theorem dX11_make_45 : decode cX11_make 45 = .ok (.iload 4, 2) := by decide +kernel
theorem dX11_make_47 : decode cX11_make 47 = .ok (.i2l, 1) := by decide +kernel
theorem dX11_make_48 : decode cX11_make 48 = .ok (.lconst 0, 1) := by decide +kernel
theorem dX11_make_49 : decode cX11_make 49 = .ok (.ldc2_w 186, 3) := by decide +kernel
theorem dX11_make_52 : decode cX11_make 52 = .ok (.invokestatic 83, 3) := by decide +kernel
theorem dX11_make_55 : decode cX11_make 55 = .ok (.ifCond .ne 6, 3) := by decide +kernel
theorem dX11_make_58 : decode cX11_make 58 = .ok (.bipush (-2), 2) := by decide +kernel
theorem dX11_make_60 : decode cX11_make 60 = .ok (.ireturn, 1) := by decide +kernel
theorem dX11_make_61 : decode cX11_make 61 = .ok (.aload_n 0, 1) := by decide +kernel
theorem dX11_make_62 : decode cX11_make 62 = .ok (.iload_n 1, 1) := by decide +kernel
theorem dX11_make_63 : decode cX11_make 63 = .ok (.iload_n 2, 1) := by decide +kernel
theorem dX11_make_64 : decode cX11_make 64 = .ok (.iload_n 3, 1) := by decide +kernel
theorem dX11_make_65 : decode cX11_make 65 = .ok (.iload 4, 2) := by decide +kernel
theorem dX11_make_67 : decode cX11_make 67 = .ok (.lload 5, 2) := by decide +kernel
theorem dX11_make_69 : decode cX11_make 69 = .ok (.invokevirtual 188, 3) := by decide +kernel
theorem dX11_make_72 : decode cX11_make 72 = .ok (.aload_n 0, 1) := by decide +kernel
theorem dX11_make_73 : decode cX11_make 73 = .ok (.iload_n 1, 1) := by decide +kernel
theorem dX11_make_74 : decode cX11_make 74 = .ok (.invokevirtual 192, 3) := by decide +kernel
theorem dX11_make_77 : decode cX11_make 77 = .ok (.iconst 1, 1) := by decide +kernel
theorem dX11_make_78 : decode cX11_make 78 = .ok (.ireturn, 1) := by decide +kernel
theorem mkF_1 {t b s g : Int32} (h0 : 0 ≤ t ∧ t < 4) (h1 : 8 ≤ b ∧ b ≤ 64) (h2 : 25 ≤ s ∧ s ≤ 400) (h3 : 0 ≤ g ∧ g ≤ 200) : mkF t b s g = 1 := by
  unfold mkF
  rw [if_pos ⟨h0, h1.1, h1.2, h2.1, h2.2, h3.1, h3.2⟩]
theorem mkF_a {t b s g : Int32} (h : ¬ (0 ≤ t ∧ t < 4)) : mkF t b s g = -2 := by
  unfold mkF
  rw [if_neg (fun q => h q.1)]
theorem mkF_b {t b s g : Int32} (h : ¬ (8 ≤ b ∧ b ≤ 64)) : mkF t b s g = -2 := by
  unfold mkF
  rw [if_neg (fun q => h ⟨q.2.1, q.2.2.1⟩)]
theorem mkF_c {t b s g : Int32} (h : ¬ (25 ≤ s ∧ s ≤ 400)) : mkF t b s g = -2 := by
  unfold mkF
  rw [if_neg (fun q => h ⟨q.2.2.2.1, q.2.2.2.2.1⟩)]
theorem mkF_d {t b s g : Int32} (h : ¬ (0 ≤ g ∧ g ≤ 200)) : mkF t b s g = -2 := by
  unfold mkF
  rw [if_neg (fun q => h ⟨q.2.2.2.2.2.1, q.2.2.2.2.2.2⟩)]

/-- the reference's tables, all that are there -/
def MInv (fn : Nat → Int64) (fk fb ff fh : Nat → Int32) (fa fs : Nat → Int64) : Prop := RngL fa ∧ RngL fs ∧ ∀ k, k < 4 → fn (17 * k + 0) = 1 → ∃ cn nb K J, TabS k cn nb K J fn fk fb ff fh
theorem TabS.frame {k cn nb : Nat} {K J : Nat → Nat} {fn gn : Nat → Int64} {fk fb ff fh gk gb gf gh : Nat → Int32} (h : TabS k cn nb K J fn fk fb ff fh) (e1 : ∀ x, 17 * k ≤ x → x < 17 * k + 17 → gn x = fn x) (e2 : ∀ x, 160 * k ≤ x → x < 160 * k + 160 → gk x = fk x) (e3 : ∀ x, 160 * k ≤ x → x < 160 * k + 160 → gb x = fb x) (e4 : ∀ x, 2048 * k ≤ x → x < 2048 * k + 2048 → gf x = ff x) (e5 : ∀ x, 2048 * k ≤ x → x < 2048 * k + 2048 → gh x = fh x) : TabS k cn nb K J gn gk gb gf gh := by
  obtain ⟨a1, a2, a3, a4, a5, ⟨ka, kb, b1, b2, b3, b4⟩, ⟨c1, c2⟩, d1, d2, ⟨bn, ns, gr, s1, s2, s3, s4, s5, s6, s7⟩⟩ := h
  refine ⟨(e1 _ (by omega) (by omega)).trans a1, a2, (e1 _ (by omega) (by omega)).trans a3, a4, a5, ⟨ka, kb, b1, b2, (e1 _ (by omega) (by omega)).trans b3, (e1 _ (by omega) (by omega)).trans b4⟩, ⟨fun j hj => ⟨(e2 _ (by omega) (by omega)).trans (c1 j hj).1, (c1 j hj).2⟩, c2⟩, fun j hj => ⟨(e3 _ (by omega) (by omega)).trans (d1 j hj).1, (d1 j hj).2⟩, fun b hb => ?_, ⟨bn, ns, gr, (e1 _ (by omega) (by omega)).trans s1, s2, (e1 _ (by omega) (by omega)).trans s3, s4, s5, (e1 _ (by omega) (by omega)).trans s6, s7⟩⟩
  obtain ⟨q1, r, q2, q3, q4⟩ := d2 b hb
  exact ⟨(e5 _ (by omega) (by omega)).trans q1, r, (e4 _ (by omega) (by omega)).trans q2, q3, q4⟩
theorem MInv.upd {k : Nat} {fn gn : Nat → Int64} {fk fb ff fh gk gb gf gh : Nat → Int32} {fa fs ga gs : Nat → Int64} (h : MInv fn fk fb ff fh fa fs) (ha : RngL ga) (hs : RngL gs) (e1 : ∀ x, (x < 17 * k ∨ 17 * k + 17 ≤ x) → gn x = fn x) (e2 : ∀ x, (x < 160 * k ∨ 160 * k + 160 ≤ x) → gk x = fk x) (e3 : ∀ x, (x < 160 * k ∨ 160 * k + 160 ≤ x) → gb x = fb x) (e4 : ∀ x, (x < 2048 * k ∨ 2048 * k + 2048 ≤ x) → gf x = ff x) (e5 : ∀ x, (x < 2048 * k ∨ 2048 * k + 2048 ≤ x) → gh x = fh x) (hT : gn (17 * k + 0) = 1 → ∃ cn nb K J, TabS k cn nb K J gn gk gb gf gh) : MInv gn gk gb gf gh ga gs := by
  refine ⟨ha, hs, fun j hj ht => ?_⟩
  by_cases e : j = k
  · subst e
    exact hT ht
  · rw [e1 _ (by omega)] at ht
    obtain ⟨cn, nb, K, J, hT⟩ := h.2.2 j hj ht
    exact ⟨cn, nb, K, J, hT.frame (fun x a b => e1 x (by omega)) (fun x a b => e2 x (by omega)) (fun x a b => e3 x (by omega)) (fun x a b => e4 x (by omega)) (fun x a b => e5 x (by omega))⟩
theorem lsR_T {k cn nb : Nat} {K J : Nat → Nat} {fn : Nat → Int64} {fk fb ff fh : Nat → Int32} (hk : k < 4) (h : TabS k cn nb K J fn fk fb ff fh) (fv : Nat → Int32) : lsR fn fk fv k = tabl cn K (fun j => fv (160 * k + j)) := by
  obtain ⟨h1, hc, _, _, _, _, hK, _⟩ := h
  exact lsR_of hk h1 hc hK.1
def own_c_makeM : List Cond := [.fieldLink RX11 73 "ClashFreeModel" "thrown" "I", .constantLong RX11 87 (3), .methodLink RX11 83 yX11_isIn, .static yX11_isIn, .initialized RX11, .constantLong RX11 178 (8), .constantLong RX11 180 (64), .constantLong RX11 182 (25), .constantLong RX11 184 (400), .constantLong RX11 186 (200), .methodLink RX11 188 yX11_makes, .instanceMethod yX11_makes, .selects RX11 yX11_makes yX11_makes, .methodLink RX11 192 yX11_buildsAll, .instanceMethod yX11_buildsAll, .selects RX11 yX11_buildsAll yX11_buildsAll]
def wp_c_makeM : List Cond := .code yX11_make cX11_make 7 (some .int) :: (own_c_makeM ++ (wp_c_isIn ++ (wp_c_makes ++ (wp_c_buildsAll ++ (wsX110 ++ ([] : List Cond))))))
set_option maxRecDepth 20000 in
theorem inown_c_makeM : ∀ w ∈ own_c_makeM, w ∈ lw_tbl := mem_places [1216, 1378, 1371, 1372, 115, 1379, 1380, 1381, 1382, 1383, 1384, 1386, 37, 1392, 1394, 39] (by decide +kernel)
set_option maxRecDepth 20000 in
theorem in_c_makeM : ∀ w ∈ wp_c_makeM, w ∈ lw_tbl := List.forall_mem_cons.mpr ⟨List.mem_of_getElem? (i := 1377) (by decide +kernel), List.forall_mem_append.mpr ⟨inown_c_makeM, List.forall_mem_append.mpr ⟨in_c_isIn, List.forall_mem_append.mpr ⟨in_c_makes, List.forall_mem_append.mpr ⟨in_c_buildsAll, List.forall_mem_append.mpr ⟨lwb_X11, fun _ h => absurd h List.not_mem_nil⟩⟩⟩⟩⟩⟩
set_option maxRecDepth 20000 in
theorem good_c_makeM : wp_c_makeM.all goodWord = true := by decide +kernel
set_option maxRecDepth 20000 in
theorem g_c_makeM_c_isIn_83 : GoodIn wp_c_makeM (va_wsS RX11 83 yX11_isIn wp_c_isIn) := goodIn_sub (List.forall_mem_append.mpr ⟨List.forall_mem_cons.mpr ⟨(List.mem_of_getElem? (i := 3) rfl), List.forall_mem_cons.mpr ⟨(List.mem_of_getElem? (i := 4) rfl), List.forall_mem_cons.mpr ⟨(List.mem_of_getElem? (i := 5) rfl), fun _ h => absurd h List.not_mem_nil⟩⟩⟩, (fun _ h => (List.mem_cons_of_mem _ (List.mem_append_right _ (List.mem_append_left _ h))))⟩) (by decide +kernel)
set_option maxRecDepth 20000 in
theorem g_c_makeM_c_makes_188 : GoodIn wp_c_makeM (wsV RX11 188 RX11 yX11_makes wp_c_makes) := goodIn_sub (List.forall_mem_append.mpr ⟨List.forall_mem_cons.mpr ⟨(List.mem_of_getElem? (i := 11) rfl), List.forall_mem_cons.mpr ⟨(List.mem_of_getElem? (i := 12) rfl), List.forall_mem_cons.mpr ⟨(List.mem_of_getElem? (i := 13) rfl), List.forall_mem_cons.mpr ⟨(List.mem_of_getElem? (i := 5) rfl), fun _ h => absurd h List.not_mem_nil⟩⟩⟩⟩, (fun _ h => (List.mem_cons_of_mem _ (List.mem_append_right _ (List.mem_append_right _ (List.mem_append_left _ h)))))⟩) (by decide +kernel)
set_option maxRecDepth 20000 in
theorem g_c_makeM_c_buildsAll_192 : GoodIn wp_c_makeM (wsV RX11 192 RX11 yX11_buildsAll wp_c_buildsAll) := goodIn_sub (List.forall_mem_append.mpr ⟨List.forall_mem_cons.mpr ⟨(List.mem_of_getElem? (i := 14) rfl), List.forall_mem_cons.mpr ⟨(List.mem_of_getElem? (i := 15) rfl), List.forall_mem_cons.mpr ⟨(List.mem_of_getElem? (i := 16) rfl), List.forall_mem_cons.mpr ⟨(List.mem_of_getElem? (i := 5) rfl), fun _ h => absurd h List.not_mem_nil⟩⟩⟩⟩, (fun _ h => (List.mem_cons_of_mem _ (List.mem_append_right _ (List.mem_append_right _ (List.mem_append_right _ (List.mem_append_left _ h))))))⟩) (by decide +kernel)
set_option maxHeartbeats 4000000 in
set_option maxRecDepth 100000 in
theorem c_makeM (l : Launch) (D : va_G) (sz : Nat) (h0 : Nat) (a : Nat → Nat) (cm : Nat → ClassId) (i : Nat → Int32) (g : Nat → Int64) (fn : Nat → Int64) (fk : Nat → Int32) (fb : Nat → Int32) (fr : Nat → Int32) (ff : Nat → Int32) (fh : Nat → Int32) (fa : Nat → Int64) (fs : Nat → Int64) (z1 : Int32) (z2 : Int32) (z3 : Int32) (z4 : Int32) (y5 : Int64) (hM : MInv fn fk fb ff fh fa fs) : Met l yX11_make wp_c_makeM ({ frames := 8, cells := 0, slots := 0, locals := 215 }) (PcW D [.ref h0, .int z1, .int z2, .int z3, .int z4, .long y5] sz [(h0, .inr (11, gM a i g)), (a 3, .inl (cm 3, 85, .inr (.inl fn))), (a 4, .inl (cm 4, 800, .inl fk)), (a 6, .inl (cm 6, 800, .inl fb)), (a 7, .inl (cm 7, 800, .inl fr)), (a 8, .inl (cm 8, 10240, .inl ff)), (a 9, .inl (cm 9, 10240, .inl fh)), (a 10, .inl (cm 10, 10240, .inr (.inl fa))), (a 11, .inl (cm 11, 10240, .inr (.inl fs)))] [(cm 3, .long), (cm 4, .int), (cm 6, .int), (cm 7, .int), (cm 8, .int), (cm 9, .int), (cm 10, .long), (cm 11, .long)]) (va_Qi (fun (r : Int32) (u : (Nat → Int64) × (Nat → Int32) × (Nat → Int32) × (Nat → Int32) × (Nat → Int32) × (Nat → Int64) × (Nat → Int64) × (Int32) × (Int64) × (Int64) × (Int64) × (Int32)) => r = mkF z1 z2 z3 z4 ∧ MInv u.1 fk u.2.1 u.2.2.2.1 u.2.2.2.2.1 u.2.2.2.2.2.1 u.2.2.2.2.2.2.1 ∧ ((r = 1 ∧ ∃ k, k < 4 ∧ z1 = nI k ∧ NewT fn u.1 k) ∨ (r ≠ 1 ∧ SameT fn u.1)) ∧ ∀ fv, lsR u.1 fk fv = mkS (lsR fn fk fv) (mkF z1 z2 z3 z4) z1) (fun (u : (Nat → Int64) × (Nat → Int32) × (Nat → Int32) × (Nat → Int32) × (Nat → Int32) × (Nat → Int64) × (Nat → Int64) × (Int32) × (Int64) × (Int64) × (Int64) × (Int32)) t => va_P D vwCl [(h0, .inr (11, gM a (upd (upd i 0 u.2.2.2.2.2.2.2.1) 15 u.2.2.2.2.2.2.2.2.2.2.2) (vp_updL (vp_updL (vp_updL (fun _ => 0) 12 u.2.2.2.2.2.2.2.2.1) 13 u.2.2.2.2.2.2.2.2.2.1) 14 u.2.2.2.2.2.2.2.2.2.2.1))), (a 3, .inl (cm 3, 85, .inr (.inl u.1))), (a 4, .inl (cm 4, 800, .inl fk)), (a 6, .inl (cm 6, 800, .inl u.2.1)), (a 7, .inl (cm 7, 800, .inl u.2.2.1)), (a 8, .inl (cm 8, 10240, .inl u.2.2.2.1)), (a 9, .inl (cm 9, 10240, .inl u.2.2.2.2.1)), (a 10, .inl (cm 10, 10240, .inr (.inl u.2.2.2.2.2.1))), (a 11, .inl (cm 11, 10240, .inr (.inl u.2.2.2.2.2.2.1)))] t.heap ∧ va_K D vwCl [(cm 3, .long), (cm 4, .int), (cm 6, .int), (cm 7, .int), (cm 8, .int), (cm 9, .int), (cm 10, .long), (cm 11, .long)] t ∧ va_D (va_A [(h0, .inr (11, gM a i g)), (a 3, .inl (cm 3, 85, .inr (.inl fn))), (a 4, .inl (cm 4, 800, .inl fk)), (a 6, .inl (cm 6, 800, .inl fb)), (a 7, .inl (cm 7, 800, .inl fr)), (a 8, .inl (cm 8, 10240, .inl ff)), (a 9, .inl (cm 9, 10240, .inl fh)), (a 10, .inl (cm 10, 10240, .inr (.inl fa))), (a 11, .inl (cm 11, 10240, .inr (.inl fs)))] sz) [(h0, .inr (11, gM a (upd (upd i 0 u.2.2.2.2.2.2.2.1) 15 u.2.2.2.2.2.2.2.2.2.2.2) (vp_updL (vp_updL (vp_updL (fun _ => 0) 12 u.2.2.2.2.2.2.2.2.1) 13 u.2.2.2.2.2.2.2.2.2.1) 14 u.2.2.2.2.2.2.2.2.2.2.1))), (a 3, .inl (cm 3, 85, .inr (.inl u.1))), (a 4, .inl (cm 4, 800, .inl fk)), (a 6, .inl (cm 6, 800, .inl u.2.1)), (a 7, .inl (cm 7, 800, .inl u.2.2.1)), (a 8, .inl (cm 8, 10240, .inl u.2.2.2.1)), (a 9, .inl (cm 9, 10240, .inl u.2.2.2.2.1)), (a 10, .inl (cm 10, 10240, .inr (.inl u.2.2.2.2.2.1))), (a 11, .inl (cm 11, 10240, .inr (.inl u.2.2.2.2.2.2.1)))]) (va_A [(h0, .inr (11, gM a i g)), (a 3, .inl (cm 3, 85, .inr (.inl fn))), (a 4, .inl (cm 4, 800, .inl fk)), (a 6, .inl (cm 6, 800, .inl fb)), (a 7, .inl (cm 7, 800, .inl fr)), (a 8, .inl (cm 8, 10240, .inl ff)), (a 9, .inl (cm 9, 10240, .inl fh)), (a 10, .inl (cm 10, 10240, .inr (.inl fa))), (a 11, .inl (cm 11, 10240, .inr (.inl fs)))] sz)) 0 0 (va_A [(h0, .inr (11, gM a i g)), (a 3, .inl (cm 3, 85, .inr (.inl fn))), (a 4, .inl (cm 4, 800, .inl fk)), (a 6, .inl (cm 6, 800, .inl fb)), (a 7, .inl (cm 7, 800, .inl fr)), (a 8, .inl (cm 8, 10240, .inl ff)), (a 9, .inl (cm 9, 10240, .inl fh)), (a 10, .inl (cm 10, 10240, .inr (.inl fa))), (a 11, .inl (cm 11, 10240, .inr (.inl fs)))] sz) := by
  refine Met.ofW (cc := cX11_make) (maxL := 7) (ret := (some .int)) (by decide) rfl ?_
  intro p e s m args below meth c s₁ B hml hv
  obtain ⟨rfl, hsz, hP, hK, hD0⟩ := hv
  have hx := B.exec
  have hb := B.bytes
  have hr := B.returns
  have hts := atoms_spec (ws := wp_c_makeM) B.pre
  have hin_X11 : ∀ w ∈ wsX110, w ∈ wp_c_makeM := fun _ h => (List.mem_cons_of_mem _ (List.mem_append_right _ (List.mem_append_right _ (List.mem_append_right _ (List.mem_append_right _ (List.mem_append_left _ h))))))
  have hown : s.vm.findClass RX11 = some m.cls := findClass_of_methodNamed B.named
  have hlocks := B.notSynchronized
  subst hsz
  have hD := hD0.self (sz := s.heap.size)
  generalize hAe : va_A [(h0, .inr (11, gM a i g)), (a 3, .inl (cm 3, 85, .inr (.inl fn))), (a 4, .inl (cm 4, 800, .inl fk)), (a 6, .inl (cm 6, 800, .inl fb)), (a 7, .inl (cm 7, 800, .inl fr)), (a 8, .inl (cm 8, 10240, .inl ff)), (a 9, .inl (cm 9, 10240, .inl fh)), (a 10, .inl (cm 10, 10240, .inr (.inl fa))), (a 11, .inl (cm 11, 10240, .inr (.inl fs)))] s.heap.size = A at hD ⊢
  have hA : ∀ q : Nat, s.heap.size ≤ q → A q := fun q h => by rw [← hAe]; exact Or.inr h
  have hS : va_S A s.heap s.heap [] := va_S.rf
  have hP : va_P D vwCl [(h0, .inr (11, gM a i g)), (a 3, .inl (cm 3, 85, .inr (.inl fn))), (a 4, .inl (cm 4, 800, .inl fk)), (a 6, .inl (cm 6, 800, .inl fb)), (a 7, .inl (cm 7, 800, .inl fr)), (a 8, .inl (cm 8, 10240, .inl ff)), (a 9, .inl (cm 9, 10240, .inl fh)), (a 10, .inl (cm 10, 10240, .inr (.inl fa))), (a 11, .inl (cm 11, 10240, .inr (.inl fs)))] s.heap := hP
  have hl := lv_entry ([.ref h0, .int z1, .int z2, .int z3, .int z4, .long y5]) (n := 7) (Nat.le_of_ble_eq_true rfl)
  rw [lg_entry_eq]
  generalize (lg_sl ([.ref h0, .int z1, .int z2, .int z3, .int z4, .long y5]) ++ List.replicate (7 - (lg_sl ([.ref h0, .int z1, .int z2, .int z3, .int z4, .long y5])).length) Slot.unset).toArray = ls at hl ⊢
  have hl : lv_has ls 7 [(0, .ref h0), (1, .int z1), (2, .int z2), (3, .int z3), (4, .int z4), (5, .long y5)] := hl
  have hfa := hM.1
  have hfs := hM.2.1
  refine lv_aload_n hx hb dX11_make_0 rfl (lv_at hl 0 rfl) ?_
  refine lv_iconst (v := 0) hx hb dX11_make_1 (by decide) ?_
  refine va_put (D := D) (ci := 11) (v := .int 0) (ty := .int) (C := RX11) (T := TX11) (N := 47) hx hb hts hin_X11 tyX11 tyX11_ok nmX11 hown hK hP hD hS 0 rfl rfl 0 (by decide) (hts (.fieldLink RX11 73 "ClashFreeModel" "thrown" "I") (List.mem_of_getElem? (i := 1) rfl)) (fun _ h9 => h9) rfl (by decide +kernel) rfl rfl (Nat.le_of_ble_eq_true rfl) dX11_make_2 (fun H locs hP hD hS => ?_)
  have hP : va_P D vwCl [(h0, .inr (11, gM a (upd i 0 0) g)), (a 3, .inl (cm 3, 85, .inr (.inl fn))), (a 4, .inl (cm 4, 800, .inl fk)), (a 6, .inl (cm 6, 800, .inl fb)), (a 7, .inl (cm 7, 800, .inl fr)), (a 8, .inl (cm 8, 10240, .inl ff)), (a 9, .inl (cm 9, 10240, .inl fh)), (a 10, .inl (cm 10, 10240, .inr (.inl fa))), (a 11, .inl (cm 11, 10240, .inr (.inl fs)))] H := hP
  have hD : va_D A [(h0, .inr (11, gM a (upd i 0 0) g)), (a 3, .inl (cm 3, 85, .inr (.inl fn))), (a 4, .inl (cm 4, 800, .inl fk)), (a 6, .inl (cm 6, 800, .inl fb)), (a 7, .inl (cm 7, 800, .inl fr)), (a 8, .inl (cm 8, 10240, .inl ff)), (a 9, .inl (cm 9, 10240, .inl fh)), (a 10, .inl (cm 10, 10240, .inr (.inl fa))), (a 11, .inl (cm 11, 10240, .inr (.inl fs)))] := hD
  refine lv_iload_n hx hb dX11_make_5 rfl (lv_at hl 1 rfl) ?_
  refine lv_i2l hx hb dX11_make_6 rfl ?_
  refine lv_lconst (v := 0) hx hb dX11_make_7 (by decide) ?_
  refine lv_ldc2 (v := 3) hx hb hown (hts (.constantLong RX11 87 (3)) (List.mem_of_getElem? (i := 2) rfl)) dX11_make_8 ?_
  have hPc := hP.sub (ws' := []) [] rfl
  have hKc := hK.sub (tys' := []) [] rfl
  have hFc := va_free0 hS hA
  refine va_calli (va_runS (As := [.long (Int32.toInt64 z1), .long 0, .long 3]) (rest := []) ⟨hx, hb, hml, hown, hts⟩ (c_isIn l D _ (Int32.toInt64 z1) 0 3) (va_cwS 3 hts g_c_makeM_c_isIn_83 rfl rfl rfl (by decide +kernel) ⟨(Nat.le_of_ble_eq_true rfl), (Nat.le_of_ble_eq_true rfl)⟩) (PcR_S hPc hKc) rfl rfl hl.1 rfl (lv_room (Nat.le_of_ble_eq_true rfl)) dX11_make_11 ⟨(Nat.le_of_ble_eq_true rfl), (Nat.le_of_ble_eq_true rfl)⟩) hS (fun q _ h => hFc q h) hFc (fun r1 uu tt H locs htt hvm hw hB hz1 hk1 hS => ?_)
  have hP := va_keep hP hk1
  try dsimp only at hw
  clear hB hz1 hk1 hFc hPc hKc
  rcases hw with ⟨rfl, hA_r1⟩ | ⟨rfl, hA_r1⟩
  ·
    have hg0 := (isIn04c).mp hA_r1
    refine lv_if_eq (tgt := 58) hx hb dX11_make_14 (by decide) (fun hc => absurd hc (by decide)) (fun hc => ?_)
    refine lv_iload_n hx hb dX11_make_17 rfl (lv_at hl 2 rfl) ?_
    refine lv_i2l hx hb dX11_make_18 rfl ?_
    refine lv_ldc2 (v := 8) hx hb hown (hts (.constantLong RX11 178 (8)) (List.mem_of_getElem? (i := 6) rfl)) dX11_make_19 ?_
    refine lv_ldc2 (v := 64) hx hb hown (hts (.constantLong RX11 180 (64)) (List.mem_of_getElem? (i := 7) rfl)) dX11_make_22 ?_
    have hPc := hP.sub (ws' := []) [] rfl
    have hKc := hK.sub (tys' := []) [] rfl
    have hFc := va_free0 hS hA
    refine va_calli (va_runS (As := [.long (Int32.toInt64 z2), .long 8, .long 64]) (rest := []) ⟨hx, hb, hml, hown, hts⟩ (c_isIn l D _ (Int32.toInt64 z2) 8 64) (va_cwS 3 hts g_c_makeM_c_isIn_83 rfl rfl rfl (by decide +kernel) ⟨(Nat.le_of_ble_eq_true rfl), (Nat.le_of_ble_eq_true rfl)⟩) (PcR_S hPc hKc) rfl rfl hl.1 rfl (lv_room (Nat.le_of_ble_eq_true rfl)) dX11_make_25 ⟨(Nat.le_of_ble_eq_true rfl), (Nat.le_of_ble_eq_true rfl)⟩) hS (fun q _ h => hFc q h) hFc (fun r2 uu tt H locs htt hvm hw hB hz1 hk1 hS => ?_)
    have hP := va_keep hP hk1
    try dsimp only at hw
    clear hB hz1 hk1 hFc hPc hKc
    rcases hw with ⟨rfl, hA_r2⟩ | ⟨rfl, hA_r2⟩
    ·
      have hg1 := (isIn8).mp hA_r2
      refine lv_if_eq (tgt := 58) hx hb dX11_make_28 (by decide) (fun hc => absurd hc (by decide)) (fun hc => ?_)
      refine lv_iload_n hx hb dX11_make_31 rfl (lv_at hl 3 rfl) ?_
      refine lv_i2l hx hb dX11_make_32 rfl ?_
      refine lv_ldc2 (v := 25) hx hb hown (hts (.constantLong RX11 182 (25)) (List.mem_of_getElem? (i := 8) rfl)) dX11_make_33 ?_
      refine lv_ldc2 (v := 400) hx hb hown (hts (.constantLong RX11 184 (400)) (List.mem_of_getElem? (i := 9) rfl)) dX11_make_36 ?_
      have hPc := hP.sub (ws' := []) [] rfl
      have hKc := hK.sub (tys' := []) [] rfl
      have hFc := va_free0 hS hA
      refine va_calli (va_runS (As := [.long (Int32.toInt64 z3), .long 25, .long 400]) (rest := []) ⟨hx, hb, hml, hown, hts⟩ (c_isIn l D _ (Int32.toInt64 z3) 25 400) (va_cwS 3 hts g_c_makeM_c_isIn_83 rfl rfl rfl (by decide +kernel) ⟨(Nat.le_of_ble_eq_true rfl), (Nat.le_of_ble_eq_true rfl)⟩) (PcR_S hPc hKc) rfl rfl hl.1 rfl (lv_room (Nat.le_of_ble_eq_true rfl)) dX11_make_39 ⟨(Nat.le_of_ble_eq_true rfl), (Nat.le_of_ble_eq_true rfl)⟩) hS (fun q _ h => hFc q h) hFc (fun r3 uu tt H locs htt hvm hw hB hz1 hk1 hS => ?_)
      have hP := va_keep hP hk1
      try dsimp only at hw
      clear hB hz1 hk1 hFc hPc hKc
      rcases hw with ⟨rfl, hA_r3⟩ | ⟨rfl, hA_r3⟩
      ·
        have hg2 := (isIn25).mp hA_r3
        refine lv_if_eq (tgt := 58) hx hb dX11_make_42 (by decide) (fun hc => absurd hc (by decide)) (fun hc => ?_)
        refine lv_iload hx hb dX11_make_45 (lv_at hl 4 rfl) ?_
        refine lv_i2l hx hb dX11_make_47 rfl ?_
        refine lv_lconst (v := 0) hx hb dX11_make_48 (by decide) ?_
        refine lv_ldc2 (v := 200) hx hb hown (hts (.constantLong RX11 186 (200)) (List.mem_of_getElem? (i := 10) rfl)) dX11_make_49 ?_
        have hPc := hP.sub (ws' := []) [] rfl
        have hKc := hK.sub (tys' := []) [] rfl
        have hFc := va_free0 hS hA
        refine va_calli (va_runS (As := [.long (Int32.toInt64 z4), .long 0, .long 200]) (rest := []) ⟨hx, hb, hml, hown, hts⟩ (c_isIn l D _ (Int32.toInt64 z4) 0 200) (va_cwS 3 hts g_c_makeM_c_isIn_83 rfl rfl rfl (by decide +kernel) ⟨(Nat.le_of_ble_eq_true rfl), (Nat.le_of_ble_eq_true rfl)⟩) (PcR_S hPc hKc) rfl rfl hl.1 rfl (lv_room (Nat.le_of_ble_eq_true rfl)) dX11_make_52 ⟨(Nat.le_of_ble_eq_true rfl), (Nat.le_of_ble_eq_true rfl)⟩) hS (fun q _ h => hFc q h) hFc (fun r4 uu tt H locs htt hvm hw hB hz1 hk1 hS => ?_)
        have hP := va_keep hP hk1
        try dsimp only at hw
        clear hB hz1 hk1 hFc hPc hKc
        rcases hw with ⟨rfl, hA_r4⟩ | ⟨rfl, hA_r4⟩
        ·
          have hg3 := (isIn200).mp hA_r4
          have hok := mkF_1 hg0 hg1 hg2 hg3
          obtain ⟨k, hk, rfl⟩ := in04 hg0
          obtain ⟨bn, hbn, rfl, -⟩ := inI (n := 64) (by decide) (by decide) hg1.1 hg1.2
          obtain ⟨ns, hs2, rfl, hs1⟩ := inI (n := 400) (by decide) (by decide) hg2.1 hg2.2
          have hs1 : 25 ≤ ns := by
            have e25 : (25 : Int32).toInt = 25 := by decide
            omega
          obtain ⟨gr, hgr, rfl, -⟩ := inI (n := 200) (by decide) (by decide) hg3.1 hg3.2
          refine lv_if_ne (tgt := 61) hx hb dX11_make_55 (by decide) (fun hc => ?_) (fun hc => absurd hc (by decide))
          refine lv_aload_n hx hb dX11_make_61 rfl (lv_at hl 0 rfl) ?_
          refine lv_iload_n hx hb dX11_make_62 rfl (lv_at hl 1 rfl) ?_
          refine lv_iload_n hx hb dX11_make_63 rfl (lv_at hl 2 rfl) ?_
          refine lv_iload_n hx hb dX11_make_64 rfl (lv_at hl 3 rfl) ?_
          refine lv_iload hx hb dX11_make_65 (lv_at hl 4 rfl) ?_
          refine lv_lload hx hb dX11_make_67 (lv_at hl 5 rfl) ?_
          have hPc := hP.sub (ws' := [(h0, .inr (11, gM a (upd i 0 0) g)), (a 3, .inl (cm 3, 85, .inr (.inl fn)))]) [0, 1] rfl
          have hKc := hK.sub (tys' := [(cm 3, .long)]) [0] rfl
          have hDc := hD.sub (ws' := [(h0, .inr (11, gM a (upd i 0 0) g)), (a 3, .inl (cm 3, 85, .inr (.inl fn)))]) [0, 1] (by decide) rfl
          have hFc := va_free (wc := [(h0, .inr (11, gM a (upd i 0 0) g)), (a 3, .inl (cm 3, 85, .inr (.inl fn)))]) hD hS hA [0, 1] rfl
          refine va_callv (va_runV (As := [.int (nI k), .int (nI bn), .int (nI ns), .int (nI gr), .long y5]) (rest := []) ⟨hx, hb, hml, hown, hts⟩ (c_makes l D _ h0 a cm (upd i 0 0) g fn k bn ns gr y5 (by first | assumption | omega) (by first | assumption | omega) (by first | assumption | omega) (by first | assumption | omega)) (cwV 5 hts g_c_makeM_c_makes_188 rfl rfl rfl (by decide +kernel) ⟨(Nat.le_of_ble_eq_true rfl), (Nat.le_of_ble_eq_true rfl)⟩) (PcW_V (q0 := 0) hPc hKc hDc rfl rfl) rfl rfl hl.1 rfl (lv_room (Nat.le_of_ble_eq_true rfl)) dX11_make_69 ⟨(Nat.le_of_ble_eq_true rfl), (Nat.le_of_ble_eq_true rfl)⟩) hS (fun q _ h => hFc q h) hFc (fun uu tt H locs htt hvm hw hB hz1 hk1 hS => ?_)
          obtain ⟨w6, rfl⟩ : ∃ z, z = uu := ⟨_, rfl⟩
          obtain ⟨hP1, hK1, hD1⟩ := hB
          rw [htt] at hP1
          have hK1 := va_K.moved hvm.symm hK1
          have hP1 : va_P D vwCl [(h0, .inr (11, gM a (upd i 0 0) g)), (a 3, .inl (cm 3, 85, .inr (.inl w6)))] H := hP1
          obtain ⟨hP, hD⟩ := va_join (wr := [(a 4, .inl (cm 4, 800, .inl fk)), (a 6, .inl (cm 6, 800, .inl fb)), (a 7, .inl (cm 7, 800, .inl fr)), (a 8, .inl (cm 8, 10240, .inl ff)), (a 9, .inl (cm 9, 10240, .inl fh)), (a 10, .inl (cm 10, 10240, .inr (.inl fa))), (a 11, .inl (cm 11, 10240, .inr (.inl fs)))]) (w1 := [(h0, .inr (11, gM a (upd i 0 0) g)), (a 3, .inl (cm 3, 85, .inr (.inl w6)))]) hP hD [0, 1] [2, 3, 4, 5, 6, 7, 8] rfl rfl (by decide) (by decide) hk1 hFc hP1 hD1
          have hP : va_P D vwCl [(a 4, .inl (cm 4, 800, .inl fk)), (a 6, .inl (cm 6, 800, .inl fb)), (a 7, .inl (cm 7, 800, .inl fr)), (a 8, .inl (cm 8, 10240, .inl ff)), (a 9, .inl (cm 9, 10240, .inl fh)), (a 10, .inl (cm 10, 10240, .inr (.inl fa))), (a 11, .inl (cm 11, 10240, .inr (.inl fs))), (h0, .inr (11, gM a (upd i 0 0) g)), (a 3, .inl (cm 3, 85, .inr (.inl w6)))] H := hP
          have hD : va_D A [(a 4, .inl (cm 4, 800, .inl fk)), (a 6, .inl (cm 6, 800, .inl fb)), (a 7, .inl (cm 7, 800, .inl fr)), (a 8, .inl (cm 8, 10240, .inl ff)), (a 9, .inl (cm 9, 10240, .inl fh)), (a 10, .inl (cm 10, 10240, .inr (.inl fa))), (a 11, .inl (cm 11, 10240, .inr (.inl fs))), (h0, .inr (11, gM a (upd i 0 0) g)), (a 3, .inl (cm 3, 85, .inr (.inl w6)))] := hD
          try dsimp only at hw
          clear hz1 hk1 hFc hPc hKc hDc
          obtain ⟨hm0, hm1, hm14, hm15, hm16, hmf⟩ := hw
          refine lv_aload_n hx hb dX11_make_72 rfl (lv_at hl 0 rfl) ?_
          refine lv_iload_n hx hb dX11_make_73 rfl (lv_at hl 1 rfl) ?_
          have hPc := hP.sub (ws' := [(h0, .inr (11, gM a (upd i 0 0) g)), (a 3, .inl (cm 3, 85, .inr (.inl w6))), (a 4, .inl (cm 4, 800, .inl fk)), (a 6, .inl (cm 6, 800, .inl fb)), (a 7, .inl (cm 7, 800, .inl fr)), (a 8, .inl (cm 8, 10240, .inl ff)), (a 9, .inl (cm 9, 10240, .inl fh)), (a 10, .inl (cm 10, 10240, .inr (.inl fa))), (a 11, .inl (cm 11, 10240, .inr (.inl fs)))]) [7, 8, 0, 1, 2, 3, 4, 5, 6] rfl
          have hKc := hK.sub (tys' := [(cm 3, .long), (cm 4, .int), (cm 6, .int), (cm 7, .int), (cm 8, .int), (cm 9, .int), (cm 10, .long), (cm 11, .long)]) [0, 1, 2, 3, 4, 5, 6, 7] rfl
          have hDc := hD.sub (ws' := [(h0, .inr (11, gM a (upd i 0 0) g)), (a 3, .inl (cm 3, 85, .inr (.inl w6))), (a 4, .inl (cm 4, 800, .inl fk)), (a 6, .inl (cm 6, 800, .inl fb)), (a 7, .inl (cm 7, 800, .inl fr)), (a 8, .inl (cm 8, 10240, .inl ff)), (a 9, .inl (cm 9, 10240, .inl fh)), (a 10, .inl (cm 10, 10240, .inr (.inl fa))), (a 11, .inl (cm 11, 10240, .inr (.inl fs)))]) [7, 8, 0, 1, 2, 3, 4, 5, 6] (by decide) rfl
          have hFc := va_free (wc := [(h0, .inr (11, gM a (upd i 0 0) g)), (a 3, .inl (cm 3, 85, .inr (.inl w6))), (a 4, .inl (cm 4, 800, .inl fk)), (a 6, .inl (cm 6, 800, .inl fb)), (a 7, .inl (cm 7, 800, .inl fr)), (a 8, .inl (cm 8, 10240, .inl ff)), (a 9, .inl (cm 9, 10240, .inl fh)), (a 10, .inl (cm 10, 10240, .inr (.inl fa))), (a 11, .inl (cm 11, 10240, .inr (.inl fs)))]) hD hS hA [7, 8, 0, 1, 2, 3, 4, 5, 6] rfl
          refine va_callv (va_runV (As := [.int (nI k)]) (rest := []) ⟨hx, hb, hml, hown, hts⟩ (c_buildsAll l D _ h0 a cm (upd i 0 0) g w6 fk fb fr ff fh fa fs k 0 (fun _ => 0) bn ns gr (by first | assumption | omega) hm1 (by first | assumption | omega) (⟨fun j a => absurd a (Nat.not_lt_zero _), fun i j _ a => absurd a (Nat.not_lt_zero _)⟩) hm14 (by first | assumption | omega) hm15 (by first | assumption | omega) (by first | assumption | omega) hm16 (by first | assumption | omega) (by first | assumption | omega) (by first | assumption | omega)) (cwV 1 hts g_c_makeM_c_buildsAll_192 rfl rfl rfl (by decide +kernel) ⟨(Nat.le_of_ble_eq_true rfl), (Nat.le_of_ble_eq_true rfl)⟩) (PcW_V (q0 := 0) hPc hKc hDc rfl rfl) rfl rfl hl.1 rfl (lv_room (Nat.le_of_ble_eq_true rfl)) dX11_make_74 ⟨(Nat.le_of_ble_eq_true rfl), (Nat.le_of_ble_eq_true rfl)⟩) hS (fun q _ h => hFc q h) hFc (fun uu tt H locs htt hvm hw hB hz1 hk1 hS => ?_)
          obtain ⟨w8, w9, w10, w11, w12, w13, w14, w15, w16, w17, w18⟩ := uu
          obtain ⟨hP1, hK1, hD1⟩ := hB
          rw [htt] at hP1
          have hK1 := va_K.moved hvm.symm hK1
          have hP1 : va_P D vwCl [(h0, .inr (11, gM a (upd (upd i 0 0) 15 w18) (vp_updL (vp_updL (vp_updL (fun _ => 0) 12 w15) 13 w16) 14 w17))), (a 3, .inl (cm 3, 85, .inr (.inl w8))), (a 4, .inl (cm 4, 800, .inl fk)), (a 6, .inl (cm 6, 800, .inl w9)), (a 7, .inl (cm 7, 800, .inl w10)), (a 8, .inl (cm 8, 10240, .inl w11)), (a 9, .inl (cm 9, 10240, .inl w12)), (a 10, .inl (cm 10, 10240, .inr (.inl w13))), (a 11, .inl (cm 11, 10240, .inr (.inl w14)))] H := hP1
          obtain ⟨hP, hD⟩ := va_join (wr := []) (w1 := [(h0, .inr (11, gM a (upd (upd i 0 0) 15 w18) (vp_updL (vp_updL (vp_updL (fun _ => 0) 12 w15) 13 w16) 14 w17))), (a 3, .inl (cm 3, 85, .inr (.inl w8))), (a 4, .inl (cm 4, 800, .inl fk)), (a 6, .inl (cm 6, 800, .inl w9)), (a 7, .inl (cm 7, 800, .inl w10)), (a 8, .inl (cm 8, 10240, .inl w11)), (a 9, .inl (cm 9, 10240, .inl w12)), (a 10, .inl (cm 10, 10240, .inr (.inl w13))), (a 11, .inl (cm 11, 10240, .inr (.inl w14)))]) hP hD [7, 8, 0, 1, 2, 3, 4, 5, 6] [] rfl rfl (by decide) (by decide) hk1 hFc hP1 hD1
          have hP : va_P D vwCl [(h0, .inr (11, gM a (upd (upd i 0 0) 15 w18) (vp_updL (vp_updL (vp_updL (fun _ => 0) 12 w15) 13 w16) 14 w17))), (a 3, .inl (cm 3, 85, .inr (.inl w8))), (a 4, .inl (cm 4, 800, .inl fk)), (a 6, .inl (cm 6, 800, .inl w9)), (a 7, .inl (cm 7, 800, .inl w10)), (a 8, .inl (cm 8, 10240, .inl w11)), (a 9, .inl (cm 9, 10240, .inl w12)), (a 10, .inl (cm 10, 10240, .inr (.inl w13))), (a 11, .inl (cm 11, 10240, .inr (.inl w14)))] H := hP
          have hD : va_D A [(h0, .inr (11, gM a (upd (upd i 0 0) 15 w18) (vp_updL (vp_updL (vp_updL (fun _ => 0) 12 w15) 13 w16) 14 w17))), (a 3, .inl (cm 3, 85, .inr (.inl w8))), (a 4, .inl (cm 4, 800, .inl fk)), (a 6, .inl (cm 6, 800, .inl w9)), (a 7, .inl (cm 7, 800, .inl w10)), (a 8, .inl (cm 8, 10240, .inl w11)), (a 9, .inl (cm 9, 10240, .inl w12)), (a 10, .inl (cm 10, 10240, .inr (.inl w13))), (a 11, .inl (cm 11, 10240, .inr (.inl w14)))] := hD
          try dsimp only at hw
          clear hz1 hk1 hFc hPc hKc hDc
          obtain ⟨⟨hb19_n, hb19_J, hb19_T⟩, hb19_a, hb19_s, hb19_r, hb19_0, hb19_f1, hb19_f2, hb19_f3⟩ := hw
          refine lv_iconst (v := 1) hx hb dX11_make_77 (by decide) ?_
          exact W.iret (v := 1) hx hb hr (fun t ht hW => ⟨⟨1, (w8, w9, w10, w11, w12, w13, w14, 0, w15, w16, w17, w18), rfl, ⟨hok.symm, hM.upd (k := k) hb19_a hb19_s (fun x e => (hb19_r x e).trans (hmf x e)) (fun _ _ => rfl) hb19_f1 hb19_f2 hb19_f3 (fun _ => ⟨_, _, _, _, hb19_T⟩), Or.inl ⟨rfl, k, hk, rfl, NewT.of (fun x e => (hb19_r x e).trans (hmf x e)) (hb19_0.trans hm0)⟩, fun fv => (lsR_upd (fun x e => (hb19_r x e).trans (hmf x e)) (fun _ _ => rfl) (fun _ _ => rfl) ((lsR_T hk hb19_T fv).trans rfl)).trans (mkS_1 hok hk).symm⟩, by rw [ht]; exact hP.sub [0, 1, 2, 3, 4, 5, 6, 7, 8] rfl, va_K.moved hW.alike (hK.sub [0, 1, 2, 3, 4, 5, 6, 7] rfl), hD.sub [0, 1, 2, 3, 4, 5, 6, 7, 8] (by decide) rfl⟩, hS.F ht⟩) hS.2.2 dX11_make_78
        ·
          have hno := mkF_d (s := z3) (t := z1) (b := z2) (g := z4) (fun q => hA_r4 ((isIn200).mpr q))
          refine lv_if_ne (tgt := 61) hx hb dX11_make_55 (by decide) (fun hc => absurd (by decide) hc) (fun hc => ?_)
          refine lv_bipush (v := (-2)) hx hb dX11_make_58 (by decide) ?_
          exact W.iret (v := (-2)) hx hb hr (fun t ht hW => ⟨⟨(-2), (fn, fb, fr, ff, fh, fa, fs, 0, (g 12), (g 13), (g 14), (i 15)), rfl, ⟨hno.symm, hM, Or.inr ⟨by decide, SameT.rfl⟩, fun _ => (mkS_0 (fun q => absurd (hno.symm.trans q) (by decide))).symm⟩, by rw [ht]; exact hP.sub [0, 1, 2, 3, 4, 5, 6, 7, 8] rfl, va_K.moved hW.alike (hK.sub [0, 1, 2, 3, 4, 5, 6, 7] rfl), hD.sub [0, 1, 2, 3, 4, 5, 6, 7, 8] (by decide) rfl⟩, hS.F ht⟩) hS.2.2 dX11_make_60
      ·
        have hno := mkF_c (s := z3) (t := z1) (b := z2) (g := z4) (fun q => hA_r3 ((isIn25).mpr q))
        refine lv_if_eq (tgt := 58) hx hb dX11_make_42 (by decide) (fun hc => ?_) (fun hc => absurd (by decide) hc)
        refine lv_bipush (v := (-2)) hx hb dX11_make_58 (by decide) ?_
        exact W.iret (v := (-2)) hx hb hr (fun t ht hW => ⟨⟨(-2), (fn, fb, fr, ff, fh, fa, fs, 0, (g 12), (g 13), (g 14), (i 15)), rfl, ⟨hno.symm, hM, Or.inr ⟨by decide, SameT.rfl⟩, fun _ => (mkS_0 (fun q => absurd (hno.symm.trans q) (by decide))).symm⟩, by rw [ht]; exact hP.sub [0, 1, 2, 3, 4, 5, 6, 7, 8] rfl, va_K.moved hW.alike (hK.sub [0, 1, 2, 3, 4, 5, 6, 7] rfl), hD.sub [0, 1, 2, 3, 4, 5, 6, 7, 8] (by decide) rfl⟩, hS.F ht⟩) hS.2.2 dX11_make_60
    ·
      have hno := mkF_b (s := z3) (t := z1) (b := z2) (g := z4) (fun q => hA_r2 ((isIn8).mpr q))
      refine lv_if_eq (tgt := 58) hx hb dX11_make_28 (by decide) (fun hc => ?_) (fun hc => absurd (by decide) hc)
      refine lv_bipush (v := (-2)) hx hb dX11_make_58 (by decide) ?_
      exact W.iret (v := (-2)) hx hb hr (fun t ht hW => ⟨⟨(-2), (fn, fb, fr, ff, fh, fa, fs, 0, (g 12), (g 13), (g 14), (i 15)), rfl, ⟨hno.symm, hM, Or.inr ⟨by decide, SameT.rfl⟩, fun _ => (mkS_0 (fun q => absurd (hno.symm.trans q) (by decide))).symm⟩, by rw [ht]; exact hP.sub [0, 1, 2, 3, 4, 5, 6, 7, 8] rfl, va_K.moved hW.alike (hK.sub [0, 1, 2, 3, 4, 5, 6, 7] rfl), hD.sub [0, 1, 2, 3, 4, 5, 6, 7, 8] (by decide) rfl⟩, hS.F ht⟩) hS.2.2 dX11_make_60
  ·
    have hno := mkF_a (s := z3) (t := z1) (b := z2) (g := z4) (fun q => hA_r1 ((isIn04c).mpr q))
    refine lv_if_eq (tgt := 58) hx hb dX11_make_14 (by decide) (fun hc => ?_) (fun hc => absurd (by decide) hc)
    refine lv_bipush (v := (-2)) hx hb dX11_make_58 (by decide) ?_
    exact W.iret (v := (-2)) hx hb hr (fun t ht hW => ⟨⟨(-2), (fn, fb, fr, ff, fh, fa, fs, 0, (g 12), (g 13), (g 14), (i 15)), rfl, ⟨hno.symm, hM, Or.inr ⟨by decide, SameT.rfl⟩, fun _ => (mkS_0 (fun q => absurd (hno.symm.trans q) (by decide))).symm⟩, by rw [ht]; exact hP.sub [0, 1, 2, 3, 4, 5, 6, 7, 8] rfl, va_K.moved hW.alike (hK.sub [0, 1, 2, 3, 4, 5, 6, 7] rfl), hD.sub [0, 1, 2, 3, 4, 5, 6, 7, 8] (by decide) rfl⟩, hS.F ht⟩) hS.2.2 dX11_make_60

