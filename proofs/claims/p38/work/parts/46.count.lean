theorem dX11_count_0 : decode cX11_count 0 = .ok (.aload_n 0, 1) := by decide +kernel
theorem dX11_count_1 : decode cX11_count 1 = .ok (.iconst 0, 1) := by decide +kernel
theorem dX11_count_2 : decode cX11_count 2 = .ok (.putfield 73, 3) := by decide +kernel
theorem dX11_count_5 : decode cX11_count 5 = .ok (.iconst 0, 1) := by decide +kernel
theorem dX11_count_6 : decode cX11_count 6 = .ok (.istore_n 2, 1) := by decide +kernel
theorem dX11_count_7 : decode cX11_count 7 = .ok (.iconst 0, 1) := by decide +kernel
theorem dX11_count_8 : decode cX11_count 8 = .ok (.istore_n 3, 1) := by decide +kernel
theorem dX11_count_9 : decode cX11_count 9 = .ok (.iconst 0, 1) := by decide +kernel
theorem dX11_count_10 : decode cX11_count 10 = .ok (.istore 4, 2) := by decide +kernel
theorem dX11_count_12 : decode cX11_count 12 = .ok (.iload 4, 2) := by decide +kernel
theorem dX11_count_14 : decode cX11_count 14 = .ok (.iconst 4, 1) := by decide +kernel
theorem dX11_count_15 : decode cX11_count 15 = .ok (.if_icmp .ge 43, 3) := by decide +kernel
theorem dX11_count_18 : decode cX11_count 18 = .ok (.iload_n 2, 1) := by decide +kernel
theorem dX11_count_19 : decode cX11_count 19 = .ok (.aload_n 0, 1) := by decide +kernel
theorem dX11_count_20 : decode cX11_count 20 = .ok (.iload 4, 2) := by decide +kernel
theorem dX11_count_22 : decode cX11_count 22 = .ok (.invokevirtual 222, 3) := by decide +kernel
theorem dX11_count_25 : decode cX11_count 25 = .ok (.invokestatic 198, 3) := by decide +kernel
theorem dX11_count_28 : decode cX11_count 28 = .ok (.iadd, 1) := by decide +kernel
theorem dX11_count_29 : decode cX11_count 29 = .ok (.istore_n 2, 1) := by decide +kernel
theorem dX11_count_30 : decode cX11_count 30 = .ok (.iload_n 3, 1) := by decide +kernel
theorem dX11_count_31 : decode cX11_count 31 = .ok (.aload_n 0, 1) := by decide +kernel
theorem dX11_count_32 : decode cX11_count 32 = .ok (.iload 4, 2) := by decide +kernel
theorem dX11_count_34 : decode cX11_count 34 = .ok (.invokevirtual 222, 3) := by decide +kernel
theorem dX11_count_37 : decode cX11_count 37 = .ok (.ifCond .eq 12, 3) := by decide +kernel
theorem dX11_count_40 : decode cX11_count 40 = .ok (.aload_n 0, 1) := by decide +kernel
theorem dX11_count_41 : decode cX11_count 41 = .ok (.iload 4, 2) := by decide +kernel
theorem dX11_count_43 : decode cX11_count 43 = .ok (.invokevirtual 95, 3) := by decide +kernel
theorem dX11_count_46 : decode cX11_count 46 = .ok (.goto 4, 3) := by decide +kernel
theorem dX11_count_49 : decode cX11_count 49 = .ok (.iconst 0, 1) := by decide +kernel
theorem dX11_count_50 : decode cX11_count 50 = .ok (.iadd, 1) := by decide +kernel
theorem dX11_count_51 : decode cX11_count 51 = .ok (.istore_n 3, 1) := by decide +kernel
theorem dX11_count_52 : decode cX11_count 52 = .ok (.iinc 4 1, 3) := by decide +kernel
theorem dX11_count_55 : decode cX11_count 55 = .ok (.goto (-43), 3) := by decide +kernel
theorem dX11_count_58 : decode cX11_count 58 = .ok (.iload_n 1, 1) := by decide +kernel
theorem dX11_count_59 : decode cX11_count 59 = .ok (.ifCond .ne 7, 3) := by decide +kernel
theorem dX11_count_62 : decode cX11_count 62 = .ok (.iload_n 2, 1) := by decide +kernel
theorem dX11_count_63 : decode cX11_count 63 = .ok (.goto 25, 3) := by decide +kernel
theorem dX11_count_66 : decode cX11_count 66 = .ok (.iload_n 1, 1) := by decide +kernel
theorem dX11_count_67 : decode cX11_count 67 = .ok (.iconst 1, 1) := by decide +kernel
theorem dX11_count_68 : decode cX11_count 68 = .ok (.if_icmp .ne 7, 3) := by decide +kernel
theorem dX11_count_71 : decode cX11_count 71 = .ok (.iload_n 3, 1) := by decide +kernel
theorem dX11_count_72 : decode cX11_count 72 = .ok (.goto 16, 3) := by decide +kernel
theorem dX11_count_75 : decode cX11_count 75 = .ok (.iload_n 1, 1) := by decide +kernel
theorem dX11_count_76 : decode cX11_count 76 = .ok (.iconst 2, 1) := by decide +kernel
theorem dX11_count_77 : decode cX11_count 77 = .ok (.if_icmp .ne 10, 3) := by decide +kernel
theorem dX11_count_80 : decode cX11_count 80 = .ok (.aload_n 0, 1) := by decide +kernel
theorem dX11_count_81 : decode cX11_count 81 = .ok (.getfield 76, 3) := by decide +kernel
theorem dX11_count_84 : decode cX11_count 84 = .ok (.goto 4, 3) := by decide +kernel
theorem dX11_count_87 : decode cX11_count 87 = .ok (.iconst (-1), 1) := by decide +kernel
theorem dX11_count_88 : decode cX11_count 88 = .ok (.ireturn, 1) := by decide +kernel
theorem inL {z : Int64} {a n : Nat} (ha : a < 2 ^ 31) (hn : n < 2 ^ 31) (h : lN a ≤ z ∧ z ≤ lN n) : ∃ q, a ≤ q ∧ q ≤ n ∧ z = lN q := by
  obtain ⟨h1, h2⟩ := h
  rw [Int64.le_iff_toInt_le, lN_toInt ha] at h1
  rw [Int64.le_iff_toInt_le, lN_toInt hn] at h2
  refine ⟨z.toInt.toNat, by omega, by omega, ?_⟩
  apply Int64.toInt_inj.mp
  rw [lN_toInt (by omega)]
  omega
theorem ltL {z : Int64} (h1 : (0 : Int64) ≤ z) (h2 : z < 2147483647) : z.toInt.toNat < 2147483647 ∧ z = lN z.toInt.toNat := by
  rw [Int64.le_iff_toInt_le, show (0 : Int64).toInt = 0 from by decide] at h1
  rw [Int64.lt_iff_toInt_lt, show (2147483647 : Int64).toInt = 2147483647 from by decide] at h2
  refine ⟨by omega, ?_⟩
  apply Int64.toInt_inj.mp
  rw [lN_toInt (by omega)]
  omega
/-- KEYS laid from the tape, up to y -/
def LdS (f : Nat → Int32) (k y : Nat) (fk gk : Nat → Int32) : Prop := (∀ j, j < y → gk (160 * k + j) = Int64.toInt32 (bF f (13 + 8 * j) 4)) ∧ ∀ x, (x < 160 * k ∨ 160 * k + 160 ≤ x) → gk x = fk x
theorem LdS_0 (f : Nat → Int32) (k : Nat) (fk : Nat → Int32) : LdS f k 0 fk fk := ⟨fun j h => absurd h (Nat.not_lt_zero _), fun _ _ => rfl⟩
theorem LdS_s {f : Nat → Int32} {k y : Nat} {fk gk : Nat → Int32} (h : LdS f k y fk gk) (hy : y < 160) : LdS f k (y + 1) fk (upd gk (160 * k + y) (Int64.toInt32 (bF f (13 + 8 * y) 4))) := by
  refine ⟨fun j hj => ?_, fun x hx => ?_⟩
  · by_cases e : j = y
    · subst e
      rw [pk_us]
    · rw [pk_un (by omega)]
      exact h.1 j (by omega)
  · rw [pk_un (by omega)]
    exact h.2 x hx
theorem LdS_K {f : Nat → Int32} {k cn : Nat} {fk gk : Nat → Int32} (h : LdS f k cn fk gk) (hR : Rise f cn) : KyS k gk cn (fun j => (bF f (13 + 8 * j) 4).toInt.toNat) := by
  refine ⟨fun j hj => ?_, fun i j hij hj => ?_⟩
  · obtain ⟨a, b⟩ := ltL (hR.1 j hj).1 (hR.1 j hj).2
    refine ⟨?_, a⟩
    rw [h.1 j hj]
    exact (congrArg Int64.toInt32 b).trans (lN_i _)
  · obtain ⟨a, -⟩ := ltL (hR.1 j hj).1 (hR.1 j hj).2
    have c := hR.2 i j hij hj
    have d := (hR.1 i (by omega)).1
    rw [Int64.lt_iff_toInt_lt] at c
    rw [Int64.le_iff_toInt_le, show (0 : Int64).toInt = 0 from by decide] at d
    show (bF f (13 + 8 * i) 4).toInt.toNat < (bF f (13 + 8 * j) 4).toInt.toNat
    omega
def LdV (f : Nat → Int32) (k y : Nat) (fv gv : Nat → Int32) : Prop := (∀ j, j < y → gv (160 * k + j) = Int64.toInt32 (bF f (17 + 8 * j) 4)) ∧ ∀ x, (x < 160 * k ∨ 160 * k + 160 ≤ x) → gv x = fv x
theorem LdV_0 (f : Nat → Int32) (k : Nat) (fv : Nat → Int32) : LdV f k 0 fv fv := ⟨fun j h => absurd h (Nat.not_lt_zero _), fun _ _ => rfl⟩
theorem LdV_s {f : Nat → Int32} {k y : Nat} {fv gv : Nat → Int32} (h : LdV f k y fv gv) (hy : y < 160) : LdV f k (y + 1) fv (upd gv (160 * k + y) (Int64.toInt32 (bF f (17 + 8 * y) 4))) := by
  refine ⟨fun j hj => ?_, fun x hx => ?_⟩
  · by_cases e : j = y
    · subst e
      rw [pk_us]
    · rw [pk_un (by omega)]
      exact h.1 j (by omega)
  · rw [pk_un (by omega)]
    exact h.2 x hx
theorem imL_of {f : Nat → Int32} {bt : Nat → Nat} {k cn tp : Nat} {fv gv : Nat → Int32} (hbt : TieR f bt) (h : IMG bt tp) (e : cn = bt 12) (hv : LdV f k cn fv gv) : tabl cn (fun j => (bF f (13 + 8 * j) 4).toInt.toNat) (fun j => gv (160 * k + j)) = imL bt := by
  subst e
  refine tabl_eq (fun j hj => ⟨?_, ?_⟩)
  · have h1 := h.2.2.2.2.2.1.1 j hj
    show (bF f (13 + 8 * j) 4).toInt.toNat = keyN bt j
    rw [bF_tie hbt _ 4 (by decide)]
    show (lN (keyN bt j)).toInt.toNat = keyN bt j
    rw [lN_toInt (by omega)]
    rfl
  · show gv (160 * k + j) = _
    rw [hv.1 j hj, bF_tie hbt _ 4 (by decide), lN_i]
def own_c_countM : List Cond := [.methodLink RX11 222 yX11_isThere, .instanceMethod yX11_isThere, .selects RX11 yX11_isThere yX11_isThere, .initialized RX11, .methodLink RX11 198 yX11_flag, .static yX11_flag, .methodLink RX11 95 yX11_manyOf, .instanceMethod yX11_manyOf, .selects RX11 yX11_manyOf yX11_manyOf, .fieldLink RX11 73 "ClashFreeModel" "thrown" "I", .fieldLink RX11 76 "ClashFreeModel" "taped" "I"]
def wp_c_countM : List Cond := .code yX11_count cX11_count 5 (some .int) :: (own_c_countM ++ (wp_c_isThere ++ (wp_c_flag ++ (wp_c_manyOf ++ (wsX110 ++ ([] : List Cond))))))
set_option maxRecDepth 20000 in
theorem inown_c_countM : ∀ w ∈ own_c_countM, w ∈ lw_tbl := mem_places [1466, 1468, 54, 115, 1502, 1503, 1396, 1398, 40, 1216, 1218] (by decide +kernel)
set_option maxRecDepth 20000 in
theorem in_c_countM : ∀ w ∈ wp_c_countM, w ∈ lw_tbl := List.forall_mem_cons.mpr ⟨List.mem_of_getElem? (i := 1826) (by decide +kernel), List.forall_mem_append.mpr ⟨inown_c_countM, List.forall_mem_append.mpr ⟨in_c_isThere, List.forall_mem_append.mpr ⟨in_c_flag, List.forall_mem_append.mpr ⟨in_c_manyOf, List.forall_mem_append.mpr ⟨lwb_X11, fun _ h => absurd h List.not_mem_nil⟩⟩⟩⟩⟩⟩
set_option maxRecDepth 20000 in
theorem good_c_countM : wp_c_countM.all goodWord = true := by decide +kernel
set_option maxRecDepth 20000 in
theorem g_c_countM_c_isThere_222 : GoodIn wp_c_countM (wsV RX11 222 RX11 yX11_isThere wp_c_isThere) := goodIn_sub (List.forall_mem_append.mpr ⟨List.forall_mem_cons.mpr ⟨(List.mem_of_getElem? (i := 1) rfl), List.forall_mem_cons.mpr ⟨(List.mem_of_getElem? (i := 2) rfl), List.forall_mem_cons.mpr ⟨(List.mem_of_getElem? (i := 3) rfl), List.forall_mem_cons.mpr ⟨(List.mem_of_getElem? (i := 4) rfl), fun _ h => absurd h List.not_mem_nil⟩⟩⟩⟩, (fun _ h => (List.mem_cons_of_mem _ (List.mem_append_right _ (List.mem_append_left _ h))))⟩) (by decide +kernel)
set_option maxRecDepth 20000 in
theorem g_c_countM_c_flag_198 : GoodIn wp_c_countM (va_wsS RX11 198 yX11_flag wp_c_flag) := goodIn_sub (List.forall_mem_append.mpr ⟨List.forall_mem_cons.mpr ⟨(List.mem_of_getElem? (i := 5) rfl), List.forall_mem_cons.mpr ⟨(List.mem_of_getElem? (i := 6) rfl), List.forall_mem_cons.mpr ⟨(List.mem_of_getElem? (i := 4) rfl), fun _ h => absurd h List.not_mem_nil⟩⟩⟩, (fun _ h => (List.mem_cons_of_mem _ (List.mem_append_right _ (List.mem_append_right _ (List.mem_append_left _ h)))))⟩) (by decide +kernel)
set_option maxRecDepth 20000 in
theorem g_c_countM_c_manyOf_95 : GoodIn wp_c_countM (wsV RX11 95 RX11 yX11_manyOf wp_c_manyOf) := goodIn_sub (List.forall_mem_append.mpr ⟨List.forall_mem_cons.mpr ⟨(List.mem_of_getElem? (i := 7) rfl), List.forall_mem_cons.mpr ⟨(List.mem_of_getElem? (i := 8) rfl), List.forall_mem_cons.mpr ⟨(List.mem_of_getElem? (i := 9) rfl), List.forall_mem_cons.mpr ⟨(List.mem_of_getElem? (i := 4) rfl), fun _ h => absurd h List.not_mem_nil⟩⟩⟩⟩, (fun _ h => (List.mem_cons_of_mem _ (List.mem_append_right _ (List.mem_append_right _ (List.mem_append_right _ (List.mem_append_left _ h))))))⟩) (by decide +kernel)
set_option maxHeartbeats 4000000 in
set_option maxRecDepth 100000 in
theorem lp_count (l : Launch) {p : Program} {e : Env} {s : State} {m : MethodId} {args : Array Value} {below : List Frame} {meth : Method} {c : Code} {Q : State → Prop} {A : Nat → Prop} (D : va_G) (h0 : Nat) (a : Nat → Nat) (cm : Nat → ClassId) (i : Nat → Int32) (g : Nat → Int64) (fn : Nat → Int64) (fk : Nat → Int32) (fb : Nat → Int32) (ff : Nat → Int32) (fh : Nat → Int32) (fa : Nat → Int64) (fs : Nat → Int64) (z1 : Int32) (hM : MInv fn fk fb ff fh fa fs) (hx : p.tables.exec = Jvm.exec) (hb : c.code = cX11_count) (hml : c.maxLocals = 5) (hown : s.vm.findClass RX11 = some m.cls) (hts : ∀ w ∈ wp_c_countM, w.before args s = true) (hA : ∀ q, s.heap.size ≤ q → A q) (hK : va_K D vwCl [(cm 3, .long), (cm 4, .int), (cm 6, .int), (cm 8, .int), (cm 9, .int), (cm 10, .long), (cm 11, .long)] s) (kx58 : ∀ (x : Nat), ∀ (an : Nat), ∀ (tn : Nat), (x ≤ 4) → (∀ fv, cuF (fun j => decide (fn (17 * j + 0) = 1)) (lsR fn fk fv) x = (tn, an)) → (4 ≤ x) → ∀ (H : Heap) (locs : List Loc) (ls : Array Slot), va_P D vwCl [(h0, .inr (11, gM a (upd i 0 0) g)), (a 3, .inl (cm 3, 85, .inr (.inl fn))), (a 4, .inl (cm 4, 800, .inl fk)), (a 6, .inl (cm 6, 800, .inl fb)), (a 8, .inl (cm 8, 10240, .inl ff)), (a 9, .inl (cm 9, 10240, .inl fh)), (a 10, .inl (cm 10, 10240, .inr (.inl fa))), (a 11, .inl (cm 11, 10240, .inr (.inl fs)))] H → va_D A [(h0, .inr (11, gM a (upd i 0 0) g)), (a 3, .inl (cm 3, 85, .inr (.inl fn))), (a 4, .inl (cm 4, 800, .inl fk)), (a 6, .inl (cm 6, 800, .inl fb)), (a 8, .inl (cm 8, 10240, .inl ff)), (a 9, .inl (cm 9, 10240, .inl fh)), (a 10, .inl (cm 10, 10240, .inr (.inl fa))), (a 11, .inl (cm 11, 10240, .inr (.inl fs)))] → va_S A s.heap H locs → lv_has ls 5 [(3, .int (nI an)), (2, .int (nI tn)), (0, .ref h0), (1, .int z1)] → W p l e ({ frames := 6, cells := 0, slots := 0, locals := 160 }) s m args below meth c H locs 0 0 Q (F0 m 58 ls [])) : ∀ (N : Nat), ∀ (x : Nat), ∀ (an : Nat), ∀ (tn : Nat), (x ≤ 4) → (∀ fv, cuF (fun j => decide (fn (17 * j + 0) = 1)) (lsR fn fk fv) x = (tn, an)) → 4 - x < N → ∀ (H : Heap) (locs : List Loc) (ls : Array Slot), va_P D vwCl [(h0, .inr (11, gM a (upd i 0 0) g)), (a 3, .inl (cm 3, 85, .inr (.inl fn))), (a 4, .inl (cm 4, 800, .inl fk)), (a 6, .inl (cm 6, 800, .inl fb)), (a 8, .inl (cm 8, 10240, .inl ff)), (a 9, .inl (cm 9, 10240, .inl fh)), (a 10, .inl (cm 10, 10240, .inr (.inl fa))), (a 11, .inl (cm 11, 10240, .inr (.inl fs)))] H → va_D A [(h0, .inr (11, gM a (upd i 0 0) g)), (a 3, .inl (cm 3, 85, .inr (.inl fn))), (a 4, .inl (cm 4, 800, .inl fk)), (a 6, .inl (cm 6, 800, .inl fb)), (a 8, .inl (cm 8, 10240, .inl ff)), (a 9, .inl (cm 9, 10240, .inl fh)), (a 10, .inl (cm 10, 10240, .inr (.inl fa))), (a 11, .inl (cm 11, 10240, .inr (.inl fs)))] → va_S A s.heap H locs → lv_has ls 5 [(4, .int (nI x)), (3, .int (nI an)), (2, .int (nI tn)), (0, .ref h0), (1, .int z1)] → W p l e ({ frames := 6, cells := 0, slots := 0, locals := 160 }) s m args below meth c H locs 0 0 Q (F0 m 12 ls []) := by
  have hin_X11 : ∀ w ∈ wsX110, w ∈ wp_c_countM := fun _ h => (List.mem_cons_of_mem _ (List.mem_append_right _ (List.mem_append_right _ (List.mem_append_right _ (List.mem_append_right _ (List.mem_append_left _ h))))))
  intro N
  induction N with
  | zero =>
    intro x an tn hx1 hcu hm
    exact absurd hm (Nat.not_lt_zero _)
  | succ N ih =>
    intro x an tn hx1 hcu hm H locs ls hP hD hS hl
    refine lv_iload hx hb dX11_count_12 (lv_at hl 0 rfl) ?_
    refine lv_iconst (v := 4) hx hb dX11_count_14 (by decide) ?_
    refine lv_icmp_ge (tgt := 58) hx hb dX11_count_15 (by decide) (fun hc1 => ?_) (fun hc1 => ?_)
    ·
      have hge_x : 4 ≤ x := (nI_leI (a := 4) (by decide) (by omega)).mp hc1
      exact kx58 x an tn (hx1) (hcu) (hge_x) H locs ls (hP.sub [0, 1, 2, 3, 4, 5, 6, 7] rfl) (hD.sub [0, 1, 2, 3, 4, 5, 6, 7] (by decide) rfl) hS (lv_sub hl [1, 2, 3, 4] rfl)
    ·
      have hlt_x : x < 4 := by
        rcases Nat.lt_or_ge x 4 with z | z
        · exact z
        · exact absurd (nI_le (a := 4) z (by omega)) hc1
      refine lv_iload_n hx hb dX11_count_18 rfl (lv_at hl 2 rfl) ?_
      refine lv_aload_n hx hb dX11_count_19 rfl (lv_at hl 3 rfl) ?_
      refine lv_iload hx hb dX11_count_20 (lv_at hl 0 rfl) ?_
      have hPc := hP.sub (ws' := [(h0, .inr (11, gM a (upd i 0 0) g)), (a 3, .inl (cm 3, 85, .inr (.inl fn)))]) [0, 1] rfl
      have hKc := hK.sub (tys' := [(cm 3, .long)]) [0] rfl
      have hFc := va_free0 hS hA
      refine va_calli (va_runV (As := [.int (nI x)]) (rest := [.int (nI tn)]) ⟨hx, hb, hml, hown, hts⟩ (c_isThere l D _ h0 a cm (upd i 0 0) g fn (nI x)) (cwV 1 hts g_c_countM_c_isThere_222 rfl rfl rfl (by decide +kernel) ⟨(Nat.le_of_ble_eq_true rfl), (Nat.le_of_ble_eq_true rfl)⟩) (PcR_V (q0 := 0) hPc hKc rfl rfl) rfl rfl hl.1 rfl (lv_room (Nat.le_of_ble_eq_true rfl)) dX11_count_22 ⟨(Nat.le_of_ble_eq_true rfl), (Nat.le_of_ble_eq_true rfl)⟩) hS (fun q _ h => hFc q h) hFc (fun r2 uu tt H locs htt hvm hw hB hz1 hk1 hS => ?_)
      have hP := va_keep hP hk1
      try dsimp only at hw
      clear hB hz1 hk1 hFc hPc hKc
      rcases hw with ⟨rfl, hA_r2⟩ | ⟨rfl, hA_r2⟩
      ·
        have hPc := hP.sub (ws' := []) [] rfl
        have hKc := hK.sub (tys' := []) [] rfl
        have hFc := va_free0 hS hA
        refine va_calli (va_runS (As := [.int 1]) (rest := [.int (nI tn)]) ⟨hx, hb, hml, hown, hts⟩ (c_flag l D _ 1) (va_cwS 1 hts g_c_countM_c_flag_198 rfl rfl rfl (by decide +kernel) ⟨(Nat.le_of_ble_eq_true rfl), (Nat.le_of_ble_eq_true rfl)⟩) (PcR_S hPc hKc) rfl rfl hl.1 rfl (lv_room (Nat.le_of_ble_eq_true rfl)) dX11_count_25 ⟨(Nat.le_of_ble_eq_true rfl), (Nat.le_of_ble_eq_true rfl)⟩) hS (fun q _ h => hFc q h) hFc (fun r3 uu tt H locs htt hvm hw hB hz1 hk1 hS => ?_)
        have hP := va_keep hP hk1
        try dsimp only at hw
        clear hB hz1 hk1 hFc hPc hKc
        obtain rfl : r3 = 1 := hw.trans (by decide)
        refine lv_iadd hx hb dX11_count_28 ?_
        refine lv_topi (fun v4 ev4 => ?_)
        obtain rfl : v4 = nI (tn + 1) := ev4.trans (nI_1 _)
        refine lv_istore_n (lv' := [(2, .int (nI (tn + 1))), (4, .int (nI x)), (3, .int (nI an)), (0, .ref h0), (1, .int z1)]) hx hb dX11_count_29 rfl hl (by decide) rfl (fun ls hl => ?_)
        refine lv_iload_n hx hb dX11_count_30 rfl (lv_at hl 2 rfl) ?_
        refine lv_aload_n hx hb dX11_count_31 rfl (lv_at hl 3 rfl) ?_
        refine lv_iload hx hb dX11_count_32 (lv_at hl 1 rfl) ?_
        have hPc := hP.sub (ws' := [(h0, .inr (11, gM a (upd i 0 0) g)), (a 3, .inl (cm 3, 85, .inr (.inl fn)))]) [0, 1] rfl
        have hKc := hK.sub (tys' := [(cm 3, .long)]) [0] rfl
        have hFc := va_free0 hS hA
        refine va_calli (va_runV (As := [.int (nI x)]) (rest := [.int (nI an)]) ⟨hx, hb, hml, hown, hts⟩ (c_isThere l D _ h0 a cm (upd i 0 0) g fn (nI x)) (cwV 1 hts g_c_countM_c_isThere_222 rfl rfl rfl (by decide +kernel) ⟨(Nat.le_of_ble_eq_true rfl), (Nat.le_of_ble_eq_true rfl)⟩) (PcR_V (q0 := 0) hPc hKc rfl rfl) rfl rfl hl.1 rfl (lv_room (Nat.le_of_ble_eq_true rfl)) dX11_count_34 ⟨(Nat.le_of_ble_eq_true rfl), (Nat.le_of_ble_eq_true rfl)⟩) hS (fun q _ h => hFc q h) hFc (fun r5 uu tt H locs htt hvm hw hB hz1 hk1 hS => ?_)
        have hP := va_keep hP hk1
        try dsimp only at hw
        clear hB hz1 hk1 hFc hPc hKc
        rcases hw with ⟨rfl, hA_r5⟩ | ⟨rfl, hA_r5⟩
        ·
          obtain ⟨k, hk, ek, ht⟩ := hA_r5
          obtain rfl : x = k := (nI_eq (by omega) (by omega)).mp ek
          obtain ⟨cn, nb, K, J, hT⟩ := hM.2.2 x hk ht
          obtain ⟨h1, hcn, hRst⟩ := id hT
          refine lv_if_eq (tgt := 49) hx hb dX11_count_37 (by decide) (fun hc => absurd hc (by decide)) (fun hc => ?_)
          refine lv_aload_n hx hb dX11_count_40 rfl (lv_at hl 3 rfl) ?_
          refine lv_iload hx hb dX11_count_41 (lv_at hl 1 rfl) ?_
          have hPc := hP.sub (ws' := [(h0, .inr (11, gM a (upd i 0 0) g)), (a 3, .inl (cm 3, 85, .inr (.inl fn)))]) [0, 1] rfl
          have hKc := hK.sub (tys' := [(cm 3, .long)]) [0] rfl
          have hFc := va_free0 hS hA
          refine va_calli (va_runV (As := [.int (nI x)]) (rest := [.int (nI an)]) ⟨hx, hb, hml, hown, hts⟩ (c_manyOf l D _ h0 a cm (upd i 0 0) g fn x cn (by first | assumption | omega) h1) (cwV 1 hts g_c_countM_c_manyOf_95 rfl rfl rfl (by decide +kernel) ⟨(Nat.le_of_ble_eq_true rfl), (Nat.le_of_ble_eq_true rfl)⟩) (PcR_V (q0 := 0) hPc hKc rfl rfl) rfl rfl hl.1 rfl (lv_room (Nat.le_of_ble_eq_true rfl)) dX11_count_43 ⟨(Nat.le_of_ble_eq_true rfl), (Nat.le_of_ble_eq_true rfl)⟩) hS (fun q _ h => hFc q h) hFc (fun r6 uu tt H locs htt hvm hw hB hz1 hk1 hS => ?_)
          have hP := va_keep hP hk1
          try dsimp only at hw
          clear hB hz1 hk1 hFc hPc hKc
          obtain rfl : r6 = nI cn := hw
          refine lv_goto (tgt := 50) hx hb dX11_count_46 (by decide) ?_
          refine lv_iadd hx hb dX11_count_50 ?_
          refine lv_topi (fun v7 ev7 => ?_)
          obtain rfl : v7 = nI (an + cn) := ev7.trans (nI_add _ _)
          refine lv_istore_n (lv' := [(3, .int (nI (an + cn))), (2, .int (nI (tn + 1))), (4, .int (nI x)), (0, .ref h0), (1, .int z1)]) hx hb dX11_count_51 rfl hl (by decide) rfl (fun ls hl => ?_)
          refine lv_iinc (v := nI (x + 1)) (lv' := [(4, .int (nI (x + 1))), (3, .int (nI (an + cn))), (2, .int (nI (tn + 1))), (0, .ref h0), (1, .int z1)]) hx hb dX11_count_52 hl (k := 2) rfl (nI_1 _) (by decide) rfl (fun ls hl => ?_)
          refine lv_goto (tgt := 12) hx hb dX11_count_55 (by decide) ?_
          exact ih (x + 1) (an + cn) (tn + 1) (by omega) (fun fv => cuF_1 (hcu fv) (decide_eq_true ht) (by rw [lsR_T hk hT fv, tabl_len])) (by omega) H locs ls (hP.sub [0, 1, 2, 3, 4, 5, 6, 7] rfl) (hD.sub [0, 1, 2, 3, 4, 5, 6, 7] (by decide) rfl) hS (lv_sub hl [0, 1, 2, 3, 4] rfl)
        ·
          exact absurd hA_r2 hA_r5
      ·
        have hPc := hP.sub (ws' := []) [] rfl
        have hKc := hK.sub (tys' := []) [] rfl
        have hFc := va_free0 hS hA
        refine va_calli (va_runS (As := [.int 0]) (rest := [.int (nI tn)]) ⟨hx, hb, hml, hown, hts⟩ (c_flag l D _ 0) (va_cwS 1 hts g_c_countM_c_flag_198 rfl rfl rfl (by decide +kernel) ⟨(Nat.le_of_ble_eq_true rfl), (Nat.le_of_ble_eq_true rfl)⟩) (PcR_S hPc hKc) rfl rfl hl.1 rfl (lv_room (Nat.le_of_ble_eq_true rfl)) dX11_count_25 ⟨(Nat.le_of_ble_eq_true rfl), (Nat.le_of_ble_eq_true rfl)⟩) hS (fun q _ h => hFc q h) hFc (fun r8 uu tt H locs htt hvm hw hB hz1 hk1 hS => ?_)
        have hP := va_keep hP hk1
        try dsimp only at hw
        clear hB hz1 hk1 hFc hPc hKc
        obtain rfl : r8 = 0 := hw.trans (by decide)
        refine lv_iadd hx hb dX11_count_28 ?_
        refine lv_topi (fun v9 ev9 => ?_)
        obtain rfl : v9 = nI tn := ev9.trans (Int32.add_zero _)
        refine lv_istore_n (lv' := [(2, .int (nI tn)), (4, .int (nI x)), (3, .int (nI an)), (0, .ref h0), (1, .int z1)]) hx hb dX11_count_29 rfl hl (by decide) rfl (fun ls hl => ?_)
        refine lv_iload_n hx hb dX11_count_30 rfl (lv_at hl 2 rfl) ?_
        refine lv_aload_n hx hb dX11_count_31 rfl (lv_at hl 3 rfl) ?_
        refine lv_iload hx hb dX11_count_32 (lv_at hl 1 rfl) ?_
        have hPc := hP.sub (ws' := [(h0, .inr (11, gM a (upd i 0 0) g)), (a 3, .inl (cm 3, 85, .inr (.inl fn)))]) [0, 1] rfl
        have hKc := hK.sub (tys' := [(cm 3, .long)]) [0] rfl
        have hFc := va_free0 hS hA
        refine va_calli (va_runV (As := [.int (nI x)]) (rest := [.int (nI an)]) ⟨hx, hb, hml, hown, hts⟩ (c_isThere l D _ h0 a cm (upd i 0 0) g fn (nI x)) (cwV 1 hts g_c_countM_c_isThere_222 rfl rfl rfl (by decide +kernel) ⟨(Nat.le_of_ble_eq_true rfl), (Nat.le_of_ble_eq_true rfl)⟩) (PcR_V (q0 := 0) hPc hKc rfl rfl) rfl rfl hl.1 rfl (lv_room (Nat.le_of_ble_eq_true rfl)) dX11_count_34 ⟨(Nat.le_of_ble_eq_true rfl), (Nat.le_of_ble_eq_true rfl)⟩) hS (fun q _ h => hFc q h) hFc (fun r10 uu tt H locs htt hvm hw hB hz1 hk1 hS => ?_)
        have hP := va_keep hP hk1
        try dsimp only at hw
        clear hB hz1 hk1 hFc hPc hKc
        rcases hw with ⟨rfl, hA_r10⟩ | ⟨rfl, hA_r10⟩
        ·
          exact absurd hA_r10 hA_r2
        ·
          refine lv_if_eq (tgt := 49) hx hb dX11_count_37 (by decide) (fun hc => ?_) (fun hc => absurd (by decide) hc)
          refine lv_iconst (v := 0) hx hb dX11_count_49 (by decide) ?_
          refine lv_iadd hx hb dX11_count_50 ?_
          refine lv_topi (fun v11 ev11 => ?_)
          obtain rfl : v11 = nI an := ev11.trans (Int32.add_zero _)
          refine lv_istore_n (lv' := [(3, .int (nI an)), (2, .int (nI tn)), (4, .int (nI x)), (0, .ref h0), (1, .int z1)]) hx hb dX11_count_51 rfl hl (by decide) rfl (fun ls hl => ?_)
          refine lv_iinc (v := nI (x + 1)) (lv' := [(4, .int (nI (x + 1))), (3, .int (nI an)), (2, .int (nI tn)), (0, .ref h0), (1, .int z1)]) hx hb dX11_count_52 hl (k := 2) rfl (nI_1 _) (by decide) rfl (fun ls hl => ?_)
          refine lv_goto (tgt := 12) hx hb dX11_count_55 (by decide) ?_
          exact ih (x + 1) an tn (by omega) (fun fv => cuF_0 (hcu fv) (fun q => hA_r10 ⟨x, hlt_x, rfl, of_decide_eq_true q⟩)) (by omega) H locs ls (hP.sub [0, 1, 2, 3, 4, 5, 6, 7] rfl) (hD.sub [0, 1, 2, 3, 4, 5, 6, 7] (by decide) rfl) hS (lv_sub hl [0, 1, 2, 3, 4] rfl)
set_option maxHeartbeats 4000000 in
set_option maxRecDepth 100000 in
theorem c_countM (l : Launch) (D : va_G) (sz : Nat) (h0 : Nat) (a : Nat → Nat) (cm : Nat → ClassId) (i : Nat → Int32) (g : Nat → Int64) (fn : Nat → Int64) (fk : Nat → Int32) (fb : Nat → Int32) (ff : Nat → Int32) (fh : Nat → Int32) (fa : Nat → Int64) (fs : Nat → Int64) (z1 : Int32) (hM : MInv fn fk fb ff fh fa fs) : Met l yX11_count wp_c_countM ({ frames := 6, cells := 0, slots := 0, locals := 160 }) (PcW D [.ref h0, .int z1] sz [(h0, .inr (11, gM a i g)), (a 3, .inl (cm 3, 85, .inr (.inl fn))), (a 4, .inl (cm 4, 800, .inl fk)), (a 6, .inl (cm 6, 800, .inl fb)), (a 8, .inl (cm 8, 10240, .inl ff)), (a 9, .inl (cm 9, 10240, .inl fh)), (a 10, .inl (cm 10, 10240, .inr (.inl fa))), (a 11, .inl (cm 11, 10240, .inr (.inl fs)))] [(cm 3, .long), (cm 4, .int), (cm 6, .int), (cm 8, .int), (cm 9, .int), (cm 10, .long), (cm 11, .long)]) (va_Qi (fun (r : Int32) (u : (Int32)) => ∀ fv, r = cuA (fun j => decide (fn (17 * j + 0) = 1)) (lsR fn fk fv) (i 2) z1) (fun (u : (Int32)) t => va_P D vwCl [(h0, .inr (11, gM a (upd i 0 u) g)), (a 3, .inl (cm 3, 85, .inr (.inl fn))), (a 4, .inl (cm 4, 800, .inl fk)), (a 6, .inl (cm 6, 800, .inl fb)), (a 8, .inl (cm 8, 10240, .inl ff)), (a 9, .inl (cm 9, 10240, .inl fh)), (a 10, .inl (cm 10, 10240, .inr (.inl fa))), (a 11, .inl (cm 11, 10240, .inr (.inl fs)))] t.heap ∧ va_K D vwCl [(cm 3, .long), (cm 4, .int), (cm 6, .int), (cm 8, .int), (cm 9, .int), (cm 10, .long), (cm 11, .long)] t ∧ va_D (va_A [(h0, .inr (11, gM a i g)), (a 3, .inl (cm 3, 85, .inr (.inl fn))), (a 4, .inl (cm 4, 800, .inl fk)), (a 6, .inl (cm 6, 800, .inl fb)), (a 8, .inl (cm 8, 10240, .inl ff)), (a 9, .inl (cm 9, 10240, .inl fh)), (a 10, .inl (cm 10, 10240, .inr (.inl fa))), (a 11, .inl (cm 11, 10240, .inr (.inl fs)))] sz) [(h0, .inr (11, gM a (upd i 0 u) g)), (a 3, .inl (cm 3, 85, .inr (.inl fn))), (a 4, .inl (cm 4, 800, .inl fk)), (a 6, .inl (cm 6, 800, .inl fb)), (a 8, .inl (cm 8, 10240, .inl ff)), (a 9, .inl (cm 9, 10240, .inl fh)), (a 10, .inl (cm 10, 10240, .inr (.inl fa))), (a 11, .inl (cm 11, 10240, .inr (.inl fs)))]) (va_A [(h0, .inr (11, gM a i g)), (a 3, .inl (cm 3, 85, .inr (.inl fn))), (a 4, .inl (cm 4, 800, .inl fk)), (a 6, .inl (cm 6, 800, .inl fb)), (a 8, .inl (cm 8, 10240, .inl ff)), (a 9, .inl (cm 9, 10240, .inl fh)), (a 10, .inl (cm 10, 10240, .inr (.inl fa))), (a 11, .inl (cm 11, 10240, .inr (.inl fs)))] sz)) 0 0 (va_A [(h0, .inr (11, gM a i g)), (a 3, .inl (cm 3, 85, .inr (.inl fn))), (a 4, .inl (cm 4, 800, .inl fk)), (a 6, .inl (cm 6, 800, .inl fb)), (a 8, .inl (cm 8, 10240, .inl ff)), (a 9, .inl (cm 9, 10240, .inl fh)), (a 10, .inl (cm 10, 10240, .inr (.inl fa))), (a 11, .inl (cm 11, 10240, .inr (.inl fs)))] sz) := by
  refine Met.ofW (cc := cX11_count) (maxL := 5) (ret := (some .int)) (by decide) rfl ?_
  intro p e s m args below meth c s₁ B hml hv
  obtain ⟨rfl, hsz, hP, hK, hD0⟩ := hv
  have hx := B.exec
  have hb := B.bytes
  have hr := B.returns
  have hts := atoms_spec (ws := wp_c_countM) B.pre
  have hin_X11 : ∀ w ∈ wsX110, w ∈ wp_c_countM := fun _ h => (List.mem_cons_of_mem _ (List.mem_append_right _ (List.mem_append_right _ (List.mem_append_right _ (List.mem_append_right _ (List.mem_append_left _ h))))))
  have hown : s.vm.findClass RX11 = some m.cls := findClass_of_methodNamed B.named
  have hlocks := B.notSynchronized
  subst hsz
  have hD := hD0.self (sz := s.heap.size)
  generalize hAe : va_A [(h0, .inr (11, gM a i g)), (a 3, .inl (cm 3, 85, .inr (.inl fn))), (a 4, .inl (cm 4, 800, .inl fk)), (a 6, .inl (cm 6, 800, .inl fb)), (a 8, .inl (cm 8, 10240, .inl ff)), (a 9, .inl (cm 9, 10240, .inl fh)), (a 10, .inl (cm 10, 10240, .inr (.inl fa))), (a 11, .inl (cm 11, 10240, .inr (.inl fs)))] s.heap.size = A at hD ⊢
  have hA : ∀ q : Nat, s.heap.size ≤ q → A q := fun q h => by rw [← hAe]; exact Or.inr h
  have hS : va_S A s.heap s.heap [] := va_S.rf
  have hP : va_P D vwCl [(h0, .inr (11, gM a i g)), (a 3, .inl (cm 3, 85, .inr (.inl fn))), (a 4, .inl (cm 4, 800, .inl fk)), (a 6, .inl (cm 6, 800, .inl fb)), (a 8, .inl (cm 8, 10240, .inl ff)), (a 9, .inl (cm 9, 10240, .inl fh)), (a 10, .inl (cm 10, 10240, .inr (.inl fa))), (a 11, .inl (cm 11, 10240, .inr (.inl fs)))] s.heap := hP
  have hl := lv_entry ([.ref h0, .int z1]) (n := 5) (Nat.le_of_ble_eq_true rfl)
  rw [lg_entry_eq]
  generalize (lg_sl ([.ref h0, .int z1]) ++ List.replicate (5 - (lg_sl ([.ref h0, .int z1])).length) Slot.unset).toArray = ls at hl ⊢
  have hl : lv_has ls 5 [(0, .ref h0), (1, .int z1)] := hl
  refine lv_aload_n hx hb dX11_count_0 rfl (lv_at hl 0 rfl) ?_
  refine lv_iconst (v := 0) hx hb dX11_count_1 (by decide) ?_
  refine va_put (D := D) (ci := 11) (v := .int 0) (ty := .int) (C := RX11) (T := TX11) (N := 47) hx hb hts hin_X11 tyX11 tyX11_ok nmX11 hown hK hP hD hS 0 rfl rfl 0 (by decide) (hts (.fieldLink RX11 73 "ClashFreeModel" "thrown" "I") (List.mem_of_getElem? (i := 10) rfl)) (fun _ h9 => h9) rfl (by decide +kernel) rfl rfl (Nat.le_of_ble_eq_true rfl) dX11_count_2 (fun H locs hP hD hS => ?_)
  have hP : va_P D vwCl [(h0, .inr (11, gM a (upd i 0 0) g)), (a 3, .inl (cm 3, 85, .inr (.inl fn))), (a 4, .inl (cm 4, 800, .inl fk)), (a 6, .inl (cm 6, 800, .inl fb)), (a 8, .inl (cm 8, 10240, .inl ff)), (a 9, .inl (cm 9, 10240, .inl fh)), (a 10, .inl (cm 10, 10240, .inr (.inl fa))), (a 11, .inl (cm 11, 10240, .inr (.inl fs)))] H := hP
  have hD : va_D A [(h0, .inr (11, gM a (upd i 0 0) g)), (a 3, .inl (cm 3, 85, .inr (.inl fn))), (a 4, .inl (cm 4, 800, .inl fk)), (a 6, .inl (cm 6, 800, .inl fb)), (a 8, .inl (cm 8, 10240, .inl ff)), (a 9, .inl (cm 9, 10240, .inl fh)), (a 10, .inl (cm 10, 10240, .inr (.inl fa))), (a 11, .inl (cm 11, 10240, .inr (.inl fs)))] := hD
  refine lv_iconst (v := 0) hx hb dX11_count_5 (by decide) ?_
  refine lv_istore_n (lv' := [(2, .int 0), (0, .ref h0), (1, .int z1)]) hx hb dX11_count_6 rfl hl (by decide) rfl (fun ls hl => ?_)
  refine lv_iconst (v := 0) hx hb dX11_count_7 (by decide) ?_
  refine lv_istore_n (lv' := [(3, .int 0), (2, .int 0), (0, .ref h0), (1, .int z1)]) hx hb dX11_count_8 rfl hl (by decide) rfl (fun ls hl => ?_)
  refine lv_iconst (v := 0) hx hb dX11_count_9 (by decide) ?_
  refine lv_istore (lv' := [(4, .int 0), (3, .int 0), (2, .int 0), (0, .ref h0), (1, .int z1)]) hx hb dX11_count_10 hl (by decide) rfl (fun ls hl => ?_)
  refine lp_count l D h0 a cm (upd i 0 0) g fn fk fb ff fh fa fs z1 (hM) hx hb hml hown hts hA (hK.sub [0, 1, 2, 3, 4, 5, 6] rfl) ?_ (5) 0 0 0 (Nat.zero_le _) (fun fv => rfl) (by omega) _ _ _ (hP.sub [0, 1, 2, 3, 4, 5, 6, 7] rfl) (hD.sub [0, 1, 2, 3, 4, 5, 6, 7] (by decide) rfl) hS (lv_sub hl [0, 1, 2, 3, 4] rfl)
  intro x_1 an_2 tn_3 hx1_4 hcu_5 hx6 H locs ls hP hD hS hl
  refine lv_iload_n hx hb dX11_count_58 rfl (lv_at hl 3 rfl) ?_
  refine lv_if_ne (tgt := 66) hx hb dX11_count_59 (by decide) (fun hc7 => ?_) (fun hc7 => ?_)
  ·
    refine lv_iload_n hx hb dX11_count_66 rfl (lv_at hl 3 rfl) ?_
    refine lv_iconst (v := 1) hx hb dX11_count_67 (by decide) ?_
    refine lv_icmp_ne (tgt := 75) hx hb dX11_count_68 (by decide) (fun hc8 => ?_) (fun hc8 => ?_)
    ·
      refine lv_iload_n hx hb dX11_count_75 rfl (lv_at hl 3 rfl) ?_
      refine lv_iconst (v := 2) hx hb dX11_count_76 (by decide) ?_
      refine lv_icmp_ne (tgt := 87) hx hb dX11_count_77 (by decide) (fun hc9 => ?_) (fun hc9 => ?_)
      ·
        refine lv_iconst (v := (-1)) hx hb dX11_count_87 (by decide) ?_
        have hcz : ∀ fv, cuF (fun j => decide (fn (17 * j + 0) = 1)) (lsR fn fk fv) 4 = (tn_3, an_2) := fun fv => (show x_1 = 4 by omega) ▸ hcu_5 fv
        exact W.iret (v := (-1)) hx hb hr (fun t ht hW => ⟨⟨(-1), 0, rfl, fun fv => (cuA_3 hc7 hc8 hc9).symm, by rw [ht]; exact hP.sub [0, 1, 2, 3, 4, 5, 6, 7] rfl, va_K.moved hW.alike (hK.sub [0, 1, 2, 3, 4, 5, 6] rfl), hD.sub [0, 1, 2, 3, 4, 5, 6, 7] (by decide) rfl⟩, hS.F ht⟩) hS.2.2 dX11_count_88
      ·
        refine lv_aload_n hx hb dX11_count_80 rfl (lv_at hl 2 rfl) ?_
        refine va_get (D := D) (ci := 11) (v := .int ((upd i 0 0) 2)) (C := RX11) (T := TX11) (N := 47) hx hb hts hin_X11 hown hK hP 0 rfl rfl 2 (by decide) (hts (.fieldLink RX11 76 "ClashFreeModel" "taped" "I") (List.mem_of_getElem? (i := 11) rfl)) (fun _ h9 => h9) rfl dX11_count_81 ?_
        refine lv_goto (tgt := 88) hx hb dX11_count_84 (by decide) ?_
        have hcz : ∀ fv, cuF (fun j => decide (fn (17 * j + 0) = 1)) (lsR fn fk fv) 4 = (tn_3, an_2) := fun fv => (show x_1 = 4 by omega) ▸ hcu_5 fv
        exact W.iret (v := (upd i 0 0) 2) hx hb hr (fun t ht hW => ⟨⟨(upd i 0 0) 2, 0, rfl, fun fv => (cuA_2 hc7 hc8 hc9).symm, by rw [ht]; exact hP.sub [0, 1, 2, 3, 4, 5, 6, 7] rfl, va_K.moved hW.alike (hK.sub [0, 1, 2, 3, 4, 5, 6] rfl), hD.sub [0, 1, 2, 3, 4, 5, 6, 7] (by decide) rfl⟩, hS.F ht⟩) hS.2.2 dX11_count_88
    ·
      refine lv_iload_n hx hb dX11_count_71 rfl (lv_at hl 0 rfl) ?_
      refine lv_goto (tgt := 88) hx hb dX11_count_72 (by decide) ?_
      have hcz : ∀ fv, cuF (fun j => decide (fn (17 * j + 0) = 1)) (lsR fn fk fv) 4 = (tn_3, an_2) := fun fv => (show x_1 = 4 by omega) ▸ hcu_5 fv
      exact W.iret (v := nI an_2) hx hb hr (fun t ht hW => ⟨⟨nI an_2, 0, rfl, fun fv => (cuA_1 (hcz fv) hc7 hc8).symm, by rw [ht]; exact hP.sub [0, 1, 2, 3, 4, 5, 6, 7] rfl, va_K.moved hW.alike (hK.sub [0, 1, 2, 3, 4, 5, 6] rfl), hD.sub [0, 1, 2, 3, 4, 5, 6, 7] (by decide) rfl⟩, hS.F ht⟩) hS.2.2 dX11_count_88
  ·
    refine lv_iload_n hx hb dX11_count_62 rfl (lv_at hl 1 rfl) ?_
    refine lv_goto (tgt := 88) hx hb dX11_count_63 (by decide) ?_
    have hcz : ∀ fv, cuF (fun j => decide (fn (17 * j + 0) = 1)) (lsR fn fk fv) 4 = (tn_3, an_2) := fun fv => (show x_1 = 4 by omega) ▸ hcu_5 fv
    exact W.iret (v := nI tn_3) hx hb hr (fun t ht hW => ⟨⟨nI tn_3, 0, rfl, fun fv => (cuA_0 (hcz fv) hc7).symm, by rw [ht]; exact hP.sub [0, 1, 2, 3, 4, 5, 6, 7] rfl, va_K.moved hW.alike (hK.sub [0, 1, 2, 3, 4, 5, 6] rfl), hD.sub [0, 1, 2, 3, 4, 5, 6, 7] (by decide) rfl⟩, hS.F ht⟩) hS.2.2 dX11_count_88

