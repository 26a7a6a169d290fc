theorem dX11_values_0 : decode cX11_values 0 = .ok (.aload_n 0, 1) := by decide +kernel
theorem dX11_values_1 : decode cX11_values 1 = .ok (.iconst 0, 1) := by decide +kernel
theorem dX11_values_2 : decode cX11_values 2 = .ok (.putfield 73, 3) := by decide +kernel
theorem dX11_values_5 : decode cX11_values 5 = .ok (.aload_n 0, 1) := by decide +kernel
theorem dX11_values_6 : decode cX11_values 6 = .ok (.iload_n 1, 1) := by decide +kernel
theorem dX11_values_7 : decode cX11_values 7 = .ok (.invokevirtual 222, 3) := by decide +kernel
theorem dX11_values_10 : decode cX11_values 10 = .ok (.ifCond .eq 15, 3) := by decide +kernel
theorem dX11_values_13 : decode cX11_values 13 = .ok (.iload_n 2, 1) := by decide +kernel
theorem dX11_values_14 : decode cX11_values 14 = .ok (.i2l, 1) := by decide +kernel
theorem dX11_values_15 : decode cX11_values 15 = .ok (.lconst 0, 1) := by decide +kernel
theorem dX11_values_16 : decode cX11_values 16 = .ok (.ldc2_w 210, 3) := by decide +kernel
theorem dX11_values_19 : decode cX11_values 19 = .ok (.invokestatic 83, 3) := by decide +kernel
theorem dX11_values_22 : decode cX11_values 22 = .ok (.ifCond .ne 7, 3) := by decide +kernel
theorem dX11_values_25 : decode cX11_values 25 = .ok (.ldc2_w 235, 3) := by decide +kernel
theorem dX11_values_28 : decode cX11_values 28 = .ok (.lreturn, 1) := by decide +kernel
theorem dX11_values_29 : decode cX11_values 29 = .ok (.iconst (-1), 1) := by decide +kernel
theorem dX11_values_30 : decode cX11_values 30 = .ok (.istore_n 3, 1) := by decide +kernel
theorem dX11_values_31 : decode cX11_values 31 = .ok (.lconst 0, 1) := by decide +kernel
theorem dX11_values_32 : decode cX11_values 32 = .ok (.lstore 4, 2) := by decide +kernel
theorem dX11_values_34 : decode cX11_values 34 = .ok (.sipush 160, 3) := by decide +kernel
theorem dX11_values_37 : decode cX11_values 37 = .ok (.iload_n 1, 1) := by decide +kernel
theorem dX11_values_38 : decode cX11_values 38 = .ok (.imul, 1) := by decide +kernel
theorem dX11_values_39 : decode cX11_values 39 = .ok (.istore 6, 2) := by decide +kernel
theorem dX11_values_41 : decode cX11_values 41 = .ok (.iload 6, 2) := by decide +kernel
theorem dX11_values_43 : decode cX11_values 43 = .ok (.sipush 160, 3) := by decide +kernel
theorem dX11_values_46 : decode cX11_values 46 = .ok (.iload_n 1, 1) := by decide +kernel
theorem dX11_values_47 : decode cX11_values 47 = .ok (.imul, 1) := by decide +kernel
theorem dX11_values_48 : decode cX11_values 48 = .ok (.aload_n 0, 1) := by decide +kernel
theorem dX11_values_49 : decode cX11_values 49 = .ok (.iload_n 1, 1) := by decide +kernel
theorem dX11_values_50 : decode cX11_values 50 = .ok (.invokevirtual 95, 3) := by decide +kernel
theorem dX11_values_53 : decode cX11_values 53 = .ok (.iadd, 1) := by decide +kernel
theorem dX11_values_54 : decode cX11_values 54 = .ok (.if_icmp .ge 46, 3) := by decide +kernel
theorem dX11_values_57 : decode cX11_values 57 = .ok (.iload_n 3, 1) := by decide +kernel
theorem dX11_values_58 : decode cX11_values 58 = .ok (.iconst (-1), 1) := by decide +kernel
theorem dX11_values_59 : decode cX11_values 59 = .ok (.if_icmp .eq 19, 3) := by decide +kernel
theorem dX11_values_62 : decode cX11_values 62 = .ok (.aload_n 0, 1) := by decide +kernel
theorem dX11_values_63 : decode cX11_values 63 = .ok (.getfield 21, 3) := by decide +kernel
theorem dX11_values_66 : decode cX11_values 66 = .ok (.iload 6, 2) := by decide +kernel
theorem dX11_values_68 : decode cX11_values 68 = .ok (.iaload, 1) := by decide +kernel
theorem dX11_values_69 : decode cX11_values 69 = .ok (.aload_n 0, 1) := by decide +kernel
theorem dX11_values_70 : decode cX11_values 70 = .ok (.getfield 21, 3) := by decide +kernel
theorem dX11_values_73 : decode cX11_values 73 = .ok (.iload_n 3, 1) := by decide +kernel
theorem dX11_values_74 : decode cX11_values 74 = .ok (.iaload, 1) := by decide +kernel
theorem dX11_values_75 : decode cX11_values 75 = .ok (.if_icmp .le 6, 3) := by decide +kernel
theorem dX11_values_78 : decode cX11_values 78 = .ok (.iload 6, 2) := by decide +kernel
theorem dX11_values_80 : decode cX11_values 80 = .ok (.istore_n 3, 1) := by decide +kernel
theorem dX11_values_81 : decode cX11_values 81 = .ok (.lload 4, 2) := by decide +kernel
theorem dX11_values_83 : decode cX11_values 83 = .ok (.aload_n 0, 1) := by decide +kernel
theorem dX11_values_84 : decode cX11_values 84 = .ok (.getfield 21, 3) := by decide +kernel
theorem dX11_values_87 : decode cX11_values 87 = .ok (.iload 6, 2) := by decide +kernel
theorem dX11_values_89 : decode cX11_values 89 = .ok (.iaload, 1) := by decide +kernel
theorem dX11_values_90 : decode cX11_values 90 = .ok (.i2l, 1) := by decide +kernel
theorem dX11_values_91 : decode cX11_values 91 = .ok (.ladd, 1) := by decide +kernel
theorem dX11_values_92 : decode cX11_values 92 = .ok (.lstore 4, 2) := by decide +kernel
theorem dX11_values_94 : decode cX11_values 94 = .ok (.iinc 6 1, 3) := by decide +kernel
theorem dX11_values_97 : decode cX11_values 97 = .ok (.goto (-56), 3) := by decide +kernel
theorem dX11_values_100 : decode cX11_values 100 = .ok (.iload_n 2, 1) := by decide +kernel
theorem dX11_values_101 : decode cX11_values 101 = .ok (.iconst 2, 1) := by decide +kernel
theorem dX11_values_102 : decode cX11_values 102 = .ok (.if_icmp .ne 6, 3) := by decide +kernel
theorem dX11_values_105 : decode cX11_values 105 = .ok (.lload 4, 2) := by decide +kernel
theorem dX11_values_107 : decode cX11_values 107 = .ok (.lreturn, 1) := by decide +kernel
theorem dX11_values_108 : decode cX11_values 108 = .ok (.iload_n 2, 1) := by decide +kernel
theorem dX11_values_109 : decode cX11_values 109 = .ok (.ifCond .ne 24, 3) := by decide +kernel
theorem dX11_values_112 : decode cX11_values 112 = .ok (.iload_n 3, 1) := by decide +kernel
theorem dX11_values_113 : decode cX11_values 113 = .ok (.iconst (-1), 1) := by decide +kernel
theorem dX11_values_114 : decode cX11_values 114 = .ok (.if_icmp .ne 9, 3) := by decide +kernel
theorem dX11_values_117 : decode cX11_values 117 = .ok (.ldc2_w 237, 3) := by decide +kernel
theorem dX11_values_120 : decode cX11_values 120 = .ok (.goto 31, 3) := by decide +kernel
theorem dX11_values_123 : decode cX11_values 123 = .ok (.aload_n 0, 1) := by decide +kernel
theorem dX11_values_124 : decode cX11_values 124 = .ok (.getfield 17, 3) := by decide +kernel
theorem dX11_values_127 : decode cX11_values 127 = .ok (.iload_n 3, 1) := by decide +kernel
theorem dX11_values_128 : decode cX11_values 128 = .ok (.iaload, 1) := by decide +kernel
theorem dX11_values_129 : decode cX11_values 129 = .ok (.i2l, 1) := by decide +kernel
theorem dX11_values_130 : decode cX11_values 130 = .ok (.goto 21, 3) := by decide +kernel
theorem dX11_values_133 : decode cX11_values 133 = .ok (.iload_n 3, 1) := by decide +kernel
theorem dX11_values_134 : decode cX11_values 134 = .ok (.iconst (-1), 1) := by decide +kernel
theorem dX11_values_135 : decode cX11_values 135 = .ok (.if_icmp .ne 9, 3) := by decide +kernel
theorem dX11_values_138 : decode cX11_values 138 = .ok (.ldc2_w 235, 3) := by decide +kernel
theorem dX11_values_141 : decode cX11_values 141 = .ok (.goto 10, 3) := by decide +kernel
theorem dX11_values_144 : decode cX11_values 144 = .ok (.aload_n 0, 1) := by decide +kernel
theorem dX11_values_145 : decode cX11_values 145 = .ok (.getfield 21, 3) := by decide +kernel
theorem dX11_values_148 : decode cX11_values 148 = .ok (.iload_n 3, 1) := by decide +kernel
theorem dX11_values_149 : decode cX11_values 149 = .ok (.iaload, 1) := by decide +kernel
theorem dX11_values_150 : decode cX11_values 150 = .ok (.i2l, 1) := by decide +kernel
theorem dX11_values_151 : decode cX11_values 151 = .ok (.lreturn, 1) := by decide +kernel
def own_c_valuesM : List Cond := [.methodLink RX11 95 yX11_manyOf, .instanceMethod yX11_manyOf, .selects RX11 yX11_manyOf yX11_manyOf, .initialized RX11, .fieldLink RX11 21 "ClashFreeModel" "values" "[I", .fieldLink RX11 73 "ClashFreeModel" "thrown" "I", .methodLink RX11 222 yX11_isThere, .instanceMethod yX11_isThere, .selects RX11 yX11_isThere yX11_isThere, .constantLong RX11 210 (2), .methodLink RX11 83 yX11_isIn, .static yX11_isIn, .constantLong RX11 235 (-1000000000000000), .fieldLink RX11 17 "ClashFreeModel" "keys" "[I", .constantLong RX11 237 (-1)]
def wp_c_valuesM : List Cond := .code yX11_values cX11_values 7 (some .long) :: (own_c_valuesM ++ (wp_c_manyOf ++ (wp_c_isThere ++ (wp_c_isIn ++ (wsX110 ++ ([] : List Cond))))))
set_option maxRecDepth 20000 in
theorem inown_c_valuesM : ∀ w ∈ own_c_valuesM, w ∈ lw_tbl := mem_places [1396, 1398, 40, 115, 1221, 1216, 1466, 1468, 54, 1497, 1371, 1372, 1517, 1220, 1526] (by decide +kernel)
set_option maxRecDepth 20000 in
theorem in_c_valuesM : ∀ w ∈ wp_c_valuesM, w ∈ lw_tbl := List.forall_mem_cons.mpr ⟨List.mem_of_getElem? (i := 1656) (by decide +kernel), List.forall_mem_append.mpr ⟨inown_c_valuesM, List.forall_mem_append.mpr ⟨in_c_manyOf, List.forall_mem_append.mpr ⟨in_c_isThere, List.forall_mem_append.mpr ⟨in_c_isIn, List.forall_mem_append.mpr ⟨lwb_X11, fun _ h => absurd h List.not_mem_nil⟩⟩⟩⟩⟩⟩
set_option maxRecDepth 20000 in
theorem good_c_valuesM : wp_c_valuesM.all goodWord = true := by decide +kernel
set_option maxRecDepth 20000 in
theorem g_c_valuesM_c_manyOf_95 : GoodIn wp_c_valuesM (wsV RX11 95 RX11 yX11_manyOf wp_c_manyOf) := goodIn_sub (List.forall_mem_append.mpr ⟨List.forall_mem_cons.mpr ⟨(List.mem_of_getElem? (i := 1) rfl), List.forall_mem_cons.mpr ⟨(List.mem_of_getElem? (i := 2) rfl), List.forall_mem_cons.mpr ⟨(List.mem_of_getElem? (i := 3) rfl), List.forall_mem_cons.mpr ⟨(List.mem_of_getElem? (i := 4) rfl), fun _ h => absurd h List.not_mem_nil⟩⟩⟩⟩, (fun _ h => (List.mem_cons_of_mem _ (List.mem_append_right _ (List.mem_append_left _ h))))⟩) (by decide +kernel)
set_option maxRecDepth 20000 in
theorem g_c_valuesM_c_isThere_222 : GoodIn wp_c_valuesM (wsV RX11 222 RX11 yX11_isThere wp_c_isThere) := goodIn_sub (List.forall_mem_append.mpr ⟨List.forall_mem_cons.mpr ⟨(List.mem_of_getElem? (i := 7) rfl), List.forall_mem_cons.mpr ⟨(List.mem_of_getElem? (i := 8) rfl), List.forall_mem_cons.mpr ⟨(List.mem_of_getElem? (i := 9) rfl), List.forall_mem_cons.mpr ⟨(List.mem_of_getElem? (i := 4) rfl), fun _ h => absurd h List.not_mem_nil⟩⟩⟩⟩, (fun _ h => (List.mem_cons_of_mem _ (List.mem_append_right _ (List.mem_append_right _ (List.mem_append_left _ h)))))⟩) (by decide +kernel)
set_option maxRecDepth 20000 in
theorem g_c_valuesM_c_isIn_83 : GoodIn wp_c_valuesM (va_wsS RX11 83 yX11_isIn wp_c_isIn) := goodIn_sub (List.forall_mem_append.mpr ⟨List.forall_mem_cons.mpr ⟨(List.mem_of_getElem? (i := 11) rfl), List.forall_mem_cons.mpr ⟨(List.mem_of_getElem? (i := 12) rfl), List.forall_mem_cons.mpr ⟨(List.mem_of_getElem? (i := 4) rfl), fun _ h => absurd h List.not_mem_nil⟩⟩⟩, (fun _ h => (List.mem_cons_of_mem _ (List.mem_append_right _ (List.mem_append_right _ (List.mem_append_right _ (List.mem_append_left _ h))))))⟩) (by decide +kernel)
set_option maxHeartbeats 4000000 in
set_option maxRecDepth 100000 in
theorem lp_values (l : Launch) {p : Program} {e : Env} {s : State} {m : MethodId} {args : Array Value} {below : List Frame} {meth : Method} {c : Code} {Q : State → Prop} {A : Nat → Prop} (D : va_G) (h0 : Nat) (a : Nat → Nat) (cm : Nat → ClassId) (i : Nat → Int32) (g : Nat → Int64) (fn : Nat → Int64) (fk : Nat → Int32) (fv : Nat → Int32) (fb : Nat → Int32) (ff : Nat → Int32) (fh : Nat → Int32) (fa : Nat → Int64) (fs : Nat → Int64) (z2 : Int32) (k : Nat) (cn : Nat) (K : Nat → Nat) (hk : k < 4) (h1 : fn (17 * k + 1) = lN cn) (hcn : cn ≤ 160) (hK9 : ∀ j, j < cn → K j < 2147483647) (hx : p.tables.exec = Jvm.exec) (hb : c.code = cX11_values) (hml : c.maxLocals = 7) (hown : s.vm.findClass RX11 = some m.cls) (hts : ∀ w ∈ wp_c_valuesM, w.before args s = true) (hA : ∀ q, s.heap.size ≤ q → A q) (hK : va_K D vwCl [(cm 3, .long), (cm 4, .int), (cm 5, .int), (cm 6, .int), (cm 8, .int), (cm 9, .int), (cm 10, .long), (cm 11, .long)] s) (kx100 : ∀ (x : Nat), ∀ (sm : Int64), ∀ (be : Int32), ∀ (bb : Option (Nat × Int32)), (x ≤ cn) → ((be = -1 ∧ bb = none) ∨ ∃ y, y < cn ∧ be = nI (160 * k + y) ∧ bb = some (K y, fv (160 * k + y))) → (vaF ((tabl cn K (fun j => fv (160 * k + j))).drop x) bb sm = vaF (tabl cn K (fun j => fv (160 * k + j))) none 0) → (vaF (tabl cn K (fun j => fv (160 * k + j))) none 0 = (bb, sm)) → ∀ (H : Heap) (locs : List Loc) (ls : Array Slot), va_P D vwCl [(h0, .inr (11, gM a (upd i 0 0) g)), (a 3, .inl (cm 3, 85, .inr (.inl fn))), (a 4, .inl (cm 4, 800, .inl fk)), (a 5, .inl (cm 5, 800, .inl fv)), (a 6, .inl (cm 6, 800, .inl fb)), (a 8, .inl (cm 8, 10240, .inl ff)), (a 9, .inl (cm 9, 10240, .inl fh)), (a 10, .inl (cm 10, 10240, .inr (.inl fa))), (a 11, .inl (cm 11, 10240, .inr (.inl fs)))] H → va_D A [(h0, .inr (11, gM a (upd i 0 0) g)), (a 3, .inl (cm 3, 85, .inr (.inl fn))), (a 4, .inl (cm 4, 800, .inl fk)), (a 5, .inl (cm 5, 800, .inl fv)), (a 6, .inl (cm 6, 800, .inl fb)), (a 8, .inl (cm 8, 10240, .inl ff)), (a 9, .inl (cm 9, 10240, .inl fh)), (a 10, .inl (cm 10, 10240, .inr (.inl fa))), (a 11, .inl (cm 11, 10240, .inr (.inl fs)))] → va_S A s.heap H locs → lv_has ls 7 [(4, .long sm), (3, .int be), (0, .ref h0), (2, .int z2)] → W p l e ({ frames := 6, cells := 0, slots := 0, locals := 160 }) s m args below meth c H locs 0 0 Q (F0 m 100 ls [])) : ∀ (N : Nat), ∀ (x : Nat), ∀ (sm : Int64), ∀ (be : Int32), ∀ (bb : Option (Nat × Int32)), (x ≤ cn) → ((be = -1 ∧ bb = none) ∨ ∃ y, y < cn ∧ be = nI (160 * k + y) ∧ bb = some (K y, fv (160 * k + y))) → (vaF ((tabl cn K (fun j => fv (160 * k + j))).drop x) bb sm = vaF (tabl cn K (fun j => fv (160 * k + j))) none 0) → cn - x < N → ∀ (H : Heap) (locs : List Loc) (ls : Array Slot), va_P D vwCl [(h0, .inr (11, gM a (upd i 0 0) g)), (a 3, .inl (cm 3, 85, .inr (.inl fn))), (a 4, .inl (cm 4, 800, .inl fk)), (a 5, .inl (cm 5, 800, .inl fv)), (a 6, .inl (cm 6, 800, .inl fb)), (a 8, .inl (cm 8, 10240, .inl ff)), (a 9, .inl (cm 9, 10240, .inl fh)), (a 10, .inl (cm 10, 10240, .inr (.inl fa))), (a 11, .inl (cm 11, 10240, .inr (.inl fs)))] H → va_D A [(h0, .inr (11, gM a (upd i 0 0) g)), (a 3, .inl (cm 3, 85, .inr (.inl fn))), (a 4, .inl (cm 4, 800, .inl fk)), (a 5, .inl (cm 5, 800, .inl fv)), (a 6, .inl (cm 6, 800, .inl fb)), (a 8, .inl (cm 8, 10240, .inl ff)), (a 9, .inl (cm 9, 10240, .inl fh)), (a 10, .inl (cm 10, 10240, .inr (.inl fa))), (a 11, .inl (cm 11, 10240, .inr (.inl fs)))] → va_S A s.heap H locs → lv_has ls 7 [(6, .int (nI (160 * k + x))), (4, .long sm), (3, .int be), (0, .ref h0), (1, .int (nI k)), (2, .int z2)] → W p l e ({ frames := 6, cells := 0, slots := 0, locals := 160 }) s m args below meth c H locs 0 0 Q (F0 m 41 ls []) := by
  have hin_X11 : ∀ w ∈ wsX110, w ∈ wp_c_valuesM := fun _ h => (List.mem_cons_of_mem _ (List.mem_append_right _ (List.mem_append_right _ (List.mem_append_right _ (List.mem_append_right _ (List.mem_append_left _ h))))))
  intro N
  induction N with
  | zero =>
    intro x sm be bb hx2 hbe hva hm
    exact absurd hm (Nat.not_lt_zero _)
  | succ N ih =>
    intro x sm be bb hx2 hbe hva hm H locs ls hP hD hS hl
    refine lv_iload hx hb dX11_values_41 (lv_at hl 0 rfl) ?_
    refine lv_sipush (v := 160) hx hb dX11_values_43 (by decide) ?_
    refine lv_iload_n hx hb dX11_values_46 rfl (lv_at hl 4 rfl) ?_
    refine lv_imul hx hb dX11_values_47 ?_
    refine lv_aload_n hx hb dX11_values_48 rfl (lv_at hl 3 rfl) ?_
    refine lv_iload_n hx hb dX11_values_49 rfl (lv_at hl 4 rfl) ?_
    have hPc := hP.sub (ws' := [(h0, .inr (11, gM a (upd i 0 0) g)), (a 3, .inl (cm 3, 85, .inr (.inl fn)))]) [0, 1] rfl
    have hKc := hK.sub (tys' := [(cm 3, .long)]) [0] rfl
    have hFc := va_free0 hS hA
    refine va_calli (va_runV (As := [.int (nI k)]) (rest := [.int (160 * (nI k)), .int (nI (160 * k + x))]) ⟨hx, hb, hml, hown, hts⟩ (c_manyOf l D _ h0 a cm (upd i 0 0) g fn k cn (by first | assumption | omega) h1) (cwV 1 hts g_c_valuesM_c_manyOf_95 rfl rfl rfl (by decide +kernel) ⟨(Nat.le_of_ble_eq_true rfl), (Nat.le_of_ble_eq_true rfl)⟩) (PcR_V (q0 := 0) hPc hKc rfl rfl) rfl rfl hl.1 rfl (lv_room (Nat.le_of_ble_eq_true rfl)) dX11_values_50 ⟨(Nat.le_of_ble_eq_true rfl), (Nat.le_of_ble_eq_true rfl)⟩) hS (fun q _ h => hFc q h) hFc (fun r1 uu tt H locs htt hvm hw hB hz1 hk1 hS => ?_)
    have hP := va_keep hP hk1
    try dsimp only at hw
    clear hB hz1 hk1 hFc hPc hKc
    obtain rfl : r1 = nI cn := hw
    refine lv_iadd hx hb dX11_values_53 ?_
    refine lv_topi (fun v2 ev2 => ?_)
    obtain rfl : v2 = nI (160 * k + cn) := ev2.trans (ix160 k _)
    refine lv_icmp_ge (tgt := 100) hx hb dX11_values_54 (by decide) (fun hc3 => ?_) (fun hc3 => ?_)
    ·
      have hge_x : cn ≤ x := by
        have := (nI_leI (a := 160 * k + cn) (b := 160 * k + x) (by omega) (by omega)).mp hc3
        omega
      exact kx100 x sm be bb (hx2) (hbe) (hva) (by rw [tabl_dnil _ _ hge_x] at hva; exact hva.symm) H locs ls (hP.sub [0, 1, 2, 3, 4, 5, 6, 7, 8] rfl) (hD.sub [0, 1, 2, 3, 4, 5, 6, 7, 8] (by decide) rfl) hS (lv_sub hl [1, 2, 3, 5] rfl)
    ·
      have hlt_x : x < cn := by
        rcases Nat.lt_or_ge x cn with z | z
        · exact z
        · exact absurd (nI_le (show 160 * k + cn ≤ 160 * k + x by omega) (by omega)) hc3
      rw [tabl_drop _ _ hlt_x] at hva
      refine lv_iload_n hx hb dX11_values_57 rfl (lv_at hl 2 rfl) ?_
      refine lv_iconst (v := (-1)) hx hb dX11_values_58 (by decide) ?_
      refine lv_icmp_eq (tgt := 78) hx hb dX11_values_59 (by decide) (fun hc4 => ?_) (fun hc4 => ?_)
      ·
        obtain rfl : bb = none := by
          rcases hbe with ⟨-, e⟩ | ⟨yb, hyb, e, -⟩
          · exact e
          · exact absurd (e.symm.trans hc4) (nI_neg1 (by omega))
        refine lv_iload hx hb dX11_values_78 (lv_at hl 0 rfl) ?_
        refine lv_istore_n (lv' := [(3, .int (nI (160 * k + x))), (6, .int (nI (160 * k + x))), (4, .long sm), (0, .ref h0), (1, .int (nI k)), (2, .int z2)]) hx hb dX11_values_80 rfl hl (by decide) rfl (fun ls hl => ?_)
        refine lv_lload hx hb dX11_values_81 (lv_at hl 2 rfl) ?_
        refine lv_aload_n hx hb dX11_values_83 rfl (lv_at hl 3 rfl) ?_
        refine va_get (D := D) (ci := 11) (v := .ref (a 5)) (C := RX11) (T := TX11) (N := 47) hx hb hts hin_X11 hown hK hP 0 rfl rfl 5 (by decide) (hts (.fieldLink RX11 21 "ClashFreeModel" "values" "[I") (List.mem_of_getElem? (i := 5) rfl)) (fun _ h9 => h9) rfl dX11_values_84 ?_
        refine lv_iload hx hb dX11_values_87 (lv_at hl 1 rfl) ?_
        refine va_iald hx hb hK hP 3 2 rfl rfl (vp_in_nI (by omega) (by decide)) dX11_values_89 ?_
        refine lv_topi (fun v5 ev5 => ?_)
        obtain rfl : v5 = fv (160 * k + x) := ev5.trans (by rw [nI_clamp (by omega)])
        refine lv_i2l hx hb dX11_values_90 rfl ?_
        refine lv_topl (fun v6 ev6 => ?_)
        obtain rfl : v6 = Int32.toInt64 (fv (160 * k + x)) := ev6.trans (rfl)
        refine lv_ladd hx hb dX11_values_91 ?_
        refine lv_topl (fun v7 ev7 => ?_)
        obtain rfl : v7 = sm + Int32.toInt64 (fv (160 * k + x)) := ev7.trans (rfl)
        refine lv_lstore (lv' := [(4, .long (sm + Int32.toInt64 (fv (160 * k + x)))), (3, .int (nI (160 * k + x))), (6, .int (nI (160 * k + x))), (0, .ref h0), (1, .int (nI k)), (2, .int z2)]) hx hb dX11_values_92 hl (by decide) rfl (fun ls hl => ?_)
        refine lv_iinc (v := nI (160 * k + (x + 1))) (lv' := [(6, .int (nI (160 * k + (x + 1)))), (4, .long (sm + Int32.toInt64 (fv (160 * k + x)))), (3, .int (nI (160 * k + x))), (0, .ref h0), (1, .int (nI k)), (2, .int z2)]) hx hb dX11_values_94 hl (k := 2) rfl (nI_1 _) (by decide) rfl (fun ls hl => ?_)
        refine lv_goto (tgt := 41) hx hb dX11_values_97 (by decide) ?_
        exact ih (x + 1) (sm + Int32.toInt64 (fv (160 * k + x))) (nI (160 * k + x)) (some (K x, fv (160 * k + x))) (by omega) (Or.inr ⟨x, hlt_x, rfl, rfl⟩) (vaF_0.symm.trans hva) (by omega) H locs ls (hP.sub [0, 1, 2, 3, 4, 5, 6, 7, 8] rfl) (hD.sub [0, 1, 2, 3, 4, 5, 6, 7, 8] (by decide) rfl) hS (lv_sub hl [0, 1, 2, 3, 4, 5] rfl)
      ·
        rcases hbe with ⟨e, -⟩ | ⟨yb, hyb, rfl, rfl⟩
        · exact absurd e hc4
        refine lv_aload_n hx hb dX11_values_62 rfl (lv_at hl 3 rfl) ?_
        refine va_get (D := D) (ci := 11) (v := .ref (a 5)) (C := RX11) (T := TX11) (N := 47) hx hb hts hin_X11 hown hK hP 0 rfl rfl 5 (by decide) (hts (.fieldLink RX11 21 "ClashFreeModel" "values" "[I") (List.mem_of_getElem? (i := 5) rfl)) (fun _ h9 => h9) rfl dX11_values_63 ?_
        refine lv_iload hx hb dX11_values_66 (lv_at hl 0 rfl) ?_
        refine va_iald hx hb hK hP 3 2 rfl rfl (vp_in_nI (by omega) (by decide)) dX11_values_68 ?_
        refine lv_topi (fun v8 ev8 => ?_)
        obtain rfl : v8 = fv (160 * k + x) := ev8.trans (by rw [nI_clamp (by omega)])
        refine lv_aload_n hx hb dX11_values_69 rfl (lv_at hl 3 rfl) ?_
        refine va_get (D := D) (ci := 11) (v := .ref (a 5)) (C := RX11) (T := TX11) (N := 47) hx hb hts hin_X11 hown hK hP 0 rfl rfl 5 (by decide) (hts (.fieldLink RX11 21 "ClashFreeModel" "values" "[I") (List.mem_of_getElem? (i := 5) rfl)) (fun _ h9 => h9) rfl dX11_values_70 ?_
        refine lv_iload_n hx hb dX11_values_73 rfl (lv_at hl 2 rfl) ?_
        refine va_iald hx hb hK hP 3 2 rfl rfl (vp_in_nI (by omega) (by decide)) dX11_values_74 ?_
        refine lv_topi (fun v9 ev9 => ?_)
        obtain rfl : v9 = fv (160 * k + yb) := ev9.trans (by rw [nI_clamp (by omega)])
        refine lv_icmp_le (tgt := 81) hx hb dX11_values_75 (by decide) (fun hc10 => ?_) (fun hc10 => ?_)
        ·
          refine lv_lload hx hb dX11_values_81 (lv_at hl 1 rfl) ?_
          refine lv_aload_n hx hb dX11_values_83 rfl (lv_at hl 3 rfl) ?_
          refine va_get (D := D) (ci := 11) (v := .ref (a 5)) (C := RX11) (T := TX11) (N := 47) hx hb hts hin_X11 hown hK hP 0 rfl rfl 5 (by decide) (hts (.fieldLink RX11 21 "ClashFreeModel" "values" "[I") (List.mem_of_getElem? (i := 5) rfl)) (fun _ h9 => h9) rfl dX11_values_84 ?_
          refine lv_iload hx hb dX11_values_87 (lv_at hl 0 rfl) ?_
          refine va_iald hx hb hK hP 3 2 rfl rfl (vp_in_nI (by omega) (by decide)) dX11_values_89 ?_
          refine lv_topi (fun v11 ev11 => ?_)
          obtain rfl : v11 = fv (160 * k + x) := ev11.trans (by rw [nI_clamp (by omega)])
          refine lv_i2l hx hb dX11_values_90 rfl ?_
          refine lv_topl (fun v12 ev12 => ?_)
          obtain rfl : v12 = Int32.toInt64 (fv (160 * k + x)) := ev12.trans (rfl)
          refine lv_ladd hx hb dX11_values_91 ?_
          refine lv_topl (fun v13 ev13 => ?_)
          obtain rfl : v13 = sm + Int32.toInt64 (fv (160 * k + x)) := ev13.trans (rfl)
          refine lv_lstore (lv' := [(4, .long (sm + Int32.toInt64 (fv (160 * k + x)))), (6, .int (nI (160 * k + x))), (3, .int (nI (160 * k + yb))), (0, .ref h0), (1, .int (nI k)), (2, .int z2)]) hx hb dX11_values_92 hl (by decide) rfl (fun ls hl => ?_)
          refine lv_iinc (v := nI (160 * k + (x + 1))) (lv' := [(6, .int (nI (160 * k + (x + 1)))), (4, .long (sm + Int32.toInt64 (fv (160 * k + x)))), (3, .int (nI (160 * k + yb))), (0, .ref h0), (1, .int (nI k)), (2, .int z2)]) hx hb dX11_values_94 hl (k := 1) rfl (nI_1 _) (by decide) rfl (fun ls hl => ?_)
          refine lv_goto (tgt := 41) hx hb dX11_values_97 (by decide) ?_
          exact ih (x + 1) (sm + Int32.toInt64 (fv (160 * k + x))) (nI (160 * k + yb)) (some (K yb, fv (160 * k + yb))) (by omega) (Or.inr ⟨yb, hyb, rfl, rfl⟩) ((vaF_2 (Int32.not_lt.mpr hc10)).symm.trans hva) (by omega) H locs ls (hP.sub [0, 1, 2, 3, 4, 5, 6, 7, 8] rfl) (hD.sub [0, 1, 2, 3, 4, 5, 6, 7, 8] (by decide) rfl) hS (lv_sub hl [0, 1, 2, 3, 4, 5] rfl)
        ·
          refine lv_iload hx hb dX11_values_78 (lv_at hl 0 rfl) ?_
          refine lv_istore_n (lv' := [(3, .int (nI (160 * k + x))), (6, .int (nI (160 * k + x))), (4, .long sm), (0, .ref h0), (1, .int (nI k)), (2, .int z2)]) hx hb dX11_values_80 rfl hl (by decide) rfl (fun ls hl => ?_)
          refine lv_lload hx hb dX11_values_81 (lv_at hl 2 rfl) ?_
          refine lv_aload_n hx hb dX11_values_83 rfl (lv_at hl 3 rfl) ?_
          refine va_get (D := D) (ci := 11) (v := .ref (a 5)) (C := RX11) (T := TX11) (N := 47) hx hb hts hin_X11 hown hK hP 0 rfl rfl 5 (by decide) (hts (.fieldLink RX11 21 "ClashFreeModel" "values" "[I") (List.mem_of_getElem? (i := 5) rfl)) (fun _ h9 => h9) rfl dX11_values_84 ?_
          refine lv_iload hx hb dX11_values_87 (lv_at hl 1 rfl) ?_
          refine va_iald hx hb hK hP 3 2 rfl rfl (vp_in_nI (by omega) (by decide)) dX11_values_89 ?_
          refine lv_topi (fun v14 ev14 => ?_)
          obtain rfl : v14 = fv (160 * k + x) := ev14.trans (by rw [nI_clamp (by omega)])
          refine lv_i2l hx hb dX11_values_90 rfl ?_
          refine lv_topl (fun v15 ev15 => ?_)
          obtain rfl : v15 = Int32.toInt64 (fv (160 * k + x)) := ev15.trans (rfl)
          refine lv_ladd hx hb dX11_values_91 ?_
          refine lv_topl (fun v16 ev16 => ?_)
          obtain rfl : v16 = sm + Int32.toInt64 (fv (160 * k + x)) := ev16.trans (rfl)
          refine lv_lstore (lv' := [(4, .long (sm + Int32.toInt64 (fv (160 * k + x)))), (3, .int (nI (160 * k + x))), (6, .int (nI (160 * k + x))), (0, .ref h0), (1, .int (nI k)), (2, .int z2)]) hx hb dX11_values_92 hl (by decide) rfl (fun ls hl => ?_)
          refine lv_iinc (v := nI (160 * k + (x + 1))) (lv' := [(6, .int (nI (160 * k + (x + 1)))), (4, .long (sm + Int32.toInt64 (fv (160 * k + x)))), (3, .int (nI (160 * k + x))), (0, .ref h0), (1, .int (nI k)), (2, .int z2)]) hx hb dX11_values_94 hl (k := 2) rfl (nI_1 _) (by decide) rfl (fun ls hl => ?_)
          refine lv_goto (tgt := 41) hx hb dX11_values_97 (by decide) ?_
          exact ih (x + 1) (sm + Int32.toInt64 (fv (160 * k + x))) (nI (160 * k + x)) (some (K x, fv (160 * k + x))) (by omega) (Or.inr ⟨x, hlt_x, rfl, rfl⟩) ((vaF_1 (Int32.not_le.mp hc10)).symm.trans hva) (by omega) H locs ls (hP.sub [0, 1, 2, 3, 4, 5, 6, 7, 8] rfl) (hD.sub [0, 1, 2, 3, 4, 5, 6, 7, 8] (by decide) rfl) hS (lv_sub hl [0, 1, 2, 3, 4, 5] rfl)
set_option maxHeartbeats 4000000 in
set_option maxRecDepth 100000 in
theorem c_valuesM (l : Launch) (D : va_G) (sz : Nat) (h0 : Nat) (a : Nat → Nat) (cm : Nat → ClassId) (i : Nat → Int32) (g : Nat → Int64) (fn : Nat → Int64) (fk : Nat → Int32) (fv : Nat → Int32) (fb : Nat → Int32) (ff : Nat → Int32) (fh : Nat → Int32) (fa : Nat → Int64) (fs : Nat → Int64) (z1 : Int32) (z2 : Int32) (hM : MInv fn fk fb ff fh fa fs) : Met l yX11_values wp_c_valuesM ({ frames := 6, cells := 0, slots := 0, locals := 160 }) (PcW D [.ref h0, .int z1, .int z2] sz [(h0, .inr (11, gM a i g)), (a 3, .inl (cm 3, 85, .inr (.inl fn))), (a 4, .inl (cm 4, 800, .inl fk)), (a 5, .inl (cm 5, 800, .inl fv)), (a 6, .inl (cm 6, 800, .inl fb)), (a 8, .inl (cm 8, 10240, .inl ff)), (a 9, .inl (cm 9, 10240, .inl fh)), (a 10, .inl (cm 10, 10240, .inr (.inl fa))), (a 11, .inl (cm 11, 10240, .inr (.inl fs)))] [(cm 3, .long), (cm 4, .int), (cm 5, .int), (cm 6, .int), (cm 8, .int), (cm 9, .int), (cm 10, .long), (cm 11, .long)]) (va_Ql (fun (r : Int64) (u : (Int32)) => r = vaA (there fn z1) (lsR fn fk fv) z1 z2) (fun (u : (Int32)) t => va_P D vwCl [(h0, .inr (11, gM a (upd i 0 u) g)), (a 3, .inl (cm 3, 85, .inr (.inl fn))), (a 4, .inl (cm 4, 800, .inl fk)), (a 5, .inl (cm 5, 800, .inl fv)), (a 6, .inl (cm 6, 800, .inl fb)), (a 8, .inl (cm 8, 10240, .inl ff)), (a 9, .inl (cm 9, 10240, .inl fh)), (a 10, .inl (cm 10, 10240, .inr (.inl fa))), (a 11, .inl (cm 11, 10240, .inr (.inl fs)))] t.heap ∧ va_K D vwCl [(cm 3, .long), (cm 4, .int), (cm 5, .int), (cm 6, .int), (cm 8, .int), (cm 9, .int), (cm 10, .long), (cm 11, .long)] t ∧ va_D (va_A [(h0, .inr (11, gM a i g)), (a 3, .inl (cm 3, 85, .inr (.inl fn))), (a 4, .inl (cm 4, 800, .inl fk)), (a 5, .inl (cm 5, 800, .inl fv)), (a 6, .inl (cm 6, 800, .inl fb)), (a 8, .inl (cm 8, 10240, .inl ff)), (a 9, .inl (cm 9, 10240, .inl fh)), (a 10, .inl (cm 10, 10240, .inr (.inl fa))), (a 11, .inl (cm 11, 10240, .inr (.inl fs)))] sz) [(h0, .inr (11, gM a (upd i 0 u) g)), (a 3, .inl (cm 3, 85, .inr (.inl fn))), (a 4, .inl (cm 4, 800, .inl fk)), (a 5, .inl (cm 5, 800, .inl fv)), (a 6, .inl (cm 6, 800, .inl fb)), (a 8, .inl (cm 8, 10240, .inl ff)), (a 9, .inl (cm 9, 10240, .inl fh)), (a 10, .inl (cm 10, 10240, .inr (.inl fa))), (a 11, .inl (cm 11, 10240, .inr (.inl fs)))]) (va_A [(h0, .inr (11, gM a i g)), (a 3, .inl (cm 3, 85, .inr (.inl fn))), (a 4, .inl (cm 4, 800, .inl fk)), (a 5, .inl (cm 5, 800, .inl fv)), (a 6, .inl (cm 6, 800, .inl fb)), (a 8, .inl (cm 8, 10240, .inl ff)), (a 9, .inl (cm 9, 10240, .inl fh)), (a 10, .inl (cm 10, 10240, .inr (.inl fa))), (a 11, .inl (cm 11, 10240, .inr (.inl fs)))] sz)) 0 0 (va_A [(h0, .inr (11, gM a i g)), (a 3, .inl (cm 3, 85, .inr (.inl fn))), (a 4, .inl (cm 4, 800, .inl fk)), (a 5, .inl (cm 5, 800, .inl fv)), (a 6, .inl (cm 6, 800, .inl fb)), (a 8, .inl (cm 8, 10240, .inl ff)), (a 9, .inl (cm 9, 10240, .inl fh)), (a 10, .inl (cm 10, 10240, .inr (.inl fa))), (a 11, .inl (cm 11, 10240, .inr (.inl fs)))] sz) := by
  refine Met.ofW (cc := cX11_values) (maxL := 7) (ret := (some .long)) (by decide) rfl ?_
  intro p e s m args below meth c s₁ B hml hv
  obtain ⟨rfl, hsz, hP, hK, hD0⟩ := hv
  have hx := B.exec
  have hb := B.bytes
  have hr := B.returns
  have hts := atoms_spec (ws := wp_c_valuesM) B.pre
  have hin_X11 : ∀ w ∈ wsX110, w ∈ wp_c_valuesM := fun _ h => (List.mem_cons_of_mem _ (List.mem_append_right _ (List.mem_append_right _ (List.mem_append_right _ (List.mem_append_right _ (List.mem_append_left _ h))))))
  have hown : s.vm.findClass RX11 = some m.cls := findClass_of_methodNamed B.named
  have hlocks := B.notSynchronized
  subst hsz
  have hD := hD0.self (sz := s.heap.size)
  generalize hAe : va_A [(h0, .inr (11, gM a i g)), (a 3, .inl (cm 3, 85, .inr (.inl fn))), (a 4, .inl (cm 4, 800, .inl fk)), (a 5, .inl (cm 5, 800, .inl fv)), (a 6, .inl (cm 6, 800, .inl fb)), (a 8, .inl (cm 8, 10240, .inl ff)), (a 9, .inl (cm 9, 10240, .inl fh)), (a 10, .inl (cm 10, 10240, .inr (.inl fa))), (a 11, .inl (cm 11, 10240, .inr (.inl fs)))] s.heap.size = A at hD ⊢
  have hA : ∀ q : Nat, s.heap.size ≤ q → A q := fun q h => by rw [← hAe]; exact Or.inr h
  have hS : va_S A s.heap s.heap [] := va_S.rf
  have hP : va_P D vwCl [(h0, .inr (11, gM a i g)), (a 3, .inl (cm 3, 85, .inr (.inl fn))), (a 4, .inl (cm 4, 800, .inl fk)), (a 5, .inl (cm 5, 800, .inl fv)), (a 6, .inl (cm 6, 800, .inl fb)), (a 8, .inl (cm 8, 10240, .inl ff)), (a 9, .inl (cm 9, 10240, .inl fh)), (a 10, .inl (cm 10, 10240, .inr (.inl fa))), (a 11, .inl (cm 11, 10240, .inr (.inl fs)))] s.heap := hP
  have hl := lv_entry ([.ref h0, .int z1, .int z2]) (n := 7) (Nat.le_of_ble_eq_true rfl)
  rw [lg_entry_eq]
  generalize (lg_sl ([.ref h0, .int z1, .int z2]) ++ List.replicate (7 - (lg_sl ([.ref h0, .int z1, .int z2])).length) Slot.unset).toArray = ls at hl ⊢
  have hl : lv_has ls 7 [(0, .ref h0), (1, .int z1), (2, .int z2)] := hl
  refine lv_aload_n hx hb dX11_values_0 rfl (lv_at hl 0 rfl) ?_
  refine lv_iconst (v := 0) hx hb dX11_values_1 (by decide) ?_
  refine va_put (D := D) (ci := 11) (v := .int 0) (ty := .int) (C := RX11) (T := TX11) (N := 47) hx hb hts hin_X11 tyX11 tyX11_ok nmX11 hown hK hP hD hS 0 rfl rfl 0 (by decide) (hts (.fieldLink RX11 73 "ClashFreeModel" "thrown" "I") (List.mem_of_getElem? (i := 6) rfl)) (fun _ h9 => h9) rfl (by decide +kernel) rfl rfl (Nat.le_of_ble_eq_true rfl) dX11_values_2 (fun H locs hP hD hS => ?_)
  have hP : va_P D vwCl [(h0, .inr (11, gM a (upd i 0 0) g)), (a 3, .inl (cm 3, 85, .inr (.inl fn))), (a 4, .inl (cm 4, 800, .inl fk)), (a 5, .inl (cm 5, 800, .inl fv)), (a 6, .inl (cm 6, 800, .inl fb)), (a 8, .inl (cm 8, 10240, .inl ff)), (a 9, .inl (cm 9, 10240, .inl fh)), (a 10, .inl (cm 10, 10240, .inr (.inl fa))), (a 11, .inl (cm 11, 10240, .inr (.inl fs)))] H := hP
  have hD : va_D A [(h0, .inr (11, gM a (upd i 0 0) g)), (a 3, .inl (cm 3, 85, .inr (.inl fn))), (a 4, .inl (cm 4, 800, .inl fk)), (a 5, .inl (cm 5, 800, .inl fv)), (a 6, .inl (cm 6, 800, .inl fb)), (a 8, .inl (cm 8, 10240, .inl ff)), (a 9, .inl (cm 9, 10240, .inl fh)), (a 10, .inl (cm 10, 10240, .inr (.inl fa))), (a 11, .inl (cm 11, 10240, .inr (.inl fs)))] := hD
  refine lv_aload_n hx hb dX11_values_5 rfl (lv_at hl 0 rfl) ?_
  refine lv_iload_n hx hb dX11_values_6 rfl (lv_at hl 1 rfl) ?_
  have hPc := hP.sub (ws' := [(h0, .inr (11, gM a (upd i 0 0) g)), (a 3, .inl (cm 3, 85, .inr (.inl fn)))]) [0, 1] rfl
  have hKc := hK.sub (tys' := [(cm 3, .long)]) [0] rfl
  have hFc := va_free0 hS hA
  refine va_calli (va_runV (As := [.int z1]) (rest := []) ⟨hx, hb, hml, hown, hts⟩ (c_isThere l D _ h0 a cm (upd i 0 0) g fn z1) (cwV 1 hts g_c_valuesM_c_isThere_222 rfl rfl rfl (by decide +kernel) ⟨(Nat.le_of_ble_eq_true rfl), (Nat.le_of_ble_eq_true rfl)⟩) (PcR_V (q0 := 0) hPc hKc rfl rfl) rfl rfl hl.1 rfl (lv_room (Nat.le_of_ble_eq_true rfl)) dX11_values_7 ⟨(Nat.le_of_ble_eq_true rfl), (Nat.le_of_ble_eq_true rfl)⟩) hS (fun q _ h => hFc q h) hFc (fun r1 uu tt H locs htt hvm hw hB hz1 hk1 hS => ?_)
  have hP := va_keep hP hk1
  try dsimp only at hw
  clear hB hz1 hk1 hFc hPc hKc
  rcases hw with ⟨rfl, hA_r1⟩ | ⟨rfl, hA_r1⟩
  ·
    obtain ⟨k, hk, rfl, ht⟩ := hA_r1
    obtain ⟨cn, nb, K, J, hT⟩ := hM.2.2 k hk ht
    have hth := (show there fn (nI k) from ⟨k, hk, rfl, ht⟩)
    obtain ⟨h1, hcn, h4, hn1, hn2, ⟨ka, kb, hka, hkb, h6, h7⟩, hKy, hBk, hHs, ⟨bn, ns, gr, h14, hbn, h15, hs1, hs2, h16, hgr⟩⟩ := id hT
    refine lv_if_eq (tgt := 25) hx hb dX11_values_10 (by decide) (fun hc => absurd hc (by decide)) (fun hc => ?_)
    refine lv_iload_n hx hb dX11_values_13 rfl (lv_at hl 2 rfl) ?_
    refine lv_i2l hx hb dX11_values_14 rfl ?_
    refine lv_lconst (v := 0) hx hb dX11_values_15 (by decide) ?_
    refine lv_ldc2 (v := 2) hx hb hown (hts (.constantLong RX11 210 (2)) (List.mem_of_getElem? (i := 10) rfl)) dX11_values_16 ?_
    have hPc := hP.sub (ws' := []) [] rfl
    have hKc := hK.sub (tys' := []) [] rfl
    have hFc := va_free0 hS hA
    refine va_calli (va_runS (As := [.long (Int32.toInt64 z2), .long 0, .long 2]) (rest := []) ⟨hx, hb, hml, hown, hts⟩ (c_isIn l D _ (Int32.toInt64 z2) 0 2) (va_cwS 3 hts g_c_valuesM_c_isIn_83 rfl rfl rfl (by decide +kernel) ⟨(Nat.le_of_ble_eq_true rfl), (Nat.le_of_ble_eq_true rfl)⟩) (PcR_S hPc hKc) rfl rfl hl.1 rfl (lv_room (Nat.le_of_ble_eq_true rfl)) dX11_values_19 ⟨(Nat.le_of_ble_eq_true rfl), (Nat.le_of_ble_eq_true rfl)⟩) hS (fun q _ h => hFc q h) hFc (fun r2 uu tt H locs htt hvm hw hB hz1 hk1 hS => ?_)
    have hP := va_keep hP hk1
    try dsimp only at hw
    clear hB hz1 hk1 hFc hPc hKc
    rcases hw with ⟨rfl, hA_r2⟩ | ⟨rfl, hA_r2⟩
    ·
      refine lv_if_ne (tgt := 29) hx hb dX11_values_22 (by decide) (fun hc => ?_) (fun hc => absurd hc (by decide))
      refine lv_iconst (v := (-1)) hx hb dX11_values_29 (by decide) ?_
      refine lv_istore_n (lv' := [(3, .int (-1)), (0, .ref h0), (1, .int (nI k)), (2, .int z2)]) hx hb dX11_values_30 rfl hl (by decide) rfl (fun ls hl => ?_)
      refine lv_lconst (v := 0) hx hb dX11_values_31 (by decide) ?_
      refine lv_lstore (lv' := [(4, .long 0), (3, .int (-1)), (0, .ref h0), (1, .int (nI k)), (2, .int z2)]) hx hb dX11_values_32 hl (by decide) rfl (fun ls hl => ?_)
      refine lv_sipush (v := 160) hx hb dX11_values_34 (by decide) ?_
      refine lv_iload_n hx hb dX11_values_37 rfl (lv_at hl 3 rfl) ?_
      refine lv_imul hx hb dX11_values_38 ?_
      refine lv_topi (fun v3 ev3 => ?_)
      obtain rfl : v3 = nI (160 * k + 0) := ev3.trans (pk_mul 160 k)
      refine lv_istore (lv' := [(6, .int (nI (160 * k + 0))), (4, .long 0), (3, .int (-1)), (0, .ref h0), (1, .int (nI k)), (2, .int z2)]) hx hb dX11_values_39 hl (by decide) rfl (fun ls hl => ?_)
      refine lp_values l D h0 a cm (upd i 0 0) g fn fk fv fb ff fh fa fs z2 k cn K (hk) (h1) (hcn) (fun j a => (hKy.1 j a).2) hx hb hml hown hts hA (hK.sub [0, 1, 2, 3, 4, 5, 6, 7] rfl) ?_ (cn + 1) 0 0 (-1) none (Nat.zero_le _) (Or.inl ⟨rfl, rfl⟩) (rfl) (by omega) _ _ _ (hP.sub [0, 1, 2, 3, 4, 5, 6, 7, 8] rfl) (hD.sub [0, 1, 2, 3, 4, 5, 6, 7, 8] (by decide) rfl) hS (lv_sub hl [0, 1, 2, 3, 4, 5] rfl)
      intro x_4 sm_5 be_6 bb_7 hx2_8 hbe_9 hva_10 hx11 H locs ls hP hD hS hl
      refine lv_iload_n hx hb dX11_values_100 rfl (lv_at hl 3 rfl) ?_
      refine lv_iconst (v := 2) hx hb dX11_values_101 (by decide) ?_
      refine lv_icmp_ne (tgt := 108) hx hb dX11_values_102 (by decide) (fun hc12 => ?_) (fun hc12 => ?_)
      ·
        refine lv_iload_n hx hb dX11_values_108 rfl (lv_at hl 3 rfl) ?_
        refine lv_if_ne (tgt := 133) hx hb dX11_values_109 (by decide) (fun hc13 => ?_) (fun hc13 => ?_)
        ·
          refine lv_iload_n hx hb dX11_values_133 rfl (lv_at hl 1 rfl) ?_
          refine lv_iconst (v := (-1)) hx hb dX11_values_134 (by decide) ?_
          refine lv_icmp_ne (tgt := 144) hx hb dX11_values_135 (by decide) (fun hc14 => ?_) (fun hc14 => ?_)
          ·
            rcases hbe_9 with ⟨e, -⟩ | ⟨yb, hyb, rfl, rfl⟩
            · exact absurd e hc14
            refine lv_aload_n hx hb dX11_values_144 rfl (lv_at hl 2 rfl) ?_
            refine va_get (D := D) (ci := 11) (v := .ref (a 5)) (C := RX11) (T := TX11) (N := 47) hx hb hts hin_X11 hown hK hP 0 rfl rfl 5 (by decide) (hts (.fieldLink RX11 21 "ClashFreeModel" "values" "[I") (List.mem_of_getElem? (i := 5) rfl)) (fun _ h9 => h9) rfl dX11_values_145 ?_
            refine lv_iload_n hx hb dX11_values_148 rfl (lv_at hl 1 rfl) ?_
            refine va_iald hx hb hK hP 3 2 rfl rfl (vp_in_nI (by omega) (by decide)) dX11_values_149 ?_
            refine lv_topi (fun v15 ev15 => ?_)
            obtain rfl : v15 = fv (160 * k + yb) := ev15.trans (by rw [nI_clamp (by omega)])
            refine lv_i2l hx hb dX11_values_150 rfl ?_
            exact W.lret (v := Int32.toInt64 (fv (160 * k + yb))) hx hb hr (fun t ht hW => ⟨⟨Int32.toInt64 (fv (160 * k + yb)), 0, rfl, by rw [vaA_1 hk hth (isIn02.mp hA_r2), lsR_T hk hT fv]; exact (vaR_1s hx11 hc12 hc13).symm, by rw [ht]; exact hP.sub [0, 1, 2, 3, 4, 5, 6, 7, 8] rfl, va_K.moved hW.alike (hK.sub [0, 1, 2, 3, 4, 5, 6, 7] rfl), hD.sub [0, 1, 2, 3, 4, 5, 6, 7, 8] (by decide) rfl⟩, hS.F ht⟩) hS.2.2 dX11_values_151
          ·
            obtain rfl : bb_7 = none := by
              rcases hbe_9 with ⟨-, e⟩ | ⟨yb, hyb, e, -⟩
              · exact e
              · exact absurd (e.symm.trans hc14) (nI_neg1 (by omega))
            refine lv_ldc2 (v := (-1000000000000000)) hx hb hown (hts (.constantLong RX11 235 (-1000000000000000)) (List.mem_of_getElem? (i := 13) rfl)) dX11_values_138 ?_
            refine lv_goto (tgt := 151) hx hb dX11_values_141 (by decide) ?_
            exact W.lret (v := (-1000000000000000)) hx hb hr (fun t ht hW => ⟨⟨(-1000000000000000), 0, rfl, by rw [vaA_1 hk hth (isIn02.mp hA_r2), lsR_T hk hT fv]; exact (vaR_1n hx11 hc12 hc13).symm, by rw [ht]; exact hP.sub [0, 1, 2, 3, 4, 5, 6, 7, 8] rfl, va_K.moved hW.alike (hK.sub [0, 1, 2, 3, 4, 5, 6, 7] rfl), hD.sub [0, 1, 2, 3, 4, 5, 6, 7, 8] (by decide) rfl⟩, hS.F ht⟩) hS.2.2 dX11_values_151
        ·
          refine lv_iload_n hx hb dX11_values_112 rfl (lv_at hl 1 rfl) ?_
          refine lv_iconst (v := (-1)) hx hb dX11_values_113 (by decide) ?_
          refine lv_icmp_ne (tgt := 123) hx hb dX11_values_114 (by decide) (fun hc16 => ?_) (fun hc16 => ?_)
          ·
            rcases hbe_9 with ⟨e, -⟩ | ⟨yb, hyb, rfl, rfl⟩
            · exact absurd e hc16
            refine lv_aload_n hx hb dX11_values_123 rfl (lv_at hl 2 rfl) ?_
            refine va_get (D := D) (ci := 11) (v := .ref (a 4)) (C := RX11) (T := TX11) (N := 47) hx hb hts hin_X11 hown hK hP 0 rfl rfl 4 (by decide) (hts (.fieldLink RX11 17 "ClashFreeModel" "keys" "[I") (List.mem_of_getElem? (i := 14) rfl)) (fun _ h9 => h9) rfl dX11_values_124 ?_
            refine lv_iload_n hx hb dX11_values_127 rfl (lv_at hl 1 rfl) ?_
            refine va_iald hx hb hK hP 2 1 rfl rfl (vp_in_nI (by omega) (by decide)) dX11_values_128 ?_
            refine lv_topi (fun v17 ev17 => ?_)
            obtain rfl : v17 = nI (K yb) := ev17.trans (by rw [nI_clamp (by omega)]; exact (hKy.1 _ hyb).1)
            refine lv_i2l hx hb dX11_values_129 rfl ?_
            refine lv_goto (tgt := 151) hx hb dX11_values_130 (by decide) ?_
            exact W.lret (v := Int32.toInt64 (nI (K yb))) hx hb hr (fun t ht hW => ⟨⟨Int32.toInt64 (nI (K yb)), 0, rfl, by rw [vaA_1 hk hth (isIn02.mp hA_r2), lsR_T hk hT fv]; exact (vaR_0s hx11 hc12 hc13).symm, by rw [ht]; exact hP.sub [0, 1, 2, 3, 4, 5, 6, 7, 8] rfl, va_K.moved hW.alike (hK.sub [0, 1, 2, 3, 4, 5, 6, 7] rfl), hD.sub [0, 1, 2, 3, 4, 5, 6, 7, 8] (by decide) rfl⟩, hS.F ht⟩) hS.2.2 dX11_values_151
          ·
            obtain rfl : bb_7 = none := by
              rcases hbe_9 with ⟨-, e⟩ | ⟨yb, hyb, e, -⟩
              · exact e
              · exact absurd (e.symm.trans hc16) (nI_neg1 (by omega))
            refine lv_ldc2 (v := (-1)) hx hb hown (hts (.constantLong RX11 237 (-1)) (List.mem_of_getElem? (i := 15) rfl)) dX11_values_117 ?_
            refine lv_goto (tgt := 151) hx hb dX11_values_120 (by decide) ?_
            exact W.lret (v := (-1)) hx hb hr (fun t ht hW => ⟨⟨(-1), 0, rfl, by rw [vaA_1 hk hth (isIn02.mp hA_r2), lsR_T hk hT fv]; exact (vaR_0n hx11 hc12 hc13).symm, by rw [ht]; exact hP.sub [0, 1, 2, 3, 4, 5, 6, 7, 8] rfl, va_K.moved hW.alike (hK.sub [0, 1, 2, 3, 4, 5, 6, 7] rfl), hD.sub [0, 1, 2, 3, 4, 5, 6, 7, 8] (by decide) rfl⟩, hS.F ht⟩) hS.2.2 dX11_values_151
      ·
        refine lv_lload hx hb dX11_values_105 (lv_at hl 0 rfl) ?_
        exact W.lret (v := sm_5) hx hb hr (fun t ht hW => ⟨⟨sm_5, 0, rfl, by rw [vaA_1 hk hth (isIn02.mp hA_r2), lsR_T hk hT fv]; exact (vaR_2 hx11 hc12).symm, by rw [ht]; exact hP.sub [0, 1, 2, 3, 4, 5, 6, 7, 8] rfl, va_K.moved hW.alike (hK.sub [0, 1, 2, 3, 4, 5, 6, 7] rfl), hD.sub [0, 1, 2, 3, 4, 5, 6, 7, 8] (by decide) rfl⟩, hS.F ht⟩) hS.2.2 dX11_values_107
    ·
      refine lv_if_ne (tgt := 29) hx hb dX11_values_22 (by decide) (fun hc => absurd (by decide) hc) (fun hc => ?_)
      refine lv_ldc2 (v := (-1000000000000000)) hx hb hown (hts (.constantLong RX11 235 (-1000000000000000)) (List.mem_of_getElem? (i := 13) rfl)) dX11_values_25 ?_
      exact W.lret (v := (-1000000000000000)) hx hb hr (fun t ht hW => ⟨⟨(-1000000000000000), 0, rfl, (vaA_0 (fun q => hA_r2 (isIn02.mpr q.2))).symm, by rw [ht]; exact hP.sub [0, 1, 2, 3, 4, 5, 6, 7, 8] rfl, va_K.moved hW.alike (hK.sub [0, 1, 2, 3, 4, 5, 6, 7] rfl), hD.sub [0, 1, 2, 3, 4, 5, 6, 7, 8] (by decide) rfl⟩, hS.F ht⟩) hS.2.2 dX11_values_28
  ·
    refine lv_if_eq (tgt := 25) hx hb dX11_values_10 (by decide) (fun hc => ?_) (fun hc => absurd (by decide) hc)
    refine lv_ldc2 (v := (-1000000000000000)) hx hb hown (hts (.constantLong RX11 235 (-1000000000000000)) (List.mem_of_getElem? (i := 13) rfl)) dX11_values_25 ?_
    exact W.lret (v := (-1000000000000000)) hx hb hr (fun t ht hW => ⟨⟨(-1000000000000000), 0, rfl, (vaA_0 (fun q => hA_r1 q.1)).symm, by rw [ht]; exact hP.sub [0, 1, 2, 3, 4, 5, 6, 7, 8] rfl, va_K.moved hW.alike (hK.sub [0, 1, 2, 3, 4, 5, 6, 7] rfl), hD.sub [0, 1, 2, 3, 4, 5, 6, 7, 8] (by decide) rfl⟩, hS.F ht⟩) hS.2.2 dX11_values_28

