theorem dX11_frozen_0 : decode cX11_frozen 0 = .ok (.aload_n 0, 1) := by decide +kernel
theorem dX11_frozen_1 : decode cX11_frozen 1 = .ok (.iconst 0, 1) := by decide +kernel
theorem dX11_frozen_2 : decode cX11_frozen 2 = .ok (.putfield 73, 3) := by decide +kernel
theorem dX11_frozen_5 : decode cX11_frozen 5 = .ok (.aload_n 0, 1) := by decide +kernel
theorem dX11_frozen_6 : decode cX11_frozen 6 = .ok (.iload_n 1, 1) := by decide +kernel
theorem dX11_frozen_7 : decode cX11_frozen 7 = .ok (.invokevirtual 222, 3) := by decide +kernel
theorem dX11_frozen_10 : decode cX11_frozen 10 = .ok (.ifCond .eq 16, 3) := by decide +kernel
theorem dX11_frozen_13 : decode cX11_frozen 13 = .ok (.iload 4, 2) := by decide +kernel
theorem dX11_frozen_15 : decode cX11_frozen 15 = .ok (.i2l, 1) := by decide +kernel
theorem dX11_frozen_16 : decode cX11_frozen 16 = .ok (.lconst 0, 1) := by decide +kernel
theorem dX11_frozen_17 : decode cX11_frozen 17 = .ok (.ldc2_w 160, 3) := by decide +kernel
theorem dX11_frozen_20 : decode cX11_frozen 20 = .ok (.invokestatic 83, 3) := by decide +kernel
theorem dX11_frozen_23 : decode cX11_frozen 23 = .ok (.ifCond .ne 7, 3) := by decide +kernel
theorem dX11_frozen_26 : decode cX11_frozen 26 = .ok (.ldc2_w 235, 3) := by decide +kernel
theorem dX11_frozen_29 : decode cX11_frozen 29 = .ok (.lreturn, 1) := by decide +kernel
theorem dX11_frozen_30 : decode cX11_frozen 30 = .ok (.aload_n 0, 1) := by decide +kernel
theorem dX11_frozen_31 : decode cX11_frozen 31 = .ok (.iload_n 1, 1) := by decide +kernel
theorem dX11_frozen_32 : decode cX11_frozen 32 = .ok (.lload_n 2, 1) := by decide +kernel
theorem dX11_frozen_33 : decode cX11_frozen 33 = .ok (.invokevirtual 268, 3) := by decide +kernel
theorem dX11_frozen_36 : decode cX11_frozen 36 = .ok (.ifCond .ne 7, 3) := by decide +kernel
theorem dX11_frozen_39 : decode cX11_frozen 39 = .ok (.ldc2_w 272, 3) := by decide +kernel
theorem dX11_frozen_42 : decode cX11_frozen 42 = .ok (.lreturn, 1) := by decide +kernel
theorem dX11_frozen_43 : decode cX11_frozen 43 = .ok (.iload 4, 2) := by decide +kernel
theorem dX11_frozen_45 : decode cX11_frozen 45 = .ok (.ifCond .ne 10, 3) := by decide +kernel
theorem dX11_frozen_48 : decode cX11_frozen 48 = .ok (.aload_n 0, 1) := by decide +kernel
theorem dX11_frozen_49 : decode cX11_frozen 49 = .ok (.iconst 4, 1) := by decide +kernel
theorem dX11_frozen_50 : decode cX11_frozen 50 = .ok (.iconst 5, 1) := by decide +kernel
theorem dX11_frozen_51 : decode cX11_frozen 51 = .ok (.invokevirtual 89, 3) := by decide +kernel
theorem dX11_frozen_54 : decode cX11_frozen 54 = .ok (.lreturn, 1) := by decide +kernel
theorem dX11_frozen_55 : decode cX11_frozen 55 = .ok (.iload 4, 2) := by decide +kernel
theorem dX11_frozen_57 : decode cX11_frozen 57 = .ok (.iconst 3, 1) := by decide +kernel
theorem dX11_frozen_58 : decode cX11_frozen 58 = .ok (.if_icmp .ge 23, 3) := by decide +kernel
theorem dX11_frozen_61 : decode cX11_frozen 61 = .ok (.iload 4, 2) := by decide +kernel
theorem dX11_frozen_63 : decode cX11_frozen 63 = .ok (.iconst 1, 1) := by decide +kernel
theorem dX11_frozen_64 : decode cX11_frozen 64 = .ok (.if_icmp .ne 11, 3) := by decide +kernel
theorem dX11_frozen_67 : decode cX11_frozen 67 = .ok (.aload_n 0, 1) := by decide +kernel
theorem dX11_frozen_68 : decode cX11_frozen 68 = .ok (.getfield 259, 3) := by decide +kernel
theorem dX11_frozen_71 : decode cX11_frozen 71 = .ok (.i2l, 1) := by decide +kernel
theorem dX11_frozen_72 : decode cX11_frozen 72 = .ok (.goto 8, 3) := by decide +kernel
theorem dX11_frozen_75 : decode cX11_frozen 75 = .ok (.aload_n 0, 1) := by decide +kernel
theorem dX11_frozen_76 : decode cX11_frozen 76 = .ok (.getfield 262, 3) := by decide +kernel
theorem dX11_frozen_79 : decode cX11_frozen 79 = .ok (.i2l, 1) := by decide +kernel
theorem dX11_frozen_80 : decode cX11_frozen 80 = .ok (.lreturn, 1) := by decide +kernel
theorem dX11_frozen_81 : decode cX11_frozen 81 = .ok (.iconst (-1), 1) := by decide +kernel
theorem dX11_frozen_82 : decode cX11_frozen 82 = .ok (.istore 5, 2) := by decide +kernel
theorem dX11_frozen_84 : decode cX11_frozen 84 = .ok (.iconst 0, 1) := by decide +kernel
theorem dX11_frozen_85 : decode cX11_frozen 85 = .ok (.istore 6, 2) := by decide +kernel
theorem dX11_frozen_87 : decode cX11_frozen 87 = .ok (.iload 6, 2) := by decide +kernel
theorem dX11_frozen_89 : decode cX11_frozen 89 = .ok (.aload_n 0, 1) := by decide +kernel
theorem dX11_frozen_90 : decode cX11_frozen 90 = .ok (.iload_n 1, 1) := by decide +kernel
theorem dX11_frozen_91 : decode cX11_frozen 91 = .ok (.invokevirtual 95, 3) := by decide +kernel
theorem dX11_frozen_94 : decode cX11_frozen 94 = .ok (.if_icmp .ge 50, 3) := by decide +kernel
theorem dX11_frozen_97 : decode cX11_frozen 97 = .ok (.aload_n 0, 1) := by decide +kernel
theorem dX11_frozen_98 : decode cX11_frozen 98 = .ok (.iload 6, 2) := by decide +kernel
theorem dX11_frozen_100 : decode cX11_frozen 100 = .ok (.invokevirtual 274, 3) := by decide +kernel
theorem dX11_frozen_103 : decode cX11_frozen 103 = .ok (.istore 7, 2) := by decide +kernel
theorem dX11_frozen_105 : decode cX11_frozen 105 = .ok (.iload 5, 2) := by decide +kernel
theorem dX11_frozen_107 : decode cX11_frozen 107 = .ok (.iconst (-1), 1) := by decide +kernel
theorem dX11_frozen_108 : decode cX11_frozen 108 = .ok (.if_icmp .eq 26, 3) := by decide +kernel
theorem dX11_frozen_111 : decode cX11_frozen 111 = .ok (.iload 4, 2) := by decide +kernel
theorem dX11_frozen_113 : decode cX11_frozen 113 = .ok (.iconst 3, 1) := by decide +kernel
theorem dX11_frozen_114 : decode cX11_frozen 114 = .ok (.if_icmp .ne 13, 3) := by decide +kernel
theorem dX11_frozen_117 : decode cX11_frozen 117 = .ok (.iload 7, 2) := by decide +kernel
theorem dX11_frozen_119 : decode cX11_frozen 119 = .ok (.iload 5, 2) := by decide +kernel
theorem dX11_frozen_121 : decode cX11_frozen 121 = .ok (.if_icmp .ge 17, 3) := by decide +kernel
theorem dX11_frozen_124 : decode cX11_frozen 124 = .ok (.goto 10, 3) := by decide +kernel
theorem dX11_frozen_127 : decode cX11_frozen 127 = .ok (.iload 7, 2) := by decide +kernel
theorem dX11_frozen_129 : decode cX11_frozen 129 = .ok (.iload 5, 2) := by decide +kernel
theorem dX11_frozen_131 : decode cX11_frozen 131 = .ok (.if_icmp .le 7, 3) := by decide +kernel
theorem dX11_frozen_134 : decode cX11_frozen 134 = .ok (.iload 7, 2) := by decide +kernel
theorem dX11_frozen_136 : decode cX11_frozen 136 = .ok (.istore 5, 2) := by decide +kernel
theorem dX11_frozen_138 : decode cX11_frozen 138 = .ok (.iinc 6 1, 3) := by decide +kernel
theorem dX11_frozen_141 : decode cX11_frozen 141 = .ok (.goto (-54), 3) := by decide +kernel
theorem dX11_frozen_144 : decode cX11_frozen 144 = .ok (.iload 5, 2) := by decide +kernel
theorem dX11_frozen_146 : decode cX11_frozen 146 = .ok (.i2l, 1) := by decide +kernel
theorem dX11_frozen_147 : decode cX11_frozen 147 = .ok (.lreturn, 1) := by decide +kernel
def own_c_frozenM : List Cond := [.methodLink RX11 95 yX11_manyOf, .instanceMethod yX11_manyOf, .selects RX11 yX11_manyOf yX11_manyOf, .initialized RX11, .methodLink RX11 274 yX11_frozenRoom, .instanceMethod yX11_frozenRoom, .selects RX11 yX11_frozenRoom yX11_frozenRoom, .fieldLink RX11 73 "ClashFreeModel" "thrown" "I", .methodLink RX11 222 yX11_isThere, .instanceMethod yX11_isThere, .selects RX11 yX11_isThere yX11_isThere, .constantLong RX11 160 (4), .methodLink RX11 83 yX11_isIn, .static yX11_isIn, .methodLink RX11 268 yX11_freezes, .instanceMethod yX11_freezes, .selects RX11 yX11_freezes yX11_freezes, .fieldLink RX11 262 "ClashFreeModel" "innerPairs" "I", .fieldLink RX11 259 "ClashFreeModel" "outerPairs" "I", .methodLink RX11 89 yX11_of, .instanceMethod yX11_of, .selects RX11 yX11_of yX11_of, .constantLong RX11 272 (-2), .constantLong RX11 235 (-1000000000000000)]
def wp_c_frozenM : List Cond := .code yX11_frozen cX11_frozen 8 (some .long) :: (own_c_frozenM ++ (wp_c_manyOf ++ (wp_c_frozenRoom ++ (wp_c_isThere ++ (wp_c_isIn ++ (wp_c_freezes ++ (wp_c_of ++ (wsX110 ++ ([] : List Cond)))))))))
set_option maxRecDepth 20000 in
theorem inown_c_frozenM : ∀ w ∈ own_c_frozenM, w ∈ lw_tbl := mem_places [1396, 1398, 40, 115, 1625, 1627, 69, 1216, 1466, 1468, 54, 1405, 1371, 1372, 1620, 1622, 68, 1234, 1233, 1400, 1402, 41, 1624, 1517] (by decide +kernel)
set_option maxRecDepth 20000 in
theorem in_c_frozenM : ∀ w ∈ wp_c_frozenM, w ∈ lw_tbl := List.forall_mem_cons.mpr ⟨List.mem_of_getElem? (i := 1619) (by decide +kernel), List.forall_mem_append.mpr ⟨inown_c_frozenM, List.forall_mem_append.mpr ⟨in_c_manyOf, List.forall_mem_append.mpr ⟨in_c_frozenRoom, List.forall_mem_append.mpr ⟨in_c_isThere, List.forall_mem_append.mpr ⟨in_c_isIn, List.forall_mem_append.mpr ⟨in_c_freezes, List.forall_mem_append.mpr ⟨in_c_of, List.forall_mem_append.mpr ⟨lwb_X11, fun _ h => absurd h List.not_mem_nil⟩⟩⟩⟩⟩⟩⟩⟩⟩
set_option maxRecDepth 20000 in
theorem good_c_frozenM : wp_c_frozenM.all goodWord = true := by decide +kernel
set_option maxRecDepth 20000 in
theorem g_c_frozenM_c_manyOf_95 : GoodIn wp_c_frozenM (wsV RX11 95 RX11 yX11_manyOf wp_c_manyOf) := goodIn_sub (List.forall_mem_append.mpr ⟨List.forall_mem_cons.mpr ⟨(List.mem_of_getElem? (i := 1) rfl), List.forall_mem_cons.mpr ⟨(List.mem_of_getElem? (i := 2) rfl), List.forall_mem_cons.mpr ⟨(List.mem_of_getElem? (i := 3) rfl), List.forall_mem_cons.mpr ⟨(List.mem_of_getElem? (i := 4) rfl), fun _ h => absurd h List.not_mem_nil⟩⟩⟩⟩, (fun _ h => (List.mem_cons_of_mem _ (List.mem_append_right _ (List.mem_append_left _ h))))⟩) (by decide +kernel)
set_option maxRecDepth 20000 in
theorem g_c_frozenM_c_frozenRoom_274 : GoodIn wp_c_frozenM (wsV RX11 274 RX11 yX11_frozenRoom wp_c_frozenRoom) := goodIn_sub (List.forall_mem_append.mpr ⟨List.forall_mem_cons.mpr ⟨(List.mem_of_getElem? (i := 5) rfl), List.forall_mem_cons.mpr ⟨(List.mem_of_getElem? (i := 6) rfl), List.forall_mem_cons.mpr ⟨(List.mem_of_getElem? (i := 7) rfl), List.forall_mem_cons.mpr ⟨(List.mem_of_getElem? (i := 4) rfl), fun _ h => absurd h List.not_mem_nil⟩⟩⟩⟩, (fun _ h => (List.mem_cons_of_mem _ (List.mem_append_right _ (List.mem_append_right _ (List.mem_append_left _ h)))))⟩) (by decide +kernel)
set_option maxRecDepth 20000 in
theorem g_c_frozenM_c_isThere_222 : GoodIn wp_c_frozenM (wsV RX11 222 RX11 yX11_isThere wp_c_isThere) := goodIn_sub (List.forall_mem_append.mpr ⟨List.forall_mem_cons.mpr ⟨(List.mem_of_getElem? (i := 9) rfl), List.forall_mem_cons.mpr ⟨(List.mem_of_getElem? (i := 10) rfl), List.forall_mem_cons.mpr ⟨(List.mem_of_getElem? (i := 11) rfl), List.forall_mem_cons.mpr ⟨(List.mem_of_getElem? (i := 4) rfl), fun _ h => absurd h List.not_mem_nil⟩⟩⟩⟩, (fun _ h => (List.mem_cons_of_mem _ (List.mem_append_right _ (List.mem_append_right _ (List.mem_append_right _ (List.mem_append_left _ h))))))⟩) (by decide +kernel)
set_option maxRecDepth 20000 in
theorem g_c_frozenM_c_isIn_83 : GoodIn wp_c_frozenM (va_wsS RX11 83 yX11_isIn wp_c_isIn) := goodIn_sub (List.forall_mem_append.mpr ⟨List.forall_mem_cons.mpr ⟨(List.mem_of_getElem? (i := 13) rfl), List.forall_mem_cons.mpr ⟨(List.mem_of_getElem? (i := 14) rfl), List.forall_mem_cons.mpr ⟨(List.mem_of_getElem? (i := 4) rfl), fun _ h => absurd h List.not_mem_nil⟩⟩⟩, (fun _ h => (List.mem_cons_of_mem _ (List.mem_append_right _ (List.mem_append_right _ (List.mem_append_right _ (List.mem_append_right _ (List.mem_append_left _ h)))))))⟩) (by decide +kernel)
set_option maxRecDepth 20000 in
theorem g_c_frozenM_c_freezes_268 : GoodIn wp_c_frozenM (wsV RX11 268 RX11 yX11_freezes wp_c_freezes) := goodIn_sub (List.forall_mem_append.mpr ⟨List.forall_mem_cons.mpr ⟨(List.mem_of_getElem? (i := 15) rfl), List.forall_mem_cons.mpr ⟨(List.mem_of_getElem? (i := 16) rfl), List.forall_mem_cons.mpr ⟨(List.mem_of_getElem? (i := 17) rfl), List.forall_mem_cons.mpr ⟨(List.mem_of_getElem? (i := 4) rfl), fun _ h => absurd h List.not_mem_nil⟩⟩⟩⟩, (fun _ h => (List.mem_cons_of_mem _ (List.mem_append_right _ (List.mem_append_right _ (List.mem_append_right _ (List.mem_append_right _ (List.mem_append_right _ (List.mem_append_left _ h))))))))⟩) (by decide +kernel)
set_option maxRecDepth 20000 in
theorem g_c_frozenM_c_of_89 : GoodIn wp_c_frozenM (wsV RX11 89 RX11 yX11_of wp_c_of) := goodIn_sub (List.forall_mem_append.mpr ⟨List.forall_mem_cons.mpr ⟨(List.mem_of_getElem? (i := 20) rfl), List.forall_mem_cons.mpr ⟨(List.mem_of_getElem? (i := 21) rfl), List.forall_mem_cons.mpr ⟨(List.mem_of_getElem? (i := 22) rfl), List.forall_mem_cons.mpr ⟨(List.mem_of_getElem? (i := 4) rfl), fun _ h => absurd h List.not_mem_nil⟩⟩⟩⟩, (fun _ h => (List.mem_cons_of_mem _ (List.mem_append_right _ (List.mem_append_right _ (List.mem_append_right _ (List.mem_append_right _ (List.mem_append_right _ (List.mem_append_right _ (List.mem_append_left _ h)))))))))⟩) (by decide +kernel)
set_option maxHeartbeats 4000000 in
set_option maxRecDepth 100000 in
theorem lp_frozen (l : Launch) {p : Program} {e : Env} {s : State} {m : MethodId} {args : Array Value} {below : List Frame} {meth : Method} {c : Code} {Q : State → Prop} {A : Nat → Prop} (D : va_G) (h0 : Nat) (a : Nat → Nat) (cm : Nat → ClassId) (i : Nat → Int32) (g : Nat → Int64) (fn : Nat → Int64) (fk : Nat → Int32) (fb : Nat → Int32) (fr : Nat → Int32) (ff : Nat → Int32) (fh : Nat → Int32) (fa : Nat → Int64) (fs : Nat → Int64) (z3 : Int32) (k : Nat) (cn : Nat) (nb : Nat) (J : Nat → Nat) (hk : k < 4) (h1 : fn (17 * k + 1) = lN cn) (hcn : cn ≤ 160) (hn2 : nb ≤ 2048) (hBk : BkS 4 fb cn nb J) (hr2 : ∀ b, b < nb → ff (2048 * 4 + b) = nI (1 * cntJ J cn b)) (hx : p.tables.exec = Jvm.exec) (hb : c.code = cX11_frozen) (hml : c.maxLocals = 8) (hown : s.vm.findClass RX11 = some m.cls) (hts : ∀ w ∈ wp_c_frozenM, w.before args s = true) (hA : ∀ q, s.heap.size ≤ q → A q) (hK : va_K D vwCl [(cm 3, .long), (cm 4, .int), (cm 6, .int), (cm 7, .int), (cm 8, .int), (cm 9, .int), (cm 10, .long), (cm 11, .long)] s) (kx144 : ∀ (y : Nat), ∀ (fo : Int32), (y ≤ cn) → ∀ (H : Heap) (locs : List Loc) (ls : Array Slot), va_P D vwCl [(h0, .inr (11, gM a i g)), (a 3, .inl (cm 3, 85, .inr (.inl fn))), (a 4, .inl (cm 4, 800, .inl fk)), (a 6, .inl (cm 6, 800, .inl fb)), (a 7, .inl (cm 7, 800, .inl fr)), (a 8, .inl (cm 8, 10240, .inl ff)), (a 9, .inl (cm 9, 10240, .inl fh)), (a 10, .inl (cm 10, 10240, .inr (.inl fa))), (a 11, .inl (cm 11, 10240, .inr (.inl fs)))] H → va_D A [(h0, .inr (11, gM a i g)), (a 3, .inl (cm 3, 85, .inr (.inl fn))), (a 4, .inl (cm 4, 800, .inl fk)), (a 6, .inl (cm 6, 800, .inl fb)), (a 7, .inl (cm 7, 800, .inl fr)), (a 8, .inl (cm 8, 10240, .inl ff)), (a 9, .inl (cm 9, 10240, .inl fh)), (a 10, .inl (cm 10, 10240, .inr (.inl fa))), (a 11, .inl (cm 11, 10240, .inr (.inl fs)))] → va_S A s.heap H locs → lv_has ls 8 [(5, .int fo), (0, .ref h0)] → W p l e ({ frames := 9, cells := 0, slots := 0, locals := 230 }) s m args below meth c H locs 0 0 Q (F0 m 144 ls [])) : ∀ (N : Nat), ∀ (y : Nat), ∀ (fo : Int32), (y ≤ cn) → cn - y < N → ∀ (H : Heap) (locs : List Loc) (ls : Array Slot), va_P D vwCl [(h0, .inr (11, gM a i g)), (a 3, .inl (cm 3, 85, .inr (.inl fn))), (a 4, .inl (cm 4, 800, .inl fk)), (a 6, .inl (cm 6, 800, .inl fb)), (a 7, .inl (cm 7, 800, .inl fr)), (a 8, .inl (cm 8, 10240, .inl ff)), (a 9, .inl (cm 9, 10240, .inl fh)), (a 10, .inl (cm 10, 10240, .inr (.inl fa))), (a 11, .inl (cm 11, 10240, .inr (.inl fs)))] H → va_D A [(h0, .inr (11, gM a i g)), (a 3, .inl (cm 3, 85, .inr (.inl fn))), (a 4, .inl (cm 4, 800, .inl fk)), (a 6, .inl (cm 6, 800, .inl fb)), (a 7, .inl (cm 7, 800, .inl fr)), (a 8, .inl (cm 8, 10240, .inl ff)), (a 9, .inl (cm 9, 10240, .inl fh)), (a 10, .inl (cm 10, 10240, .inr (.inl fa))), (a 11, .inl (cm 11, 10240, .inr (.inl fs)))] → va_S A s.heap H locs → lv_has ls 8 [(6, .int (nI y)), (5, .int fo), (0, .ref h0), (1, .int (nI k)), (4, .int z3)] → W p l e ({ frames := 9, cells := 0, slots := 0, locals := 230 }) s m args below meth c H locs 0 0 Q (F0 m 87 ls []) := by
  have hin_X11 : ∀ w ∈ wsX110, w ∈ wp_c_frozenM := fun _ h => (List.mem_cons_of_mem _ (List.mem_append_right _ (List.mem_append_right _ (List.mem_append_right _ (List.mem_append_right _ (List.mem_append_right _ (List.mem_append_right _ (List.mem_append_right _ (List.mem_append_left _ h)))))))))
  intro N
  induction N with
  | zero =>
    intro y fo hy1 hm
    exact absurd hm (Nat.not_lt_zero _)
  | succ N ih =>
    intro y fo hy1 hm H locs ls hP hD hS hl
    refine lv_iload hx hb dX11_frozen_87 (lv_at hl 0 rfl) ?_
    refine lv_aload_n hx hb dX11_frozen_89 rfl (lv_at hl 2 rfl) ?_
    refine lv_iload_n hx hb dX11_frozen_90 rfl (lv_at hl 3 rfl) ?_
    have hPc := hP.sub (ws' := [(h0, .inr (11, gM a i g)), (a 3, .inl (cm 3, 85, .inr (.inl fn)))]) [0, 1] rfl
    have hKc := hK.sub (tys' := [(cm 3, .long)]) [0] rfl
    have hFc := va_free0 hS hA
    refine va_calli (va_runV (As := [.int (nI k)]) (rest := [.int (nI y)]) ⟨hx, hb, hml, hown, hts⟩ (c_manyOf l D _ h0 a cm i g fn k cn (by first | assumption | omega) h1) (cwV 1 hts g_c_frozenM_c_manyOf_95 rfl rfl rfl (by decide +kernel) ⟨(Nat.le_of_ble_eq_true rfl), (Nat.le_of_ble_eq_true rfl)⟩) (PcR_V (q0 := 0) hPc hKc rfl rfl) rfl rfl hl.1 rfl (lv_room (Nat.le_of_ble_eq_true rfl)) dX11_frozen_91 ⟨(Nat.le_of_ble_eq_true rfl), (Nat.le_of_ble_eq_true rfl)⟩) hS (fun q _ h => hFc q h) hFc (fun r1 uu tt H locs htt hvm hw hB hz1 hk1 hS => ?_)
    have hP := va_keep hP hk1
    try dsimp only at hw
    clear hB hz1 hk1 hFc hPc hKc
    obtain rfl : r1 = nI cn := hw
    refine lv_icmp_ge (tgt := 144) hx hb dX11_frozen_94 (by decide) (fun hc2 => ?_) (fun hc2 => ?_)
    ·
      exact kx144 y fo (hy1) H locs ls (hP.sub [0, 1, 2, 3, 4, 5, 6, 7, 8] rfl) (hD.sub [0, 1, 2, 3, 4, 5, 6, 7, 8] (by decide) rfl) hS (lv_sub hl [1, 2] rfl)
    ·
      have hlt_y : y < cn := by
        rcases Nat.lt_or_ge y cn with z | z
        · exact z
        · exact absurd (nI_le z (by omega)) hc2
      refine lv_aload_n hx hb dX11_frozen_97 rfl (lv_at hl 2 rfl) ?_
      refine lv_iload hx hb dX11_frozen_98 (lv_at hl 0 rfl) ?_
      have hPc := hP.sub (ws' := [(h0, .inr (11, gM a i g)), (a 6, .inl (cm 6, 800, .inl fb)), (a 7, .inl (cm 7, 800, .inl fr)), (a 8, .inl (cm 8, 10240, .inl ff))]) [0, 3, 4, 5] rfl
      have hKc := hK.sub (tys' := [(cm 6, .int), (cm 7, .int), (cm 8, .int)]) [2, 3, 4] rfl
      have hFc := va_free0 hS hA
      refine va_calli (va_runV (As := [.int (nI y)]) (rest := []) ⟨hx, hb, hml, hown, hts⟩ (c_frozenRoom l D _ h0 a cm i g fb fr ff y cn nb J (by first | assumption | omega) (by first | assumption | omega) hn2 hBk hr2) (cwV 1 hts g_c_frozenM_c_frozenRoom_274 rfl rfl rfl (by decide +kernel) ⟨(Nat.le_of_ble_eq_true rfl), (Nat.le_of_ble_eq_true rfl)⟩) (PcR_V (q0 := 0) hPc hKc rfl rfl) rfl rfl hl.1 rfl (lv_room (Nat.le_of_ble_eq_true rfl)) dX11_frozen_100 ⟨(Nat.le_of_ble_eq_true rfl), (Nat.le_of_ble_eq_true rfl)⟩) hS (fun q _ h => hFc q h) hFc (fun r3 uu tt H locs htt hvm hw hB hz1 hk1 hS => ?_)
      have hP := va_keep hP hk1
      try dsimp only at hw
      clear hB hz1 hk1 hFc hPc hKc
      refine lv_istore (lv' := [(7, .int r3), (6, .int (nI y)), (5, .int fo), (0, .ref h0), (1, .int (nI k)), (4, .int z3)]) hx hb dX11_frozen_103 hl (by decide) rfl (fun ls hl => ?_)
      refine lv_iload hx hb dX11_frozen_105 (lv_at hl 2 rfl) ?_
      refine lv_iconst (v := (-1)) hx hb dX11_frozen_107 (by decide) ?_
      refine lv_icmp_eq (tgt := 134) hx hb dX11_frozen_108 (by decide) (fun hc4 => ?_) (fun hc4 => ?_)
      ·
        refine lv_iload hx hb dX11_frozen_134 (lv_at hl 0 rfl) ?_
        refine lv_istore (lv' := [(5, .int r3), (7, .int r3), (6, .int (nI y)), (0, .ref h0), (1, .int (nI k)), (4, .int z3)]) hx hb dX11_frozen_136 hl (by decide) rfl (fun ls hl => ?_)
        refine lv_iinc (v := nI (y + 1)) (lv' := [(6, .int (nI (y + 1))), (5, .int r3), (7, .int r3), (0, .ref h0), (1, .int (nI k)), (4, .int z3)]) hx hb dX11_frozen_138 hl (k := 2) rfl (nI_1 _) (by decide) rfl (fun ls hl => ?_)
        refine lv_goto (tgt := 87) hx hb dX11_frozen_141 (by decide) ?_
        exact ih (y + 1) r3 (by omega) (by omega) H locs ls (hP.sub [0, 1, 2, 3, 4, 5, 6, 7, 8] rfl) (hD.sub [0, 1, 2, 3, 4, 5, 6, 7, 8] (by decide) rfl) hS (lv_sub hl [0, 1, 3, 4, 5] rfl)
      ·
        refine lv_iload hx hb dX11_frozen_111 (lv_at hl 5 rfl) ?_
        refine lv_iconst (v := 3) hx hb dX11_frozen_113 (by decide) ?_
        refine lv_icmp_ne (tgt := 127) hx hb dX11_frozen_114 (by decide) (fun hc5 => ?_) (fun hc5 => ?_)
        ·
          refine lv_iload hx hb dX11_frozen_127 (lv_at hl 0 rfl) ?_
          refine lv_iload hx hb dX11_frozen_129 (lv_at hl 2 rfl) ?_
          refine lv_icmp_le (tgt := 138) hx hb dX11_frozen_131 (by decide) (fun hc6 => ?_) (fun hc6 => ?_)
          ·
            refine lv_iinc (v := nI (y + 1)) (lv' := [(6, .int (nI (y + 1))), (7, .int r3), (5, .int fo), (0, .ref h0), (1, .int (nI k)), (4, .int z3)]) hx hb dX11_frozen_138 hl (k := 1) rfl (nI_1 _) (by decide) rfl (fun ls hl => ?_)
            refine lv_goto (tgt := 87) hx hb dX11_frozen_141 (by decide) ?_
            exact ih (y + 1) fo (by omega) (by omega) H locs ls (hP.sub [0, 1, 2, 3, 4, 5, 6, 7, 8] rfl) (hD.sub [0, 1, 2, 3, 4, 5, 6, 7, 8] (by decide) rfl) hS (lv_sub hl [0, 2, 3, 4, 5] rfl)
          ·
            refine lv_iload hx hb dX11_frozen_134 (lv_at hl 0 rfl) ?_
            refine lv_istore (lv' := [(5, .int r3), (7, .int r3), (6, .int (nI y)), (0, .ref h0), (1, .int (nI k)), (4, .int z3)]) hx hb dX11_frozen_136 hl (by decide) rfl (fun ls hl => ?_)
            refine lv_iinc (v := nI (y + 1)) (lv' := [(6, .int (nI (y + 1))), (5, .int r3), (7, .int r3), (0, .ref h0), (1, .int (nI k)), (4, .int z3)]) hx hb dX11_frozen_138 hl (k := 2) rfl (nI_1 _) (by decide) rfl (fun ls hl => ?_)
            refine lv_goto (tgt := 87) hx hb dX11_frozen_141 (by decide) ?_
            exact ih (y + 1) r3 (by omega) (by omega) H locs ls (hP.sub [0, 1, 2, 3, 4, 5, 6, 7, 8] rfl) (hD.sub [0, 1, 2, 3, 4, 5, 6, 7, 8] (by decide) rfl) hS (lv_sub hl [0, 1, 3, 4, 5] rfl)
        ·
          refine lv_iload hx hb dX11_frozen_117 (lv_at hl 0 rfl) ?_
          refine lv_iload hx hb dX11_frozen_119 (lv_at hl 2 rfl) ?_
          refine lv_icmp_ge (tgt := 138) hx hb dX11_frozen_121 (by decide) (fun hc7 => ?_) (fun hc7 => ?_)
          ·
            refine lv_iinc (v := nI (y + 1)) (lv' := [(6, .int (nI (y + 1))), (7, .int r3), (5, .int fo), (0, .ref h0), (1, .int (nI k)), (4, .int z3)]) hx hb dX11_frozen_138 hl (k := 1) rfl (nI_1 _) (by decide) rfl (fun ls hl => ?_)
            refine lv_goto (tgt := 87) hx hb dX11_frozen_141 (by decide) ?_
            exact ih (y + 1) fo (by omega) (by omega) H locs ls (hP.sub [0, 1, 2, 3, 4, 5, 6, 7, 8] rfl) (hD.sub [0, 1, 2, 3, 4, 5, 6, 7, 8] (by decide) rfl) hS (lv_sub hl [0, 2, 3, 4, 5] rfl)
          ·
            refine lv_goto (tgt := 134) hx hb dX11_frozen_124 (by decide) ?_
            refine lv_iload hx hb dX11_frozen_134 (lv_at hl 0 rfl) ?_
            refine lv_istore (lv' := [(5, .int r3), (7, .int r3), (6, .int (nI y)), (0, .ref h0), (1, .int (nI k)), (4, .int z3)]) hx hb dX11_frozen_136 hl (by decide) rfl (fun ls hl => ?_)
            refine lv_iinc (v := nI (y + 1)) (lv' := [(6, .int (nI (y + 1))), (5, .int r3), (7, .int r3), (0, .ref h0), (1, .int (nI k)), (4, .int z3)]) hx hb dX11_frozen_138 hl (k := 2) rfl (nI_1 _) (by decide) rfl (fun ls hl => ?_)
            refine lv_goto (tgt := 87) hx hb dX11_frozen_141 (by decide) ?_
            exact ih (y + 1) r3 (by omega) (by omega) H locs ls (hP.sub [0, 1, 2, 3, 4, 5, 6, 7, 8] rfl) (hD.sub [0, 1, 2, 3, 4, 5, 6, 7, 8] (by decide) rfl) hS (lv_sub hl [0, 1, 3, 4, 5] rfl)
set_option maxHeartbeats 4000000 in
set_option maxRecDepth 100000 in
theorem c_frozenM (l : Launch) (D : va_G) (sz : Nat) (h0 : Nat) (a : Nat → Nat) (cm : Nat → ClassId) (i : Nat → Int32) (g : Nat → Int64) (fn : Nat → Int64) (fk : Nat → Int32) (fb : Nat → Int32) (fr : Nat → Int32) (ff : Nat → Int32) (fh : Nat → Int32) (fa : Nat → Int64) (fs : Nat → Int64) (z1 : Int32) (y2 : Int64) (z3 : Int32) (hM : MInv fn fk fb ff fh fa fs) : Met l yX11_frozen wp_c_frozenM ({ frames := 9, cells := 0, slots := 0, locals := 230 }) (PcW D [.ref h0, .int z1, .long y2, .int z3] sz [(h0, .inr (11, gM a i g)), (a 3, .inl (cm 3, 85, .inr (.inl fn))), (a 4, .inl (cm 4, 800, .inl fk)), (a 6, .inl (cm 6, 800, .inl fb)), (a 7, .inl (cm 7, 800, .inl fr)), (a 8, .inl (cm 8, 10240, .inl ff)), (a 9, .inl (cm 9, 10240, .inl fh)), (a 10, .inl (cm 10, 10240, .inr (.inl fa))), (a 11, .inl (cm 11, 10240, .inr (.inl fs)))] [(cm 3, .long), (cm 4, .int), (cm 6, .int), (cm 7, .int), (cm 8, .int), (cm 9, .int), (cm 10, .long), (cm 11, .long)]) (va_Ql (fun (r : Int64) (u : (Nat → Int64) × (Nat → Int32) × (Nat → Int32) × (Nat → Int32) × (Nat → Int32) × (Nat → Int32) × (Nat → Int64) × (Nat → Int64) × (Int32) × (Int64) × (Int64) × (Int64) × (Int32) × (Int32) × (Int32)) => (MInv u.1 u.2.1 u.2.2.1 u.2.2.2.2.1 u.2.2.2.2.2.1 u.2.2.2.2.2.2.1 u.2.2.2.2.2.2.2.1) ∧ SameT fn u.1 ∧ ∀ fv, lsR u.1 u.2.1 fv = lsR fn fk fv) (fun (u : (Nat → Int64) × (Nat → Int32) × (Nat → Int32) × (Nat → Int32) × (Nat → Int32) × (Nat → Int32) × (Nat → Int64) × (Nat → Int64) × (Int32) × (Int64) × (Int64) × (Int64) × (Int32) × (Int32) × (Int32)) t => va_P D vwCl [(h0, .inr (11, gM a (upd (upd (upd (upd i 0 u.2.2.2.2.2.2.2.2.1) 15 u.2.2.2.2.2.2.2.2.2.2.2.2.1) 17 u.2.2.2.2.2.2.2.2.2.2.2.2.2.1) 18 u.2.2.2.2.2.2.2.2.2.2.2.2.2.2) (vp_updL (vp_updL (vp_updL (fun _ => 0) 12 u.2.2.2.2.2.2.2.2.2.1) 13 u.2.2.2.2.2.2.2.2.2.2.1) 14 u.2.2.2.2.2.2.2.2.2.2.2.1))), (a 3, .inl (cm 3, 85, .inr (.inl u.1))), (a 4, .inl (cm 4, 800, .inl u.2.1)), (a 6, .inl (cm 6, 800, .inl u.2.2.1)), (a 7, .inl (cm 7, 800, .inl u.2.2.2.1)), (a 8, .inl (cm 8, 10240, .inl u.2.2.2.2.1)), (a 9, .inl (cm 9, 10240, .inl u.2.2.2.2.2.1)), (a 10, .inl (cm 10, 10240, .inr (.inl u.2.2.2.2.2.2.1))), (a 11, .inl (cm 11, 10240, .inr (.inl u.2.2.2.2.2.2.2.1)))] t.heap ∧ va_K D vwCl [(cm 3, .long), (cm 4, .int), (cm 6, .int), (cm 7, .int), (cm 8, .int), (cm 9, .int), (cm 10, .long), (cm 11, .long)] t ∧ va_D (va_A [(h0, .inr (11, gM a i g)), (a 3, .inl (cm 3, 85, .inr (.inl fn))), (a 4, .inl (cm 4, 800, .inl fk)), (a 6, .inl (cm 6, 800, .inl fb)), (a 7, .inl (cm 7, 800, .inl fr)), (a 8, .inl (cm 8, 10240, .inl ff)), (a 9, .inl (cm 9, 10240, .inl fh)), (a 10, .inl (cm 10, 10240, .inr (.inl fa))), (a 11, .inl (cm 11, 10240, .inr (.inl fs)))] sz) [(h0, .inr (11, gM a (upd (upd (upd (upd i 0 u.2.2.2.2.2.2.2.2.1) 15 u.2.2.2.2.2.2.2.2.2.2.2.2.1) 17 u.2.2.2.2.2.2.2.2.2.2.2.2.2.1) 18 u.2.2.2.2.2.2.2.2.2.2.2.2.2.2) (vp_updL (vp_updL (vp_updL (fun _ => 0) 12 u.2.2.2.2.2.2.2.2.2.1) 13 u.2.2.2.2.2.2.2.2.2.2.1) 14 u.2.2.2.2.2.2.2.2.2.2.2.1))), (a 3, .inl (cm 3, 85, .inr (.inl u.1))), (a 4, .inl (cm 4, 800, .inl u.2.1)), (a 6, .inl (cm 6, 800, .inl u.2.2.1)), (a 7, .inl (cm 7, 800, .inl u.2.2.2.1)), (a 8, .inl (cm 8, 10240, .inl u.2.2.2.2.1)), (a 9, .inl (cm 9, 10240, .inl u.2.2.2.2.2.1)), (a 10, .inl (cm 10, 10240, .inr (.inl u.2.2.2.2.2.2.1))), (a 11, .inl (cm 11, 10240, .inr (.inl u.2.2.2.2.2.2.2.1)))]) (va_A [(h0, .inr (11, gM a i g)), (a 3, .inl (cm 3, 85, .inr (.inl fn))), (a 4, .inl (cm 4, 800, .inl fk)), (a 6, .inl (cm 6, 800, .inl fb)), (a 7, .inl (cm 7, 800, .inl fr)), (a 8, .inl (cm 8, 10240, .inl ff)), (a 9, .inl (cm 9, 10240, .inl fh)), (a 10, .inl (cm 10, 10240, .inr (.inl fa))), (a 11, .inl (cm 11, 10240, .inr (.inl fs)))] sz)) 0 0 (va_A [(h0, .inr (11, gM a i g)), (a 3, .inl (cm 3, 85, .inr (.inl fn))), (a 4, .inl (cm 4, 800, .inl fk)), (a 6, .inl (cm 6, 800, .inl fb)), (a 7, .inl (cm 7, 800, .inl fr)), (a 8, .inl (cm 8, 10240, .inl ff)), (a 9, .inl (cm 9, 10240, .inl fh)), (a 10, .inl (cm 10, 10240, .inr (.inl fa))), (a 11, .inl (cm 11, 10240, .inr (.inl fs)))] sz) := by
  refine Met.ofW (cc := cX11_frozen) (maxL := 8) (ret := (some .long)) (by decide) rfl ?_
  intro p e s m args below meth c s₁ B hml hv
  obtain ⟨rfl, hsz, hP, hK, hD0⟩ := hv
  have hx := B.exec
  have hb := B.bytes
  have hr := B.returns
  have hts := atoms_spec (ws := wp_c_frozenM) B.pre
  have hin_X11 : ∀ w ∈ wsX110, w ∈ wp_c_frozenM := fun _ h => (List.mem_cons_of_mem _ (List.mem_append_right _ (List.mem_append_right _ (List.mem_append_right _ (List.mem_append_right _ (List.mem_append_right _ (List.mem_append_right _ (List.mem_append_right _ (List.mem_append_left _ h)))))))))
  have hown : s.vm.findClass RX11 = some m.cls := findClass_of_methodNamed B.named
  have hlocks := B.notSynchronized
  subst hsz
  have hD := hD0.self (sz := s.heap.size)
  generalize hAe : va_A [(h0, .inr (11, gM a i g)), (a 3, .inl (cm 3, 85, .inr (.inl fn))), (a 4, .inl (cm 4, 800, .inl fk)), (a 6, .inl (cm 6, 800, .inl fb)), (a 7, .inl (cm 7, 800, .inl fr)), (a 8, .inl (cm 8, 10240, .inl ff)), (a 9, .inl (cm 9, 10240, .inl fh)), (a 10, .inl (cm 10, 10240, .inr (.inl fa))), (a 11, .inl (cm 11, 10240, .inr (.inl fs)))] s.heap.size = A at hD ⊢
  have hA : ∀ q : Nat, s.heap.size ≤ q → A q := fun q h => by rw [← hAe]; exact Or.inr h
  have hS : va_S A s.heap s.heap [] := va_S.rf
  have hP : va_P D vwCl [(h0, .inr (11, gM a i g)), (a 3, .inl (cm 3, 85, .inr (.inl fn))), (a 4, .inl (cm 4, 800, .inl fk)), (a 6, .inl (cm 6, 800, .inl fb)), (a 7, .inl (cm 7, 800, .inl fr)), (a 8, .inl (cm 8, 10240, .inl ff)), (a 9, .inl (cm 9, 10240, .inl fh)), (a 10, .inl (cm 10, 10240, .inr (.inl fa))), (a 11, .inl (cm 11, 10240, .inr (.inl fs)))] s.heap := hP
  have hl := lv_entry ([.ref h0, .int z1, .long y2, .int z3]) (n := 8) (Nat.le_of_ble_eq_true rfl)
  rw [lg_entry_eq]
  generalize (lg_sl ([.ref h0, .int z1, .long y2, .int z3]) ++ List.replicate (8 - (lg_sl ([.ref h0, .int z1, .long y2, .int z3])).length) Slot.unset).toArray = ls at hl ⊢
  have hl : lv_has ls 8 [(0, .ref h0), (1, .int z1), (2, .long y2), (4, .int z3)] := hl
  have hfa := hM.1
  have hfs := hM.2.1
  refine lv_aload_n hx hb dX11_frozen_0 rfl (lv_at hl 0 rfl) ?_
  refine lv_iconst (v := 0) hx hb dX11_frozen_1 (by decide) ?_
  refine va_put (D := D) (ci := 11) (v := .int 0) (ty := .int) (C := RX11) (T := TX11) (N := 47) hx hb hts hin_X11 tyX11 tyX11_ok nmX11 hown hK hP hD hS 0 rfl rfl 0 (by decide) (hts (.fieldLink RX11 73 "ClashFreeModel" "thrown" "I") (List.mem_of_getElem? (i := 8) rfl)) (fun _ h9 => h9) rfl (by decide +kernel) rfl rfl (Nat.le_of_ble_eq_true rfl) dX11_frozen_2 (fun H locs hP hD hS => ?_)
  have hP : va_P D vwCl [(h0, .inr (11, gM a (upd i 0 0) g)), (a 3, .inl (cm 3, 85, .inr (.inl fn))), (a 4, .inl (cm 4, 800, .inl fk)), (a 6, .inl (cm 6, 800, .inl fb)), (a 7, .inl (cm 7, 800, .inl fr)), (a 8, .inl (cm 8, 10240, .inl ff)), (a 9, .inl (cm 9, 10240, .inl fh)), (a 10, .inl (cm 10, 10240, .inr (.inl fa))), (a 11, .inl (cm 11, 10240, .inr (.inl fs)))] H := hP
  have hD : va_D A [(h0, .inr (11, gM a (upd i 0 0) g)), (a 3, .inl (cm 3, 85, .inr (.inl fn))), (a 4, .inl (cm 4, 800, .inl fk)), (a 6, .inl (cm 6, 800, .inl fb)), (a 7, .inl (cm 7, 800, .inl fr)), (a 8, .inl (cm 8, 10240, .inl ff)), (a 9, .inl (cm 9, 10240, .inl fh)), (a 10, .inl (cm 10, 10240, .inr (.inl fa))), (a 11, .inl (cm 11, 10240, .inr (.inl fs)))] := hD
  refine lv_aload_n hx hb dX11_frozen_5 rfl (lv_at hl 0 rfl) ?_
  refine lv_iload_n hx hb dX11_frozen_6 rfl (lv_at hl 1 rfl) ?_
  have hPc := hP.sub (ws' := [(h0, .inr (11, gM a (upd i 0 0) g)), (a 3, .inl (cm 3, 85, .inr (.inl fn)))]) [0, 1] rfl
  have hKc := hK.sub (tys' := [(cm 3, .long)]) [0] rfl
  have hFc := va_free0 hS hA
  refine va_calli (va_runV (As := [.int z1]) (rest := []) ⟨hx, hb, hml, hown, hts⟩ (c_isThere l D _ h0 a cm (upd i 0 0) g fn z1) (cwV 1 hts g_c_frozenM_c_isThere_222 rfl rfl rfl (by decide +kernel) ⟨(Nat.le_of_ble_eq_true rfl), (Nat.le_of_ble_eq_true rfl)⟩) (PcR_V (q0 := 0) hPc hKc rfl rfl) rfl rfl hl.1 rfl (lv_room (Nat.le_of_ble_eq_true rfl)) dX11_frozen_7 ⟨(Nat.le_of_ble_eq_true rfl), (Nat.le_of_ble_eq_true rfl)⟩) hS (fun q _ h => hFc q h) hFc (fun r1 uu tt H locs htt hvm hw hB hz1 hk1 hS => ?_)
  have hP := va_keep hP hk1
  try dsimp only at hw
  clear hB hz1 hk1 hFc hPc hKc
  rcases hw with ⟨rfl, hA_r1⟩ | ⟨rfl, hA_r1⟩
  ·
    obtain ⟨k, hk, rfl, ht⟩ := hA_r1
    obtain ⟨cn, nb, K, J, hT⟩ := hM.2.2 k hk ht
    have hth := (show there fn (nI k) from ⟨k, hk, rfl, ht⟩)
    obtain ⟨h1, hcn, h4, hn1, hn2, ⟨ka, kb, hka, hkb, h6, h7⟩, hKy, hBk, hHs, ⟨bn, ns, gr, h14, hbn, h15, hs1, hs2, h16, hgr⟩⟩ := id hT
    refine lv_if_eq (tgt := 26) hx hb dX11_frozen_10 (by decide) (fun hc => absurd hc (by decide)) (fun hc => ?_)
    refine lv_iload hx hb dX11_frozen_13 (lv_at hl 3 rfl) ?_
    refine lv_i2l hx hb dX11_frozen_15 rfl ?_
    refine lv_lconst (v := 0) hx hb dX11_frozen_16 (by decide) ?_
    refine lv_ldc2 (v := 4) hx hb hown (hts (.constantLong RX11 160 (4)) (List.mem_of_getElem? (i := 12) rfl)) dX11_frozen_17 ?_
    have hPc := hP.sub (ws' := []) [] rfl
    have hKc := hK.sub (tys' := []) [] rfl
    have hFc := va_free0 hS hA
    refine va_calli (va_runS (As := [.long (Int32.toInt64 z3), .long 0, .long 4]) (rest := []) ⟨hx, hb, hml, hown, hts⟩ (c_isIn l D _ (Int32.toInt64 z3) 0 4) (va_cwS 3 hts g_c_frozenM_c_isIn_83 rfl rfl rfl (by decide +kernel) ⟨(Nat.le_of_ble_eq_true rfl), (Nat.le_of_ble_eq_true rfl)⟩) (PcR_S hPc hKc) rfl rfl hl.1 rfl (lv_room (Nat.le_of_ble_eq_true rfl)) dX11_frozen_20 ⟨(Nat.le_of_ble_eq_true rfl), (Nat.le_of_ble_eq_true rfl)⟩) hS (fun q _ h => hFc q h) hFc (fun r2 uu tt H locs htt hvm hw hB hz1 hk1 hS => ?_)
    have hP := va_keep hP hk1
    try dsimp only at hw
    clear hB hz1 hk1 hFc hPc hKc
    rcases hw with ⟨rfl, hA_r2⟩ | ⟨rfl, hA_r2⟩
    ·
      refine lv_if_ne (tgt := 30) hx hb dX11_frozen_23 (by decide) (fun hc => ?_) (fun hc => absurd hc (by decide))
      refine lv_aload_n hx hb dX11_frozen_30 rfl (lv_at hl 0 rfl) ?_
      refine lv_iload_n hx hb dX11_frozen_31 rfl (lv_at hl 1 rfl) ?_
      refine lv_lload_n hx hb dX11_frozen_32 rfl (lv_at hl 2 rfl) ?_
      have hPc := hP.sub (ws' := [(h0, .inr (11, gM a (upd i 0 0) g)), (a 3, .inl (cm 3, 85, .inr (.inl fn))), (a 4, .inl (cm 4, 800, .inl fk)), (a 6, .inl (cm 6, 800, .inl fb)), (a 7, .inl (cm 7, 800, .inl fr)), (a 8, .inl (cm 8, 10240, .inl ff)), (a 9, .inl (cm 9, 10240, .inl fh)), (a 10, .inl (cm 10, 10240, .inr (.inl fa))), (a 11, .inl (cm 11, 10240, .inr (.inl fs)))]) [0, 1, 2, 3, 4, 5, 6, 7, 8] rfl
      have hKc := hK.sub (tys' := [(cm 3, .long), (cm 4, .int), (cm 6, .int), (cm 7, .int), (cm 8, .int), (cm 9, .int), (cm 10, .long), (cm 11, .long)]) [0, 1, 2, 3, 4, 5, 6, 7] rfl
      have hDc := hD.sub (ws' := [(h0, .inr (11, gM a (upd i 0 0) g)), (a 3, .inl (cm 3, 85, .inr (.inl fn))), (a 4, .inl (cm 4, 800, .inl fk)), (a 6, .inl (cm 6, 800, .inl fb)), (a 7, .inl (cm 7, 800, .inl fr)), (a 8, .inl (cm 8, 10240, .inl ff)), (a 9, .inl (cm 9, 10240, .inl fh)), (a 10, .inl (cm 10, 10240, .inr (.inl fa))), (a 11, .inl (cm 11, 10240, .inr (.inl fs)))]) [0, 1, 2, 3, 4, 5, 6, 7, 8] (by decide) rfl
      have hFc := va_free (wc := [(h0, .inr (11, gM a (upd i 0 0) g)), (a 3, .inl (cm 3, 85, .inr (.inl fn))), (a 4, .inl (cm 4, 800, .inl fk)), (a 6, .inl (cm 6, 800, .inl fb)), (a 7, .inl (cm 7, 800, .inl fr)), (a 8, .inl (cm 8, 10240, .inl ff)), (a 9, .inl (cm 9, 10240, .inl fh)), (a 10, .inl (cm 10, 10240, .inr (.inl fa))), (a 11, .inl (cm 11, 10240, .inr (.inl fs)))]) hD hS hA [0, 1, 2, 3, 4, 5, 6, 7, 8] rfl
      refine va_calli (va_runV (As := [.int (nI k), .long y2]) (rest := []) ⟨hx, hb, hml, hown, hts⟩ (c_freezes l D _ h0 a cm (upd i 0 0) g fn fk fb fr ff fh fa fs k cn K y2 (by first | assumption | omega) h1 (by first | assumption | omega) hKy (by first | assumption | omega) (by first | assumption | omega)) (cwV 2 hts g_c_frozenM_c_freezes_268 rfl rfl rfl (by decide +kernel) ⟨(Nat.le_of_ble_eq_true rfl), (Nat.le_of_ble_eq_true rfl)⟩) (PcW_V (q0 := 0) hPc hKc hDc rfl rfl) rfl rfl hl.1 rfl (lv_room (Nat.le_of_ble_eq_true rfl)) dX11_frozen_33 ⟨(Nat.le_of_ble_eq_true rfl), (Nat.le_of_ble_eq_true rfl)⟩) hS (fun q _ h => hFc q h) hFc (fun r3 uu tt H locs htt hvm hw hB hz1 hk1 hS => ?_)
      obtain ⟨w4, w5, w6, w7, w8, w9, w10, w11, w12, w13, w14, w15, w16, w17⟩ := uu
      obtain ⟨hP1, hK1, hD1⟩ := hB
      rw [htt] at hP1
      have hK1 := va_K.moved hvm.symm hK1
      have hP1 : va_P D vwCl [(h0, .inr (11, gM a (upd (upd (upd (upd i 0 0) 15 w15) 17 w16) 18 w17) (vp_updL (vp_updL (vp_updL (fun _ => 0) 12 w12) 13 w13) 14 w14))), (a 3, .inl (cm 3, 85, .inr (.inl w4))), (a 4, .inl (cm 4, 800, .inl w5)), (a 6, .inl (cm 6, 800, .inl w6)), (a 7, .inl (cm 7, 800, .inl w7)), (a 8, .inl (cm 8, 10240, .inl w8)), (a 9, .inl (cm 9, 10240, .inl w9)), (a 10, .inl (cm 10, 10240, .inr (.inl w10))), (a 11, .inl (cm 11, 10240, .inr (.inl w11)))] H := hP1
      obtain ⟨hP, hD⟩ := va_join (wr := []) (w1 := [(h0, .inr (11, gM a (upd (upd (upd (upd i 0 0) 15 w15) 17 w16) 18 w17) (vp_updL (vp_updL (vp_updL (fun _ => 0) 12 w12) 13 w13) 14 w14))), (a 3, .inl (cm 3, 85, .inr (.inl w4))), (a 4, .inl (cm 4, 800, .inl w5)), (a 6, .inl (cm 6, 800, .inl w6)), (a 7, .inl (cm 7, 800, .inl w7)), (a 8, .inl (cm 8, 10240, .inl w8)), (a 9, .inl (cm 9, 10240, .inl w9)), (a 10, .inl (cm 10, 10240, .inr (.inl w10))), (a 11, .inl (cm 11, 10240, .inr (.inl w11)))]) hP hD [0, 1, 2, 3, 4, 5, 6, 7, 8] [] rfl rfl (by decide) (by decide) hk1 hFc hP1 hD1
      have hP : va_P D vwCl [(h0, .inr (11, gM a (upd (upd (upd (upd i 0 0) 15 w15) 17 w16) 18 w17) (vp_updL (vp_updL (vp_updL (fun _ => 0) 12 w12) 13 w13) 14 w14))), (a 3, .inl (cm 3, 85, .inr (.inl w4))), (a 4, .inl (cm 4, 800, .inl w5)), (a 6, .inl (cm 6, 800, .inl w6)), (a 7, .inl (cm 7, 800, .inl w7)), (a 8, .inl (cm 8, 10240, .inl w8)), (a 9, .inl (cm 9, 10240, .inl w9)), (a 10, .inl (cm 10, 10240, .inr (.inl w10))), (a 11, .inl (cm 11, 10240, .inr (.inl w11)))] H := hP
      have hD : va_D A [(h0, .inr (11, gM a (upd (upd (upd (upd i 0 0) 15 w15) 17 w16) 18 w17) (vp_updL (vp_updL (vp_updL (fun _ => 0) 12 w12) 13 w13) 14 w14))), (a 3, .inl (cm 3, 85, .inr (.inl w4))), (a 4, .inl (cm 4, 800, .inl w5)), (a 6, .inl (cm 6, 800, .inl w6)), (a 7, .inl (cm 7, 800, .inl w7)), (a 8, .inl (cm 8, 10240, .inl w8)), (a 9, .inl (cm 9, 10240, .inl w9)), (a 10, .inl (cm 10, 10240, .inr (.inl w10))), (a 11, .inl (cm 11, 10240, .inr (.inl w11)))] := hD
      try dsimp only at hw
      clear hz1 hk1 hFc hPc hKc hDc
      obtain ⟨fz_r, fz_a, fz_s, fz1, fz2, fz3, fz4, fz5⟩ := hw
      have hMz := hM.fz fz_a fz_s fz1 fz2 fz3 fz4 fz5
      have hKz := (show KyS k w5 cn K from ⟨fun j hj => ⟨(fz2 _ (by omega)).trans (hKy.1 j hj).1, (hKy.1 j hj).2⟩, hKy.2⟩)
      refine lv_if_ne (tgt := 43) hx hb dX11_frozen_36 (by decide) (fun hc18 => ?_) (fun hc18 => ?_)
      ·
        obtain ⟨-, nbz, hz1, hz2, Jz, hBz, hrz⟩ := fz_r.resolve_left hc18
        refine lv_iload hx hb dX11_frozen_43 (lv_at hl 3 rfl) ?_
        refine lv_if_ne (tgt := 55) hx hb dX11_frozen_45 (by decide) (fun hc19 => ?_) (fun hc19 => ?_)
        ·
          refine lv_iload hx hb dX11_frozen_55 (lv_at hl 3 rfl) ?_
          refine lv_iconst (v := 3) hx hb dX11_frozen_57 (by decide) ?_
          refine lv_icmp_ge (tgt := 81) hx hb dX11_frozen_58 (by decide) (fun hc20 => ?_) (fun hc20 => ?_)
          ·
            refine lv_iconst (v := (-1)) hx hb dX11_frozen_81 (by decide) ?_
            refine lv_istore (lv' := [(5, .int (-1)), (0, .ref h0), (1, .int (nI k)), (2, .long y2), (4, .int z3)]) hx hb dX11_frozen_82 hl (by decide) rfl (fun ls hl => ?_)
            refine lv_iconst (v := 0) hx hb dX11_frozen_84 (by decide) ?_
            refine lv_istore (lv' := [(6, .int 0), (5, .int (-1)), (0, .ref h0), (1, .int (nI k)), (2, .long y2), (4, .int z3)]) hx hb dX11_frozen_85 hl (by decide) rfl (fun ls hl => ?_)
            refine lp_frozen l D h0 a cm (upd (upd (upd (upd i 0 0) 15 w15) 17 w16) 18 w17) (vp_updL (vp_updL (vp_updL (fun _ => 0) 12 w12) 13 w13) 14 w14) w4 w5 w6 w7 w8 w9 w10 w11 z3 k cn nbz Jz (hk) (((fz1 _ (by omega)).trans h1)) (hcn) (hz2) (hBz) (hrz) hx hb hml hown hts hA (hK.sub [0, 1, 2, 3, 4, 5, 6, 7] rfl) ?_ (cn + 1) 0 (-1) (Nat.zero_le _) (by omega) _ _ _ (hP.sub [0, 1, 2, 3, 4, 5, 6, 7, 8] rfl) (hD.sub [0, 1, 2, 3, 4, 5, 6, 7, 8] (by decide) rfl) hS (lv_sub hl [0, 1, 2, 3, 5] rfl)
            intro y_21 fo_22 hy1_23 H locs ls hP hD hS hl
            refine lv_iload hx hb dX11_frozen_144 (lv_at hl 0 rfl) ?_
            refine lv_i2l hx hb dX11_frozen_146 rfl ?_
            exact W.lret (v := Int32.toInt64 fo_22) hx hb hr (fun t ht hW => ⟨⟨Int32.toInt64 fo_22, (w4, w5, w6, w7, w8, w9, w10, w11, ((upd (upd (upd (upd i 0 0) 15 w15) 17 w16) 18 w17) 0), ((vp_updL (vp_updL (vp_updL (fun _ => 0) 12 w12) 13 w13) 14 w14) 12), ((vp_updL (vp_updL (vp_updL (fun _ => 0) 12 w12) 13 w13) 14 w14) 13), ((vp_updL (vp_updL (vp_updL (fun _ => 0) 12 w12) 13 w13) 14 w14) 14), ((upd (upd (upd (upd i 0 0) 15 w15) 17 w16) 18 w17) 15), ((upd (upd (upd (upd i 0 0) 15 w15) 17 w16) 18 w17) 17), ((upd (upd (upd (upd i 0 0) 15 w15) 17 w16) 18 w17) 18)), rfl, ⟨hMz, fun j hj => fz1 _ (by omega), fun _ => lsR_fz fz1 fz2⟩, by rw [ht]; exact hP.sub [0, 1, 2, 3, 4, 5, 6, 7, 8] rfl, va_K.moved hW.alike (hK.sub [0, 1, 2, 3, 4, 5, 6, 7] rfl), hD.sub [0, 1, 2, 3, 4, 5, 6, 7, 8] (by decide) rfl⟩, hS.F ht⟩) hS.2.2 dX11_frozen_147
          ·
            refine lv_iload hx hb dX11_frozen_61 (lv_at hl 3 rfl) ?_
            refine lv_iconst (v := 1) hx hb dX11_frozen_63 (by decide) ?_
            refine lv_icmp_ne (tgt := 75) hx hb dX11_frozen_64 (by decide) (fun hc24 => ?_) (fun hc24 => ?_)
            ·
              refine lv_aload_n hx hb dX11_frozen_75 rfl (lv_at hl 0 rfl) ?_
              refine va_get (D := D) (ci := 11) (v := .int w17) (C := RX11) (T := TX11) (N := 47) hx hb hts hin_X11 hown hK hP 0 rfl rfl 18 (by decide) (hts (.fieldLink RX11 262 "ClashFreeModel" "innerPairs" "I") (List.mem_of_getElem? (i := 18) rfl)) (fun _ h9 => h9) rfl dX11_frozen_76 ?_
              refine lv_i2l hx hb dX11_frozen_79 rfl ?_
              exact W.lret (v := Int32.toInt64 w17) hx hb hr (fun t ht hW => ⟨⟨Int32.toInt64 w17, (w4, w5, w6, w7, w8, w9, w10, w11, 0, w12, w13, w14, w15, w16, w17), rfl, ⟨hMz, fun j hj => fz1 _ (by omega), fun _ => lsR_fz fz1 fz2⟩, by rw [ht]; exact hP.sub [0, 1, 2, 3, 4, 5, 6, 7, 8] rfl, va_K.moved hW.alike (hK.sub [0, 1, 2, 3, 4, 5, 6, 7] rfl), hD.sub [0, 1, 2, 3, 4, 5, 6, 7, 8] (by decide) rfl⟩, hS.F ht⟩) hS.2.2 dX11_frozen_80
            ·
              refine lv_aload_n hx hb dX11_frozen_67 rfl (lv_at hl 0 rfl) ?_
              refine va_get (D := D) (ci := 11) (v := .int w16) (C := RX11) (T := TX11) (N := 47) hx hb hts hin_X11 hown hK hP 0 rfl rfl 17 (by decide) (hts (.fieldLink RX11 259 "ClashFreeModel" "outerPairs" "I") (List.mem_of_getElem? (i := 19) rfl)) (fun _ h9 => h9) rfl dX11_frozen_68 ?_
              refine lv_i2l hx hb dX11_frozen_71 rfl ?_
              refine lv_goto (tgt := 80) hx hb dX11_frozen_72 (by decide) ?_
              exact W.lret (v := Int32.toInt64 w16) hx hb hr (fun t ht hW => ⟨⟨Int32.toInt64 w16, (w4, w5, w6, w7, w8, w9, w10, w11, 0, w12, w13, w14, w15, w16, w17), rfl, ⟨hMz, fun j hj => fz1 _ (by omega), fun _ => lsR_fz fz1 fz2⟩, by rw [ht]; exact hP.sub [0, 1, 2, 3, 4, 5, 6, 7, 8] rfl, va_K.moved hW.alike (hK.sub [0, 1, 2, 3, 4, 5, 6, 7] rfl), hD.sub [0, 1, 2, 3, 4, 5, 6, 7, 8] (by decide) rfl⟩, hS.F ht⟩) hS.2.2 dX11_frozen_80
        ·
          refine lv_aload_n hx hb dX11_frozen_48 rfl (lv_at hl 0 rfl) ?_
          refine lv_iconst (v := 4) hx hb dX11_frozen_49 (by decide) ?_
          refine lv_iconst (v := 5) hx hb dX11_frozen_50 (by decide) ?_
          have hPc := hP.sub (ws' := [(h0, .inr (11, gM a (upd (upd (upd (upd i 0 0) 15 w15) 17 w16) 18 w17) (vp_updL (vp_updL (vp_updL (fun _ => 0) 12 w12) 13 w13) 14 w14))), (a 3, .inl (cm 3, 85, .inr (.inl w4)))]) [0, 1] rfl
          have hKc := hK.sub (tys' := [(cm 3, .long)]) [0] rfl
          have hFc := va_free0 hS hA
          refine va_calll (va_runV (As := [.int (nI 4), .int (nI 5)]) (rest := []) ⟨hx, hb, hml, hown, hts⟩ (c_of l D _ h0 a cm (upd (upd (upd (upd i 0 0) 15 w15) 17 w16) 18 w17) (vp_updL (vp_updL (vp_updL (fun _ => 0) 12 w12) 13 w13) 14 w14) w4 4 5 (by first | assumption | omega) (by first | assumption | omega)) (cwV 2 hts g_c_frozenM_c_of_89 rfl rfl rfl (by decide +kernel) ⟨(Nat.le_of_ble_eq_true rfl), (Nat.le_of_ble_eq_true rfl)⟩) (PcR_V (q0 := 0) hPc hKc rfl rfl) rfl rfl hl.1 rfl (lv_room (Nat.le_of_ble_eq_true rfl)) dX11_frozen_51 ⟨(Nat.le_of_ble_eq_true rfl), (Nat.le_of_ble_eq_true rfl)⟩) hS (fun q _ h => hFc q h) hFc (fun r25 uu tt H locs htt hvm hw hB hz1 hk1 hS => ?_)
          have hP := va_keep hP hk1
          try dsimp only at hw
          clear hB hz1 hk1 hFc hPc hKc
          obtain rfl : r25 = w4 (17 * 4 + 5) := hw
          exact W.lret (v := w4 (17 * 4 + 5)) hx hb hr (fun t ht hW => ⟨⟨w4 (17 * 4 + 5), (w4, w5, w6, w7, w8, w9, w10, w11, 0, w12, w13, w14, w15, w16, w17), rfl, ⟨hMz, fun j hj => fz1 _ (by omega), fun _ => lsR_fz fz1 fz2⟩, by rw [ht]; exact hP.sub [0, 1, 2, 3, 4, 5, 6, 7, 8] rfl, va_K.moved hW.alike (hK.sub [0, 1, 2, 3, 4, 5, 6, 7] rfl), hD.sub [0, 1, 2, 3, 4, 5, 6, 7, 8] (by decide) rfl⟩, hS.F ht⟩) hS.2.2 dX11_frozen_54
      ·
        refine lv_ldc2 (v := (-2)) hx hb hown (hts (.constantLong RX11 272 (-2)) (List.mem_of_getElem? (i := 23) rfl)) dX11_frozen_39 ?_
        exact W.lret (v := (-2)) hx hb hr (fun t ht hW => ⟨⟨(-2), (w4, w5, w6, w7, w8, w9, w10, w11, 0, w12, w13, w14, w15, w16, w17), rfl, ⟨hMz, fun j hj => fz1 _ (by omega), fun _ => lsR_fz fz1 fz2⟩, by rw [ht]; exact hP.sub [0, 1, 2, 3, 4, 5, 6, 7, 8] rfl, va_K.moved hW.alike (hK.sub [0, 1, 2, 3, 4, 5, 6, 7] rfl), hD.sub [0, 1, 2, 3, 4, 5, 6, 7, 8] (by decide) rfl⟩, hS.F ht⟩) hS.2.2 dX11_frozen_42
    ·
      refine lv_if_ne (tgt := 30) hx hb dX11_frozen_23 (by decide) (fun hc => absurd (by decide) hc) (fun hc => ?_)
      refine lv_ldc2 (v := (-1000000000000000)) hx hb hown (hts (.constantLong RX11 235 (-1000000000000000)) (List.mem_of_getElem? (i := 24) rfl)) dX11_frozen_26 ?_
      exact W.lret (v := (-1000000000000000)) hx hb hr (fun t ht hW => ⟨⟨(-1000000000000000), (fn, fk, fb, fr, ff, fh, fa, fs, 0, (g 12), (g 13), (g 14), (i 15), (i 17), (i 18)), rfl, ⟨hM, SameT.rfl, fun _ => rfl⟩, by rw [ht]; exact hP.sub [0, 1, 2, 3, 4, 5, 6, 7, 8] rfl, va_K.moved hW.alike (hK.sub [0, 1, 2, 3, 4, 5, 6, 7] rfl), hD.sub [0, 1, 2, 3, 4, 5, 6, 7, 8] (by decide) rfl⟩, hS.F ht⟩) hS.2.2 dX11_frozen_29
  ·
    refine lv_if_eq (tgt := 26) hx hb dX11_frozen_10 (by decide) (fun hc => ?_) (fun hc => absurd (by decide) hc)
    refine lv_ldc2 (v := (-1000000000000000)) hx hb hown (hts (.constantLong RX11 235 (-1000000000000000)) (List.mem_of_getElem? (i := 24) rfl)) dX11_frozen_26 ?_
    exact W.lret (v := (-1000000000000000)) hx hb hr (fun t ht hW => ⟨⟨(-1000000000000000), (fn, fk, fb, fr, ff, fh, fa, fs, 0, (g 12), (g 13), (g 14), (i 15), (i 17), (i 18)), rfl, ⟨hM, SameT.rfl, fun _ => rfl⟩, by rw [ht]; exact hP.sub [0, 1, 2, 3, 4, 5, 6, 7, 8] rfl, va_K.moved hW.alike (hK.sub [0, 1, 2, 3, 4, 5, 6, 7] rfl), hD.sub [0, 1, 2, 3, 4, 5, 6, 7, 8] (by decide) rfl⟩, hS.F ht⟩) hS.2.2 dX11_frozen_29

