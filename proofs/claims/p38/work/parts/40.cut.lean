theorem dX11_cut_0 : decode cX11_cut 0 = .ok (.aload_n 0, 1) := by decide +kernel
theorem dX11_cut_1 : decode cX11_cut 1 = .ok (.iconst 0, 1) := by decide +kernel
theorem dX11_cut_2 : decode cX11_cut 2 = .ok (.putfield 73, 3) := by decide +kernel
theorem dX11_cut_5 : decode cX11_cut 5 = .ok (.aload_n 0, 1) := by decide +kernel
theorem dX11_cut_6 : decode cX11_cut 6 = .ok (.iload_n 1, 1) := by decide +kernel
theorem dX11_cut_7 : decode cX11_cut 7 = .ok (.invokevirtual 222, 3) := by decide +kernel
theorem dX11_cut_10 : decode cX11_cut 10 = .ok (.ifCond .eq 16, 3) := by decide +kernel
theorem dX11_cut_13 : decode cX11_cut 13 = .ok (.aload_n 0, 1) := by decide +kernel
theorem dX11_cut_14 : decode cX11_cut 14 = .ok (.iload_n 2, 1) := by decide +kernel
theorem dX11_cut_15 : decode cX11_cut 15 = .ok (.invokevirtual 222, 3) := by decide +kernel
theorem dX11_cut_18 : decode cX11_cut 18 = .ok (.ifCond .eq 8, 3) := by decide +kernel
theorem dX11_cut_21 : decode cX11_cut 21 = .ok (.iload_n 1, 1) := by decide +kernel
theorem dX11_cut_22 : decode cX11_cut 22 = .ok (.iload_n 2, 1) := by decide +kernel
theorem dX11_cut_23 : decode cX11_cut 23 = .ok (.if_icmp .ne 6, 3) := by decide +kernel
theorem dX11_cut_26 : decode cX11_cut 26 = .ok (.bipush (-2), 2) := by decide +kernel
theorem dX11_cut_28 : decode cX11_cut 28 = .ok (.ireturn, 1) := by decide +kernel
theorem dX11_cut_29 : decode cX11_cut 29 = .ok (.iconst 0, 1) := by decide +kernel
theorem dX11_cut_30 : decode cX11_cut 30 = .ok (.istore 4, 2) := by decide +kernel
theorem dX11_cut_32 : decode cX11_cut 32 = .ok (.iconst 0, 1) := by decide +kernel
theorem dX11_cut_33 : decode cX11_cut 33 = .ok (.istore 5, 2) := by decide +kernel
theorem dX11_cut_35 : decode cX11_cut 35 = .ok (.iload 5, 2) := by decide +kernel
theorem dX11_cut_37 : decode cX11_cut 37 = .ok (.aload_n 0, 1) := by decide +kernel
theorem dX11_cut_38 : decode cX11_cut 38 = .ok (.iload_n 1, 1) := by decide +kernel
theorem dX11_cut_39 : decode cX11_cut 39 = .ok (.invokevirtual 95, 3) := by decide +kernel
theorem dX11_cut_42 : decode cX11_cut 42 = .ok (.if_icmp .ge 61, 3) := by decide +kernel
theorem dX11_cut_45 : decode cX11_cut 45 = .ok (.aload_n 0, 1) := by decide +kernel
theorem dX11_cut_46 : decode cX11_cut 46 = .ok (.getfield 17, 3) := by decide +kernel
theorem dX11_cut_49 : decode cX11_cut 49 = .ok (.sipush 160, 3) := by decide +kernel
theorem dX11_cut_52 : decode cX11_cut 52 = .ok (.iload_n 1, 1) := by decide +kernel
theorem dX11_cut_53 : decode cX11_cut 53 = .ok (.imul, 1) := by decide +kernel
theorem dX11_cut_54 : decode cX11_cut 54 = .ok (.iload 5, 2) := by decide +kernel
theorem dX11_cut_56 : decode cX11_cut 56 = .ok (.iadd, 1) := by decide +kernel
theorem dX11_cut_57 : decode cX11_cut 57 = .ok (.iaload, 1) := by decide +kernel
theorem dX11_cut_58 : decode cX11_cut 58 = .ok (.istore 6, 2) := by decide +kernel
theorem dX11_cut_60 : decode cX11_cut 60 = .ok (.aload_n 0, 1) := by decide +kernel
theorem dX11_cut_61 : decode cX11_cut 61 = .ok (.iload_n 2, 1) := by decide +kernel
theorem dX11_cut_62 : decode cX11_cut 62 = .ok (.iload 6, 2) := by decide +kernel
theorem dX11_cut_64 : decode cX11_cut 64 = .ok (.invokevirtual 202, 3) := by decide +kernel
theorem dX11_cut_67 : decode cX11_cut 67 = .ok (.iload_n 3, 1) := by decide +kernel
theorem dX11_cut_68 : decode cX11_cut 68 = .ok (.if_icmp .ne 29, 3) := by decide +kernel
theorem dX11_cut_71 : decode cX11_cut 71 = .ok (.iload 4, 2) := by decide +kernel
theorem dX11_cut_73 : decode cX11_cut 73 = .ok (.aload_n 0, 1) := by decide +kernel
theorem dX11_cut_74 : decode cX11_cut 74 = .ok (.iload_n 1, 1) := by decide +kernel
theorem dX11_cut_75 : decode cX11_cut 75 = .ok (.iload 6, 2) := by decide +kernel
theorem dX11_cut_77 : decode cX11_cut 77 = .ok (.invokevirtual 239, 3) := by decide +kernel
theorem dX11_cut_80 : decode cX11_cut 80 = .ok (.ifCond .le 7, 3) := by decide +kernel
theorem dX11_cut_83 : decode cX11_cut 83 = .ok (.iconst 1, 1) := by decide +kernel
theorem dX11_cut_84 : decode cX11_cut 84 = .ok (.goto 4, 3) := by decide +kernel
theorem dX11_cut_87 : decode cX11_cut 87 = .ok (.iconst 0, 1) := by decide +kernel
theorem dX11_cut_88 : decode cX11_cut 88 = .ok (.invokestatic 198, 3) := by decide +kernel
theorem dX11_cut_91 : decode cX11_cut 91 = .ok (.iadd, 1) := by decide +kernel
theorem dX11_cut_92 : decode cX11_cut 92 = .ok (.istore 4, 2) := by decide +kernel
theorem dX11_cut_94 : decode cX11_cut 94 = .ok (.goto 6, 3) := by decide +kernel
theorem dX11_cut_97 : decode cX11_cut 97 = .ok (.iinc 5 1, 3) := by decide +kernel
theorem dX11_cut_100 : decode cX11_cut 100 = .ok (.goto (-65), 3) := by decide +kernel
theorem dX11_cut_103 : decode cX11_cut 103 = .ok (.iload 4, 2) := by decide +kernel
theorem dX11_cut_105 : decode cX11_cut 105 = .ok (.ireturn, 1) := by decide +kernel
def own_c_cutM : List Cond := [.methodLink RX11 95 yX11_manyOf, .instanceMethod yX11_manyOf, .selects RX11 yX11_manyOf yX11_manyOf, .initialized RX11, .fieldLink RX11 17 "ClashFreeModel" "keys" "[I", .methodLink RX11 202 yX11_hasKey, .instanceMethod yX11_hasKey, .selects RX11 yX11_hasKey yX11_hasKey, .methodLink RX11 239 yX11_drops, .instanceMethod yX11_drops, .selects RX11 yX11_drops yX11_drops, .methodLink RX11 198 yX11_flag, .static yX11_flag, .fieldLink RX11 73 "ClashFreeModel" "thrown" "I", .methodLink RX11 222 yX11_isThere, .instanceMethod yX11_isThere, .selects RX11 yX11_isThere yX11_isThere]
def wp_c_cutM : List Cond := .code yX11_cut cX11_cut 7 (some .int) :: (own_c_cutM ++ (wp_c_manyOf ++ (wp_c_hasKey ++ (wp_c_drops ++ (wp_c_flag ++ (wp_c_isThere ++ (wsX110 ++ ([] : List Cond))))))))
set_option maxRecDepth 20000 in
theorem inown_c_cutM : ∀ w ∈ own_c_cutM, w ∈ lw_tbl := mem_places [1396, 1398, 40, 115, 1220, 1477, 1479, 56, 1522, 1524, 64, 1502, 1503, 1216, 1466, 1468, 54] (by decide +kernel)
set_option maxRecDepth 20000 in
theorem in_c_cutM : ∀ w ∈ wp_c_cutM, w ∈ lw_tbl := List.forall_mem_cons.mpr ⟨List.mem_of_getElem? (i := 1652) (by decide +kernel), List.forall_mem_append.mpr ⟨inown_c_cutM, List.forall_mem_append.mpr ⟨in_c_manyOf, List.forall_mem_append.mpr ⟨in_c_hasKey, List.forall_mem_append.mpr ⟨in_c_drops, List.forall_mem_append.mpr ⟨in_c_flag, List.forall_mem_append.mpr ⟨in_c_isThere, List.forall_mem_append.mpr ⟨lwb_X11, fun _ h => absurd h List.not_mem_nil⟩⟩⟩⟩⟩⟩⟩⟩
set_option maxRecDepth 20000 in
theorem good_c_cutM : wp_c_cutM.all goodWord = true := by decide +kernel
set_option maxRecDepth 20000 in
theorem g_c_cutM_c_manyOf_95 : GoodIn wp_c_cutM (wsV RX11 95 RX11 yX11_manyOf wp_c_manyOf) := goodIn_sub (List.forall_mem_append.mpr ⟨List.forall_mem_cons.mpr ⟨(List.mem_of_getElem? (i := 1) rfl), List.forall_mem_cons.mpr ⟨(List.mem_of_getElem? (i := 2) rfl), List.forall_mem_cons.mpr ⟨(List.mem_of_getElem? (i := 3) rfl), List.forall_mem_cons.mpr ⟨(List.mem_of_getElem? (i := 4) rfl), fun _ h => absurd h List.not_mem_nil⟩⟩⟩⟩, (fun _ h => (List.mem_cons_of_mem _ (List.mem_append_right _ (List.mem_append_left _ h))))⟩) (by decide +kernel)
set_option maxRecDepth 20000 in
theorem g_c_cutM_c_hasKey_202 : GoodIn wp_c_cutM (wsV RX11 202 RX11 yX11_hasKey wp_c_hasKey) := goodIn_sub (List.forall_mem_append.mpr ⟨List.forall_mem_cons.mpr ⟨(List.mem_of_getElem? (i := 6) rfl), List.forall_mem_cons.mpr ⟨(List.mem_of_getElem? (i := 7) rfl), List.forall_mem_cons.mpr ⟨(List.mem_of_getElem? (i := 8) rfl), List.forall_mem_cons.mpr ⟨(List.mem_of_getElem? (i := 4) rfl), fun _ h => absurd h List.not_mem_nil⟩⟩⟩⟩, (fun _ h => (List.mem_cons_of_mem _ (List.mem_append_right _ (List.mem_append_right _ (List.mem_append_left _ h)))))⟩) (by decide +kernel)
set_option maxRecDepth 20000 in
theorem g_c_cutM_c_drops_239 : GoodIn wp_c_cutM (wsV RX11 239 RX11 yX11_drops wp_c_drops) := goodIn_sub (List.forall_mem_append.mpr ⟨List.forall_mem_cons.mpr ⟨(List.mem_of_getElem? (i := 9) rfl), List.forall_mem_cons.mpr ⟨(List.mem_of_getElem? (i := 10) rfl), List.forall_mem_cons.mpr ⟨(List.mem_of_getElem? (i := 11) rfl), List.forall_mem_cons.mpr ⟨(List.mem_of_getElem? (i := 4) rfl), fun _ h => absurd h List.not_mem_nil⟩⟩⟩⟩, (fun _ h => (List.mem_cons_of_mem _ (List.mem_append_right _ (List.mem_append_right _ (List.mem_append_right _ (List.mem_append_left _ h))))))⟩) (by decide +kernel)
set_option maxRecDepth 20000 in
theorem g_c_cutM_c_flag_198 : GoodIn wp_c_cutM (va_wsS RX11 198 yX11_flag wp_c_flag) := goodIn_sub (List.forall_mem_append.mpr ⟨List.forall_mem_cons.mpr ⟨(List.mem_of_getElem? (i := 12) rfl), List.forall_mem_cons.mpr ⟨(List.mem_of_getElem? (i := 13) rfl), List.forall_mem_cons.mpr ⟨(List.mem_of_getElem? (i := 4) rfl), fun _ h => absurd h List.not_mem_nil⟩⟩⟩, (fun _ h => (List.mem_cons_of_mem _ (List.mem_append_right _ (List.mem_append_right _ (List.mem_append_right _ (List.mem_append_right _ (List.mem_append_left _ h)))))))⟩) (by decide +kernel)
set_option maxRecDepth 20000 in
theorem g_c_cutM_c_isThere_222 : GoodIn wp_c_cutM (wsV RX11 222 RX11 yX11_isThere wp_c_isThere) := goodIn_sub (List.forall_mem_append.mpr ⟨List.forall_mem_cons.mpr ⟨(List.mem_of_getElem? (i := 15) rfl), List.forall_mem_cons.mpr ⟨(List.mem_of_getElem? (i := 16) rfl), List.forall_mem_cons.mpr ⟨(List.mem_of_getElem? (i := 17) rfl), List.forall_mem_cons.mpr ⟨(List.mem_of_getElem? (i := 4) rfl), fun _ h => absurd h List.not_mem_nil⟩⟩⟩⟩, (fun _ h => (List.mem_cons_of_mem _ (List.mem_append_right _ (List.mem_append_right _ (List.mem_append_right _ (List.mem_append_right _ (List.mem_append_right _ (List.mem_append_left _ h))))))))⟩) (by decide +kernel)
set_option maxHeartbeats 4000000 in
set_option maxRecDepth 100000 in
theorem lp_cut (l : Launch) {p : Program} {e : Env} {s : State} {m : MethodId} {args : Array Value} {below : List Frame} {meth : Method} {c : Code} {Q : State → Prop} {A : Nat → Prop} (D : va_G) (h0 : Nat) (a : Nat → Nat) (cm : Nat → ClassId) (i : Nat → Int32) (g : Nat → Int64) (k2 : Nat) (cn2 : Nat) (nb2 : Nat) (K2 : Nat → Nat) (J2 : Nat → Nat) (k : Nat) (z3 : Int32) (fn0 : Nat → Int64) (fk0 : Nat → Int32) (fv0 : Nat → Int32) (hk : k < 4) (hk2 : k2 < 4) (hne : k ≠ k2) (hx : p.tables.exec = Jvm.exec) (hb : c.code = cX11_cut) (hml : c.maxLocals = 7) (hown : s.vm.findClass RX11 = some m.cls) (hts : ∀ w ∈ wp_c_cutM, w.before args s = true) (hA : ∀ q, s.heap.size ≤ q → A q) (hK : va_K D vwCl [(cm 3, .long), (cm 4, .int), (cm 5, .int), (cm 6, .int), (cm 7, .int), (cm 8, .int), (cm 9, .int), (cm 10, .long), (cm 11, .long)] s) (kx103 : ∀ (y : Nat), ∀ (sn : Nat), ∀ (cn : Nat), ∀ (nb : Nat), ∀ (K : Nat → Nat), ∀ (J : Nat → Nat), ∀ (gn : Nat → Int64), ∀ (gk : Nat → Int32), ∀ (gv : Nat → Int32), ∀ (gb : Nat → Int32), ∀ (gr : Nat → Int32), ∀ (gf : Nat → Int32), ∀ (gh : Nat → Int32), ∀ (ga : Nat → Int64), ∀ (gs : Nat → Int64), ∀ (sd : Int64), ∀ (pa : Int64), ∀ (pb : Int64), ∀ (dr : Int32), (y ≤ 2147483646) → (MInv gn gk gb gf gh ga gs) → (TabS k cn nb K J gn gk gb gf gh) → (gn (17 * k + 0) = 1) → (TabS k2 cn2 nb2 K2 J2 gn gk gb gf gh) → (SameT fn0 gn) → ((lsR gn gk gv) = updS (lsR fn0 fk0 fv0) k ((lsR gn gk gv) k)) → (CtI ((lsR fn0 fk0 fv0) k) ((lsR fn0 fk0 fv0) k2) ((lsR gn gk gv) k) z3 y sn) → ((lsR gn gk gv) k = ctF ((lsR fn0 fk0 fv0) k) ((lsR fn0 fk0 fv0) k2) z3) → (sn = ((lsR fn0 fk0 fv0) k).length - (ctF ((lsR fn0 fk0 fv0) k) ((lsR fn0 fk0 fv0) k2) z3).length) → ∀ (H : Heap) (locs : List Loc) (ls : Array Slot), va_P D vwCl [(h0, .inr (11, gM a (upd (upd i 0 0) 15 dr) (vp_updL (vp_updL (vp_updL (fun _ => 0) 12 sd) 13 pa) 14 pb))), (a 3, .inl (cm 3, 85, .inr (.inl gn))), (a 4, .inl (cm 4, 800, .inl gk)), (a 5, .inl (cm 5, 800, .inl gv)), (a 6, .inl (cm 6, 800, .inl gb)), (a 7, .inl (cm 7, 800, .inl gr)), (a 8, .inl (cm 8, 10240, .inl gf)), (a 9, .inl (cm 9, 10240, .inl gh)), (a 10, .inl (cm 10, 10240, .inr (.inl ga))), (a 11, .inl (cm 11, 10240, .inr (.inl gs)))] H → va_D A [(h0, .inr (11, gM a (upd (upd i 0 0) 15 dr) (vp_updL (vp_updL (vp_updL (fun _ => 0) 12 sd) 13 pa) 14 pb))), (a 3, .inl (cm 3, 85, .inr (.inl gn))), (a 4, .inl (cm 4, 800, .inl gk)), (a 5, .inl (cm 5, 800, .inl gv)), (a 6, .inl (cm 6, 800, .inl gb)), (a 7, .inl (cm 7, 800, .inl gr)), (a 8, .inl (cm 8, 10240, .inl gf)), (a 9, .inl (cm 9, 10240, .inl gh)), (a 10, .inl (cm 10, 10240, .inr (.inl ga))), (a 11, .inl (cm 11, 10240, .inr (.inl gs)))] → va_S A s.heap H locs → lv_has ls 7 [(4, .int (nI sn)), (0, .ref h0)] → W p l e ({ frames := 11, cells := 0, slots := 0, locals := 290 }) s m args below meth c H locs 0 0 Q (F0 m 103 ls [])) : ∀ (N : Nat), ∀ (y : Nat), ∀ (sn : Nat), ∀ (cn : Nat), ∀ (nb : Nat), ∀ (K : Nat → Nat), ∀ (J : Nat → Nat), ∀ (gn : Nat → Int64), ∀ (gk : Nat → Int32), ∀ (gv : Nat → Int32), ∀ (gb : Nat → Int32), ∀ (gr : Nat → Int32), ∀ (gf : Nat → Int32), ∀ (gh : Nat → Int32), ∀ (ga : Nat → Int64), ∀ (gs : Nat → Int64), ∀ (sd : Int64), ∀ (pa : Int64), ∀ (pb : Int64), ∀ (dr : Int32), (y ≤ 2147483646) → (MInv gn gk gb gf gh ga gs) → (TabS k cn nb K J gn gk gb gf gh) → (gn (17 * k + 0) = 1) → (TabS k2 cn2 nb2 K2 J2 gn gk gb gf gh) → (SameT fn0 gn) → ((lsR gn gk gv) = updS (lsR fn0 fk0 fv0) k ((lsR gn gk gv) k)) → (CtI ((lsR fn0 fk0 fv0) k) ((lsR fn0 fk0 fv0) k2) ((lsR gn gk gv) k) z3 y sn) → cn - y < N → ∀ (H : Heap) (locs : List Loc) (ls : Array Slot), va_P D vwCl [(h0, .inr (11, gM a (upd (upd i 0 0) 15 dr) (vp_updL (vp_updL (vp_updL (fun _ => 0) 12 sd) 13 pa) 14 pb))), (a 3, .inl (cm 3, 85, .inr (.inl gn))), (a 4, .inl (cm 4, 800, .inl gk)), (a 5, .inl (cm 5, 800, .inl gv)), (a 6, .inl (cm 6, 800, .inl gb)), (a 7, .inl (cm 7, 800, .inl gr)), (a 8, .inl (cm 8, 10240, .inl gf)), (a 9, .inl (cm 9, 10240, .inl gh)), (a 10, .inl (cm 10, 10240, .inr (.inl ga))), (a 11, .inl (cm 11, 10240, .inr (.inl gs)))] H → va_D A [(h0, .inr (11, gM a (upd (upd i 0 0) 15 dr) (vp_updL (vp_updL (vp_updL (fun _ => 0) 12 sd) 13 pa) 14 pb))), (a 3, .inl (cm 3, 85, .inr (.inl gn))), (a 4, .inl (cm 4, 800, .inl gk)), (a 5, .inl (cm 5, 800, .inl gv)), (a 6, .inl (cm 6, 800, .inl gb)), (a 7, .inl (cm 7, 800, .inl gr)), (a 8, .inl (cm 8, 10240, .inl gf)), (a 9, .inl (cm 9, 10240, .inl gh)), (a 10, .inl (cm 10, 10240, .inr (.inl ga))), (a 11, .inl (cm 11, 10240, .inr (.inl gs)))] → va_S A s.heap H locs → lv_has ls 7 [(5, .int (nI y)), (4, .int (nI sn)), (0, .ref h0), (1, .int (nI k)), (2, .int (nI k2)), (3, .int z3)] → W p l e ({ frames := 11, cells := 0, slots := 0, locals := 290 }) s m args below meth c H locs 0 0 Q (F0 m 35 ls []) := by
  have hin_X11 : ∀ w ∈ wsX110, w ∈ wp_c_cutM := fun _ h => (List.mem_cons_of_mem _ (List.mem_append_right _ (List.mem_append_right _ (List.mem_append_right _ (List.mem_append_right _ (List.mem_append_right _ (List.mem_append_right _ (List.mem_append_left _ h))))))))
  intro N
  induction N with
  | zero =>
    intro y sn cn nb K J gn gk gv gb gr gf gh ga gs sd pa pb dr hy2 hM hT hk1 hT2 hSm hL hC hm
    exact absurd hm (Nat.not_lt_zero _)
  | succ N ih =>
    intro y sn cn nb K J gn gk gv gb gr gf gh ga gs sd pa pb dr hy2 hM hT hk1 hT2 hSm hL hC hm H locs ls hP hD hS hl
    have hfa := hM.1
    have hfs := hM.2.1
    have e2 : (lsR fn0 fk0 fv0) k2 = tabl cn2 K2 (fun j => gv (160 * k2 + j)) := (updS_o hL (fun e => hne e.symm)).symm.trans (lsR_T hk2 hT2 gv)
    have e1 : (lsR gn gk gv) k = tabl cn K (fun j => gv (160 * k + j)) := lsR_T hk hT gv
    obtain ⟨h12, hcn2, h42, hn12, hn22, hPr2, hKy2, hRest2⟩ := id hT2
    obtain ⟨h1, hcn, h4, hn1, hn2, hPr, hKy, hRest⟩ := id hT
    refine lv_iload hx hb dX11_cut_35 (lv_at hl 0 rfl) ?_
    refine lv_aload_n hx hb dX11_cut_37 rfl (lv_at hl 2 rfl) ?_
    refine lv_iload_n hx hb dX11_cut_38 rfl (lv_at hl 3 rfl) ?_
    have hPc := hP.sub (ws' := [(h0, .inr (11, gM a (upd (upd i 0 0) 15 dr) (vp_updL (vp_updL (vp_updL (fun _ => 0) 12 sd) 13 pa) 14 pb))), (a 3, .inl (cm 3, 85, .inr (.inl gn)))]) [0, 1] rfl
    have hKc := hK.sub (tys' := [(cm 3, .long)]) [0] rfl
    have hFc := va_free0 hS hA
    refine va_calli (va_runV (As := [.int (nI k)]) (rest := [.int (nI y)]) ⟨hx, hb, hml, hown, hts⟩ (c_manyOf l D _ h0 a cm (upd (upd i 0 0) 15 dr) (vp_updL (vp_updL (vp_updL (fun _ => 0) 12 sd) 13 pa) 14 pb) gn k cn (by first | assumption | omega) h1) (cwV 1 hts g_c_cutM_c_manyOf_95 rfl rfl rfl (by decide +kernel) ⟨(Nat.le_of_ble_eq_true rfl), (Nat.le_of_ble_eq_true rfl)⟩) (PcR_V (q0 := 0) hPc hKc rfl rfl) rfl rfl hl.1 rfl (lv_room (Nat.le_of_ble_eq_true rfl)) dX11_cut_39 ⟨(Nat.le_of_ble_eq_true rfl), (Nat.le_of_ble_eq_true rfl)⟩) hS (fun q _ h => hFc q h) hFc (fun r1 uu tt H locs htt hvm hw hB hz1 hk1 hS => ?_)
    have hP := va_keep hP hk1
    try dsimp only at hw
    clear hB hz1 hk1 hFc hPc hKc
    obtain rfl : r1 = nI cn := hw
    refine lv_icmp_ge (tgt := 103) hx hb dX11_cut_42 (by decide) (fun hc2 => ?_) (fun hc2 => ?_)
    ·
      have hge_y : cn ≤ y := (nI_leI (by omega) (by omega)).mp hc2
      exact kx103 y sn cn nb K J gn gk gv gb gr gf gh ga gs sd pa pb dr (hy2) (hM) (hT) (hk1) (hT2) (hSm) (hL) (hC) ((CtI_e hC (by rw [e1, tabl_len]; exact hge_y)).1) ((CtI_e hC (by rw [e1, tabl_len]; exact hge_y)).2) H locs ls (hP.sub [0, 1, 2, 3, 4, 5, 6, 7, 8, 9] rfl) (hD.sub [0, 1, 2, 3, 4, 5, 6, 7, 8, 9] (by decide) rfl) hS (lv_sub hl [1, 2] rfl)
    ·
      have hlt_y : y < cn := by
        rcases Nat.lt_or_ge y cn with z | z
        · exact z
        · exact absurd (nI_le z (by omega)) hc2
      have hkxx : K y < 2147483647 := (hKy.1 y hlt_y).2
      refine lv_aload_n hx hb dX11_cut_45 rfl (lv_at hl 2 rfl) ?_
      refine va_get (D := D) (ci := 11) (v := .ref (a 4)) (C := RX11) (T := TX11) (N := 47) hx hb hts hin_X11 hown hK hP 0 rfl rfl 4 (by decide) (hts (.fieldLink RX11 17 "ClashFreeModel" "keys" "[I") (List.mem_of_getElem? (i := 5) rfl)) (fun _ h9 => h9) rfl dX11_cut_46 ?_
      refine lv_sipush (v := 160) hx hb dX11_cut_49 (by decide) ?_
      refine lv_iload_n hx hb dX11_cut_52 rfl (lv_at hl 3 rfl) ?_
      refine lv_imul hx hb dX11_cut_53 ?_
      refine lv_iload hx hb dX11_cut_54 (lv_at hl 0 rfl) ?_
      refine lv_iadd hx hb dX11_cut_56 ?_
      refine lv_topi (fun v3 ev3 => ?_)
      obtain rfl : v3 = nI (160 * k + y) := ev3.trans (ix160 k _)
      refine va_iald hx hb hK hP 2 1 rfl rfl (vp_in_nI (by omega) (by decide)) dX11_cut_57 ?_
      refine lv_topi (fun v4 ev4 => ?_)
      obtain rfl : v4 = nI (K y) := ev4.trans (by rw [nI_clamp (by omega)]; exact (hKy.1 _ hlt_y).1)
      refine lv_istore (lv' := [(6, .int (nI (K y))), (5, .int (nI y)), (4, .int (nI sn)), (0, .ref h0), (1, .int (nI k)), (2, .int (nI k2)), (3, .int z3)]) hx hb dX11_cut_58 hl (by decide) rfl (fun ls hl => ?_)
      refine lv_aload_n hx hb dX11_cut_60 rfl (lv_at hl 3 rfl) ?_
      refine lv_iload_n hx hb dX11_cut_61 rfl (lv_at hl 5 rfl) ?_
      refine lv_iload hx hb dX11_cut_62 (lv_at hl 0 rfl) ?_
      have hPc := hP.sub (ws' := [(h0, .inr (11, gM a (upd (upd i 0 0) 15 dr) (vp_updL (vp_updL (vp_updL (fun _ => 0) 12 sd) 13 pa) 14 pb))), (a 3, .inl (cm 3, 85, .inr (.inl gn))), (a 4, .inl (cm 4, 800, .inl gk))]) [0, 1, 2] rfl
      have hKc := hK.sub (tys' := [(cm 3, .long), (cm 4, .int)]) [0, 1] rfl
      have hFc := va_free0 hS hA
      refine va_calli (va_runV (As := [.int (nI k2), .int (nI (K y))]) (rest := []) ⟨hx, hb, hml, hown, hts⟩ (c_hasKey l D _ h0 a cm (upd (upd i 0 0) 15 dr) (vp_updL (vp_updL (vp_updL (fun _ => 0) 12 sd) 13 pa) 14 pb) gn gk k2 cn2 K2 (K y) (by first | assumption | omega) h12 (by first | assumption | omega) hKy2 (by first | assumption | omega)) (cwV 2 hts g_c_cutM_c_hasKey_202 rfl rfl rfl (by decide +kernel) ⟨(Nat.le_of_ble_eq_true rfl), (Nat.le_of_ble_eq_true rfl)⟩) (PcR_V (q0 := 0) hPc hKc rfl rfl) rfl rfl hl.1 rfl (lv_room (Nat.le_of_ble_eq_true rfl)) dX11_cut_64 ⟨(Nat.le_of_ble_eq_true rfl), (Nat.le_of_ble_eq_true rfl)⟩) hS (fun q _ h => hFc q h) hFc (fun r5 uu tt H locs htt hvm hw hB hz1 hk1 hS => ?_)
      have hP := va_keep hP hk1
      try dsimp only at hw
      clear hB hz1 hk1 hFc hPc hKc
      rcases hw with ⟨rfl, hA_r5⟩ | ⟨rfl, hA_r5⟩
      ·
        have hck : ctK ((lsR fn0 fk0 fv0) k2) (K y) = 1 := by
          obtain ⟨q, hq, e⟩ := hA_r5
          rw [e2]
          exact ctK_1 (look_at cn2 K2 _ q _ hKy2.2 hq e)
        refine lv_iload_n hx hb dX11_cut_67 rfl (lv_at hl 6 rfl) ?_
        refine lv_icmp_ne (tgt := 97) hx hb dX11_cut_68 (by decide) (fun hc6 => ?_) (fun hc6 => ?_)
        ·
          refine lv_iinc (v := nI (y + 1)) (lv' := [(5, .int (nI (y + 1))), (6, .int (nI (K y))), (4, .int (nI sn)), (0, .ref h0), (1, .int (nI k)), (2, .int (nI k2)), (3, .int z3)]) hx hb dX11_cut_97 hl (k := 1) rfl (nI_1 _) (by decide) rfl (fun ls hl => ?_)
          refine lv_goto (tgt := 35) hx hb dX11_cut_100 (by decide) ?_
          exact ih (y + 1) sn cn nb K J gn gk gv gb gr gf gh ga gs sd pa pb dr (by omega) (hM) (hT) (hk1) (hT2) (hSm) (hL) (by rw [e1]; exact CtI_k (e1 ▸ hC) hlt_y (fun q => hc6 (hck.symm.trans q))) (by omega) H locs ls (hP.sub [0, 1, 2, 3, 4, 5, 6, 7, 8, 9] rfl) (hD.sub [0, 1, 2, 3, 4, 5, 6, 7, 8, 9] (by decide) rfl) hS (lv_sub hl [0, 2, 3, 4, 5, 6] rfl)
        ·
          refine lv_iload hx hb dX11_cut_71 (lv_at hl 2 rfl) ?_
          refine lv_aload_n hx hb dX11_cut_73 rfl (lv_at hl 3 rfl) ?_
          refine lv_iload_n hx hb dX11_cut_74 rfl (lv_at hl 4 rfl) ?_
          refine lv_iload hx hb dX11_cut_75 (lv_at hl 0 rfl) ?_
          have hPc := hP.sub (ws' := [(h0, .inr (11, gM a (upd (upd i 0 0) 15 dr) (vp_updL (vp_updL (vp_updL (fun _ => 0) 12 sd) 13 pa) 14 pb))), (a 3, .inl (cm 3, 85, .inr (.inl gn))), (a 4, .inl (cm 4, 800, .inl gk)), (a 5, .inl (cm 5, 800, .inl gv)), (a 6, .inl (cm 6, 800, .inl gb)), (a 7, .inl (cm 7, 800, .inl gr)), (a 8, .inl (cm 8, 10240, .inl gf)), (a 9, .inl (cm 9, 10240, .inl gh)), (a 10, .inl (cm 10, 10240, .inr (.inl ga))), (a 11, .inl (cm 11, 10240, .inr (.inl gs)))]) [0, 1, 2, 3, 4, 5, 6, 7, 8, 9] rfl
          have hKc := hK.sub (tys' := [(cm 3, .long), (cm 4, .int), (cm 5, .int), (cm 6, .int), (cm 7, .int), (cm 8, .int), (cm 9, .int), (cm 10, .long), (cm 11, .long)]) [0, 1, 2, 3, 4, 5, 6, 7, 8] rfl
          have hDc := hD.sub (ws' := [(h0, .inr (11, gM a (upd (upd i 0 0) 15 dr) (vp_updL (vp_updL (vp_updL (fun _ => 0) 12 sd) 13 pa) 14 pb))), (a 3, .inl (cm 3, 85, .inr (.inl gn))), (a 4, .inl (cm 4, 800, .inl gk)), (a 5, .inl (cm 5, 800, .inl gv)), (a 6, .inl (cm 6, 800, .inl gb)), (a 7, .inl (cm 7, 800, .inl gr)), (a 8, .inl (cm 8, 10240, .inl gf)), (a 9, .inl (cm 9, 10240, .inl gh)), (a 10, .inl (cm 10, 10240, .inr (.inl ga))), (a 11, .inl (cm 11, 10240, .inr (.inl gs)))]) [0, 1, 2, 3, 4, 5, 6, 7, 8, 9] (by decide) rfl
          have hFc := va_free (wc := [(h0, .inr (11, gM a (upd (upd i 0 0) 15 dr) (vp_updL (vp_updL (vp_updL (fun _ => 0) 12 sd) 13 pa) 14 pb))), (a 3, .inl (cm 3, 85, .inr (.inl gn))), (a 4, .inl (cm 4, 800, .inl gk)), (a 5, .inl (cm 5, 800, .inl gv)), (a 6, .inl (cm 6, 800, .inl gb)), (a 7, .inl (cm 7, 800, .inl gr)), (a 8, .inl (cm 8, 10240, .inl gf)), (a 9, .inl (cm 9, 10240, .inl gh)), (a 10, .inl (cm 10, 10240, .inr (.inl ga))), (a 11, .inl (cm 11, 10240, .inr (.inl gs)))]) hD hS hA [0, 1, 2, 3, 4, 5, 6, 7, 8, 9] rfl
          refine va_calli (va_runV (As := [.int (nI k), .int (nI (K y))]) (rest := [.int (nI sn)]) ⟨hx, hb, hml, hown, hts⟩ (c_drops l D _ h0 a cm (upd (upd i 0 0) 15 dr) (vp_updL (vp_updL (vp_updL (fun _ => 0) 12 sd) 13 pa) 14 pb) gn gk gv gb gr gf gh ga gs k cn nb K J (K y) (by first | assumption | omega) hT (by first | assumption | omega) (by first | assumption | omega) (by first | assumption | omega)) (cwV 2 hts g_c_cutM_c_drops_239 rfl rfl rfl (by decide +kernel) ⟨(Nat.le_of_ble_eq_true rfl), (Nat.le_of_ble_eq_true rfl)⟩) (PcW_V (q0 := 0) hPc hKc hDc rfl rfl) rfl rfl hl.1 rfl (lv_room (Nat.le_of_ble_eq_true rfl)) dX11_cut_77 ⟨(Nat.le_of_ble_eq_true rfl), (Nat.le_of_ble_eq_true rfl)⟩) hS (fun q _ h => hFc q h) hFc (fun r7 uu tt H locs htt hvm hw hB hz1 hk1 hS => ?_)
          obtain ⟨w8, w9, w10, w11, w12, w13, w14, w15, w16, w17, w18, w19, w20⟩ := uu
          obtain ⟨hP1, hK1, hD1⟩ := hB
          rw [htt] at hP1
          have hK1 := va_K.moved hvm.symm hK1
          have hP1 : va_P D vwCl [(h0, .inr (11, gM a (upd (upd i 0 0) 15 w20) (vp_updL (vp_updL (vp_updL (fun _ => 0) 12 w17) 13 w18) 14 w19))), (a 3, .inl (cm 3, 85, .inr (.inl w8))), (a 4, .inl (cm 4, 800, .inl w9)), (a 5, .inl (cm 5, 800, .inl w10)), (a 6, .inl (cm 6, 800, .inl w11)), (a 7, .inl (cm 7, 800, .inl w12)), (a 8, .inl (cm 8, 10240, .inl w13)), (a 9, .inl (cm 9, 10240, .inl w14)), (a 10, .inl (cm 10, 10240, .inr (.inl w15))), (a 11, .inl (cm 11, 10240, .inr (.inl w16)))] H := hP1
          obtain ⟨hP, hD⟩ := va_join (wr := []) (w1 := [(h0, .inr (11, gM a (upd (upd i 0 0) 15 w20) (vp_updL (vp_updL (vp_updL (fun _ => 0) 12 w17) 13 w18) 14 w19))), (a 3, .inl (cm 3, 85, .inr (.inl w8))), (a 4, .inl (cm 4, 800, .inl w9)), (a 5, .inl (cm 5, 800, .inl w10)), (a 6, .inl (cm 6, 800, .inl w11)), (a 7, .inl (cm 7, 800, .inl w12)), (a 8, .inl (cm 8, 10240, .inl w13)), (a 9, .inl (cm 9, 10240, .inl w14)), (a 10, .inl (cm 10, 10240, .inr (.inl w15))), (a 11, .inl (cm 11, 10240, .inr (.inl w16)))]) hP hD [0, 1, 2, 3, 4, 5, 6, 7, 8, 9] [] rfl rfl (by decide) (by decide) hk1 hFc hP1 hD1
          have hP : va_P D vwCl [(h0, .inr (11, gM a (upd (upd i 0 0) 15 w20) (vp_updL (vp_updL (vp_updL (fun _ => 0) 12 w17) 13 w18) 14 w19))), (a 3, .inl (cm 3, 85, .inr (.inl w8))), (a 4, .inl (cm 4, 800, .inl w9)), (a 5, .inl (cm 5, 800, .inl w10)), (a 6, .inl (cm 6, 800, .inl w11)), (a 7, .inl (cm 7, 800, .inl w12)), (a 8, .inl (cm 8, 10240, .inl w13)), (a 9, .inl (cm 9, 10240, .inl w14)), (a 10, .inl (cm 10, 10240, .inr (.inl w15))), (a 11, .inl (cm 11, 10240, .inr (.inl w16)))] H := hP
          have hD : va_D A [(h0, .inr (11, gM a (upd (upd i 0 0) 15 w20) (vp_updL (vp_updL (vp_updL (fun _ => 0) 12 w17) 13 w18) 14 w19))), (a 3, .inl (cm 3, 85, .inr (.inl w8))), (a 4, .inl (cm 4, 800, .inl w9)), (a 5, .inl (cm 5, 800, .inl w10)), (a 6, .inl (cm 6, 800, .inl w11)), (a 7, .inl (cm 7, 800, .inl w12)), (a 8, .inl (cm 8, 10240, .inl w13)), (a 9, .inl (cm 9, 10240, .inl w14)), (a 10, .inl (cm 10, 10240, .inr (.inl w15))), (a 11, .inl (cm 11, 10240, .inr (.inl w16)))] := hD
          try dsimp only at hw
          clear hz1 hk1 hFc hPc hKc hDc
          obtain ⟨⟨hk_21_c, hk_21_n, hk_21_K, hk_21_J, hk_21_T, hk_21_le, hk_21_hit⟩, hk_21_a, hk_21_s, hk_21_r, hk_21_0, hk_21_4, hk_21_6, hk_21_8, hk_21_9, hk_21_L, hk_21_q⟩ := hw
          refine lv_if_le (tgt := 87) hx hb dX11_cut_80 (by decide) (fun hc22 => ?_) (fun hc22 => ?_)
          ·
            refine lv_iconst (v := 0) hx hb dX11_cut_87 (by decide) ?_
            have hPc := hP.sub (ws' := []) [] rfl
            have hKc := hK.sub (tys' := []) [] rfl
            have hFc := va_free0 hS hA
            refine va_calli (va_runS (As := [.int 0]) (rest := [.int (nI sn)]) ⟨hx, hb, hml, hown, hts⟩ (c_flag l D _ 0) (va_cwS 1 hts g_c_cutM_c_flag_198 rfl rfl rfl (by decide +kernel) ⟨(Nat.le_of_ble_eq_true rfl), (Nat.le_of_ble_eq_true rfl)⟩) (PcR_S hPc hKc) rfl rfl hl.1 rfl (lv_room (Nat.le_of_ble_eq_true rfl)) dX11_cut_88 ⟨(Nat.le_of_ble_eq_true rfl), (Nat.le_of_ble_eq_true rfl)⟩) hS (fun q _ h => hFc q h) hFc (fun r23 uu tt H locs htt hvm hw hB hz1 hk1 hS => ?_)
            have hP := va_keep hP hk1
            try dsimp only at hw
            clear hB hz1 hk1 hFc hPc hKc
            obtain rfl : r23 = 0 := hw.trans (by decide)
            refine lv_iadd hx hb dX11_cut_91 ?_
            refine lv_topi (fun v24 ev24 => ?_)
            obtain rfl : v24 = nI sn := ev24.trans (Int32.add_zero _)
            refine lv_istore (lv' := [(4, .int (nI sn)), (6, .int (nI (K y))), (5, .int (nI y)), (0, .ref h0), (1, .int (nI k)), (2, .int (nI k2)), (3, .int z3)]) hx hb dX11_cut_92 hl (by decide) rfl (fun ls hl => ?_)
            refine lv_goto (tgt := 100) hx hb dX11_cut_94 (by decide) ?_
            refine lv_goto (tgt := 35) hx hb dX11_cut_100 (by decide) ?_
            have hcd := hk_21_hit ⟨y, hlt_y, rfl⟩
            have hstp := updS_step hL hk_21_L
            have hff : False := by
              rcases hk_21_q with z | z
              · exact z.2 y hlt_y rfl
              · exact absurd hc22 (Int32.not_le.mpr z.1)
            exact ih y sn hk_21_c hk_21_n hk_21_K hk_21_J w8 w9 w10 w11 w12 w13 w14 w15 w16 w17 w18 w19 w20 (hff.elim) (hff.elim) (hff.elim) (hff.elim) (hff.elim) (hff.elim) (hff.elim) (hff.elim) (by omega) H locs ls (hP.sub [0, 1, 2, 3, 4, 5, 6, 7, 8, 9] rfl) (hD.sub [0, 1, 2, 3, 4, 5, 6, 7, 8, 9] (by decide) rfl) hS (lv_sub hl [2, 0, 3, 4, 5, 6] rfl)
          ·
            refine lv_iconst (v := 1) hx hb dX11_cut_83 (by decide) ?_
            refine lv_goto (tgt := 88) hx hb dX11_cut_84 (by decide) ?_
            have hPc := hP.sub (ws' := []) [] rfl
            have hKc := hK.sub (tys' := []) [] rfl
            have hFc := va_free0 hS hA
            refine va_calli (va_runS (As := [.int 1]) (rest := [.int (nI sn)]) ⟨hx, hb, hml, hown, hts⟩ (c_flag l D _ 1) (va_cwS 1 hts g_c_cutM_c_flag_198 rfl rfl rfl (by decide +kernel) ⟨(Nat.le_of_ble_eq_true rfl), (Nat.le_of_ble_eq_true rfl)⟩) (PcR_S hPc hKc) rfl rfl hl.1 rfl (lv_room (Nat.le_of_ble_eq_true rfl)) dX11_cut_88 ⟨(Nat.le_of_ble_eq_true rfl), (Nat.le_of_ble_eq_true rfl)⟩) hS (fun q _ h => hFc q h) hFc (fun r25 uu tt H locs htt hvm hw hB hz1 hk1 hS => ?_)
            have hP := va_keep hP hk1
            try dsimp only at hw
            clear hB hz1 hk1 hFc hPc hKc
            obtain rfl : r25 = 1 := hw.trans (by decide)
            refine lv_iadd hx hb dX11_cut_91 ?_
            refine lv_topi (fun v26 ev26 => ?_)
            obtain rfl : v26 = nI (sn + 1) := ev26.trans (nI_1 _)
            refine lv_istore (lv' := [(4, .int (nI (sn + 1))), (6, .int (nI (K y))), (5, .int (nI y)), (0, .ref h0), (1, .int (nI k)), (2, .int (nI k2)), (3, .int z3)]) hx hb dX11_cut_92 hl (by decide) rfl (fun ls hl => ?_)
            refine lv_goto (tgt := 100) hx hb dX11_cut_94 (by decide) ?_
            refine lv_goto (tgt := 35) hx hb dX11_cut_100 (by decide) ?_
            have hcd := hk_21_hit ⟨y, hlt_y, rfl⟩
            have hstp := updS_step hL hk_21_L
            exact ih y (sn + 1) hk_21_c hk_21_n hk_21_K hk_21_J w8 w9 w10 w11 w12 w13 w14 w15 w16 w17 w18 w19 w20 (by omega) (hM.upd (k := k) hk_21_a hk_21_s hk_21_r hk_21_4 hk_21_6 hk_21_8 hk_21_9 (fun _ => ⟨_, _, _, _, hk_21_T⟩)) (hk_21_T) (hk_21_0.trans hk1) (hT2.frame (fun x a b => hk_21_r x (by omega)) (fun x a b => hk_21_4 x (by omega)) (fun x a b => hk_21_6 x (by omega)) (fun x a b => hk_21_8 x (by omega)) (fun x a b => hk_21_9 x (by omega))) (hSm.trans (SameT.of (k := k) hk_21_r hk_21_0)) (hstp.1) (by rw [hstp.2, e1]; exact CtI_d hKy.2 (e1 ▸ hC) hlt_y (hck.trans hc6)) (by omega) H locs ls (hP.sub [0, 1, 2, 3, 4, 5, 6, 7, 8, 9] rfl) (hD.sub [0, 1, 2, 3, 4, 5, 6, 7, 8, 9] (by decide) rfl) hS (lv_sub hl [2, 0, 3, 4, 5, 6] rfl)
      ·
        have hck : ctK ((lsR fn0 fk0 fv0) k2) (K y) = 0 := by
          rw [e2]
          exact ctK_0 (look_no _ _ _ _ hA_r5)
        refine lv_iload_n hx hb dX11_cut_67 rfl (lv_at hl 6 rfl) ?_
        refine lv_icmp_ne (tgt := 97) hx hb dX11_cut_68 (by decide) (fun hc27 => ?_) (fun hc27 => ?_)
        ·
          refine lv_iinc (v := nI (y + 1)) (lv' := [(5, .int (nI (y + 1))), (6, .int (nI (K y))), (4, .int (nI sn)), (0, .ref h0), (1, .int (nI k)), (2, .int (nI k2)), (3, .int z3)]) hx hb dX11_cut_97 hl (k := 1) rfl (nI_1 _) (by decide) rfl (fun ls hl => ?_)
          refine lv_goto (tgt := 35) hx hb dX11_cut_100 (by decide) ?_
          exact ih (y + 1) sn cn nb K J gn gk gv gb gr gf gh ga gs sd pa pb dr (by omega) (hM) (hT) (hk1) (hT2) (hSm) (hL) (by rw [e1]; exact CtI_k (e1 ▸ hC) hlt_y (fun q => hc27 (hck.symm.trans q))) (by omega) H locs ls (hP.sub [0, 1, 2, 3, 4, 5, 6, 7, 8, 9] rfl) (hD.sub [0, 1, 2, 3, 4, 5, 6, 7, 8, 9] (by decide) rfl) hS (lv_sub hl [0, 2, 3, 4, 5, 6] rfl)
        ·
          refine lv_iload hx hb dX11_cut_71 (lv_at hl 2 rfl) ?_
          refine lv_aload_n hx hb dX11_cut_73 rfl (lv_at hl 3 rfl) ?_
          refine lv_iload_n hx hb dX11_cut_74 rfl (lv_at hl 4 rfl) ?_
          refine lv_iload hx hb dX11_cut_75 (lv_at hl 0 rfl) ?_
          have hPc := hP.sub (ws' := [(h0, .inr (11, gM a (upd (upd i 0 0) 15 dr) (vp_updL (vp_updL (vp_updL (fun _ => 0) 12 sd) 13 pa) 14 pb))), (a 3, .inl (cm 3, 85, .inr (.inl gn))), (a 4, .inl (cm 4, 800, .inl gk)), (a 5, .inl (cm 5, 800, .inl gv)), (a 6, .inl (cm 6, 800, .inl gb)), (a 7, .inl (cm 7, 800, .inl gr)), (a 8, .inl (cm 8, 10240, .inl gf)), (a 9, .inl (cm 9, 10240, .inl gh)), (a 10, .inl (cm 10, 10240, .inr (.inl ga))), (a 11, .inl (cm 11, 10240, .inr (.inl gs)))]) [0, 1, 2, 3, 4, 5, 6, 7, 8, 9] rfl
          have hKc := hK.sub (tys' := [(cm 3, .long), (cm 4, .int), (cm 5, .int), (cm 6, .int), (cm 7, .int), (cm 8, .int), (cm 9, .int), (cm 10, .long), (cm 11, .long)]) [0, 1, 2, 3, 4, 5, 6, 7, 8] rfl
          have hDc := hD.sub (ws' := [(h0, .inr (11, gM a (upd (upd i 0 0) 15 dr) (vp_updL (vp_updL (vp_updL (fun _ => 0) 12 sd) 13 pa) 14 pb))), (a 3, .inl (cm 3, 85, .inr (.inl gn))), (a 4, .inl (cm 4, 800, .inl gk)), (a 5, .inl (cm 5, 800, .inl gv)), (a 6, .inl (cm 6, 800, .inl gb)), (a 7, .inl (cm 7, 800, .inl gr)), (a 8, .inl (cm 8, 10240, .inl gf)), (a 9, .inl (cm 9, 10240, .inl gh)), (a 10, .inl (cm 10, 10240, .inr (.inl ga))), (a 11, .inl (cm 11, 10240, .inr (.inl gs)))]) [0, 1, 2, 3, 4, 5, 6, 7, 8, 9] (by decide) rfl
          have hFc := va_free (wc := [(h0, .inr (11, gM a (upd (upd i 0 0) 15 dr) (vp_updL (vp_updL (vp_updL (fun _ => 0) 12 sd) 13 pa) 14 pb))), (a 3, .inl (cm 3, 85, .inr (.inl gn))), (a 4, .inl (cm 4, 800, .inl gk)), (a 5, .inl (cm 5, 800, .inl gv)), (a 6, .inl (cm 6, 800, .inl gb)), (a 7, .inl (cm 7, 800, .inl gr)), (a 8, .inl (cm 8, 10240, .inl gf)), (a 9, .inl (cm 9, 10240, .inl gh)), (a 10, .inl (cm 10, 10240, .inr (.inl ga))), (a 11, .inl (cm 11, 10240, .inr (.inl gs)))]) hD hS hA [0, 1, 2, 3, 4, 5, 6, 7, 8, 9] rfl
          refine va_calli (va_runV (As := [.int (nI k), .int (nI (K y))]) (rest := [.int (nI sn)]) ⟨hx, hb, hml, hown, hts⟩ (c_drops l D _ h0 a cm (upd (upd i 0 0) 15 dr) (vp_updL (vp_updL (vp_updL (fun _ => 0) 12 sd) 13 pa) 14 pb) gn gk gv gb gr gf gh ga gs k cn nb K J (K y) (by first | assumption | omega) hT (by first | assumption | omega) (by first | assumption | omega) (by first | assumption | omega)) (cwV 2 hts g_c_cutM_c_drops_239 rfl rfl rfl (by decide +kernel) ⟨(Nat.le_of_ble_eq_true rfl), (Nat.le_of_ble_eq_true rfl)⟩) (PcW_V (q0 := 0) hPc hKc hDc rfl rfl) rfl rfl hl.1 rfl (lv_room (Nat.le_of_ble_eq_true rfl)) dX11_cut_77 ⟨(Nat.le_of_ble_eq_true rfl), (Nat.le_of_ble_eq_true rfl)⟩) hS (fun q _ h => hFc q h) hFc (fun r28 uu tt H locs htt hvm hw hB hz1 hk1 hS => ?_)
          obtain ⟨w29, w30, w31, w32, w33, w34, w35, w36, w37, w38, w39, w40, w41⟩ := uu
          obtain ⟨hP1, hK1, hD1⟩ := hB
          rw [htt] at hP1
          have hK1 := va_K.moved hvm.symm hK1
          have hP1 : va_P D vwCl [(h0, .inr (11, gM a (upd (upd i 0 0) 15 w41) (vp_updL (vp_updL (vp_updL (fun _ => 0) 12 w38) 13 w39) 14 w40))), (a 3, .inl (cm 3, 85, .inr (.inl w29))), (a 4, .inl (cm 4, 800, .inl w30)), (a 5, .inl (cm 5, 800, .inl w31)), (a 6, .inl (cm 6, 800, .inl w32)), (a 7, .inl (cm 7, 800, .inl w33)), (a 8, .inl (cm 8, 10240, .inl w34)), (a 9, .inl (cm 9, 10240, .inl w35)), (a 10, .inl (cm 10, 10240, .inr (.inl w36))), (a 11, .inl (cm 11, 10240, .inr (.inl w37)))] H := hP1
          obtain ⟨hP, hD⟩ := va_join (wr := []) (w1 := [(h0, .inr (11, gM a (upd (upd i 0 0) 15 w41) (vp_updL (vp_updL (vp_updL (fun _ => 0) 12 w38) 13 w39) 14 w40))), (a 3, .inl (cm 3, 85, .inr (.inl w29))), (a 4, .inl (cm 4, 800, .inl w30)), (a 5, .inl (cm 5, 800, .inl w31)), (a 6, .inl (cm 6, 800, .inl w32)), (a 7, .inl (cm 7, 800, .inl w33)), (a 8, .inl (cm 8, 10240, .inl w34)), (a 9, .inl (cm 9, 10240, .inl w35)), (a 10, .inl (cm 10, 10240, .inr (.inl w36))), (a 11, .inl (cm 11, 10240, .inr (.inl w37)))]) hP hD [0, 1, 2, 3, 4, 5, 6, 7, 8, 9] [] rfl rfl (by decide) (by decide) hk1 hFc hP1 hD1
          have hP : va_P D vwCl [(h0, .inr (11, gM a (upd (upd i 0 0) 15 w41) (vp_updL (vp_updL (vp_updL (fun _ => 0) 12 w38) 13 w39) 14 w40))), (a 3, .inl (cm 3, 85, .inr (.inl w29))), (a 4, .inl (cm 4, 800, .inl w30)), (a 5, .inl (cm 5, 800, .inl w31)), (a 6, .inl (cm 6, 800, .inl w32)), (a 7, .inl (cm 7, 800, .inl w33)), (a 8, .inl (cm 8, 10240, .inl w34)), (a 9, .inl (cm 9, 10240, .inl w35)), (a 10, .inl (cm 10, 10240, .inr (.inl w36))), (a 11, .inl (cm 11, 10240, .inr (.inl w37)))] H := hP
          have hD : va_D A [(h0, .inr (11, gM a (upd (upd i 0 0) 15 w41) (vp_updL (vp_updL (vp_updL (fun _ => 0) 12 w38) 13 w39) 14 w40))), (a 3, .inl (cm 3, 85, .inr (.inl w29))), (a 4, .inl (cm 4, 800, .inl w30)), (a 5, .inl (cm 5, 800, .inl w31)), (a 6, .inl (cm 6, 800, .inl w32)), (a 7, .inl (cm 7, 800, .inl w33)), (a 8, .inl (cm 8, 10240, .inl w34)), (a 9, .inl (cm 9, 10240, .inl w35)), (a 10, .inl (cm 10, 10240, .inr (.inl w36))), (a 11, .inl (cm 11, 10240, .inr (.inl w37)))] := hD
          try dsimp only at hw
          clear hz1 hk1 hFc hPc hKc hDc
          obtain ⟨⟨hk_42_c, hk_42_n, hk_42_K, hk_42_J, hk_42_T, hk_42_le, hk_42_hit⟩, hk_42_a, hk_42_s, hk_42_r, hk_42_0, hk_42_4, hk_42_6, hk_42_8, hk_42_9, hk_42_L, hk_42_q⟩ := hw
          refine lv_if_le (tgt := 87) hx hb dX11_cut_80 (by decide) (fun hc43 => ?_) (fun hc43 => ?_)
          ·
            refine lv_iconst (v := 0) hx hb dX11_cut_87 (by decide) ?_
            have hPc := hP.sub (ws' := []) [] rfl
            have hKc := hK.sub (tys' := []) [] rfl
            have hFc := va_free0 hS hA
            refine va_calli (va_runS (As := [.int 0]) (rest := [.int (nI sn)]) ⟨hx, hb, hml, hown, hts⟩ (c_flag l D _ 0) (va_cwS 1 hts g_c_cutM_c_flag_198 rfl rfl rfl (by decide +kernel) ⟨(Nat.le_of_ble_eq_true rfl), (Nat.le_of_ble_eq_true rfl)⟩) (PcR_S hPc hKc) rfl rfl hl.1 rfl (lv_room (Nat.le_of_ble_eq_true rfl)) dX11_cut_88 ⟨(Nat.le_of_ble_eq_true rfl), (Nat.le_of_ble_eq_true rfl)⟩) hS (fun q _ h => hFc q h) hFc (fun r44 uu tt H locs htt hvm hw hB hz1 hk1 hS => ?_)
            have hP := va_keep hP hk1
            try dsimp only at hw
            clear hB hz1 hk1 hFc hPc hKc
            obtain rfl : r44 = 0 := hw.trans (by decide)
            refine lv_iadd hx hb dX11_cut_91 ?_
            refine lv_topi (fun v45 ev45 => ?_)
            obtain rfl : v45 = nI sn := ev45.trans (Int32.add_zero _)
            refine lv_istore (lv' := [(4, .int (nI sn)), (6, .int (nI (K y))), (5, .int (nI y)), (0, .ref h0), (1, .int (nI k)), (2, .int (nI k2)), (3, .int z3)]) hx hb dX11_cut_92 hl (by decide) rfl (fun ls hl => ?_)
            refine lv_goto (tgt := 100) hx hb dX11_cut_94 (by decide) ?_
            refine lv_goto (tgt := 35) hx hb dX11_cut_100 (by decide) ?_
            have hcd := hk_42_hit ⟨y, hlt_y, rfl⟩
            have hstp := updS_step hL hk_42_L
            have hff : False := by
              rcases hk_42_q with z | z
              · exact z.2 y hlt_y rfl
              · exact absurd hc43 (Int32.not_le.mpr z.1)
            exact ih y sn hk_42_c hk_42_n hk_42_K hk_42_J w29 w30 w31 w32 w33 w34 w35 w36 w37 w38 w39 w40 w41 (hff.elim) (hff.elim) (hff.elim) (hff.elim) (hff.elim) (hff.elim) (hff.elim) (hff.elim) (by omega) H locs ls (hP.sub [0, 1, 2, 3, 4, 5, 6, 7, 8, 9] rfl) (hD.sub [0, 1, 2, 3, 4, 5, 6, 7, 8, 9] (by decide) rfl) hS (lv_sub hl [2, 0, 3, 4, 5, 6] rfl)
          ·
            refine lv_iconst (v := 1) hx hb dX11_cut_83 (by decide) ?_
            refine lv_goto (tgt := 88) hx hb dX11_cut_84 (by decide) ?_
            have hPc := hP.sub (ws' := []) [] rfl
            have hKc := hK.sub (tys' := []) [] rfl
            have hFc := va_free0 hS hA
            refine va_calli (va_runS (As := [.int 1]) (rest := [.int (nI sn)]) ⟨hx, hb, hml, hown, hts⟩ (c_flag l D _ 1) (va_cwS 1 hts g_c_cutM_c_flag_198 rfl rfl rfl (by decide +kernel) ⟨(Nat.le_of_ble_eq_true rfl), (Nat.le_of_ble_eq_true rfl)⟩) (PcR_S hPc hKc) rfl rfl hl.1 rfl (lv_room (Nat.le_of_ble_eq_true rfl)) dX11_cut_88 ⟨(Nat.le_of_ble_eq_true rfl), (Nat.le_of_ble_eq_true rfl)⟩) hS (fun q _ h => hFc q h) hFc (fun r46 uu tt H locs htt hvm hw hB hz1 hk1 hS => ?_)
            have hP := va_keep hP hk1
            try dsimp only at hw
            clear hB hz1 hk1 hFc hPc hKc
            obtain rfl : r46 = 1 := hw.trans (by decide)
            refine lv_iadd hx hb dX11_cut_91 ?_
            refine lv_topi (fun v47 ev47 => ?_)
            obtain rfl : v47 = nI (sn + 1) := ev47.trans (nI_1 _)
            refine lv_istore (lv' := [(4, .int (nI (sn + 1))), (6, .int (nI (K y))), (5, .int (nI y)), (0, .ref h0), (1, .int (nI k)), (2, .int (nI k2)), (3, .int z3)]) hx hb dX11_cut_92 hl (by decide) rfl (fun ls hl => ?_)
            refine lv_goto (tgt := 100) hx hb dX11_cut_94 (by decide) ?_
            refine lv_goto (tgt := 35) hx hb dX11_cut_100 (by decide) ?_
            have hcd := hk_42_hit ⟨y, hlt_y, rfl⟩
            have hstp := updS_step hL hk_42_L
            exact ih y (sn + 1) hk_42_c hk_42_n hk_42_K hk_42_J w29 w30 w31 w32 w33 w34 w35 w36 w37 w38 w39 w40 w41 (by omega) (hM.upd (k := k) hk_42_a hk_42_s hk_42_r hk_42_4 hk_42_6 hk_42_8 hk_42_9 (fun _ => ⟨_, _, _, _, hk_42_T⟩)) (hk_42_T) (hk_42_0.trans hk1) (hT2.frame (fun x a b => hk_42_r x (by omega)) (fun x a b => hk_42_4 x (by omega)) (fun x a b => hk_42_6 x (by omega)) (fun x a b => hk_42_8 x (by omega)) (fun x a b => hk_42_9 x (by omega))) (hSm.trans (SameT.of (k := k) hk_42_r hk_42_0)) (hstp.1) (by rw [hstp.2, e1]; exact CtI_d hKy.2 (e1 ▸ hC) hlt_y (hck.trans hc27)) (by omega) H locs ls (hP.sub [0, 1, 2, 3, 4, 5, 6, 7, 8, 9] rfl) (hD.sub [0, 1, 2, 3, 4, 5, 6, 7, 8, 9] (by decide) rfl) hS (lv_sub hl [2, 0, 3, 4, 5, 6] rfl)
set_option maxHeartbeats 4000000 in
set_option maxRecDepth 100000 in
theorem c_cutM (l : Launch) (D : va_G) (sz : Nat) (h0 : Nat) (a : Nat → Nat) (cm : Nat → ClassId) (i : Nat → Int32) (g : Nat → Int64) (fn : Nat → Int64) (fk : Nat → Int32) (fv : Nat → Int32) (fb : Nat → Int32) (fr : Nat → Int32) (ff : Nat → Int32) (fh : Nat → Int32) (fa : Nat → Int64) (fs : Nat → Int64) (z1 : Int32) (z2 : Int32) (z3 : Int32) (hM : MInv fn fk fb ff fh fa fs) : Met l yX11_cut wp_c_cutM ({ frames := 11, cells := 0, slots := 0, locals := 290 }) (PcW D [.ref h0, .int z1, .int z2, .int z3] sz [(h0, .inr (11, gM a i g)), (a 3, .inl (cm 3, 85, .inr (.inl fn))), (a 4, .inl (cm 4, 800, .inl fk)), (a 5, .inl (cm 5, 800, .inl fv)), (a 6, .inl (cm 6, 800, .inl fb)), (a 7, .inl (cm 7, 800, .inl fr)), (a 8, .inl (cm 8, 10240, .inl ff)), (a 9, .inl (cm 9, 10240, .inl fh)), (a 10, .inl (cm 10, 10240, .inr (.inl fa))), (a 11, .inl (cm 11, 10240, .inr (.inl fs)))] [(cm 3, .long), (cm 4, .int), (cm 5, .int), (cm 6, .int), (cm 7, .int), (cm 8, .int), (cm 9, .int), (cm 10, .long), (cm 11, .long)]) (va_Qi (fun (r : Int32) (u : (Nat → Int64) × (Nat → Int32) × (Nat → Int32) × (Nat → Int32) × (Nat → Int32) × (Nat → Int32) × (Nat → Int32) × (Nat → Int64) × (Nat → Int64) × (Int32) × (Int64) × (Int64) × (Int64) × (Int32)) => (MInv u.1 u.2.1 u.2.2.2.1 u.2.2.2.2.2.1 u.2.2.2.2.2.2.1 u.2.2.2.2.2.2.2.1 u.2.2.2.2.2.2.2.2.1) ∧ SameT fn u.1 ∧ lsR u.1 u.2.1 u.2.2.1 = ctS (there fn z1) (there fn z2) (lsR fn fk fv) z1 z2 z3 ∧ r = ctA (there fn z1) (there fn z2) (lsR fn fk fv) z1 z2 z3) (fun (u : (Nat → Int64) × (Nat → Int32) × (Nat → Int32) × (Nat → Int32) × (Nat → Int32) × (Nat → Int32) × (Nat → Int32) × (Nat → Int64) × (Nat → Int64) × (Int32) × (Int64) × (Int64) × (Int64) × (Int32)) t => va_P D vwCl [(h0, .inr (11, gM a (upd (upd i 0 u.2.2.2.2.2.2.2.2.2.1) 15 u.2.2.2.2.2.2.2.2.2.2.2.2.2) (vp_updL (vp_updL (vp_updL (fun _ => 0) 12 u.2.2.2.2.2.2.2.2.2.2.1) 13 u.2.2.2.2.2.2.2.2.2.2.2.1) 14 u.2.2.2.2.2.2.2.2.2.2.2.2.1))), (a 3, .inl (cm 3, 85, .inr (.inl u.1))), (a 4, .inl (cm 4, 800, .inl u.2.1)), (a 5, .inl (cm 5, 800, .inl u.2.2.1)), (a 6, .inl (cm 6, 800, .inl u.2.2.2.1)), (a 7, .inl (cm 7, 800, .inl u.2.2.2.2.1)), (a 8, .inl (cm 8, 10240, .inl u.2.2.2.2.2.1)), (a 9, .inl (cm 9, 10240, .inl u.2.2.2.2.2.2.1)), (a 10, .inl (cm 10, 10240, .inr (.inl u.2.2.2.2.2.2.2.1))), (a 11, .inl (cm 11, 10240, .inr (.inl u.2.2.2.2.2.2.2.2.1)))] t.heap ∧ va_K D vwCl [(cm 3, .long), (cm 4, .int), (cm 5, .int), (cm 6, .int), (cm 7, .int), (cm 8, .int), (cm 9, .int), (cm 10, .long), (cm 11, .long)] t ∧ va_D (va_A [(h0, .inr (11, gM a i g)), (a 3, .inl (cm 3, 85, .inr (.inl fn))), (a 4, .inl (cm 4, 800, .inl fk)), (a 5, .inl (cm 5, 800, .inl fv)), (a 6, .inl (cm 6, 800, .inl fb)), (a 7, .inl (cm 7, 800, .inl fr)), (a 8, .inl (cm 8, 10240, .inl ff)), (a 9, .inl (cm 9, 10240, .inl fh)), (a 10, .inl (cm 10, 10240, .inr (.inl fa))), (a 11, .inl (cm 11, 10240, .inr (.inl fs)))] sz) [(h0, .inr (11, gM a (upd (upd i 0 u.2.2.2.2.2.2.2.2.2.1) 15 u.2.2.2.2.2.2.2.2.2.2.2.2.2) (vp_updL (vp_updL (vp_updL (fun _ => 0) 12 u.2.2.2.2.2.2.2.2.2.2.1) 13 u.2.2.2.2.2.2.2.2.2.2.2.1) 14 u.2.2.2.2.2.2.2.2.2.2.2.2.1))), (a 3, .inl (cm 3, 85, .inr (.inl u.1))), (a 4, .inl (cm 4, 800, .inl u.2.1)), (a 5, .inl (cm 5, 800, .inl u.2.2.1)), (a 6, .inl (cm 6, 800, .inl u.2.2.2.1)), (a 7, .inl (cm 7, 800, .inl u.2.2.2.2.1)), (a 8, .inl (cm 8, 10240, .inl u.2.2.2.2.2.1)), (a 9, .inl (cm 9, 10240, .inl u.2.2.2.2.2.2.1)), (a 10, .inl (cm 10, 10240, .inr (.inl u.2.2.2.2.2.2.2.1))), (a 11, .inl (cm 11, 10240, .inr (.inl u.2.2.2.2.2.2.2.2.1)))]) (va_A [(h0, .inr (11, gM a i g)), (a 3, .inl (cm 3, 85, .inr (.inl fn))), (a 4, .inl (cm 4, 800, .inl fk)), (a 5, .inl (cm 5, 800, .inl fv)), (a 6, .inl (cm 6, 800, .inl fb)), (a 7, .inl (cm 7, 800, .inl fr)), (a 8, .inl (cm 8, 10240, .inl ff)), (a 9, .inl (cm 9, 10240, .inl fh)), (a 10, .inl (cm 10, 10240, .inr (.inl fa))), (a 11, .inl (cm 11, 10240, .inr (.inl fs)))] sz)) 0 0 (va_A [(h0, .inr (11, gM a i g)), (a 3, .inl (cm 3, 85, .inr (.inl fn))), (a 4, .inl (cm 4, 800, .inl fk)), (a 5, .inl (cm 5, 800, .inl fv)), (a 6, .inl (cm 6, 800, .inl fb)), (a 7, .inl (cm 7, 800, .inl fr)), (a 8, .inl (cm 8, 10240, .inl ff)), (a 9, .inl (cm 9, 10240, .inl fh)), (a 10, .inl (cm 10, 10240, .inr (.inl fa))), (a 11, .inl (cm 11, 10240, .inr (.inl fs)))] sz) := by
  refine Met.ofW (cc := cX11_cut) (maxL := 7) (ret := (some .int)) (by decide) rfl ?_
  intro p e s m args below meth c s₁ B hml hv
  obtain ⟨rfl, hsz, hP, hK, hD0⟩ := hv
  have hx := B.exec
  have hb := B.bytes
  have hr := B.returns
  have hts := atoms_spec (ws := wp_c_cutM) B.pre
  have hin_X11 : ∀ w ∈ wsX110, w ∈ wp_c_cutM := fun _ h => (List.mem_cons_of_mem _ (List.mem_append_right _ (List.mem_append_right _ (List.mem_append_right _ (List.mem_append_right _ (List.mem_append_right _ (List.mem_append_right _ (List.mem_append_left _ h))))))))
  have hown : s.vm.findClass RX11 = some m.cls := findClass_of_methodNamed B.named
  have hlocks := B.notSynchronized
  subst hsz
  have hD := hD0.self (sz := s.heap.size)
  generalize hAe : va_A [(h0, .inr (11, gM a i g)), (a 3, .inl (cm 3, 85, .inr (.inl fn))), (a 4, .inl (cm 4, 800, .inl fk)), (a 5, .inl (cm 5, 800, .inl fv)), (a 6, .inl (cm 6, 800, .inl fb)), (a 7, .inl (cm 7, 800, .inl fr)), (a 8, .inl (cm 8, 10240, .inl ff)), (a 9, .inl (cm 9, 10240, .inl fh)), (a 10, .inl (cm 10, 10240, .inr (.inl fa))), (a 11, .inl (cm 11, 10240, .inr (.inl fs)))] s.heap.size = A at hD ⊢
  have hA : ∀ q : Nat, s.heap.size ≤ q → A q := fun q h => by rw [← hAe]; exact Or.inr h
  have hS : va_S A s.heap s.heap [] := va_S.rf
  have hP : va_P D vwCl [(h0, .inr (11, gM a i g)), (a 3, .inl (cm 3, 85, .inr (.inl fn))), (a 4, .inl (cm 4, 800, .inl fk)), (a 5, .inl (cm 5, 800, .inl fv)), (a 6, .inl (cm 6, 800, .inl fb)), (a 7, .inl (cm 7, 800, .inl fr)), (a 8, .inl (cm 8, 10240, .inl ff)), (a 9, .inl (cm 9, 10240, .inl fh)), (a 10, .inl (cm 10, 10240, .inr (.inl fa))), (a 11, .inl (cm 11, 10240, .inr (.inl fs)))] s.heap := hP
  have hl := lv_entry ([.ref h0, .int z1, .int z2, .int z3]) (n := 7) (Nat.le_of_ble_eq_true rfl)
  rw [lg_entry_eq]
  generalize (lg_sl ([.ref h0, .int z1, .int z2, .int z3]) ++ List.replicate (7 - (lg_sl ([.ref h0, .int z1, .int z2, .int z3])).length) Slot.unset).toArray = ls at hl ⊢
  have hl : lv_has ls 7 [(0, .ref h0), (1, .int z1), (2, .int z2), (3, .int z3)] := hl
  refine lv_aload_n hx hb dX11_cut_0 rfl (lv_at hl 0 rfl) ?_
  refine lv_iconst (v := 0) hx hb dX11_cut_1 (by decide) ?_
  refine va_put (D := D) (ci := 11) (v := .int 0) (ty := .int) (C := RX11) (T := TX11) (N := 47) hx hb hts hin_X11 tyX11 tyX11_ok nmX11 hown hK hP hD hS 0 rfl rfl 0 (by decide) (hts (.fieldLink RX11 73 "ClashFreeModel" "thrown" "I") (List.mem_of_getElem? (i := 14) rfl)) (fun _ h9 => h9) rfl (by decide +kernel) rfl rfl (Nat.le_of_ble_eq_true rfl) dX11_cut_2 (fun H locs hP hD hS => ?_)
  have hP : va_P D vwCl [(h0, .inr (11, gM a (upd i 0 0) g)), (a 3, .inl (cm 3, 85, .inr (.inl fn))), (a 4, .inl (cm 4, 800, .inl fk)), (a 5, .inl (cm 5, 800, .inl fv)), (a 6, .inl (cm 6, 800, .inl fb)), (a 7, .inl (cm 7, 800, .inl fr)), (a 8, .inl (cm 8, 10240, .inl ff)), (a 9, .inl (cm 9, 10240, .inl fh)), (a 10, .inl (cm 10, 10240, .inr (.inl fa))), (a 11, .inl (cm 11, 10240, .inr (.inl fs)))] H := hP
  have hD : va_D A [(h0, .inr (11, gM a (upd i 0 0) g)), (a 3, .inl (cm 3, 85, .inr (.inl fn))), (a 4, .inl (cm 4, 800, .inl fk)), (a 5, .inl (cm 5, 800, .inl fv)), (a 6, .inl (cm 6, 800, .inl fb)), (a 7, .inl (cm 7, 800, .inl fr)), (a 8, .inl (cm 8, 10240, .inl ff)), (a 9, .inl (cm 9, 10240, .inl fh)), (a 10, .inl (cm 10, 10240, .inr (.inl fa))), (a 11, .inl (cm 11, 10240, .inr (.inl fs)))] := hD
  refine lv_aload_n hx hb dX11_cut_5 rfl (lv_at hl 0 rfl) ?_
  refine lv_iload_n hx hb dX11_cut_6 rfl (lv_at hl 1 rfl) ?_
  have hPc := hP.sub (ws' := [(h0, .inr (11, gM a (upd i 0 0) g)), (a 3, .inl (cm 3, 85, .inr (.inl fn)))]) [0, 1] rfl
  have hKc := hK.sub (tys' := [(cm 3, .long)]) [0] rfl
  have hFc := va_free0 hS hA
  refine va_calli (va_runV (As := [.int z1]) (rest := []) ⟨hx, hb, hml, hown, hts⟩ (c_isThere l D _ h0 a cm (upd i 0 0) g fn z1) (cwV 1 hts g_c_cutM_c_isThere_222 rfl rfl rfl (by decide +kernel) ⟨(Nat.le_of_ble_eq_true rfl), (Nat.le_of_ble_eq_true rfl)⟩) (PcR_V (q0 := 0) hPc hKc rfl rfl) rfl rfl hl.1 rfl (lv_room (Nat.le_of_ble_eq_true rfl)) dX11_cut_7 ⟨(Nat.le_of_ble_eq_true rfl), (Nat.le_of_ble_eq_true rfl)⟩) hS (fun q _ h => hFc q h) hFc (fun r1 uu tt H locs htt hvm hw hB hz1 hk1 hS => ?_)
  have hP := va_keep hP hk1
  try dsimp only at hw
  clear hB hz1 hk1 hFc hPc hKc
  rcases hw with ⟨rfl, hA_r1⟩ | ⟨rfl, hA_r1⟩
  ·
    obtain ⟨k, hk, rfl, ht⟩ := hA_r1
    obtain ⟨cn, nb, K, J, hT⟩ := hM.2.2 k hk ht
    have hth := (show there fn (nI k) from ⟨k, hk, rfl, ht⟩)
    obtain ⟨h1, hcn, h4, hn1, hn2, ⟨ka, kb, hka, hkb, h6, h7⟩, hKy, hBk, hHs, ⟨bn, ns, gr, h14, hbn, h15, hs1, hs2, h16, hgr⟩⟩ := id hT
    refine lv_if_eq (tgt := 26) hx hb dX11_cut_10 (by decide) (fun hc => absurd hc (by decide)) (fun hc => ?_)
    refine lv_aload_n hx hb dX11_cut_13 rfl (lv_at hl 0 rfl) ?_
    refine lv_iload_n hx hb dX11_cut_14 rfl (lv_at hl 2 rfl) ?_
    have hPc := hP.sub (ws' := [(h0, .inr (11, gM a (upd i 0 0) g)), (a 3, .inl (cm 3, 85, .inr (.inl fn)))]) [0, 1] rfl
    have hKc := hK.sub (tys' := [(cm 3, .long)]) [0] rfl
    have hFc := va_free0 hS hA
    refine va_calli (va_runV (As := [.int z2]) (rest := []) ⟨hx, hb, hml, hown, hts⟩ (c_isThere l D _ h0 a cm (upd i 0 0) g fn z2) (cwV 1 hts g_c_cutM_c_isThere_222 rfl rfl rfl (by decide +kernel) ⟨(Nat.le_of_ble_eq_true rfl), (Nat.le_of_ble_eq_true rfl)⟩) (PcR_V (q0 := 0) hPc hKc rfl rfl) rfl rfl hl.1 rfl (lv_room (Nat.le_of_ble_eq_true rfl)) dX11_cut_15 ⟨(Nat.le_of_ble_eq_true rfl), (Nat.le_of_ble_eq_true rfl)⟩) hS (fun q _ h => hFc q h) hFc (fun r2 uu tt H locs htt hvm hw hB hz1 hk1 hS => ?_)
    have hP := va_keep hP hk1
    try dsimp only at hw
    clear hB hz1 hk1 hFc hPc hKc
    rcases hw with ⟨rfl, hA_r2⟩ | ⟨rfl, hA_r2⟩
    ·
      obtain ⟨k2, hk2, rfl, ht2⟩ := hA_r2
      obtain ⟨cn2, nb2, K2, J2, hT2⟩ := hM.2.2 k2 hk2 ht2
      have hth2 := (show there fn (nI k2) from ⟨k2, hk2, rfl, ht2⟩)
      obtain ⟨h12, hcn2, h42, hn12, hn22, ⟨ka2, kb2, hka2, hkb2, h62, h72⟩, hKy2, hBk2, hHs2, ⟨bn2, ns2, gr2, h142, hbn2, h152, hs12, hs22, h162, hgr2⟩⟩ := id hT2
      refine lv_if_eq (tgt := 26) hx hb dX11_cut_18 (by decide) (fun hc => absurd hc (by decide)) (fun hc => ?_)
      refine lv_iload_n hx hb dX11_cut_21 rfl (lv_at hl 1 rfl) ?_
      refine lv_iload_n hx hb dX11_cut_22 rfl (lv_at hl 2 rfl) ?_
      refine lv_icmp_ne (tgt := 29) hx hb dX11_cut_23 (by decide) (fun hc3 => ?_) (fun hc3 => ?_)
      ·
        have hne : k ≠ k2 := fun e => hc3 (by rw [e])
        refine lv_iconst (v := 0) hx hb dX11_cut_29 (by decide) ?_
        refine lv_istore (lv' := [(4, .int 0), (0, .ref h0), (1, .int (nI k)), (2, .int (nI k2)), (3, .int z3)]) hx hb dX11_cut_30 hl (by decide) rfl (fun ls hl => ?_)
        refine lv_iconst (v := 0) hx hb dX11_cut_32 (by decide) ?_
        refine lv_istore (lv' := [(5, .int 0), (4, .int 0), (0, .ref h0), (1, .int (nI k)), (2, .int (nI k2)), (3, .int z3)]) hx hb dX11_cut_33 hl (by decide) rfl (fun ls hl => ?_)
        refine lp_cut l D h0 a cm (upd i 0 0) g k2 cn2 nb2 K2 J2 k z3 fn fk fv (hk) (hk2) (hne) hx hb hml hown hts hA (hK.sub [0, 1, 2, 3, 4, 5, 6, 7, 8] rfl) ?_ (cn + 1) 0 0 cn nb K J fn fk fv fb fr ff fh fa fs (g 12) (g 13) (g 14) (i 15) (by omega) (hM) (hT) (ht) (hT2) (SameT.rfl) ((updS_id _ _).symm) (CtI_0 _ _ _) (by omega) _ _ _ (hP.sub [0, 1, 2, 3, 4, 5, 6, 7, 8, 9] rfl) (hD.sub [0, 1, 2, 3, 4, 5, 6, 7, 8, 9] (by decide) rfl) hS (lv_sub hl [0, 1, 2, 3, 4, 5] rfl)
        intro y_4 sn_5 cn_6 nb_7 K_8 J_9 gn_10 gk_11 gv_12 gb_13 gr_14 gf_15 gh_16 ga_17 gs_18 sd_19 pa_20 pb_21 dr_22 hy2_23 hM_24 hT_25 hk1_26 hT2_27 hSm_28 hL_29 hC_30 hx31 hx32 H locs ls hP hD hS hl
        refine lv_iload hx hb dX11_cut_103 (lv_at hl 0 rfl) ?_
        have hc12 := ct_1 (t1 := there fn (nI k)) (t2 := there fn (nI k2)) (Ls := lsR fn fk fv) (z3 := z3) hk hk2 hth hth2 hne
        rw [← hx32, ← hx31] at hc12
        exact W.iret (v := nI sn_5) hx hb hr (fun t ht hW => ⟨⟨nI sn_5, (gn_10, gk_11, gv_12, gb_13, gr_14, gf_15, gh_16, ga_17, gs_18, 0, sd_19, pa_20, pb_21, dr_22), rfl, ⟨hM_24, hSm_28, hL_29.trans hc12.1.symm, hc12.2.symm⟩, by rw [ht]; exact hP.sub [0, 1, 2, 3, 4, 5, 6, 7, 8, 9] rfl, va_K.moved hW.alike (hK.sub [0, 1, 2, 3, 4, 5, 6, 7, 8] rfl), hD.sub [0, 1, 2, 3, 4, 5, 6, 7, 8, 9] (by decide) rfl⟩, hS.F ht⟩) hS.2.2 dX11_cut_105
      ·
        refine lv_bipush (v := (-2)) hx hb dX11_cut_26 (by decide) ?_
        have hc12 : ctS (there fn (nI k)) (there fn (nI k2)) (lsR fn fk fv) (nI k) (nI k2) z3 = _ ∧ ctA (there fn (nI k)) (there fn (nI k2)) (lsR fn fk fv) (nI k) (nI k2) z3 = _ := ct_0 (fun q => q.2.2 hc3)
        exact W.iret (v := (-2)) hx hb hr (fun t ht hW => ⟨⟨(-2), (fn, fk, fv, fb, fr, ff, fh, fa, fs, 0, (g 12), (g 13), (g 14), (i 15)), rfl, ⟨hM, SameT.rfl, hc12.1.symm, hc12.2.symm⟩, by rw [ht]; exact hP.sub [0, 1, 2, 3, 4, 5, 6, 7, 8, 9] rfl, va_K.moved hW.alike (hK.sub [0, 1, 2, 3, 4, 5, 6, 7, 8] rfl), hD.sub [0, 1, 2, 3, 4, 5, 6, 7, 8, 9] (by decide) rfl⟩, hS.F ht⟩) hS.2.2 dX11_cut_28
    ·
      refine lv_if_eq (tgt := 26) hx hb dX11_cut_18 (by decide) (fun hc => ?_) (fun hc => absurd (by decide) hc)
      refine lv_bipush (v := (-2)) hx hb dX11_cut_26 (by decide) ?_
      have hc12 : ctS (there fn (nI k)) (there fn z2) (lsR fn fk fv) (nI k) z2 z3 = _ ∧ ctA (there fn (nI k)) (there fn z2) (lsR fn fk fv) (nI k) z2 z3 = _ := ct_0 (fun q => hA_r2 q.2.1)
      exact W.iret (v := (-2)) hx hb hr (fun t ht hW => ⟨⟨(-2), (fn, fk, fv, fb, fr, ff, fh, fa, fs, 0, (g 12), (g 13), (g 14), (i 15)), rfl, ⟨hM, SameT.rfl, hc12.1.symm, hc12.2.symm⟩, by rw [ht]; exact hP.sub [0, 1, 2, 3, 4, 5, 6, 7, 8, 9] rfl, va_K.moved hW.alike (hK.sub [0, 1, 2, 3, 4, 5, 6, 7, 8] rfl), hD.sub [0, 1, 2, 3, 4, 5, 6, 7, 8, 9] (by decide) rfl⟩, hS.F ht⟩) hS.2.2 dX11_cut_28
  ·
    refine lv_if_eq (tgt := 26) hx hb dX11_cut_10 (by decide) (fun hc => ?_) (fun hc => absurd (by decide) hc)
    refine lv_bipush (v := (-2)) hx hb dX11_cut_26 (by decide) ?_
    have hc12 : ctS (there fn z1) (there fn z2) (lsR fn fk fv) z1 z2 z3 = _ ∧ ctA (there fn z1) (there fn z2) (lsR fn fk fv) z1 z2 z3 = _ := ct_0 (fun q => hA_r1 q.1)
    exact W.iret (v := (-2)) hx hb hr (fun t ht hW => ⟨⟨(-2), (fn, fk, fv, fb, fr, ff, fh, fa, fs, 0, (g 12), (g 13), (g 14), (i 15)), rfl, ⟨hM, SameT.rfl, hc12.1.symm, hc12.2.symm⟩, by rw [ht]; exact hP.sub [0, 1, 2, 3, 4, 5, 6, 7, 8, 9] rfl, va_K.moved hW.alike (hK.sub [0, 1, 2, 3, 4, 5, 6, 7, 8] rfl), hD.sub [0, 1, 2, 3, 4, 5, 6, 7, 8, 9] (by decide) rfl⟩, hS.F ht⟩) hS.2.2 dX11_cut_28

