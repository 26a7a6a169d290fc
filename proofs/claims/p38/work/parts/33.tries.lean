theorem dX11_tries_0 : decode cX11_tries 0 = .ok (.aload_n 0, 1) := by decide +kernel
theorem dX11_tries_1 : decode cX11_tries 1 = .ok (.iconst 0, 1) := by decide +kernel
theorem dX11_tries_2 : decode cX11_tries 2 = .ok (.putfield 73, 3) := by decide +kernel
theorem dX11_tries_5 : decode cX11_tries 5 = .ok (.aload_n 0, 1) := by decide +kernel
theorem dX11_tries_6 : decode cX11_tries 6 = .ok (.iload_n 1, 1) := by decide +kernel
theorem dX11_tries_7 : decode cX11_tries 7 = .ok (.iload_n 2, 1) := by decide +kernel
theorem dX11_tries_8 : decode cX11_tries 8 = .ok (.invokevirtual 246, 3) := by decide +kernel
theorem dX11_tries_11 : decode cX11_tries 11 = .ok (.ifCond .eq 35, 3) := by decide +kernel
theorem dX11_tries_14 : decode cX11_tries 14 = .ok (.iload_n 3, 1) := by decide +kernel
theorem dX11_tries_15 : decode cX11_tries 15 = .ok (.i2l, 1) := by decide +kernel
theorem dX11_tries_16 : decode cX11_tries 16 = .ok (.lconst 1, 1) := by decide +kernel
theorem dX11_tries_17 : decode cX11_tries 17 = .ok (.ldc2_w 186, 3) := by decide +kernel
theorem dX11_tries_20 : decode cX11_tries 20 = .ok (.invokestatic 83, 3) := by decide +kernel
theorem dX11_tries_23 : decode cX11_tries 23 = .ok (.ifCond .eq 23, 3) := by decide +kernel
theorem dX11_tries_26 : decode cX11_tries 26 = .ok (.iload 6, 2) := by decide +kernel
theorem dX11_tries_28 : decode cX11_tries 28 = .ok (.i2l, 1) := by decide +kernel
theorem dX11_tries_29 : decode cX11_tries 29 = .ok (.lconst 0, 1) := by decide +kernel
theorem dX11_tries_30 : decode cX11_tries 30 = .ok (.lconst 1, 1) := by decide +kernel
theorem dX11_tries_31 : decode cX11_tries 31 = .ok (.invokestatic 83, 3) := by decide +kernel
theorem dX11_tries_34 : decode cX11_tries 34 = .ok (.ifCond .eq 12, 3) := by decide +kernel
theorem dX11_tries_37 : decode cX11_tries 37 = .ok (.aload_n 0, 1) := by decide +kernel
theorem dX11_tries_38 : decode cX11_tries 38 = .ok (.iload_n 1, 1) := by decide +kernel
theorem dX11_tries_39 : decode cX11_tries 39 = .ok (.iload_n 2, 1) := by decide +kernel
theorem dX11_tries_40 : decode cX11_tries 40 = .ok (.invokevirtual 137, 3) := by decide +kernel
theorem dX11_tries_43 : decode cX11_tries 43 = .ok (.ifCond .ne 6, 3) := by decide +kernel
theorem dX11_tries_46 : decode cX11_tries 46 = .ok (.bipush (-2), 2) := by decide +kernel
theorem dX11_tries_48 : decode cX11_tries 48 = .ok (.ireturn, 1) := by decide +kernel
theorem dX11_tries_49 : decode cX11_tries 49 = .ok (.aload_n 0, 1) := by decide +kernel
theorem dX11_tries_50 : decode cX11_tries 50 = .ok (.lload 4, 2) := by decide +kernel
theorem dX11_tries_52 : decode cX11_tries 52 = .ok (.putfield 105, 3) := by decide +kernel
theorem dX11_tries_55 : decode cX11_tries 55 = .ok (.iconst (-1), 1) := by decide +kernel
theorem dX11_tries_56 : decode cX11_tries 56 = .ok (.istore 7, 2) := by decide +kernel
theorem dX11_tries_58 : decode cX11_tries 58 = .ok (.iconst 0, 1) := by decide +kernel
theorem dX11_tries_59 : decode cX11_tries 59 = .ok (.istore 8, 2) := by decide +kernel
theorem dX11_tries_61 : decode cX11_tries 61 = .ok (.iconst 0, 1) := by decide +kernel
theorem dX11_tries_62 : decode cX11_tries 62 = .ok (.istore 9, 2) := by decide +kernel
theorem dX11_tries_64 : decode cX11_tries 64 = .ok (.iload 9, 2) := by decide +kernel
theorem dX11_tries_66 : decode cX11_tries 66 = .ok (.iload_n 3, 1) := by decide +kernel
theorem dX11_tries_67 : decode cX11_tries 67 = .ok (.if_icmp .ge 51, 3) := by decide +kernel
theorem dX11_tries_70 : decode cX11_tries 70 = .ok (.aload_n 0, 1) := by decide +kernel
theorem dX11_tries_71 : decode cX11_tries 71 = .ok (.invokevirtual 141, 3) := by decide +kernel
theorem dX11_tries_74 : decode cX11_tries 74 = .ok (.aload_n 0, 1) := by decide +kernel
theorem dX11_tries_75 : decode cX11_tries 75 = .ok (.iload_n 1, 1) := by decide +kernel
theorem dX11_tries_76 : decode cX11_tries 76 = .ok (.iload_n 2, 1) := by decide +kernel
theorem dX11_tries_77 : decode cX11_tries 77 = .ok (.aload_n 0, 1) := by decide +kernel
theorem dX11_tries_78 : decode cX11_tries 78 = .ok (.getfield 117, 3) := by decide +kernel
theorem dX11_tries_81 : decode cX11_tries 81 = .ok (.aload_n 0, 1) := by decide +kernel
theorem dX11_tries_82 : decode cX11_tries 82 = .ok (.getfield 120, 3) := by decide +kernel
theorem dX11_tries_85 : decode cX11_tries 85 = .ok (.invokevirtual 144, 3) := by decide +kernel
theorem dX11_tries_88 : decode cX11_tries 88 = .ok (.ifCond .le 6, 3) := by decide +kernel
theorem dX11_tries_91 : decode cX11_tries 91 = .ok (.goto 21, 3) := by decide +kernel
theorem dX11_tries_94 : decode cX11_tries 94 = .ok (.iload 7, 2) := by decide +kernel
theorem dX11_tries_96 : decode cX11_tries 96 = .ok (.iconst (-1), 1) := by decide +kernel
theorem dX11_tries_97 : decode cX11_tries 97 = .ok (.if_icmp .ne 8, 3) := by decide +kernel
theorem dX11_tries_100 : decode cX11_tries 100 = .ok (.iload 9, 2) := by decide +kernel
theorem dX11_tries_102 : decode cX11_tries 102 = .ok (.goto 5, 3) := by decide +kernel
theorem dX11_tries_105 : decode cX11_tries 105 = .ok (.iload 7, 2) := by decide +kernel
theorem dX11_tries_107 : decode cX11_tries 107 = .ok (.istore 7, 2) := by decide +kernel
theorem dX11_tries_109 : decode cX11_tries 109 = .ok (.iinc 8 1, 3) := by decide +kernel
theorem dX11_tries_112 : decode cX11_tries 112 = .ok (.iinc 9 1, 3) := by decide +kernel
theorem dX11_tries_115 : decode cX11_tries 115 = .ok (.goto (-51), 3) := by decide +kernel
theorem dX11_tries_118 : decode cX11_tries 118 = .ok (.iload 6, 2) := by decide +kernel
theorem dX11_tries_120 : decode cX11_tries 120 = .ok (.ifCond .ne 8, 3) := by decide +kernel
theorem dX11_tries_123 : decode cX11_tries 123 = .ok (.iload 7, 2) := by decide +kernel
theorem dX11_tries_125 : decode cX11_tries 125 = .ok (.goto 5, 3) := by decide +kernel
theorem dX11_tries_128 : decode cX11_tries 128 = .ok (.iload 8, 2) := by decide +kernel
theorem dX11_tries_130 : decode cX11_tries 130 = .ok (.ireturn, 1) := by decide +kernel
theorem in1_200 {z : Int32} (h : (1 : Int64) ≤ z.toInt64 ∧ z.toInt64 ≤ 200) : ∃ j, j ≤ 200 ∧ z = nI j := by
  obtain ⟨h1, h2⟩ := h
  rw [show (1 : Int64) = (1 : Int32).toInt64 from by decide, w64_le] at h1
  rw [show (200 : Int64) = (200 : Int32).toInt64 from by decide, w64_le] at h2
  obtain ⟨j, hj, e, -⟩ := inI (n := 200) (by decide) (by decide) h1 h2
  exact ⟨j, hj, e⟩
def own_c_triesM : List Cond := [.methodLink RX11 141 yX11_drawsPair, .instanceMethod yX11_drawsPair, .selects RX11 yX11_drawsPair yX11_drawsPair, .initialized RX11, .fieldLink RX11 117 "ClashFreeModel" "pairA" "J", .fieldLink RX11 120 "ClashFreeModel" "pairB" "J", .methodLink RX11 144 yX11_clashes, .instanceMethod yX11_clashes, .selects RX11 yX11_clashes yX11_clashes, .fieldLink RX11 73 "ClashFreeModel" "thrown" "I", .methodLink RX11 246 yX11_isBucket, .instanceMethod yX11_isBucket, .selects RX11 yX11_isBucket yX11_isBucket, .constantLong RX11 186 (200), .methodLink RX11 83 yX11_isIn, .static yX11_isIn, .methodLink RX11 137 yX11_roomsOf, .instanceMethod yX11_roomsOf, .selects RX11 yX11_roomsOf yX11_roomsOf, .fieldLink RX11 105 "ClashFreeModel" "seed" "J"]
def wp_c_triesM : List Cond := .code yX11_tries cX11_tries 10 (some .int) :: (own_c_triesM ++ (wp_c_drawsPair ++ (wp_c_clashes ++ (wp_c_isBucket ++ (wp_c_isIn ++ (wp_c_roomsOf ++ (wsX110 ++ ([] : List Cond))))))))
set_option maxRecDepth 20000 in
theorem inown_c_triesM : ∀ w ∈ own_c_triesM, w ∈ lw_tbl := mem_places [1410, 1412, 43, 115, 1229, 1230, 1446, 1448, 50, 1216, 1541, 1543, 65, 1383, 1371, 1372, 1437, 1439, 48, 1228] (by decide +kernel)
set_option maxRecDepth 20000 in
theorem in_c_triesM : ∀ w ∈ wp_c_triesM, w ∈ lw_tbl := List.forall_mem_cons.mpr ⟨List.mem_of_getElem? (i := 1599) (by decide +kernel), List.forall_mem_append.mpr ⟨inown_c_triesM, List.forall_mem_append.mpr ⟨in_c_drawsPair, List.forall_mem_append.mpr ⟨in_c_clashes, List.forall_mem_append.mpr ⟨in_c_isBucket, List.forall_mem_append.mpr ⟨in_c_isIn, List.forall_mem_append.mpr ⟨in_c_roomsOf, List.forall_mem_append.mpr ⟨lwb_X11, fun _ h => absurd h List.not_mem_nil⟩⟩⟩⟩⟩⟩⟩⟩
set_option maxRecDepth 20000 in
theorem good_c_triesM : wp_c_triesM.all goodWord = true := by decide +kernel
set_option maxRecDepth 20000 in
theorem g_c_triesM_c_drawsPair_141 : GoodIn wp_c_triesM (wsV RX11 141 RX11 yX11_drawsPair wp_c_drawsPair) := goodIn_sub (List.forall_mem_append.mpr ⟨List.forall_mem_cons.mpr ⟨(List.mem_of_getElem? (i := 1) rfl), List.forall_mem_cons.mpr ⟨(List.mem_of_getElem? (i := 2) rfl), List.forall_mem_cons.mpr ⟨(List.mem_of_getElem? (i := 3) rfl), List.forall_mem_cons.mpr ⟨(List.mem_of_getElem? (i := 4) rfl), fun _ h => absurd h List.not_mem_nil⟩⟩⟩⟩, (fun _ h => (List.mem_cons_of_mem _ (List.mem_append_right _ (List.mem_append_left _ h))))⟩) (by decide +kernel)
set_option maxRecDepth 20000 in
theorem g_c_triesM_c_clashes_144 : GoodIn wp_c_triesM (wsV RX11 144 RX11 yX11_clashes wp_c_clashes) := goodIn_sub (List.forall_mem_append.mpr ⟨List.forall_mem_cons.mpr ⟨(List.mem_of_getElem? (i := 7) rfl), List.forall_mem_cons.mpr ⟨(List.mem_of_getElem? (i := 8) rfl), List.forall_mem_cons.mpr ⟨(List.mem_of_getElem? (i := 9) rfl), List.forall_mem_cons.mpr ⟨(List.mem_of_getElem? (i := 4) rfl), fun _ h => absurd h List.not_mem_nil⟩⟩⟩⟩, (fun _ h => (List.mem_cons_of_mem _ (List.mem_append_right _ (List.mem_append_right _ (List.mem_append_left _ h)))))⟩) (by decide +kernel)
set_option maxRecDepth 20000 in
theorem g_c_triesM_c_isBucket_246 : GoodIn wp_c_triesM (wsV RX11 246 RX11 yX11_isBucket wp_c_isBucket) := goodIn_sub (List.forall_mem_append.mpr ⟨List.forall_mem_cons.mpr ⟨(List.mem_of_getElem? (i := 11) rfl), List.forall_mem_cons.mpr ⟨(List.mem_of_getElem? (i := 12) rfl), List.forall_mem_cons.mpr ⟨(List.mem_of_getElem? (i := 13) rfl), List.forall_mem_cons.mpr ⟨(List.mem_of_getElem? (i := 4) rfl), fun _ h => absurd h List.not_mem_nil⟩⟩⟩⟩, (fun _ h => (List.mem_cons_of_mem _ (List.mem_append_right _ (List.mem_append_right _ (List.mem_append_right _ (List.mem_append_left _ h))))))⟩) (by decide +kernel)
set_option maxRecDepth 20000 in
theorem g_c_triesM_c_isIn_83 : GoodIn wp_c_triesM (va_wsS RX11 83 yX11_isIn wp_c_isIn) := goodIn_sub (List.forall_mem_append.mpr ⟨List.forall_mem_cons.mpr ⟨(List.mem_of_getElem? (i := 15) rfl), List.forall_mem_cons.mpr ⟨(List.mem_of_getElem? (i := 16) rfl), List.forall_mem_cons.mpr ⟨(List.mem_of_getElem? (i := 4) rfl), fun _ h => absurd h List.not_mem_nil⟩⟩⟩, (fun _ h => (List.mem_cons_of_mem _ (List.mem_append_right _ (List.mem_append_right _ (List.mem_append_right _ (List.mem_append_right _ (List.mem_append_left _ h)))))))⟩) (by decide +kernel)
set_option maxRecDepth 20000 in
theorem g_c_triesM_c_roomsOf_137 : GoodIn wp_c_triesM (wsV RX11 137 RX11 yX11_roomsOf wp_c_roomsOf) := goodIn_sub (List.forall_mem_append.mpr ⟨List.forall_mem_cons.mpr ⟨(List.mem_of_getElem? (i := 17) rfl), List.forall_mem_cons.mpr ⟨(List.mem_of_getElem? (i := 18) rfl), List.forall_mem_cons.mpr ⟨(List.mem_of_getElem? (i := 19) rfl), List.forall_mem_cons.mpr ⟨(List.mem_of_getElem? (i := 4) rfl), fun _ h => absurd h List.not_mem_nil⟩⟩⟩⟩, (fun _ h => (List.mem_cons_of_mem _ (List.mem_append_right _ (List.mem_append_right _ (List.mem_append_right _ (List.mem_append_right _ (List.mem_append_right _ (List.mem_append_left _ h))))))))⟩) (by decide +kernel)
set_option maxHeartbeats 4000000 in
set_option maxRecDepth 100000 in
theorem lp_tries (l : Launch) {p : Program} {e : Env} {s : State} {m : MethodId} {args : Array Value} {below : List Frame} {meth : Method} {c : Code} {Q : State → Prop} {A : Nat → Prop} (D : va_G) (h0 : Nat) (a : Nat → Nat) (cm : Nat → ClassId) (i : Nat → Int32) (g : Nat → Int64) (fn : Nat → Int64) (fk : Nat → Int32) (fb : Nat → Int32) (ff : Nat → Int32) (fh : Nat → Int32) (fa : Nat → Int64) (fs : Nat → Int64) (z5 : Int32) (k : Nat) (cn : Nat) (nb : Nat) (K : Nat → Nat) (J : Nat → Nat) (j : Nat) (rf : Nat) (nn : Nat) (hk : k < 4) (hj : j < nb) (hT : TabS k cn nb K J fn fk fb ff fh) (hrf : ff (2048 * k + j) = nI rf) (hr0 : 0 < rf) (hr1 : rf ≤ 320) (hnn : nn ≤ 200) (hx : p.tables.exec = Jvm.exec) (hb : c.code = cX11_tries) (hml : c.maxLocals = 10) (hown : s.vm.findClass RX11 = some m.cls) (hts : ∀ w ∈ wp_c_triesM, w.before args s = true) (hA : ∀ q, s.heap.size ≤ q → A q) (hK : va_K D vwCl [(cm 3, .long), (cm 4, .int), (cm 6, .int), (cm 8, .int), (cm 9, .int), (cm 10, .long), (cm 11, .long)] s) (kx118 : ∀ (x : Nat), ∀ (su : Int32), ∀ (fi : Int32), ∀ (sd : Int64), ∀ (pa : Int64), ∀ (pb : Int64), ∀ (dr : Int32), (x ≤ nn) → ∀ (H : Heap) (locs : List Loc) (ls : Array Slot), va_P D vwCl [(h0, .inr (11, gM a (upd (upd i 0 0) 15 dr) (vp_updL (vp_updL (vp_updL (fun _ => 0) 12 sd) 13 pa) 14 pb))), (a 3, .inl (cm 3, 85, .inr (.inl fn))), (a 4, .inl (cm 4, 800, .inl fk)), (a 6, .inl (cm 6, 800, .inl fb)), (a 8, .inl (cm 8, 10240, .inl ff)), (a 9, .inl (cm 9, 10240, .inl fh)), (a 10, .inl (cm 10, 10240, .inr (.inl fa))), (a 11, .inl (cm 11, 10240, .inr (.inl fs)))] H → va_D A [(h0, .inr (11, gM a (upd (upd i 0 0) 15 dr) (vp_updL (vp_updL (vp_updL (fun _ => 0) 12 sd) 13 pa) 14 pb))), (a 3, .inl (cm 3, 85, .inr (.inl fn))), (a 4, .inl (cm 4, 800, .inl fk)), (a 6, .inl (cm 6, 800, .inl fb)), (a 8, .inl (cm 8, 10240, .inl ff)), (a 9, .inl (cm 9, 10240, .inl fh)), (a 10, .inl (cm 10, 10240, .inr (.inl fa))), (a 11, .inl (cm 11, 10240, .inr (.inl fs)))] → va_S A s.heap H locs → lv_has ls 10 [(8, .int su), (7, .int fi), (0, .ref h0), (6, .int z5)] → W p l e ({ frames := 6, cells := 0, slots := 0, locals := 160 }) s m args below meth c H locs 0 0 Q (F0 m 118 ls [])) : ∀ (N : Nat), ∀ (x : Nat), ∀ (su : Int32), ∀ (fi : Int32), ∀ (sd : Int64), ∀ (pa : Int64), ∀ (pb : Int64), ∀ (dr : Int32), (x ≤ nn) → nn - x < N → ∀ (H : Heap) (locs : List Loc) (ls : Array Slot), va_P D vwCl [(h0, .inr (11, gM a (upd (upd i 0 0) 15 dr) (vp_updL (vp_updL (vp_updL (fun _ => 0) 12 sd) 13 pa) 14 pb))), (a 3, .inl (cm 3, 85, .inr (.inl fn))), (a 4, .inl (cm 4, 800, .inl fk)), (a 6, .inl (cm 6, 800, .inl fb)), (a 8, .inl (cm 8, 10240, .inl ff)), (a 9, .inl (cm 9, 10240, .inl fh)), (a 10, .inl (cm 10, 10240, .inr (.inl fa))), (a 11, .inl (cm 11, 10240, .inr (.inl fs)))] H → va_D A [(h0, .inr (11, gM a (upd (upd i 0 0) 15 dr) (vp_updL (vp_updL (vp_updL (fun _ => 0) 12 sd) 13 pa) 14 pb))), (a 3, .inl (cm 3, 85, .inr (.inl fn))), (a 4, .inl (cm 4, 800, .inl fk)), (a 6, .inl (cm 6, 800, .inl fb)), (a 8, .inl (cm 8, 10240, .inl ff)), (a 9, .inl (cm 9, 10240, .inl fh)), (a 10, .inl (cm 10, 10240, .inr (.inl fa))), (a 11, .inl (cm 11, 10240, .inr (.inl fs)))] → va_S A s.heap H locs → lv_has ls 10 [(9, .int (nI x)), (8, .int su), (7, .int fi), (0, .ref h0), (1, .int (nI k)), (2, .int (nI j)), (3, .int (nI nn)), (6, .int z5)] → W p l e ({ frames := 6, cells := 0, slots := 0, locals := 160 }) s m args below meth c H locs 0 0 Q (F0 m 64 ls []) := by
  have hin_X11 : ∀ w ∈ wsX110, w ∈ wp_c_triesM := fun _ h => (List.mem_cons_of_mem _ (List.mem_append_right _ (List.mem_append_right _ (List.mem_append_right _ (List.mem_append_right _ (List.mem_append_right _ (List.mem_append_right _ (List.mem_append_left _ h))))))))
  intro N
  induction N with
  | zero =>
    intro x su fi sd pa pb dr hx2 hm
    exact absurd hm (Nat.not_lt_zero _)
  | succ N ih =>
    intro x su fi sd pa pb dr hx2 hm H locs ls hP hD hS hl
    obtain ⟨h1, hcn, h4, hn1, hn2, ⟨ka, kb, hka, hkb, h6, h7⟩, hKy, hBk, hHs, ⟨bn, ns, gr, h14, hbn, h15, hs1, hs2, h16, hgr⟩⟩ := id hT
    have hBk2 : BkS k fb cn 2048 J := fun y a => ⟨(hBk y a).1, by have := (hBk y a).2; omega⟩
    refine lv_iload hx hb dX11_tries_64 (lv_at hl 0 rfl) ?_
    refine lv_iload_n hx hb dX11_tries_66 rfl (lv_at hl 6 rfl) ?_
    refine lv_icmp_ge (tgt := 118) hx hb dX11_tries_67 (by decide) (fun hc1 => ?_) (fun hc1 => ?_)
    ·
      exact kx118 x su fi sd pa pb dr (hx2) H locs ls (hP.sub [0, 1, 2, 3, 4, 5, 6, 7] rfl) (hD.sub [0, 1, 2, 3, 4, 5, 6, 7] (by decide) rfl) hS (lv_sub hl [1, 2, 3, 7] rfl)
    ·
      have hlt_x : x < nn := by
        rcases Nat.lt_or_ge x nn with z | z
        · exact z
        · exact absurd (nI_le z (by omega)) hc1
      refine lv_aload_n hx hb dX11_tries_70 rfl (lv_at hl 3 rfl) ?_
      have hPc := hP.sub (ws' := [(h0, .inr (11, gM a (upd (upd i 0 0) 15 dr) (vp_updL (vp_updL (vp_updL (fun _ => 0) 12 sd) 13 pa) 14 pb)))]) [0] rfl
      have hKc := hK.sub (tys' := []) [] rfl
      have hDc := hD.sub (ws' := [(h0, .inr (11, gM a (upd (upd i 0 0) 15 dr) (vp_updL (vp_updL (vp_updL (fun _ => 0) 12 sd) 13 pa) 14 pb)))]) [0] (by decide) rfl
      have hFc := va_free (wc := [(h0, .inr (11, gM a (upd (upd i 0 0) 15 dr) (vp_updL (vp_updL (vp_updL (fun _ => 0) 12 sd) 13 pa) 14 pb)))]) hD hS hA [0] rfl
      refine va_callv (va_runV (As := []) (rest := []) ⟨hx, hb, hml, hown, hts⟩ (c_drawsPair l D _ h0 a cm (upd (upd i 0 0) 15 dr) (vp_updL (vp_updL (vp_updL (fun _ => 0) 12 sd) 13 pa) 14 pb)) (cwV 0 hts g_c_triesM_c_drawsPair_141 rfl rfl rfl (by decide +kernel) ⟨(Nat.le_of_ble_eq_true rfl), (Nat.le_of_ble_eq_true rfl)⟩) (PcW_V (q0 := 0) hPc hKc hDc rfl rfl) rfl rfl hl.1 rfl (lv_room (Nat.le_of_ble_eq_true rfl)) dX11_tries_71 ⟨(Nat.le_of_ble_eq_true rfl), (Nat.le_of_ble_eq_true rfl)⟩) hS (fun q _ h => hFc q h) hFc (fun uu tt H locs htt hvm hw hB hz1 hk1 hS => ?_)
      obtain ⟨w3, w4, w5, w6⟩ := uu
      obtain ⟨hP1, hK1, hD1⟩ := hB
      rw [htt] at hP1
      have hK1 := va_K.moved hvm.symm hK1
      have hP1 : va_P D vwCl [(h0, .inr (11, gM a (upd (upd i 0 0) 15 w6) (vp_updL (vp_updL (vp_updL (fun _ => 0) 12 w3) 13 w4) 14 w5)))] H := hP1
      obtain ⟨hP, hD⟩ := va_join (wr := [(a 3, .inl (cm 3, 85, .inr (.inl fn))), (a 4, .inl (cm 4, 800, .inl fk)), (a 6, .inl (cm 6, 800, .inl fb)), (a 8, .inl (cm 8, 10240, .inl ff)), (a 9, .inl (cm 9, 10240, .inl fh)), (a 10, .inl (cm 10, 10240, .inr (.inl fa))), (a 11, .inl (cm 11, 10240, .inr (.inl fs)))]) (w1 := [(h0, .inr (11, gM a (upd (upd i 0 0) 15 w6) (vp_updL (vp_updL (vp_updL (fun _ => 0) 12 w3) 13 w4) 14 w5)))]) hP hD [0] [1, 2, 3, 4, 5, 6, 7] rfl rfl (by decide) (by decide) hk1 hFc hP1 hD1
      have hP : va_P D vwCl [(a 3, .inl (cm 3, 85, .inr (.inl fn))), (a 4, .inl (cm 4, 800, .inl fk)), (a 6, .inl (cm 6, 800, .inl fb)), (a 8, .inl (cm 8, 10240, .inl ff)), (a 9, .inl (cm 9, 10240, .inl fh)), (a 10, .inl (cm 10, 10240, .inr (.inl fa))), (a 11, .inl (cm 11, 10240, .inr (.inl fs))), (h0, .inr (11, gM a (upd (upd i 0 0) 15 w6) (vp_updL (vp_updL (vp_updL (fun _ => 0) 12 w3) 13 w4) 14 w5)))] H := hP
      have hD : va_D A [(a 3, .inl (cm 3, 85, .inr (.inl fn))), (a 4, .inl (cm 4, 800, .inl fk)), (a 6, .inl (cm 6, 800, .inl fb)), (a 8, .inl (cm 8, 10240, .inl ff)), (a 9, .inl (cm 9, 10240, .inl fh)), (a 10, .inl (cm 10, 10240, .inr (.inl fa))), (a 11, .inl (cm 11, 10240, .inr (.inl fs))), (h0, .inr (11, gM a (upd (upd i 0 0) 15 w6) (vp_updL (vp_updL (vp_updL (fun _ => 0) 12 w3) 13 w4) 14 w5)))] := hD
      try dsimp only at hw
      clear hz1 hk1 hFc hPc hKc hDc
      obtain ⟨es_r2, ⟨ka7, kb8, e2, e3, hka7, hkb8, eka7⟩, ed_r2⟩ := hw
      have es_r2 : w3 = sdn sd := es_r2
      have eka7 : ka7 = aOf sd := eka7
      have ed_r2 : w6 = dr + 1 := ed_r2
      obtain rfl : w4 = lN ka7 := e2
      obtain rfl : w5 = lN kb8 := e3
      have hP : va_P D vwCl [(a 3, .inl (cm 3, 85, .inr (.inl fn))), (a 4, .inl (cm 4, 800, .inl fk)), (a 6, .inl (cm 6, 800, .inl fb)), (a 8, .inl (cm 8, 10240, .inl ff)), (a 9, .inl (cm 9, 10240, .inl fh)), (a 10, .inl (cm 10, 10240, .inr (.inl fa))), (a 11, .inl (cm 11, 10240, .inr (.inl fs))), (h0, .inr (11, gM a (upd (upd i 0 0) 15 w6) (vp_updL (vp_updL (vp_updL (fun _ => 0) 12 w3) 13 (lN ka7)) 14 (lN kb8))))] H := hP
      have hD : va_D A [(a 3, .inl (cm 3, 85, .inr (.inl fn))), (a 4, .inl (cm 4, 800, .inl fk)), (a 6, .inl (cm 6, 800, .inl fb)), (a 8, .inl (cm 8, 10240, .inl ff)), (a 9, .inl (cm 9, 10240, .inl fh)), (a 10, .inl (cm 10, 10240, .inr (.inl fa))), (a 11, .inl (cm 11, 10240, .inr (.inl fs))), (h0, .inr (11, gM a (upd (upd i 0 0) 15 w6) (vp_updL (vp_updL (vp_updL (fun _ => 0) 12 w3) 13 (lN ka7)) 14 (lN kb8))))] := hD
      refine lv_aload_n hx hb dX11_tries_74 rfl (lv_at hl 3 rfl) ?_
      refine lv_iload_n hx hb dX11_tries_75 rfl (lv_at hl 4 rfl) ?_
      refine lv_iload_n hx hb dX11_tries_76 rfl (lv_at hl 5 rfl) ?_
      refine lv_aload_n hx hb dX11_tries_77 rfl (lv_at hl 3 rfl) ?_
      refine va_get (D := D) (ci := 11) (v := .long (lN ka7)) (C := RX11) (T := TX11) (N := 47) hx hb hts hin_X11 hown hK hP 7 rfl rfl 13 (by decide) (hts (.fieldLink RX11 117 "ClashFreeModel" "pairA" "J") (List.mem_of_getElem? (i := 5) rfl)) (fun _ h9 => h9) rfl dX11_tries_78 ?_
      refine lv_aload_n hx hb dX11_tries_81 rfl (lv_at hl 3 rfl) ?_
      refine va_get (D := D) (ci := 11) (v := .long (lN kb8)) (C := RX11) (T := TX11) (N := 47) hx hb hts hin_X11 hown hK hP 7 rfl rfl 14 (by decide) (hts (.fieldLink RX11 120 "ClashFreeModel" "pairB" "J") (List.mem_of_getElem? (i := 6) rfl)) (fun _ h9 => h9) rfl dX11_tries_82 ?_
      have hPc := hP.sub (ws' := [(h0, .inr (11, gM a (upd (upd i 0 0) 15 w6) (vp_updL (vp_updL (vp_updL (fun _ => 0) 12 w3) 13 (lN ka7)) 14 (lN kb8)))), (a 3, .inl (cm 3, 85, .inr (.inl fn))), (a 4, .inl (cm 4, 800, .inl fk)), (a 6, .inl (cm 6, 800, .inl fb)), (a 8, .inl (cm 8, 10240, .inl ff))]) [7, 0, 1, 2, 3] rfl
      have hKc := hK.sub (tys' := [(cm 3, .long), (cm 4, .int), (cm 6, .int), (cm 8, .int)]) [0, 1, 2, 3] rfl
      have hFc := va_free0 hS hA
      refine va_calli (va_runV (As := [.int (nI k), .int (nI j), .long (lN ka7), .long (lN kb8)]) (rest := []) ⟨hx, hb, hml, hown, hts⟩ (c_clashes l D _ h0 a cm (upd (upd i 0 0) 15 w6) (vp_updL (vp_updL (vp_updL (fun _ => 0) 12 w3) 13 (lN ka7)) 14 (lN kb8)) fn fk fb ff k j cn K J rf ka7 kb8 (by first | assumption | omega) (by first | assumption | omega) h1 (by first | assumption | omega) hKy hBk2 hrf (by first | assumption | omega) (by first | assumption | omega) (by first | assumption | omega) (by first | assumption | omega)) (cwV 4 hts g_c_triesM_c_clashes_144 rfl rfl rfl (by decide +kernel) ⟨(Nat.le_of_ble_eq_true rfl), (Nat.le_of_ble_eq_true rfl)⟩) (PcR_V (q0 := 0) hPc hKc rfl rfl) rfl rfl hl.1 rfl (lv_room (Nat.le_of_ble_eq_true rfl)) dX11_tries_85 ⟨(Nat.le_of_ble_eq_true rfl), (Nat.le_of_ble_eq_true rfl)⟩) hS (fun q _ h => hFc q h) hFc (fun r9 uu tt H locs htt hvm hw hB hz1 hk1 hS => ?_)
      have hP := va_keep hP hk1
      try dsimp only at hw
      clear hB hz1 hk1 hFc hPc hKc
      have hcl_r9 := hw
      refine lv_if_le (tgt := 94) hx hb dX11_tries_88 (by decide) (fun hc10 => ?_) (fun hc10 => ?_)
      ·
        refine lv_iload hx hb dX11_tries_94 (lv_at hl 2 rfl) ?_
        refine lv_iconst (v := (-1)) hx hb dX11_tries_96 (by decide) ?_
        refine lv_icmp_ne (tgt := 105) hx hb dX11_tries_97 (by decide) (fun hc11 => ?_) (fun hc11 => ?_)
        ·
          refine lv_iload hx hb dX11_tries_105 (lv_at hl 2 rfl) ?_
          refine lv_istore (lv' := [(7, .int fi), (9, .int (nI x)), (8, .int su), (0, .ref h0), (1, .int (nI k)), (2, .int (nI j)), (3, .int (nI nn)), (6, .int z5)]) hx hb dX11_tries_107 hl (by decide) rfl (fun ls hl => ?_)
          obtain ⟨v12, ev12⟩ : ∃ y : Int32, y = su + 1 := ⟨_, rfl⟩
          refine lv_iinc (v := v12) (lv' := [(8, .int v12), (7, .int fi), (9, .int (nI x)), (0, .ref h0), (1, .int (nI k)), (2, .int (nI j)), (3, .int (nI nn)), (6, .int z5)]) hx hb dX11_tries_109 hl (k := 2) rfl (by rw [ev12]; rfl) (by decide) rfl (fun ls hl => ?_)
          refine lv_iinc (v := nI (x + 1)) (lv' := [(9, .int (nI (x + 1))), (8, .int v12), (7, .int fi), (0, .ref h0), (1, .int (nI k)), (2, .int (nI j)), (3, .int (nI nn)), (6, .int z5)]) hx hb dX11_tries_112 hl (k := 2) rfl (nI_1 _) (by decide) rfl (fun ls hl => ?_)
          refine lv_goto (tgt := 64) hx hb dX11_tries_115 (by decide) ?_
          exact ih (x + 1) v12 fi w3 (lN ka7) (lN kb8) w6 (by omega) (by omega) H locs ls (hP.sub [7, 0, 1, 2, 3, 4, 5, 6] rfl) (hD.sub [7, 0, 1, 2, 3, 4, 5, 6] (by decide) rfl) hS (lv_sub hl [0, 1, 2, 3, 4, 5, 6, 7] rfl)
        ·
          refine lv_iload hx hb dX11_tries_100 (lv_at hl 0 rfl) ?_
          refine lv_goto (tgt := 107) hx hb dX11_tries_102 (by decide) ?_
          refine lv_istore (lv' := [(7, .int (nI x)), (9, .int (nI x)), (8, .int su), (0, .ref h0), (1, .int (nI k)), (2, .int (nI j)), (3, .int (nI nn)), (6, .int z5)]) hx hb dX11_tries_107 hl (by decide) rfl (fun ls hl => ?_)
          obtain ⟨v13, ev13⟩ : ∃ y : Int32, y = su + 1 := ⟨_, rfl⟩
          refine lv_iinc (v := v13) (lv' := [(8, .int v13), (7, .int (nI x)), (9, .int (nI x)), (0, .ref h0), (1, .int (nI k)), (2, .int (nI j)), (3, .int (nI nn)), (6, .int z5)]) hx hb dX11_tries_109 hl (k := 2) rfl (by rw [ev13]; rfl) (by decide) rfl (fun ls hl => ?_)
          refine lv_iinc (v := nI (x + 1)) (lv' := [(9, .int (nI (x + 1))), (8, .int v13), (7, .int (nI x)), (0, .ref h0), (1, .int (nI k)), (2, .int (nI j)), (3, .int (nI nn)), (6, .int z5)]) hx hb dX11_tries_112 hl (k := 2) rfl (nI_1 _) (by decide) rfl (fun ls hl => ?_)
          refine lv_goto (tgt := 64) hx hb dX11_tries_115 (by decide) ?_
          exact ih (x + 1) v13 (nI x) w3 (lN ka7) (lN kb8) w6 (by omega) (by omega) H locs ls (hP.sub [7, 0, 1, 2, 3, 4, 5, 6] rfl) (hD.sub [7, 0, 1, 2, 3, 4, 5, 6] (by decide) rfl) hS (lv_sub hl [0, 1, 2, 3, 4, 5, 6, 7] rfl)
      ·
        refine lv_goto (tgt := 112) hx hb dX11_tries_91 (by decide) ?_
        refine lv_iinc (v := nI (x + 1)) (lv' := [(9, .int (nI (x + 1))), (8, .int su), (7, .int fi), (0, .ref h0), (1, .int (nI k)), (2, .int (nI j)), (3, .int (nI nn)), (6, .int z5)]) hx hb dX11_tries_112 hl (k := 0) rfl (nI_1 _) (by decide) rfl (fun ls hl => ?_)
        refine lv_goto (tgt := 64) hx hb dX11_tries_115 (by decide) ?_
        exact ih (x + 1) su fi w3 (lN ka7) (lN kb8) w6 (by omega) (by omega) H locs ls (hP.sub [7, 0, 1, 2, 3, 4, 5, 6] rfl) (hD.sub [7, 0, 1, 2, 3, 4, 5, 6] (by decide) rfl) hS (lv_sub hl [0, 1, 2, 3, 4, 5, 6, 7] rfl)
set_option maxHeartbeats 4000000 in
set_option maxRecDepth 100000 in
theorem c_triesM (l : Launch) (D : va_G) (sz : Nat) (h0 : Nat) (a : Nat → Nat) (cm : Nat → ClassId) (i : Nat → Int32) (g : Nat → Int64) (fn : Nat → Int64) (fk : Nat → Int32) (fb : Nat → Int32) (ff : Nat → Int32) (fh : Nat → Int32) (fa : Nat → Int64) (fs : Nat → Int64) (z1 : Int32) (z2 : Int32) (z3 : Int32) (y4 : Int64) (z5 : Int32) (hM : MInv fn fk fb ff fh fa fs) : Met l yX11_tries wp_c_triesM ({ frames := 6, cells := 0, slots := 0, locals := 160 }) (PcW D [.ref h0, .int z1, .int z2, .int z3, .long y4, .int z5] sz [(h0, .inr (11, gM a i g)), (a 3, .inl (cm 3, 85, .inr (.inl fn))), (a 4, .inl (cm 4, 800, .inl fk)), (a 6, .inl (cm 6, 800, .inl fb)), (a 8, .inl (cm 8, 10240, .inl ff)), (a 9, .inl (cm 9, 10240, .inl fh)), (a 10, .inl (cm 10, 10240, .inr (.inl fa))), (a 11, .inl (cm 11, 10240, .inr (.inl fs)))] [(cm 3, .long), (cm 4, .int), (cm 6, .int), (cm 8, .int), (cm 9, .int), (cm 10, .long), (cm 11, .long)]) (va_Qi (fun (r : Int32) (u : (Int32) × (Int64) × (Int64) × (Int64) × (Int32)) => True) (fun (u : (Int32) × (Int64) × (Int64) × (Int64) × (Int32)) t => va_P D vwCl [(h0, .inr (11, gM a (upd (upd i 0 u.1) 15 u.2.2.2.2) (vp_updL (vp_updL (vp_updL (fun _ => 0) 12 u.2.1) 13 u.2.2.1) 14 u.2.2.2.1))), (a 3, .inl (cm 3, 85, .inr (.inl fn))), (a 4, .inl (cm 4, 800, .inl fk)), (a 6, .inl (cm 6, 800, .inl fb)), (a 8, .inl (cm 8, 10240, .inl ff)), (a 9, .inl (cm 9, 10240, .inl fh)), (a 10, .inl (cm 10, 10240, .inr (.inl fa))), (a 11, .inl (cm 11, 10240, .inr (.inl fs)))] t.heap ∧ va_K D vwCl [(cm 3, .long), (cm 4, .int), (cm 6, .int), (cm 8, .int), (cm 9, .int), (cm 10, .long), (cm 11, .long)] t ∧ va_D (va_A [(h0, .inr (11, gM a i g)), (a 3, .inl (cm 3, 85, .inr (.inl fn))), (a 4, .inl (cm 4, 800, .inl fk)), (a 6, .inl (cm 6, 800, .inl fb)), (a 8, .inl (cm 8, 10240, .inl ff)), (a 9, .inl (cm 9, 10240, .inl fh)), (a 10, .inl (cm 10, 10240, .inr (.inl fa))), (a 11, .inl (cm 11, 10240, .inr (.inl fs)))] sz) [(h0, .inr (11, gM a (upd (upd i 0 u.1) 15 u.2.2.2.2) (vp_updL (vp_updL (vp_updL (fun _ => 0) 12 u.2.1) 13 u.2.2.1) 14 u.2.2.2.1))), (a 3, .inl (cm 3, 85, .inr (.inl fn))), (a 4, .inl (cm 4, 800, .inl fk)), (a 6, .inl (cm 6, 800, .inl fb)), (a 8, .inl (cm 8, 10240, .inl ff)), (a 9, .inl (cm 9, 10240, .inl fh)), (a 10, .inl (cm 10, 10240, .inr (.inl fa))), (a 11, .inl (cm 11, 10240, .inr (.inl fs)))]) (va_A [(h0, .inr (11, gM a i g)), (a 3, .inl (cm 3, 85, .inr (.inl fn))), (a 4, .inl (cm 4, 800, .inl fk)), (a 6, .inl (cm 6, 800, .inl fb)), (a 8, .inl (cm 8, 10240, .inl ff)), (a 9, .inl (cm 9, 10240, .inl fh)), (a 10, .inl (cm 10, 10240, .inr (.inl fa))), (a 11, .inl (cm 11, 10240, .inr (.inl fs)))] sz)) 0 0 (va_A [(h0, .inr (11, gM a i g)), (a 3, .inl (cm 3, 85, .inr (.inl fn))), (a 4, .inl (cm 4, 800, .inl fk)), (a 6, .inl (cm 6, 800, .inl fb)), (a 8, .inl (cm 8, 10240, .inl ff)), (a 9, .inl (cm 9, 10240, .inl fh)), (a 10, .inl (cm 10, 10240, .inr (.inl fa))), (a 11, .inl (cm 11, 10240, .inr (.inl fs)))] sz) := by
  refine Met.ofW (cc := cX11_tries) (maxL := 10) (ret := (some .int)) (by decide) rfl ?_
  intro p e s m args below meth c s₁ B hml hv
  obtain ⟨rfl, hsz, hP, hK, hD0⟩ := hv
  have hx := B.exec
  have hb := B.bytes
  have hr := B.returns
  have hts := atoms_spec (ws := wp_c_triesM) B.pre
  have hin_X11 : ∀ w ∈ wsX110, w ∈ wp_c_triesM := fun _ h => (List.mem_cons_of_mem _ (List.mem_append_right _ (List.mem_append_right _ (List.mem_append_right _ (List.mem_append_right _ (List.mem_append_right _ (List.mem_append_right _ (List.mem_append_left _ h))))))))
  have hown : s.vm.findClass RX11 = some m.cls := findClass_of_methodNamed B.named
  have hlocks := B.notSynchronized
  subst hsz
  have hD := hD0.self (sz := s.heap.size)
  generalize hAe : va_A [(h0, .inr (11, gM a i g)), (a 3, .inl (cm 3, 85, .inr (.inl fn))), (a 4, .inl (cm 4, 800, .inl fk)), (a 6, .inl (cm 6, 800, .inl fb)), (a 8, .inl (cm 8, 10240, .inl ff)), (a 9, .inl (cm 9, 10240, .inl fh)), (a 10, .inl (cm 10, 10240, .inr (.inl fa))), (a 11, .inl (cm 11, 10240, .inr (.inl fs)))] s.heap.size = A at hD ⊢
  have hA : ∀ q : Nat, s.heap.size ≤ q → A q := fun q h => by rw [← hAe]; exact Or.inr h
  have hS : va_S A s.heap s.heap [] := va_S.rf
  have hP : va_P D vwCl [(h0, .inr (11, gM a i g)), (a 3, .inl (cm 3, 85, .inr (.inl fn))), (a 4, .inl (cm 4, 800, .inl fk)), (a 6, .inl (cm 6, 800, .inl fb)), (a 8, .inl (cm 8, 10240, .inl ff)), (a 9, .inl (cm 9, 10240, .inl fh)), (a 10, .inl (cm 10, 10240, .inr (.inl fa))), (a 11, .inl (cm 11, 10240, .inr (.inl fs)))] s.heap := hP
  have hl := lv_entry ([.ref h0, .int z1, .int z2, .int z3, .long y4, .int z5]) (n := 10) (Nat.le_of_ble_eq_true rfl)
  rw [lg_entry_eq]
  generalize (lg_sl ([.ref h0, .int z1, .int z2, .int z3, .long y4, .int z5]) ++ List.replicate (10 - (lg_sl ([.ref h0, .int z1, .int z2, .int z3, .long y4, .int z5])).length) Slot.unset).toArray = ls at hl ⊢
  have hl : lv_has ls 10 [(0, .ref h0), (1, .int z1), (2, .int z2), (3, .int z3), (4, .long y4), (6, .int z5)] := hl
  refine lv_aload_n hx hb dX11_tries_0 rfl (lv_at hl 0 rfl) ?_
  refine lv_iconst (v := 0) hx hb dX11_tries_1 (by decide) ?_
  refine va_put (D := D) (ci := 11) (v := .int 0) (ty := .int) (C := RX11) (T := TX11) (N := 47) hx hb hts hin_X11 tyX11 tyX11_ok nmX11 hown hK hP hD hS 0 rfl rfl 0 (by decide) (hts (.fieldLink RX11 73 "ClashFreeModel" "thrown" "I") (List.mem_of_getElem? (i := 10) rfl)) (fun _ h9 => h9) rfl (by decide +kernel) rfl rfl (Nat.le_of_ble_eq_true rfl) dX11_tries_2 (fun H locs hP hD hS => ?_)
  have hP : va_P D vwCl [(h0, .inr (11, gM a (upd i 0 0) g)), (a 3, .inl (cm 3, 85, .inr (.inl fn))), (a 4, .inl (cm 4, 800, .inl fk)), (a 6, .inl (cm 6, 800, .inl fb)), (a 8, .inl (cm 8, 10240, .inl ff)), (a 9, .inl (cm 9, 10240, .inl fh)), (a 10, .inl (cm 10, 10240, .inr (.inl fa))), (a 11, .inl (cm 11, 10240, .inr (.inl fs)))] H := hP
  have hD : va_D A [(h0, .inr (11, gM a (upd i 0 0) g)), (a 3, .inl (cm 3, 85, .inr (.inl fn))), (a 4, .inl (cm 4, 800, .inl fk)), (a 6, .inl (cm 6, 800, .inl fb)), (a 8, .inl (cm 8, 10240, .inl ff)), (a 9, .inl (cm 9, 10240, .inl fh)), (a 10, .inl (cm 10, 10240, .inr (.inl fa))), (a 11, .inl (cm 11, 10240, .inr (.inl fs)))] := hD
  refine lv_aload_n hx hb dX11_tries_5 rfl (lv_at hl 0 rfl) ?_
  refine lv_iload_n hx hb dX11_tries_6 rfl (lv_at hl 1 rfl) ?_
  refine lv_iload_n hx hb dX11_tries_7 rfl (lv_at hl 2 rfl) ?_
  have hPc := hP.sub (ws' := [(h0, .inr (11, gM a (upd i 0 0) g)), (a 3, .inl (cm 3, 85, .inr (.inl fn))), (a 4, .inl (cm 4, 800, .inl fk)), (a 6, .inl (cm 6, 800, .inl fb)), (a 8, .inl (cm 8, 10240, .inl ff)), (a 9, .inl (cm 9, 10240, .inl fh)), (a 10, .inl (cm 10, 10240, .inr (.inl fa))), (a 11, .inl (cm 11, 10240, .inr (.inl fs)))]) [0, 1, 2, 3, 4, 5, 6, 7] rfl
  have hKc := hK.sub (tys' := [(cm 3, .long), (cm 4, .int), (cm 6, .int), (cm 8, .int), (cm 9, .int), (cm 10, .long), (cm 11, .long)]) [0, 1, 2, 3, 4, 5, 6] rfl
  have hFc := va_free0 hS hA
  refine va_calli (va_runV (As := [.int z1, .int z2]) (rest := []) ⟨hx, hb, hml, hown, hts⟩ (c_isBucket l D _ h0 a cm (upd i 0 0) g fn fk fb ff fh fa fs z1 z2 (by first | assumption | omega)) (cwV 2 hts g_c_triesM_c_isBucket_246 rfl rfl rfl (by decide +kernel) ⟨(Nat.le_of_ble_eq_true rfl), (Nat.le_of_ble_eq_true rfl)⟩) (PcR_V (q0 := 0) hPc hKc rfl rfl) rfl rfl hl.1 rfl (lv_room (Nat.le_of_ble_eq_true rfl)) dX11_tries_8 ⟨(Nat.le_of_ble_eq_true rfl), (Nat.le_of_ble_eq_true rfl)⟩) hS (fun q _ h => hFc q h) hFc (fun r1 uu tt H locs htt hvm hw hB hz1 hk1 hS => ?_)
  have hP := va_keep hP hk1
  try dsimp only at hw
  clear hB hz1 hk1 hFc hPc hKc
  rcases hw with ⟨rfl, hA_r1⟩ | ⟨rfl, hA_r1⟩
  ·
    obtain ⟨k, j, cn, nb, K, J, hk, rfl, rfl, hj, hT⟩ := hA_r1
    obtain ⟨h1, hcn, h4, hn1, hn2, ⟨ka, kb, hka, hkb, h6, h7⟩, hKy, hBk, hHs, ⟨bn, ns, gr, h14, hbn, h15, hs1, hs2, h16, hgr⟩⟩ := id hT
    obtain ⟨hq1, rf, hrf, hq2, hq3⟩ := hHs _ hj
    have hBk2 : BkS k fb cn 2048 J := fun y a => ⟨(hBk y a).1, by have := (hBk y a).2; omega⟩
    refine lv_if_eq (tgt := 46) hx hb dX11_tries_11 (by decide) (fun hc => absurd hc (by decide)) (fun hc => ?_)
    refine lv_iload_n hx hb dX11_tries_14 rfl (lv_at hl 3 rfl) ?_
    refine lv_i2l hx hb dX11_tries_15 rfl ?_
    refine lv_lconst (v := 1) hx hb dX11_tries_16 (by decide) ?_
    refine lv_ldc2 (v := 200) hx hb hown (hts (.constantLong RX11 186 (200)) (List.mem_of_getElem? (i := 14) rfl)) dX11_tries_17 ?_
    have hPc := hP.sub (ws' := []) [] rfl
    have hKc := hK.sub (tys' := []) [] rfl
    have hFc := va_free0 hS hA
    refine va_calli (va_runS (As := [.long (Int32.toInt64 z3), .long 1, .long 200]) (rest := []) ⟨hx, hb, hml, hown, hts⟩ (c_isIn l D _ (Int32.toInt64 z3) 1 200) (va_cwS 3 hts g_c_triesM_c_isIn_83 rfl rfl rfl (by decide +kernel) ⟨(Nat.le_of_ble_eq_true rfl), (Nat.le_of_ble_eq_true rfl)⟩) (PcR_S hPc hKc) rfl rfl hl.1 rfl (lv_room (Nat.le_of_ble_eq_true rfl)) dX11_tries_20 ⟨(Nat.le_of_ble_eq_true rfl), (Nat.le_of_ble_eq_true rfl)⟩) hS (fun q _ h => hFc q h) hFc (fun r2 uu tt H locs htt hvm hw hB hz1 hk1 hS => ?_)
    have hP := va_keep hP hk1
    try dsimp only at hw
    clear hB hz1 hk1 hFc hPc hKc
    rcases hw with ⟨rfl, hA_r2⟩ | ⟨rfl, hA_r2⟩
    ·
      obtain ⟨nn, hnn, rfl⟩ := in1_200 hA_r2
      refine lv_if_eq (tgt := 46) hx hb dX11_tries_23 (by decide) (fun hc => absurd hc (by decide)) (fun hc => ?_)
      refine lv_iload hx hb dX11_tries_26 (lv_at hl 5 rfl) ?_
      refine lv_i2l hx hb dX11_tries_28 rfl ?_
      refine lv_lconst (v := 0) hx hb dX11_tries_29 (by decide) ?_
      refine lv_lconst (v := 1) hx hb dX11_tries_30 (by decide) ?_
      have hPc := hP.sub (ws' := []) [] rfl
      have hKc := hK.sub (tys' := []) [] rfl
      have hFc := va_free0 hS hA
      refine va_calli (va_runS (As := [.long (Int32.toInt64 z5), .long 0, .long 1]) (rest := []) ⟨hx, hb, hml, hown, hts⟩ (c_isIn l D _ (Int32.toInt64 z5) 0 1) (va_cwS 3 hts g_c_triesM_c_isIn_83 rfl rfl rfl (by decide +kernel) ⟨(Nat.le_of_ble_eq_true rfl), (Nat.le_of_ble_eq_true rfl)⟩) (PcR_S hPc hKc) rfl rfl hl.1 rfl (lv_room (Nat.le_of_ble_eq_true rfl)) dX11_tries_31 ⟨(Nat.le_of_ble_eq_true rfl), (Nat.le_of_ble_eq_true rfl)⟩) hS (fun q _ h => hFc q h) hFc (fun r3 uu tt H locs htt hvm hw hB hz1 hk1 hS => ?_)
      have hP := va_keep hP hk1
      try dsimp only at hw
      clear hB hz1 hk1 hFc hPc hKc
      rcases hw with ⟨rfl, hA_r3⟩ | ⟨rfl, hA_r3⟩
      ·
        refine lv_if_eq (tgt := 46) hx hb dX11_tries_34 (by decide) (fun hc => absurd hc (by decide)) (fun hc => ?_)
        refine lv_aload_n hx hb dX11_tries_37 rfl (lv_at hl 0 rfl) ?_
        refine lv_iload_n hx hb dX11_tries_38 rfl (lv_at hl 1 rfl) ?_
        refine lv_iload_n hx hb dX11_tries_39 rfl (lv_at hl 2 rfl) ?_
        have hPc := hP.sub (ws' := [(h0, .inr (11, gM a (upd i 0 0) g)), (a 8, .inl (cm 8, 10240, .inl ff))]) [0, 4] rfl
        have hKc := hK.sub (tys' := [(cm 8, .int)]) [3] rfl
        have hFc := va_free0 hS hA
        refine va_calli (va_runV (As := [.int (nI k), .int (nI j)]) (rest := []) ⟨hx, hb, hml, hown, hts⟩ (c_roomsOf l D _ h0 a cm (upd i 0 0) g ff k j rf (by first | assumption | omega) (by first | assumption | omega) hrf) (cwV 2 hts g_c_triesM_c_roomsOf_137 rfl rfl rfl (by decide +kernel) ⟨(Nat.le_of_ble_eq_true rfl), (Nat.le_of_ble_eq_true rfl)⟩) (PcR_V (q0 := 0) hPc hKc rfl rfl) rfl rfl hl.1 rfl (lv_room (Nat.le_of_ble_eq_true rfl)) dX11_tries_40 ⟨(Nat.le_of_ble_eq_true rfl), (Nat.le_of_ble_eq_true rfl)⟩) hS (fun q _ h => hFc q h) hFc (fun r4 uu tt H locs htt hvm hw hB hz1 hk1 hS => ?_)
        have hP := va_keep hP hk1
        try dsimp only at hw
        clear hB hz1 hk1 hFc hPc hKc
        obtain rfl : r4 = nI (rf * rf) := hw
        refine lv_if_ne (tgt := 49) hx hb dX11_tries_43 (by decide) (fun hc5 => ?_) (fun hc5 => ?_)
        ·
          have hr0 : 0 < rf := by
            rcases Nat.eq_zero_or_pos rf with z | z
            · exact absurd (by rw [z]; decide) hc5
            · exact z
          refine lv_aload_n hx hb dX11_tries_49 rfl (lv_at hl 0 rfl) ?_
          refine lv_lload hx hb dX11_tries_50 (lv_at hl 4 rfl) ?_
          refine va_put (D := D) (ci := 11) (v := .long y4) (ty := .long) (C := RX11) (T := TX11) (N := 47) hx hb hts hin_X11 tyX11 tyX11_ok nmX11 hown hK hP hD hS 0 rfl rfl 12 (by decide) (hts (.fieldLink RX11 105 "ClashFreeModel" "seed" "J") (List.mem_of_getElem? (i := 20) rfl)) (fun _ h9 => h9) rfl (by decide +kernel) rfl rfl (Nat.le_of_ble_eq_true rfl) dX11_tries_52 (fun H locs hP hD hS => ?_)
          have hP : va_P D vwCl [(h0, .inr (11, gM a (upd i 0 0) (vp_updL g 12 y4))), (a 3, .inl (cm 3, 85, .inr (.inl fn))), (a 4, .inl (cm 4, 800, .inl fk)), (a 6, .inl (cm 6, 800, .inl fb)), (a 8, .inl (cm 8, 10240, .inl ff)), (a 9, .inl (cm 9, 10240, .inl fh)), (a 10, .inl (cm 10, 10240, .inr (.inl fa))), (a 11, .inl (cm 11, 10240, .inr (.inl fs)))] H := hP
          have hD : va_D A [(h0, .inr (11, gM a (upd i 0 0) (vp_updL g 12 y4))), (a 3, .inl (cm 3, 85, .inr (.inl fn))), (a 4, .inl (cm 4, 800, .inl fk)), (a 6, .inl (cm 6, 800, .inl fb)), (a 8, .inl (cm 8, 10240, .inl ff)), (a 9, .inl (cm 9, 10240, .inl fh)), (a 10, .inl (cm 10, 10240, .inr (.inl fa))), (a 11, .inl (cm 11, 10240, .inr (.inl fs)))] := hD
          refine lv_iconst (v := (-1)) hx hb dX11_tries_55 (by decide) ?_
          refine lv_istore (lv' := [(7, .int (-1)), (0, .ref h0), (1, .int (nI k)), (2, .int (nI j)), (3, .int (nI nn)), (4, .long y4), (6, .int z5)]) hx hb dX11_tries_56 hl (by decide) rfl (fun ls hl => ?_)
          refine lv_iconst (v := 0) hx hb dX11_tries_58 (by decide) ?_
          refine lv_istore (lv' := [(8, .int 0), (7, .int (-1)), (0, .ref h0), (1, .int (nI k)), (2, .int (nI j)), (3, .int (nI nn)), (4, .long y4), (6, .int z5)]) hx hb dX11_tries_59 hl (by decide) rfl (fun ls hl => ?_)
          refine lv_iconst (v := 0) hx hb dX11_tries_61 (by decide) ?_
          refine lv_istore (lv' := [(9, .int 0), (8, .int 0), (7, .int (-1)), (0, .ref h0), (1, .int (nI k)), (2, .int (nI j)), (3, .int (nI nn)), (4, .long y4), (6, .int z5)]) hx hb dX11_tries_62 hl (by decide) rfl (fun ls hl => ?_)
          refine lp_tries l D h0 a cm (upd i 0 0) (vp_updL g 12 y4) fn fk fb ff fh fa fs z5 k cn nb K J j rf nn (hk) (hj) (hT) (hrf) (hr0) (hq3) (hnn) hx hb hml hown hts hA (hK.sub [0, 1, 2, 3, 4, 5, 6] rfl) ?_ (nn + 1) 0 0 (-1) y4 (g 13) (g 14) (i 15) (Nat.zero_le _) (by omega) _ _ _ (hP.sub [0, 1, 2, 3, 4, 5, 6, 7] rfl) (hD.sub [0, 1, 2, 3, 4, 5, 6, 7] (by decide) rfl) hS (lv_sub hl [0, 1, 2, 3, 4, 5, 6, 8] rfl)
          intro x_6 su_7 fi_8 sd_9 pa_10 pb_11 dr_12 hx2_13 H locs ls hP hD hS hl
          refine lv_iload hx hb dX11_tries_118 (lv_at hl 3 rfl) ?_
          refine lv_if_ne (tgt := 128) hx hb dX11_tries_120 (by decide) (fun hc14 => ?_) (fun hc14 => ?_)
          ·
            refine lv_iload hx hb dX11_tries_128 (lv_at hl 0 rfl) ?_
            exact W.iret (v := su_7) hx hb hr (fun t ht hW => ⟨⟨su_7, (0, sd_9, pa_10, pb_11, dr_12), rfl, trivial, by rw [ht]; exact hP.sub [0, 1, 2, 3, 4, 5, 6, 7] rfl, va_K.moved hW.alike (hK.sub [0, 1, 2, 3, 4, 5, 6] rfl), hD.sub [0, 1, 2, 3, 4, 5, 6, 7] (by decide) rfl⟩, hS.F ht⟩) hS.2.2 dX11_tries_130
          ·
            refine lv_iload hx hb dX11_tries_123 (lv_at hl 1 rfl) ?_
            refine lv_goto (tgt := 130) hx hb dX11_tries_125 (by decide) ?_
            exact W.iret (v := fi_8) hx hb hr (fun t ht hW => ⟨⟨fi_8, (0, sd_9, pa_10, pb_11, dr_12), rfl, trivial, by rw [ht]; exact hP.sub [0, 1, 2, 3, 4, 5, 6, 7] rfl, va_K.moved hW.alike (hK.sub [0, 1, 2, 3, 4, 5, 6] rfl), hD.sub [0, 1, 2, 3, 4, 5, 6, 7] (by decide) rfl⟩, hS.F ht⟩) hS.2.2 dX11_tries_130
        ·
          refine lv_bipush (v := (-2)) hx hb dX11_tries_46 (by decide) ?_
          exact W.iret (v := (-2)) hx hb hr (fun t ht hW => ⟨⟨(-2), (0, (g 12), (g 13), (g 14), (i 15)), rfl, trivial, by rw [ht]; exact hP.sub [0, 1, 2, 3, 4, 5, 6, 7] rfl, va_K.moved hW.alike (hK.sub [0, 1, 2, 3, 4, 5, 6] rfl), hD.sub [0, 1, 2, 3, 4, 5, 6, 7] (by decide) rfl⟩, hS.F ht⟩) hS.2.2 dX11_tries_48
      ·
        refine lv_if_eq (tgt := 46) hx hb dX11_tries_34 (by decide) (fun hc => ?_) (fun hc => absurd (by decide) hc)
        refine lv_bipush (v := (-2)) hx hb dX11_tries_46 (by decide) ?_
        exact W.iret (v := (-2)) hx hb hr (fun t ht hW => ⟨⟨(-2), (0, (g 12), (g 13), (g 14), (i 15)), rfl, trivial, by rw [ht]; exact hP.sub [0, 1, 2, 3, 4, 5, 6, 7] rfl, va_K.moved hW.alike (hK.sub [0, 1, 2, 3, 4, 5, 6] rfl), hD.sub [0, 1, 2, 3, 4, 5, 6, 7] (by decide) rfl⟩, hS.F ht⟩) hS.2.2 dX11_tries_48
    ·
      refine lv_if_eq (tgt := 46) hx hb dX11_tries_23 (by decide) (fun hc => ?_) (fun hc => absurd (by decide) hc)
      refine lv_bipush (v := (-2)) hx hb dX11_tries_46 (by decide) ?_
      exact W.iret (v := (-2)) hx hb hr (fun t ht hW => ⟨⟨(-2), (0, (g 12), (g 13), (g 14), (i 15)), rfl, trivial, by rw [ht]; exact hP.sub [0, 1, 2, 3, 4, 5, 6, 7] rfl, va_K.moved hW.alike (hK.sub [0, 1, 2, 3, 4, 5, 6] rfl), hD.sub [0, 1, 2, 3, 4, 5, 6, 7] (by decide) rfl⟩, hS.F ht⟩) hS.2.2 dX11_tries_48
  ·
    refine lv_if_eq (tgt := 46) hx hb dX11_tries_11 (by decide) (fun hc => ?_) (fun hc => absurd (by decide) hc)
    refine lv_bipush (v := (-2)) hx hb dX11_tries_46 (by decide) ?_
    exact W.iret (v := (-2)) hx hb hr (fun t ht hW => ⟨⟨(-2), (0, (g 12), (g 13), (g 14), (i 15)), rfl, trivial, by rw [ht]; exact hP.sub [0, 1, 2, 3, 4, 5, 6, 7] rfl, va_K.moved hW.alike (hK.sub [0, 1, 2, 3, 4, 5, 6] rfl), hD.sub [0, 1, 2, 3, 4, 5, 6, 7] (by decide) rfl⟩, hS.F ht⟩) hS.2.2 dX11_tries_48

