theorem dX11_sumBy_0 : decode cX11_sumBy 0 = .ok (.aload_n 0, 1) := by decide +kernel
theorem dX11_sumBy_1 : decode cX11_sumBy 1 = .ok (.iload_n 1, 1) := by decide +kernel
theorem dX11_sumBy_2 : decode cX11_sumBy 2 = .ok (.invokevirtual 152, 3) := by decide +kernel
theorem dX11_sumBy_5 : decode cX11_sumBy 5 = .ok (.istore 6, 2) := by decide +kernel
theorem dX11_sumBy_7 : decode cX11_sumBy 7 = .ok (.iconst 0, 1) := by decide +kernel
theorem dX11_sumBy_8 : decode cX11_sumBy 8 = .ok (.istore 7, 2) := by decide +kernel
theorem dX11_sumBy_10 : decode cX11_sumBy 10 = .ok (.iload 7, 2) := by decide +kernel
theorem dX11_sumBy_12 : decode cX11_sumBy 12 = .ok (.iload 6, 2) := by decide +kernel
theorem dX11_sumBy_14 : decode cX11_sumBy 14 = .ok (.if_icmp .ge 17, 3) := by decide +kernel
theorem dX11_sumBy_17 : decode cX11_sumBy 17 = .ok (.aload_n 0, 1) := by decide +kernel
theorem dX11_sumBy_18 : decode cX11_sumBy 18 = .ok (.getfield 42, 3) := by decide +kernel
theorem dX11_sumBy_21 : decode cX11_sumBy 21 = .ok (.iload 7, 2) := by decide +kernel
theorem dX11_sumBy_23 : decode cX11_sumBy 23 = .ok (.iconst 0, 1) := by decide +kernel
theorem dX11_sumBy_24 : decode cX11_sumBy 24 = .ok (.iastore, 1) := by decide +kernel
theorem dX11_sumBy_25 : decode cX11_sumBy 25 = .ok (.iinc 7 1, 3) := by decide +kernel
theorem dX11_sumBy_28 : decode cX11_sumBy 28 = .ok (.goto (-18), 3) := by decide +kernel
theorem dX11_sumBy_31 : decode cX11_sumBy 31 = .ok (.sipush 160, 3) := by decide +kernel
theorem dX11_sumBy_34 : decode cX11_sumBy 34 = .ok (.iload_n 1, 1) := by decide +kernel
theorem dX11_sumBy_35 : decode cX11_sumBy 35 = .ok (.imul, 1) := by decide +kernel
theorem dX11_sumBy_36 : decode cX11_sumBy 36 = .ok (.istore 7, 2) := by decide +kernel
theorem dX11_sumBy_38 : decode cX11_sumBy 38 = .ok (.iload 7, 2) := by decide +kernel
theorem dX11_sumBy_40 : decode cX11_sumBy 40 = .ok (.sipush 160, 3) := by decide +kernel
theorem dX11_sumBy_43 : decode cX11_sumBy 43 = .ok (.iload_n 1, 1) := by decide +kernel
theorem dX11_sumBy_44 : decode cX11_sumBy 44 = .ok (.imul, 1) := by decide +kernel
theorem dX11_sumBy_45 : decode cX11_sumBy 45 = .ok (.aload_n 0, 1) := by decide +kernel
theorem dX11_sumBy_46 : decode cX11_sumBy 46 = .ok (.iload_n 1, 1) := by decide +kernel
theorem dX11_sumBy_47 : decode cX11_sumBy 47 = .ok (.invokevirtual 95, 3) := by decide +kernel
theorem dX11_sumBy_50 : decode cX11_sumBy 50 = .ok (.iadd, 1) := by decide +kernel
theorem dX11_sumBy_51 : decode cX11_sumBy 51 = .ok (.if_icmp .ge 35, 3) := by decide +kernel
theorem dX11_sumBy_54 : decode cX11_sumBy 54 = .ok (.aload_n 0, 1) := by decide +kernel
theorem dX11_sumBy_55 : decode cX11_sumBy 55 = .ok (.getfield 42, 3) := by decide +kernel
theorem dX11_sumBy_58 : decode cX11_sumBy 58 = .ok (.lload_n 2, 1) := by decide +kernel
theorem dX11_sumBy_59 : decode cX11_sumBy 59 = .ok (.lload 4, 2) := by decide +kernel
theorem dX11_sumBy_61 : decode cX11_sumBy 61 = .ok (.aload_n 0, 1) := by decide +kernel
theorem dX11_sumBy_62 : decode cX11_sumBy 62 = .ok (.getfield 17, 3) := by decide +kernel
theorem dX11_sumBy_65 : decode cX11_sumBy 65 = .ok (.iload 7, 2) := by decide +kernel
theorem dX11_sumBy_67 : decode cX11_sumBy 67 = .ok (.iaload, 1) := by decide +kernel
theorem dX11_sumBy_68 : decode cX11_sumBy 68 = .ok (.i2l, 1) := by decide +kernel
theorem dX11_sumBy_69 : decode cX11_sumBy 69 = .ok (.iload 6, 2) := by decide +kernel
theorem dX11_sumBy_71 : decode cX11_sumBy 71 = .ok (.i2l, 1) := by decide +kernel
theorem dX11_sumBy_72 : decode cX11_sumBy 72 = .ok (.invokestatic 133, 3) := by decide +kernel
theorem dX11_sumBy_75 : decode cX11_sumBy 75 = .ok (.dup2, 1) := by decide +kernel
theorem dX11_sumBy_76 : decode cX11_sumBy 76 = .ok (.iaload, 1) := by decide +kernel
theorem dX11_sumBy_77 : decode cX11_sumBy 77 = .ok (.iconst 1, 1) := by decide +kernel
theorem dX11_sumBy_78 : decode cX11_sumBy 78 = .ok (.iadd, 1) := by decide +kernel
theorem dX11_sumBy_79 : decode cX11_sumBy 79 = .ok (.iastore, 1) := by decide +kernel
theorem dX11_sumBy_80 : decode cX11_sumBy 80 = .ok (.iinc 7 1, 3) := by decide +kernel
theorem dX11_sumBy_83 : decode cX11_sumBy 83 = .ok (.goto (-45), 3) := by decide +kernel
theorem dX11_sumBy_86 : decode cX11_sumBy 86 = .ok (.lconst 0, 1) := by decide +kernel
theorem dX11_sumBy_87 : decode cX11_sumBy 87 = .ok (.lstore 7, 2) := by decide +kernel
theorem dX11_sumBy_89 : decode cX11_sumBy 89 = .ok (.iconst 0, 1) := by decide +kernel
theorem dX11_sumBy_90 : decode cX11_sumBy 90 = .ok (.istore 9, 2) := by decide +kernel
theorem dX11_sumBy_92 : decode cX11_sumBy 92 = .ok (.iload 9, 2) := by decide +kernel
theorem dX11_sumBy_94 : decode cX11_sumBy 94 = .ok (.iload 6, 2) := by decide +kernel
theorem dX11_sumBy_96 : decode cX11_sumBy 96 = .ok (.if_icmp .ge 35, 3) := by decide +kernel
theorem dX11_sumBy_99 : decode cX11_sumBy 99 = .ok (.lload 7, 2) := by decide +kernel
theorem dX11_sumBy_101 : decode cX11_sumBy 101 = .ok (.ldc2_w 160, 3) := by decide +kernel
theorem dX11_sumBy_104 : decode cX11_sumBy 104 = .ok (.aload_n 0, 1) := by decide +kernel
theorem dX11_sumBy_105 : decode cX11_sumBy 105 = .ok (.getfield 42, 3) := by decide +kernel
theorem dX11_sumBy_108 : decode cX11_sumBy 108 = .ok (.iload 9, 2) := by decide +kernel
theorem dX11_sumBy_110 : decode cX11_sumBy 110 = .ok (.iaload, 1) := by decide +kernel
theorem dX11_sumBy_111 : decode cX11_sumBy 111 = .ok (.i2l, 1) := by decide +kernel
theorem dX11_sumBy_112 : decode cX11_sumBy 112 = .ok (.lmul, 1) := by decide +kernel
theorem dX11_sumBy_113 : decode cX11_sumBy 113 = .ok (.aload_n 0, 1) := by decide +kernel
theorem dX11_sumBy_114 : decode cX11_sumBy 114 = .ok (.getfield 42, 3) := by decide +kernel
theorem dX11_sumBy_117 : decode cX11_sumBy 117 = .ok (.iload 9, 2) := by decide +kernel
theorem dX11_sumBy_119 : decode cX11_sumBy 119 = .ok (.iaload, 1) := by decide +kernel
theorem dX11_sumBy_120 : decode cX11_sumBy 120 = .ok (.i2l, 1) := by decide +kernel
theorem dX11_sumBy_121 : decode cX11_sumBy 121 = .ok (.lmul, 1) := by decide +kernel
theorem dX11_sumBy_122 : decode cX11_sumBy 122 = .ok (.ladd, 1) := by decide +kernel
theorem dX11_sumBy_123 : decode cX11_sumBy 123 = .ok (.lstore 7, 2) := by decide +kernel
theorem dX11_sumBy_125 : decode cX11_sumBy 125 = .ok (.iinc 9 1, 3) := by decide +kernel
theorem dX11_sumBy_128 : decode cX11_sumBy 128 = .ok (.goto (-36), 3) := by decide +kernel
theorem dX11_sumBy_131 : decode cX11_sumBy 131 = .ok (.lload 7, 2) := by decide +kernel
theorem dX11_sumBy_133 : decode cX11_sumBy 133 = .ok (.lreturn, 1) := by decide +kernel
def own_c_sumBy : List Cond := [.fieldLink RX11 42 "ClashFreeModel" "paper" "[I", .methodLink RX11 95 yX11_manyOf, .instanceMethod yX11_manyOf, .selects RX11 yX11_manyOf yX11_manyOf, .initialized RX11, .fieldLink RX11 17 "ClashFreeModel" "keys" "[I", .methodLink RX11 133 yX11_placeOf, .static yX11_placeOf, .constantLong RX11 160 (4), .methodLink RX11 152 yX11_buckets, .instanceMethod yX11_buckets, .selects RX11 yX11_buckets yX11_buckets]
def wp_c_sumBy : List Cond := .code yX11_sumBy cX11_sumBy 10 (some .long) :: (own_c_sumBy ++ (wp_c_manyOf ++ (wp_c_placeOf ++ (wp_c_buckets ++ (wsX110 ++ ([] : List Cond))))))
set_option maxRecDepth 20000 in
theorem inown_c_sumBy : ∀ w ∈ own_c_sumBy, w ∈ lw_tbl := mem_places [1232, 1396, 1398, 40, 115, 1220, 1434, 1435, 1405, 1426, 1428, 46] (by decide +kernel)
set_option maxRecDepth 20000 in
theorem in_c_sumBy : ∀ w ∈ wp_c_sumBy, w ∈ lw_tbl := List.forall_mem_cons.mpr ⟨List.mem_of_getElem? (i := 1607) (by decide +kernel), List.forall_mem_append.mpr ⟨inown_c_sumBy, List.forall_mem_append.mpr ⟨in_c_manyOf, List.forall_mem_append.mpr ⟨in_c_placeOf, List.forall_mem_append.mpr ⟨in_c_buckets, List.forall_mem_append.mpr ⟨lwb_X11, fun _ h => absurd h List.not_mem_nil⟩⟩⟩⟩⟩⟩
set_option maxRecDepth 20000 in
theorem good_c_sumBy : wp_c_sumBy.all goodWord = true := by decide +kernel
set_option maxRecDepth 20000 in
theorem g_c_sumBy_c_manyOf_95 : GoodIn wp_c_sumBy (wsV RX11 95 RX11 yX11_manyOf wp_c_manyOf) := goodIn_sub (List.forall_mem_append.mpr ⟨List.forall_mem_cons.mpr ⟨(List.mem_of_getElem? (i := 2) rfl), List.forall_mem_cons.mpr ⟨(List.mem_of_getElem? (i := 3) rfl), List.forall_mem_cons.mpr ⟨(List.mem_of_getElem? (i := 4) rfl), List.forall_mem_cons.mpr ⟨(List.mem_of_getElem? (i := 5) rfl), fun _ h => absurd h List.not_mem_nil⟩⟩⟩⟩, (fun _ h => (List.mem_cons_of_mem _ (List.mem_append_right _ (List.mem_append_left _ h))))⟩) (by decide +kernel)
set_option maxRecDepth 20000 in
theorem g_c_sumBy_c_placeOf_133 : GoodIn wp_c_sumBy (va_wsS RX11 133 yX11_placeOf wp_c_placeOf) := goodIn_sub (List.forall_mem_append.mpr ⟨List.forall_mem_cons.mpr ⟨(List.mem_of_getElem? (i := 7) rfl), List.forall_mem_cons.mpr ⟨(List.mem_of_getElem? (i := 8) rfl), List.forall_mem_cons.mpr ⟨(List.mem_of_getElem? (i := 5) rfl), fun _ h => absurd h List.not_mem_nil⟩⟩⟩, (fun _ h => (List.mem_cons_of_mem _ (List.mem_append_right _ (List.mem_append_right _ (List.mem_append_left _ h)))))⟩) (by decide +kernel)
set_option maxRecDepth 20000 in
theorem g_c_sumBy_c_buckets_152 : GoodIn wp_c_sumBy (wsV RX11 152 RX11 yX11_buckets wp_c_buckets) := goodIn_sub (List.forall_mem_append.mpr ⟨List.forall_mem_cons.mpr ⟨(List.mem_of_getElem? (i := 10) rfl), List.forall_mem_cons.mpr ⟨(List.mem_of_getElem? (i := 11) rfl), List.forall_mem_cons.mpr ⟨(List.mem_of_getElem? (i := 12) rfl), List.forall_mem_cons.mpr ⟨(List.mem_of_getElem? (i := 5) rfl), fun _ h => absurd h List.not_mem_nil⟩⟩⟩⟩, (fun _ h => (List.mem_cons_of_mem _ (List.mem_append_right _ (List.mem_append_right _ (List.mem_append_right _ (List.mem_append_left _ h))))))⟩) (by decide +kernel)
set_option maxHeartbeats 4000000 in
set_option maxRecDepth 100000 in
theorem lp_sum1 (l : Launch) {p : Program} {e : Env} {s : State} {m : MethodId} {args : Array Value} {below : List Frame} {meth : Method} {c : Code} {Q : State → Prop} {A : Nat → Prop} (D : va_G) (h0 : Nat) (a : Nat → Nat) (cm : Nat → ClassId) (i : Nat → Int32) (g : Nat → Int64) (fn : Nat → Int64) (fk : Nat → Int32) (k : Nat) (cn : Nat) (nb : Nat) (K : Nat → Nat) (ka : Nat) (kb : Nat) (hk : k < 5) (h1 : fn (17 * k + 1) = lN cn) (hcn : cn ≤ 160) (h4 : fn (17 * k + 4) = lN nb) (hn1 : 1 ≤ nb) (hn2 : nb ≤ 2048) (hKy : KyS k fk cn K) (hka : ka < 2147483647) (hkb : kb < 2147483647) (hx : p.tables.exec = Jvm.exec) (hb : c.code = cX11_sumBy) (hml : c.maxLocals = 10) (hown : s.vm.findClass RX11 = some m.cls) (hts : ∀ w ∈ wp_c_sumBy, w.before args s = true) (hA : ∀ q, s.heap.size ≤ q → A q) (hK : va_K D vwCl [(cm 3, .long), (cm 4, .int), (cm 16, .int)] s) (kx31 : ∀ (j : Nat), ∀ (gp : Nat → Int32), (j ≤ nb) → ∀ (H : Heap) (locs : List Loc) (ls : Array Slot), va_P D vwCl [(h0, .inr (11, gM a i g)), (a 3, .inl (cm 3, 85, .inr (.inl fn))), (a 4, .inl (cm 4, 800, .inl fk)), (a 16, .inl (cm 16, 2048, .inl gp))] H → va_D A [(h0, .inr (11, gM a i g)), (a 3, .inl (cm 3, 85, .inr (.inl fn))), (a 4, .inl (cm 4, 800, .inl fk)), (a 16, .inl (cm 16, 2048, .inl gp))] → va_S A s.heap H locs → lv_has ls 10 [(6, .int (nI nb)), (0, .ref h0), (1, .int (nI k)), (2, .long (lN ka)), (4, .long (lN kb))] → W p l e ({ frames := 3, cells := 0, slots := 0, locals := 90 }) s m args below meth c H locs 0 0 Q (F0 m 31 ls [])) : ∀ (N : Nat), ∀ (j : Nat), ∀ (gp : Nat → Int32), (j ≤ nb) → nb - j < N → ∀ (H : Heap) (locs : List Loc) (ls : Array Slot), va_P D vwCl [(h0, .inr (11, gM a i g)), (a 3, .inl (cm 3, 85, .inr (.inl fn))), (a 4, .inl (cm 4, 800, .inl fk)), (a 16, .inl (cm 16, 2048, .inl gp))] H → va_D A [(h0, .inr (11, gM a i g)), (a 3, .inl (cm 3, 85, .inr (.inl fn))), (a 4, .inl (cm 4, 800, .inl fk)), (a 16, .inl (cm 16, 2048, .inl gp))] → va_S A s.heap H locs → lv_has ls 10 [(7, .int (nI j)), (6, .int (nI nb)), (0, .ref h0), (1, .int (nI k)), (2, .long (lN ka)), (4, .long (lN kb))] → W p l e ({ frames := 3, cells := 0, slots := 0, locals := 90 }) s m args below meth c H locs 0 0 Q (F0 m 10 ls []) := by
  have hin_X11 : ∀ w ∈ wsX110, w ∈ wp_c_sumBy := fun _ h => (List.mem_cons_of_mem _ (List.mem_append_right _ (List.mem_append_right _ (List.mem_append_right _ (List.mem_append_right _ (List.mem_append_left _ h))))))
  intro N
  induction N with
  | zero =>
    intro j gp hj1 hm
    exact absurd hm (Nat.not_lt_zero _)
  | succ N ih =>
    intro j gp hj1 hm H locs ls hP hD hS hl
    have hKl : ∀ z, z < cn → K z < 2147483648 := fun z a => Nat.lt_trans (hKy.1 z a).2 (by decide)
    refine lv_iload hx hb dX11_sumBy_10 (lv_at hl 0 rfl) ?_
    refine lv_iload hx hb dX11_sumBy_12 (lv_at hl 1 rfl) ?_
    refine lv_icmp_ge (tgt := 31) hx hb dX11_sumBy_14 (by decide) (fun hc1 => ?_) (fun hc1 => ?_)
    ·
      have hge_j : nb ≤ j := (nI_leI (by omega) (by omega)).mp hc1
      exact kx31 j gp (hj1) H locs ls (hP.sub [0, 1, 2, 3] rfl) (hD.sub [0, 1, 2, 3] (by decide) rfl) hS (lv_sub hl [1, 2, 3, 4, 5] rfl)
    ·
      have hlt_j : j < nb := by
        rcases Nat.lt_or_ge j nb with z | z
        · exact z
        · exact absurd (nI_le z (by omega)) hc1
      refine lv_aload_n hx hb dX11_sumBy_17 rfl (lv_at hl 2 rfl) ?_
      refine va_get (D := D) (ci := 11) (v := .ref (a 16)) (C := RX11) (T := TX11) (N := 47) hx hb hts hin_X11 hown hK hP 0 rfl rfl 16 (by decide) (hts (.fieldLink RX11 42 "ClashFreeModel" "paper" "[I") (List.mem_of_getElem? (i := 1) rfl)) (fun _ h9 => h9) rfl dX11_sumBy_18 ?_
      refine lv_iload hx hb dX11_sumBy_21 (lv_at hl 0 rfl) ?_
      refine lv_iconst (v := 0) hx hb dX11_sumBy_23 (by decide) ?_
      refine va_iast hx hb hK hP hD hS 3 2 rfl rfl (vp_in_nI (by omega) (by decide)) dX11_sumBy_24 (fun H locs hP hD hS => ?_)
      have hP : va_P D vwCl [(h0, .inr (11, gM a i g)), (a 3, .inl (cm 3, 85, .inr (.inl fn))), (a 4, .inl (cm 4, 800, .inl fk)), (a 16, .inl (cm 16, 2048, .inl (upd gp (Int32.toNatClampNeg (nI j)) 0)))] H := hP
      have hD : va_D A [(h0, .inr (11, gM a i g)), (a 3, .inl (cm 3, 85, .inr (.inl fn))), (a 4, .inl (cm 4, 800, .inl fk)), (a 16, .inl (cm 16, 2048, .inl (upd gp (Int32.toNatClampNeg (nI j)) 0)))] := hD
      generalize upd gp (Int32.toNatClampNeg (nI j)) 0 = g2 at hP hD
      refine lv_iinc (v := nI (j + 1)) (lv' := [(7, .int (nI (j + 1))), (6, .int (nI nb)), (0, .ref h0), (1, .int (nI k)), (2, .long (lN ka)), (4, .long (lN kb))]) hx hb dX11_sumBy_25 hl (k := 0) rfl (nI_1 j) (by decide) rfl (fun ls hl => ?_)
      refine lv_goto (tgt := 10) hx hb dX11_sumBy_28 (by decide) ?_
      exact ih (j + 1) g2 (by omega) (by omega) H locs ls (hP.sub [0, 1, 2, 3] rfl) (hD.sub [0, 1, 2, 3] (by decide) rfl) hS (lv_sub hl [0, 1, 2, 3, 4, 5] rfl)
set_option maxHeartbeats 4000000 in
set_option maxRecDepth 100000 in
theorem lp_sum2 (l : Launch) {p : Program} {e : Env} {s : State} {m : MethodId} {args : Array Value} {below : List Frame} {meth : Method} {c : Code} {Q : State → Prop} {A : Nat → Prop} (D : va_G) (h0 : Nat) (a : Nat → Nat) (cm : Nat → ClassId) (i : Nat → Int32) (g : Nat → Int64) (fn : Nat → Int64) (fk : Nat → Int32) (k : Nat) (cn : Nat) (nb : Nat) (K : Nat → Nat) (ka : Nat) (kb : Nat) (hk : k < 5) (h1 : fn (17 * k + 1) = lN cn) (hcn : cn ≤ 160) (h4 : fn (17 * k + 4) = lN nb) (hn1 : 1 ≤ nb) (hn2 : nb ≤ 2048) (hKy : KyS k fk cn K) (hka : ka < 2147483647) (hkb : kb < 2147483647) (hx : p.tables.exec = Jvm.exec) (hb : c.code = cX11_sumBy) (hml : c.maxLocals = 10) (hown : s.vm.findClass RX11 = some m.cls) (hts : ∀ w ∈ wp_c_sumBy, w.before args s = true) (hA : ∀ q, s.heap.size ≤ q → A q) (hK : va_K D vwCl [(cm 3, .long), (cm 4, .int), (cm 16, .int)] s) (kx86 : ∀ (x : Nat), ∀ (gp : Nat → Int32), (x ≤ cn) → ∀ (H : Heap) (locs : List Loc) (ls : Array Slot), va_P D vwCl [(h0, .inr (11, gM a i g)), (a 3, .inl (cm 3, 85, .inr (.inl fn))), (a 4, .inl (cm 4, 800, .inl fk)), (a 16, .inl (cm 16, 2048, .inl gp))] H → va_D A [(h0, .inr (11, gM a i g)), (a 3, .inl (cm 3, 85, .inr (.inl fn))), (a 4, .inl (cm 4, 800, .inl fk)), (a 16, .inl (cm 16, 2048, .inl gp))] → va_S A s.heap H locs → lv_has ls 10 [(6, .int (nI nb)), (0, .ref h0), (1, .int (nI k)), (2, .long (lN ka)), (4, .long (lN kb))] → W p l e ({ frames := 3, cells := 0, slots := 0, locals := 90 }) s m args below meth c H locs 0 0 Q (F0 m 86 ls [])) : ∀ (N : Nat), ∀ (x : Nat), ∀ (gp : Nat → Int32), (x ≤ cn) → cn - x < N → ∀ (H : Heap) (locs : List Loc) (ls : Array Slot), va_P D vwCl [(h0, .inr (11, gM a i g)), (a 3, .inl (cm 3, 85, .inr (.inl fn))), (a 4, .inl (cm 4, 800, .inl fk)), (a 16, .inl (cm 16, 2048, .inl gp))] H → va_D A [(h0, .inr (11, gM a i g)), (a 3, .inl (cm 3, 85, .inr (.inl fn))), (a 4, .inl (cm 4, 800, .inl fk)), (a 16, .inl (cm 16, 2048, .inl gp))] → va_S A s.heap H locs → lv_has ls 10 [(7, .int (nI (160 * k + x))), (6, .int (nI nb)), (0, .ref h0), (1, .int (nI k)), (2, .long (lN ka)), (4, .long (lN kb))] → W p l e ({ frames := 3, cells := 0, slots := 0, locals := 90 }) s m args below meth c H locs 0 0 Q (F0 m 38 ls []) := by
  have hin_X11 : ∀ w ∈ wsX110, w ∈ wp_c_sumBy := fun _ h => (List.mem_cons_of_mem _ (List.mem_append_right _ (List.mem_append_right _ (List.mem_append_right _ (List.mem_append_right _ (List.mem_append_left _ h))))))
  intro N
  induction N with
  | zero =>
    intro x gp hx2 hm
    exact absurd hm (Nat.not_lt_zero _)
  | succ N ih =>
    intro x gp hx2 hm H locs ls hP hD hS hl
    have hKl : ∀ z, z < cn → K z < 2147483648 := fun z a => Nat.lt_trans (hKy.1 z a).2 (by decide)
    refine lv_iload hx hb dX11_sumBy_38 (lv_at hl 0 rfl) ?_
    refine lv_sipush (v := 160) hx hb dX11_sumBy_40 (by decide) ?_
    refine lv_iload_n hx hb dX11_sumBy_43 rfl (lv_at hl 3 rfl) ?_
    refine lv_imul hx hb dX11_sumBy_44 ?_
    refine lv_aload_n hx hb dX11_sumBy_45 rfl (lv_at hl 2 rfl) ?_
    refine lv_iload_n hx hb dX11_sumBy_46 rfl (lv_at hl 3 rfl) ?_
    have hPc := hP.sub (ws' := [(h0, .inr (11, gM a i g)), (a 3, .inl (cm 3, 85, .inr (.inl fn)))]) [0, 1] rfl
    have hKc := hK.sub (tys' := [(cm 3, .long)]) [0] rfl
    have hFc := va_free0 hS hA
    refine va_calli (va_runV (As := [.int (nI k)]) (rest := [.int (160 * (nI k)), .int (nI (160 * k + x))]) ⟨hx, hb, hml, hown, hts⟩ (c_manyOf l D _ h0 a cm i g fn k cn (by first | assumption | omega) h1) (cwV 1 hts g_c_sumBy_c_manyOf_95 rfl rfl rfl (by decide +kernel) ⟨(Nat.le_of_ble_eq_true rfl), (Nat.le_of_ble_eq_true rfl)⟩) (PcR_V (q0 := 0) hPc hKc rfl rfl) rfl rfl hl.1 rfl (lv_room (Nat.le_of_ble_eq_true rfl)) dX11_sumBy_47 ⟨(Nat.le_of_ble_eq_true rfl), (Nat.le_of_ble_eq_true rfl)⟩) hS (fun q _ h => hFc q h) hFc (fun r1 uu tt H locs htt hvm hw hB hz1 hk1 hS => ?_)
    have hP := va_keep hP hk1
    try dsimp only at hw
    clear hB hz1 hk1 hFc hPc hKc
    obtain rfl : r1 = nI cn := hw
    refine lv_iadd hx hb dX11_sumBy_50 ?_
    refine lv_topi (fun v2 ev2 => ?_)
    obtain rfl : v2 = nI (160 * k + cn) := ev2.trans (ix160 k _)
    refine lv_icmp_ge (tgt := 86) hx hb dX11_sumBy_51 (by decide) (fun hc3 => ?_) (fun hc3 => ?_)
    ·
      have hge_x : cn ≤ x := by
        have := (nI_leI (a := 160 * k + cn) (b := 160 * k + x) (by omega) (by omega)).mp hc3
        omega
      exact kx86 x gp (hx2) H locs ls (hP.sub [0, 1, 2, 3] rfl) (hD.sub [0, 1, 2, 3] (by decide) rfl) hS (lv_sub hl [1, 2, 3, 4, 5] rfl)
    ·
      have hlt_x : x < cn := by
        rcases Nat.lt_or_ge x cn with z | z
        · exact z
        · exact absurd (nI_le (show 160 * k + cn ≤ 160 * k + x by omega) (by omega)) hc3
      refine lv_aload_n hx hb dX11_sumBy_54 rfl (lv_at hl 2 rfl) ?_
      refine va_get (D := D) (ci := 11) (v := .ref (a 16)) (C := RX11) (T := TX11) (N := 47) hx hb hts hin_X11 hown hK hP 0 rfl rfl 16 (by decide) (hts (.fieldLink RX11 42 "ClashFreeModel" "paper" "[I") (List.mem_of_getElem? (i := 1) rfl)) (fun _ h9 => h9) rfl dX11_sumBy_55 ?_
      refine lv_lload_n hx hb dX11_sumBy_58 rfl (lv_at hl 4 rfl) ?_
      refine lv_lload hx hb dX11_sumBy_59 (lv_at hl 5 rfl) ?_
      refine lv_aload_n hx hb dX11_sumBy_61 rfl (lv_at hl 2 rfl) ?_
      refine va_get (D := D) (ci := 11) (v := .ref (a 4)) (C := RX11) (T := TX11) (N := 47) hx hb hts hin_X11 hown hK hP 0 rfl rfl 4 (by decide) (hts (.fieldLink RX11 17 "ClashFreeModel" "keys" "[I") (List.mem_of_getElem? (i := 6) rfl)) (fun _ h9 => h9) rfl dX11_sumBy_62 ?_
      refine lv_iload hx hb dX11_sumBy_65 (lv_at hl 0 rfl) ?_
      refine va_iald hx hb hK hP 2 1 rfl rfl (vp_in_nI (by omega) (by decide)) dX11_sumBy_67 ?_
      refine lv_topi (fun v4 ev4 => ?_)
      obtain rfl : v4 = nI (K x) := ev4.trans (by rw [nI_clamp (by omega)]; exact (hKy.1 _ (by omega)).1)
      refine lv_i2l hx hb dX11_sumBy_68 rfl ?_
      refine lv_topl (fun v5 ev5 => ?_)
      obtain rfl : v5 = lN (K x) := ev5.trans (nI_l (Nat.lt_trans (hKy.1 _ (by omega)).2 (by decide)))
      refine lv_iload hx hb dX11_sumBy_69 (lv_at hl 1 rfl) ?_
      refine lv_i2l hx hb dX11_sumBy_71 rfl ?_
      refine lv_topl (fun v6 ev6 => ?_)
      obtain rfl : v6 = lN nb := ev6.trans (nI_l (by omega))
      have hPc := hP.sub (ws' := []) [] rfl
      have hKc := hK.sub (tys' := []) [] rfl
      have hFc := va_free0 hS hA
      refine va_calli (va_runS (As := [.long (lN ka), .long (lN kb), .long (lN (K x)), .long (lN nb)]) (rest := [.ref (a 16)]) ⟨hx, hb, hml, hown, hts⟩ (c_placeOf l D _ ka kb (K x) nb (by first | assumption | omega) (by first | assumption | omega) (by first | assumption | omega | exact hKl _ (by omega)) (by first | assumption | omega) (by first | assumption | omega)) (va_cwS 4 hts g_c_sumBy_c_placeOf_133 rfl rfl rfl (by decide +kernel) ⟨(Nat.le_of_ble_eq_true rfl), (Nat.le_of_ble_eq_true rfl)⟩) (PcR_S hPc hKc) rfl rfl hl.1 rfl (lv_room (Nat.le_of_ble_eq_true rfl)) dX11_sumBy_72 ⟨(Nat.le_of_ble_eq_true rfl), (Nat.le_of_ble_eq_true rfl)⟩) hS (fun q _ h => hFc q h) hFc (fun r7 uu tt H locs htt hvm hw hB hz1 hk1 hS => ?_)
      have hP := va_keep hP hk1
      try dsimp only at hw
      clear hB hz1 hk1 hFc hPc hKc
      obtain rfl : r7 = nI ((ka * (K x) + kb) % 2147483647 % nb) := hw
      refine lv_dup2_11 hx hb dX11_sumBy_75 rfl rfl ?_
      refine va_iald hx hb hK hP 3 2 rfl rfl (vp_in_nI (by have := Nat.mod_lt ((ka * K x + kb) % 2147483647) (show 0 < nb by omega); omega) (by decide)) dX11_sumBy_76 ?_
      refine lv_topi (fun v8 ev8 => ?_)
      refine lv_iconst (v := 1) hx hb dX11_sumBy_77 (by decide) ?_
      refine lv_iadd hx hb dX11_sumBy_78 ?_
      refine lv_topi (fun v9 ev9 => ?_)
      refine va_iast hx hb hK hP hD hS 3 2 rfl rfl (vp_in_nI (by have := Nat.mod_lt ((ka * K x + kb) % 2147483647) (show 0 < nb by omega); omega) (by decide)) dX11_sumBy_79 (fun H locs hP hD hS => ?_)
      have hP : va_P D vwCl [(h0, .inr (11, gM a i g)), (a 3, .inl (cm 3, 85, .inr (.inl fn))), (a 4, .inl (cm 4, 800, .inl fk)), (a 16, .inl (cm 16, 2048, .inl (upd gp (Int32.toNatClampNeg (nI ((ka * (K x) + kb) % 2147483647 % nb))) v9)))] H := hP
      have hD : va_D A [(h0, .inr (11, gM a i g)), (a 3, .inl (cm 3, 85, .inr (.inl fn))), (a 4, .inl (cm 4, 800, .inl fk)), (a 16, .inl (cm 16, 2048, .inl (upd gp (Int32.toNatClampNeg (nI ((ka * (K x) + kb) % 2147483647 % nb))) v9)))] := hD
      generalize upd gp (Int32.toNatClampNeg (nI ((ka * (K x) + kb) % 2147483647 % nb))) v9 = g10 at hP hD
      refine lv_iinc (v := nI (160 * k + (x + 1))) (lv' := [(7, .int (nI (160 * k + (x + 1)))), (6, .int (nI nb)), (0, .ref h0), (1, .int (nI k)), (2, .long (lN ka)), (4, .long (lN kb))]) hx hb dX11_sumBy_80 hl (k := 0) rfl (nI_1 _) (by decide) rfl (fun ls hl => ?_)
      refine lv_goto (tgt := 38) hx hb dX11_sumBy_83 (by decide) ?_
      exact ih (x + 1) g10 (by omega) (by omega) H locs ls (hP.sub [0, 1, 2, 3] rfl) (hD.sub [0, 1, 2, 3] (by decide) rfl) hS (lv_sub hl [0, 1, 2, 3, 4, 5] rfl)
set_option maxHeartbeats 4000000 in
set_option maxRecDepth 100000 in
theorem lp_sum3 (l : Launch) {p : Program} {e : Env} {s : State} {m : MethodId} {args : Array Value} {below : List Frame} {meth : Method} {c : Code} {Q : State → Prop} {A : Nat → Prop} (D : va_G) (h0 : Nat) (a : Nat → Nat) (cm : Nat → ClassId) (i : Nat → Int32) (g : Nat → Int64) (fn : Nat → Int64) (fk : Nat → Int32) (fp : Nat → Int32) (k : Nat) (cn : Nat) (nb : Nat) (K : Nat → Nat) (ka : Nat) (kb : Nat) (hk : k < 5) (h1 : fn (17 * k + 1) = lN cn) (hcn : cn ≤ 160) (h4 : fn (17 * k + 4) = lN nb) (hn1 : 1 ≤ nb) (hn2 : nb ≤ 2048) (hKy : KyS k fk cn K) (hka : ka < 2147483647) (hkb : kb < 2147483647) (hx : p.tables.exec = Jvm.exec) (hb : c.code = cX11_sumBy) (hml : c.maxLocals = 10) (hown : s.vm.findClass RX11 = some m.cls) (hts : ∀ w ∈ wp_c_sumBy, w.before args s = true) (hA : ∀ q, s.heap.size ≤ q → A q) (hK : va_K D vwCl [(cm 3, .long), (cm 4, .int), (cm 16, .int)] s) (kx131 : ∀ (j : Nat), ∀ (sm : Int64), (j ≤ nb) → ∀ (H : Heap) (locs : List Loc) (ls : Array Slot), va_P D vwCl [(h0, .inr (11, gM a i g)), (a 3, .inl (cm 3, 85, .inr (.inl fn))), (a 4, .inl (cm 4, 800, .inl fk)), (a 16, .inl (cm 16, 2048, .inl fp))] H → va_D A [(h0, .inr (11, gM a i g)), (a 3, .inl (cm 3, 85, .inr (.inl fn))), (a 4, .inl (cm 4, 800, .inl fk)), (a 16, .inl (cm 16, 2048, .inl fp))] → va_S A s.heap H locs → lv_has ls 10 [(7, .long sm), (0, .ref h0)] → W p l e ({ frames := 3, cells := 0, slots := 0, locals := 90 }) s m args below meth c H locs 0 0 Q (F0 m 131 ls [])) : ∀ (N : Nat), ∀ (j : Nat), ∀ (sm : Int64), (j ≤ nb) → nb - j < N → ∀ (H : Heap) (locs : List Loc) (ls : Array Slot), va_P D vwCl [(h0, .inr (11, gM a i g)), (a 3, .inl (cm 3, 85, .inr (.inl fn))), (a 4, .inl (cm 4, 800, .inl fk)), (a 16, .inl (cm 16, 2048, .inl fp))] H → va_D A [(h0, .inr (11, gM a i g)), (a 3, .inl (cm 3, 85, .inr (.inl fn))), (a 4, .inl (cm 4, 800, .inl fk)), (a 16, .inl (cm 16, 2048, .inl fp))] → va_S A s.heap H locs → lv_has ls 10 [(9, .int (nI j)), (7, .long sm), (6, .int (nI nb)), (0, .ref h0), (1, .int (nI k)), (2, .long (lN ka)), (4, .long (lN kb))] → W p l e ({ frames := 3, cells := 0, slots := 0, locals := 90 }) s m args below meth c H locs 0 0 Q (F0 m 92 ls []) := by
  have hin_X11 : ∀ w ∈ wsX110, w ∈ wp_c_sumBy := fun _ h => (List.mem_cons_of_mem _ (List.mem_append_right _ (List.mem_append_right _ (List.mem_append_right _ (List.mem_append_right _ (List.mem_append_left _ h))))))
  intro N
  induction N with
  | zero =>
    intro j sm hj1 hm
    exact absurd hm (Nat.not_lt_zero _)
  | succ N ih =>
    intro j sm hj1 hm H locs ls hP hD hS hl
    have hKl : ∀ z, z < cn → K z < 2147483648 := fun z a => Nat.lt_trans (hKy.1 z a).2 (by decide)
    refine lv_iload hx hb dX11_sumBy_92 (lv_at hl 0 rfl) ?_
    refine lv_iload hx hb dX11_sumBy_94 (lv_at hl 2 rfl) ?_
    refine lv_icmp_ge (tgt := 131) hx hb dX11_sumBy_96 (by decide) (fun hc1 => ?_) (fun hc1 => ?_)
    ·
      have hge_j : nb ≤ j := (nI_leI (by omega) (by omega)).mp hc1
      exact kx131 j sm (hj1) H locs ls (hP.sub [0, 1, 2, 3] rfl) (hD.sub [0, 1, 2, 3] (by decide) rfl) hS (lv_sub hl [1, 3] rfl)
    ·
      have hlt_j : j < nb := by
        rcases Nat.lt_or_ge j nb with z | z
        · exact z
        · exact absurd (nI_le z (by omega)) hc1
      refine lv_lload hx hb dX11_sumBy_99 (lv_at hl 1 rfl) ?_
      refine lv_ldc2 (v := 4) hx hb hown (hts (.constantLong RX11 160 (4)) (List.mem_of_getElem? (i := 9) rfl)) dX11_sumBy_101 ?_
      refine lv_aload_n hx hb dX11_sumBy_104 rfl (lv_at hl 3 rfl) ?_
      refine va_get (D := D) (ci := 11) (v := .ref (a 16)) (C := RX11) (T := TX11) (N := 47) hx hb hts hin_X11 hown hK hP 0 rfl rfl 16 (by decide) (hts (.fieldLink RX11 42 "ClashFreeModel" "paper" "[I") (List.mem_of_getElem? (i := 1) rfl)) (fun _ h9 => h9) rfl dX11_sumBy_105 ?_
      refine lv_iload hx hb dX11_sumBy_108 (lv_at hl 0 rfl) ?_
      refine va_iald hx hb hK hP 3 2 rfl rfl (vp_in_nI (by omega) (by decide)) dX11_sumBy_110 ?_
      refine lv_topi (fun v2 ev2 => ?_)
      refine lv_i2l hx hb dX11_sumBy_111 rfl ?_
      refine lv_lmul hx hb dX11_sumBy_112 ?_
      refine lv_topl (fun v3 ev3 => ?_)
      refine lv_aload_n hx hb dX11_sumBy_113 rfl (lv_at hl 3 rfl) ?_
      refine va_get (D := D) (ci := 11) (v := .ref (a 16)) (C := RX11) (T := TX11) (N := 47) hx hb hts hin_X11 hown hK hP 0 rfl rfl 16 (by decide) (hts (.fieldLink RX11 42 "ClashFreeModel" "paper" "[I") (List.mem_of_getElem? (i := 1) rfl)) (fun _ h9 => h9) rfl dX11_sumBy_114 ?_
      refine lv_iload hx hb dX11_sumBy_117 (lv_at hl 0 rfl) ?_
      refine va_iald hx hb hK hP 3 2 rfl rfl (vp_in_nI (by omega) (by decide)) dX11_sumBy_119 ?_
      refine lv_topi (fun v4 ev4 => ?_)
      refine lv_i2l hx hb dX11_sumBy_120 rfl ?_
      refine lv_lmul hx hb dX11_sumBy_121 ?_
      refine lv_topl (fun v5 ev5 => ?_)
      refine lv_ladd hx hb dX11_sumBy_122 ?_
      refine lv_topl (fun v6 ev6 => ?_)
      refine lv_lstore (lv' := [(7, .long v6), (9, .int (nI j)), (6, .int (nI nb)), (0, .ref h0), (1, .int (nI k)), (2, .long (lN ka)), (4, .long (lN kb))]) hx hb dX11_sumBy_123 hl (by decide) rfl (fun ls hl => ?_)
      refine lv_iinc (v := nI (j + 1)) (lv' := [(9, .int (nI (j + 1))), (7, .long v6), (6, .int (nI nb)), (0, .ref h0), (1, .int (nI k)), (2, .long (lN ka)), (4, .long (lN kb))]) hx hb dX11_sumBy_125 hl (k := 1) rfl (nI_1 j) (by decide) rfl (fun ls hl => ?_)
      refine lv_goto (tgt := 92) hx hb dX11_sumBy_128 (by decide) ?_
      exact ih (j + 1) v6 (by omega) (by omega) H locs ls (hP.sub [0, 1, 2, 3] rfl) (hD.sub [0, 1, 2, 3] (by decide) rfl) hS (lv_sub hl [0, 1, 2, 3, 4, 5, 6] rfl)
set_option maxHeartbeats 4000000 in
set_option maxRecDepth 100000 in
theorem c_sumBy (l : Launch) (D : va_G) (sz : Nat) (h0 : Nat) (a : Nat → Nat) (cm : Nat → ClassId) (i : Nat → Int32) (g : Nat → Int64) (fn : Nat → Int64) (fk : Nat → Int32) (fp : Nat → Int32) (k : Nat) (cn : Nat) (nb : Nat) (K : Nat → Nat) (ka : Nat) (kb : Nat) (hk : k < 5) (h1 : fn (17 * k + 1) = lN cn) (hcn : cn ≤ 160) (h4 : fn (17 * k + 4) = lN nb) (hn1 : 1 ≤ nb) (hn2 : nb ≤ 2048) (hKy : KyS k fk cn K) (hka : ka < 2147483647) (hkb : kb < 2147483647) : Met l yX11_sumBy wp_c_sumBy ({ frames := 3, cells := 0, slots := 0, locals := 90 }) (PcW D [.ref h0, .int (nI k), .long (lN ka), .long (lN kb)] sz [(h0, .inr (11, gM a i g)), (a 3, .inl (cm 3, 85, .inr (.inl fn))), (a 4, .inl (cm 4, 800, .inl fk)), (a 16, .inl (cm 16, 2048, .inl fp))] [(cm 3, .long), (cm 4, .int), (cm 16, .int)]) (va_Ql (fun (r : Int64) (u : (Nat → Int32)) => True) (fun (u : (Nat → Int32)) t => va_P D vwCl [(h0, .inr (11, gM a i g)), (a 3, .inl (cm 3, 85, .inr (.inl fn))), (a 4, .inl (cm 4, 800, .inl fk)), (a 16, .inl (cm 16, 2048, .inl u))] t.heap ∧ va_K D vwCl [(cm 3, .long), (cm 4, .int), (cm 16, .int)] t ∧ va_D (va_A [(h0, .inr (11, gM a i g)), (a 3, .inl (cm 3, 85, .inr (.inl fn))), (a 4, .inl (cm 4, 800, .inl fk)), (a 16, .inl (cm 16, 2048, .inl fp))] sz) [(h0, .inr (11, gM a i g)), (a 3, .inl (cm 3, 85, .inr (.inl fn))), (a 4, .inl (cm 4, 800, .inl fk)), (a 16, .inl (cm 16, 2048, .inl u))]) (va_A [(h0, .inr (11, gM a i g)), (a 3, .inl (cm 3, 85, .inr (.inl fn))), (a 4, .inl (cm 4, 800, .inl fk)), (a 16, .inl (cm 16, 2048, .inl fp))] sz)) 0 0 (va_A [(h0, .inr (11, gM a i g)), (a 3, .inl (cm 3, 85, .inr (.inl fn))), (a 4, .inl (cm 4, 800, .inl fk)), (a 16, .inl (cm 16, 2048, .inl fp))] sz) := by
  refine Met.ofW (cc := cX11_sumBy) (maxL := 10) (ret := (some .long)) (by decide) rfl ?_
  intro p e s m args below meth c s₁ B hml hv
  obtain ⟨rfl, hsz, hP, hK, hD0⟩ := hv
  have hx := B.exec
  have hb := B.bytes
  have hr := B.returns
  have hts := atoms_spec (ws := wp_c_sumBy) B.pre
  have hin_X11 : ∀ w ∈ wsX110, w ∈ wp_c_sumBy := fun _ h => (List.mem_cons_of_mem _ (List.mem_append_right _ (List.mem_append_right _ (List.mem_append_right _ (List.mem_append_right _ (List.mem_append_left _ h))))))
  have hown : s.vm.findClass RX11 = some m.cls := findClass_of_methodNamed B.named
  have hlocks := B.notSynchronized
  subst hsz
  have hD := hD0.self (sz := s.heap.size)
  generalize hAe : va_A [(h0, .inr (11, gM a i g)), (a 3, .inl (cm 3, 85, .inr (.inl fn))), (a 4, .inl (cm 4, 800, .inl fk)), (a 16, .inl (cm 16, 2048, .inl fp))] s.heap.size = A at hD ⊢
  have hA : ∀ q : Nat, s.heap.size ≤ q → A q := fun q h => by rw [← hAe]; exact Or.inr h
  have hS : va_S A s.heap s.heap [] := va_S.rf
  have hP : va_P D vwCl [(h0, .inr (11, gM a i g)), (a 3, .inl (cm 3, 85, .inr (.inl fn))), (a 4, .inl (cm 4, 800, .inl fk)), (a 16, .inl (cm 16, 2048, .inl fp))] s.heap := hP
  have hl := lv_entry ([.ref h0, .int (nI k), .long (lN ka), .long (lN kb)]) (n := 10) (Nat.le_of_ble_eq_true rfl)
  rw [lg_entry_eq]
  generalize (lg_sl ([.ref h0, .int (nI k), .long (lN ka), .long (lN kb)]) ++ List.replicate (10 - (lg_sl ([.ref h0, .int (nI k), .long (lN ka), .long (lN kb)])).length) Slot.unset).toArray = ls at hl ⊢
  have hl : lv_has ls 10 [(0, .ref h0), (1, .int (nI k)), (2, .long (lN ka)), (4, .long (lN kb))] := hl
  refine lv_aload_n hx hb dX11_sumBy_0 rfl (lv_at hl 0 rfl) ?_
  refine lv_iload_n hx hb dX11_sumBy_1 rfl (lv_at hl 1 rfl) ?_
  have hPc := hP.sub (ws' := [(h0, .inr (11, gM a i g)), (a 3, .inl (cm 3, 85, .inr (.inl fn)))]) [0, 1] rfl
  have hKc := hK.sub (tys' := [(cm 3, .long)]) [0] rfl
  have hFc := va_free0 hS hA
  refine va_calli (va_runV (As := [.int (nI k)]) (rest := []) ⟨hx, hb, hml, hown, hts⟩ (c_buckets l D _ h0 a cm i g fn k nb (by first | assumption | omega) h4) (cwV 1 hts g_c_sumBy_c_buckets_152 rfl rfl rfl (by decide +kernel) ⟨(Nat.le_of_ble_eq_true rfl), (Nat.le_of_ble_eq_true rfl)⟩) (PcR_V (q0 := 0) hPc hKc rfl rfl) rfl rfl hl.1 rfl (lv_room (Nat.le_of_ble_eq_true rfl)) dX11_sumBy_2 ⟨(Nat.le_of_ble_eq_true rfl), (Nat.le_of_ble_eq_true rfl)⟩) hS (fun q _ h => hFc q h) hFc (fun r1 uu tt H locs htt hvm hw hB hz1 hk1 hS => ?_)
  have hP := va_keep hP hk1
  try dsimp only at hw
  clear hB hz1 hk1 hFc hPc hKc
  obtain rfl : r1 = nI nb := hw
  refine lv_istore (lv' := [(6, .int (nI nb)), (0, .ref h0), (1, .int (nI k)), (2, .long (lN ka)), (4, .long (lN kb))]) hx hb dX11_sumBy_5 hl (by decide) rfl (fun ls hl => ?_)
  refine lv_iconst (v := 0) hx hb dX11_sumBy_7 (by decide) ?_
  refine lv_istore (lv' := [(7, .int 0), (6, .int (nI nb)), (0, .ref h0), (1, .int (nI k)), (2, .long (lN ka)), (4, .long (lN kb))]) hx hb dX11_sumBy_8 hl (by decide) rfl (fun ls hl => ?_)
  refine lp_sum1 l D h0 a cm i g fn fk k cn nb K ka kb (hk) (h1) (hcn) (h4) (hn1) (hn2) (hKy) (hka) (hkb) hx hb hml hown hts hA (hK.sub [0, 1, 2] rfl) ?_ (nb + 1) 0 fp (Nat.zero_le _) (by omega) _ _ _ (hP.sub [0, 1, 2, 3] rfl) (hD.sub [0, 1, 2, 3] (by decide) rfl) hS (lv_sub hl [0, 1, 2, 3, 4, 5] rfl)
  intro j_2 gp_3 hj1_4 H locs ls hP hD hS hl
  refine lv_sipush (v := 160) hx hb dX11_sumBy_31 (by decide) ?_
  refine lv_iload_n hx hb dX11_sumBy_34 rfl (lv_at hl 2 rfl) ?_
  refine lv_imul hx hb dX11_sumBy_35 ?_
  refine lv_topi (fun v5 ev5 => ?_)
  obtain rfl : v5 = nI (160 * k + 0) := ev5.trans (pk_mul 160 k)
  refine lv_istore (lv' := [(7, .int (nI (160 * k + 0))), (6, .int (nI nb)), (0, .ref h0), (1, .int (nI k)), (2, .long (lN ka)), (4, .long (lN kb))]) hx hb dX11_sumBy_36 hl (by decide) rfl (fun ls hl => ?_)
  refine lp_sum2 l D h0 a cm i g fn fk k cn nb K ka kb (hk) (h1) (hcn) (h4) (hn1) (hn2) (hKy) (hka) (hkb) hx hb hml hown hts hA (hK.sub [0, 1, 2] rfl) ?_ (cn + 1) 0 gp_3 (Nat.zero_le _) (by omega) _ _ _ (hP.sub [0, 1, 2, 3] rfl) (hD.sub [0, 1, 2, 3] (by decide) rfl) hS (lv_sub hl [0, 1, 2, 3, 4, 5] rfl)
  intro x_6 gp_7 hx2_8 H locs ls hP hD hS hl
  refine lv_lconst (v := 0) hx hb dX11_sumBy_86 (by decide) ?_
  refine lv_lstore (lv' := [(7, .long 0), (6, .int (nI nb)), (0, .ref h0), (1, .int (nI k)), (2, .long (lN ka)), (4, .long (lN kb))]) hx hb dX11_sumBy_87 hl (by decide) rfl (fun ls hl => ?_)
  refine lv_iconst (v := 0) hx hb dX11_sumBy_89 (by decide) ?_
  refine lv_istore (lv' := [(9, .int 0), (7, .long 0), (6, .int (nI nb)), (0, .ref h0), (1, .int (nI k)), (2, .long (lN ka)), (4, .long (lN kb))]) hx hb dX11_sumBy_90 hl (by decide) rfl (fun ls hl => ?_)
  refine lp_sum3 l D h0 a cm i g fn fk gp_7 k cn nb K ka kb (hk) (h1) (hcn) (h4) (hn1) (hn2) (hKy) (hka) (hkb) hx hb hml hown hts hA (hK.sub [0, 1, 2] rfl) ?_ (nb + 1) 0 0 (Nat.zero_le _) (by omega) _ _ _ (hP.sub [0, 1, 2, 3] rfl) (hD.sub [0, 1, 2, 3] (by decide) rfl) hS (lv_sub hl [0, 1, 2, 3, 4, 5, 6] rfl)
  intro j_9 sm_10 hj1_11 H locs ls hP hD hS hl
  refine lv_lload hx hb dX11_sumBy_131 (lv_at hl 0 rfl) ?_
  exact W.lret (v := sm_10) hx hb hr (fun t ht hW => ⟨⟨sm_10, gp_7, rfl, trivial, by rw [ht]; exact hP.sub [0, 1, 2, 3] rfl, va_K.moved hW.alike (hK.sub [0, 1, 2] rfl), hD.sub [0, 1, 2, 3] (by decide) rfl⟩, hS.F ht⟩) hS.2.2 dX11_sumBy_133

