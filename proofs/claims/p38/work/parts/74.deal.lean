theorem dX3_deal_0 : decode cX3_deal 0 = .ok (.aload_n 0, 1) := by decide +kernel
theorem dX3_deal_1 : decode cX3_deal 1 = .ok (.invokevirtual 60, 3) := by decide +kernel
theorem dX3_deal_4 : decode cX3_deal 4 = .ok (.aload_n 0, 1) := by decide +kernel
theorem dX3_deal_5 : decode cX3_deal 5 = .ok (.iconst 1, 1) := by decide +kernel
theorem dX3_deal_6 : decode cX3_deal 6 = .ok (.sipush 2048, 3) := by decide +kernel
theorem dX3_deal_9 : decode cX3_deal 9 = .ok (.iload 4, 2) := by decide +kernel
theorem dX3_deal_11 : decode cX3_deal 11 = .ok (.invokestatic 63, 3) := by decide +kernel
theorem dX3_deal_14 : decode cX3_deal 14 = .ok (.invokestatic 69, 3) := by decide +kernel
theorem dX3_deal_17 : decode cX3_deal 17 = .ok (.putfield 36, 3) := by decide +kernel
theorem dX3_deal_20 : decode cX3_deal 20 = .ok (.aload_n 0, 1) := by decide +kernel
theorem dX3_deal_21 : decode cX3_deal 21 = .ok (.iload_n 2, 1) := by decide +kernel
theorem dX3_deal_22 : decode cX3_deal 22 = .ok (.putfield 40, 3) := by decide +kernel
theorem dX3_deal_25 : decode cX3_deal 25 = .ok (.aload_n 0, 1) := by decide +kernel
theorem dX3_deal_26 : decode cX3_deal 26 = .ok (.iload_n 3, 1) := by decide +kernel
theorem dX3_deal_27 : decode cX3_deal 27 = .ok (.putfield 43, 3) := by decide +kernel
theorem dX3_deal_30 : decode cX3_deal 30 = .ok (.aload_n 0, 1) := by decide +kernel
theorem dX3_deal_31 : decode cX3_deal 31 = .ok (.aload_n 1, 1) := by decide +kernel
theorem dX3_deal_32 : decode cX3_deal 32 = .ok (.getfield 72, 3) := by decide +kernel
theorem dX3_deal_35 : decode cX3_deal 35 = .ok (.putfield 54, 3) := by decide +kernel
theorem dX3_deal_38 : decode cX3_deal 38 = .ok (.iconst 0, 1) := by decide +kernel
theorem dX3_deal_39 : decode cX3_deal 39 = .ok (.istore 5, 2) := by decide +kernel
theorem dX3_deal_41 : decode cX3_deal 41 = .ok (.iconst 0, 1) := by decide +kernel
theorem dX3_deal_42 : decode cX3_deal 42 = .ok (.istore 6, 2) := by decide +kernel
theorem dX3_deal_44 : decode cX3_deal 44 = .ok (.iload 6, 2) := by decide +kernel
theorem dX3_deal_46 : decode cX3_deal 46 = .ok (.aload_n 0, 1) := by decide +kernel
theorem dX3_deal_47 : decode cX3_deal 47 = .ok (.getfield 54, 3) := by decide +kernel
theorem dX3_deal_50 : decode cX3_deal 50 = .ok (.if_icmp .ge 69, 3) := by decide +kernel
theorem dX3_deal_53 : decode cX3_deal 53 = .ok (.aload_n 0, 1) := by decide +kernel
theorem dX3_deal_54 : decode cX3_deal 54 = .ok (.getfield 40, 3) := by decide +kernel
theorem dX3_deal_57 : decode cX3_deal 57 = .ok (.aload_n 0, 1) := by decide +kernel
theorem dX3_deal_58 : decode cX3_deal 58 = .ok (.getfield 43, 3) := by decide +kernel
theorem dX3_deal_61 : decode cX3_deal 61 = .ok (.aload_n 1, 1) := by decide +kernel
theorem dX3_deal_62 : decode cX3_deal 62 = .ok (.getfield 75, 3) := by decide +kernel
theorem dX3_deal_65 : decode cX3_deal 65 = .ok (.iload 6, 2) := by decide +kernel
theorem dX3_deal_67 : decode cX3_deal 67 = .ok (.iaload, 1) := by decide +kernel
theorem dX3_deal_68 : decode cX3_deal 68 = .ok (.aload_n 0, 1) := by decide +kernel
theorem dX3_deal_69 : decode cX3_deal 69 = .ok (.getfield 36, 3) := by decide +kernel
theorem dX3_deal_72 : decode cX3_deal 72 = .ok (.invokestatic 46, 3) := by decide +kernel
theorem dX3_deal_75 : decode cX3_deal 75 = .ok (.istore 7, 2) := by decide +kernel
theorem dX3_deal_77 : decode cX3_deal 77 = .ok (.aload_n 0, 1) := by decide +kernel
theorem dX3_deal_78 : decode cX3_deal 78 = .ok (.getfield 27, 3) := by decide +kernel
theorem dX3_deal_81 : decode cX3_deal 81 = .ok (.iload 6, 2) := by decide +kernel
theorem dX3_deal_83 : decode cX3_deal 83 = .ok (.iload 7, 2) := by decide +kernel
theorem dX3_deal_85 : decode cX3_deal 85 = .ok (.iastore, 1) := by decide +kernel
theorem dX3_deal_86 : decode cX3_deal 86 = .ok (.iload 5, 2) := by decide +kernel
theorem dX3_deal_88 : decode cX3_deal 88 = .ok (.iconst 2, 1) := by decide +kernel
theorem dX3_deal_89 : decode cX3_deal 89 = .ok (.aload_n 0, 1) := by decide +kernel
theorem dX3_deal_90 : decode cX3_deal 90 = .ok (.getfield 9, 3) := by decide +kernel
theorem dX3_deal_93 : decode cX3_deal 93 = .ok (.iload 7, 2) := by decide +kernel
theorem dX3_deal_95 : decode cX3_deal 95 = .ok (.iaload, 1) := by decide +kernel
theorem dX3_deal_96 : decode cX3_deal 96 = .ok (.imul, 1) := by decide +kernel
theorem dX3_deal_97 : decode cX3_deal 97 = .ok (.iconst 1, 1) := by decide +kernel
theorem dX3_deal_98 : decode cX3_deal 98 = .ok (.iadd, 1) := by decide +kernel
theorem dX3_deal_99 : decode cX3_deal 99 = .ok (.iadd, 1) := by decide +kernel
theorem dX3_deal_100 : decode cX3_deal 100 = .ok (.istore 5, 2) := by decide +kernel
theorem dX3_deal_102 : decode cX3_deal 102 = .ok (.aload_n 0, 1) := by decide +kernel
theorem dX3_deal_103 : decode cX3_deal 103 = .ok (.getfield 9, 3) := by decide +kernel
theorem dX3_deal_106 : decode cX3_deal 106 = .ok (.iload 7, 2) := by decide +kernel
theorem dX3_deal_108 : decode cX3_deal 108 = .ok (.dup2, 1) := by decide +kernel
theorem dX3_deal_109 : decode cX3_deal 109 = .ok (.iaload, 1) := by decide +kernel
theorem dX3_deal_110 : decode cX3_deal 110 = .ok (.iconst 1, 1) := by decide +kernel
theorem dX3_deal_111 : decode cX3_deal 111 = .ok (.iadd, 1) := by decide +kernel
theorem dX3_deal_112 : decode cX3_deal 112 = .ok (.iastore, 1) := by decide +kernel
theorem dX3_deal_113 : decode cX3_deal 113 = .ok (.iinc 6 1, 3) := by decide +kernel
theorem dX3_deal_116 : decode cX3_deal 116 = .ok (.goto (-72), 3) := by decide +kernel
theorem dX3_deal_119 : decode cX3_deal 119 = .ok (.iload 5, 2) := by decide +kernel
theorem dX3_deal_121 : decode cX3_deal 121 = .ok (.ireturn, 1) := by decide +kernel
def own_k_deal : List Cond := [.fieldLink RX3 54 "ClashFree$Layout" "size" "I", .fieldLink RX3 40 "ClashFree$Layout" "a" "I", .fieldLink RX3 43 "ClashFree$Layout" "b" "I", .fieldLink RX3 75 "ClashFree$Keys" "keys" "[I", .fieldLink RX3 36 "ClashFree$Layout" "buckets" "I", .initialized RX10, .static yX10_spot, .fieldLink RX3 27 "ClashFree$Layout" "home" "[I", .fieldLink RX3 9 "ClashFree$Layout" "held" "[I", .methodLink RX3 60 yX3_sweep, .instanceMethod yX3_sweep, .selects RX3 yX3_sweep yX3_sweep, .initialized RX3, .methodLink RX3 63 Lib.Math.min.name, .static Lib.Math.min.name, .initialized "java/lang/Math", .code Lib.Math.min.name Lib.Math.min.code 2 (some .int), .methodLink RX3 69 Lib.Math.max.name, .static Lib.Math.max.name, .code Lib.Math.max.name Lib.Math.max.code 2 (some .int), .fieldLink RX3 72 "ClashFree$Keys" "size" "I"]
def wp_k_deal : List Cond := .code yX3_deal cX3_deal 8 (some .int) :: (own_k_deal ++ (wp_k_spot ++ (wp_k_sweep ++ (wsX30 ++ (wsX20 ++ ([] : List Cond))))))
set_option maxRecDepth 20000 in
theorem inown_k_deal : ∀ w ∈ own_k_deal, w ∈ lw_tbl := mem_places [189, 182, 184, 479, 178, 106, 584, 202, 191, 575, 577, 1, 109, 579, 580, 118, 581, 582, 561, 562, 477] (by decide +kernel)
set_option maxRecDepth 20000 in
theorem in_k_deal : ∀ w ∈ wp_k_deal, w ∈ lw_tbl := List.forall_mem_cons.mpr ⟨List.mem_of_getElem? (i := 574) (by decide +kernel), List.forall_mem_append.mpr ⟨inown_k_deal, List.forall_mem_append.mpr ⟨in_k_spot, List.forall_mem_append.mpr ⟨in_k_sweep, List.forall_mem_append.mpr ⟨lwb_X3, List.forall_mem_append.mpr ⟨lwb_X2, fun _ h => absurd h List.not_mem_nil⟩⟩⟩⟩⟩⟩
set_option maxRecDepth 20000 in
theorem good_k_deal : wp_k_deal.all goodWord = true := by decide +kernel
set_option maxRecDepth 20000 in
theorem g_k_deal_k_spot_46 : GoodIn wp_k_deal (wp_k_spot) := goodIn_sub ((fun _ h => (List.mem_cons_of_mem _ (List.mem_append_right _ (List.mem_append_left _ h))))) (by decide +kernel)
set_option maxRecDepth 20000 in
theorem g_k_deal_k_sweep_60 : GoodIn wp_k_deal (wsV RX3 60 RX3 yX3_sweep wp_k_sweep) := goodIn_sub (List.forall_mem_append.mpr ⟨List.forall_mem_cons.mpr ⟨(List.mem_of_getElem? (i := 10) rfl), List.forall_mem_cons.mpr ⟨(List.mem_of_getElem? (i := 11) rfl), List.forall_mem_cons.mpr ⟨(List.mem_of_getElem? (i := 12) rfl), List.forall_mem_cons.mpr ⟨(List.mem_of_getElem? (i := 13) rfl), fun _ h => absurd h List.not_mem_nil⟩⟩⟩⟩, (fun _ h => (List.mem_cons_of_mem _ (List.mem_append_right _ (List.mem_append_right _ (List.mem_append_left _ h)))))⟩) (by decide +kernel)
set_option maxHeartbeats 4000000 in
set_option maxRecDepth 100000 in
theorem lk_deal (l : Launch) {p : Program} {e : Env} {s : State} {m : MethodId} {args : Array Value} {below : List Frame} {meth : Method} {c : Code} {Q : State → Prop} {A : Nat → Prop} (D : va_G) (ob : Nat → Nat) (oc : Nat → Nat) (cI : ClassId) (sm : Int32) (cn : Nat) (fk : Nat → Int32) (a1 : Nat) (b1 : Nat) (z4 : Int32) (n1 : Nat) (hKc : KyC fk cn) (ha1 : a1 < 2147483647) (hb1 : b1 < 2147483647) (hq1 : 1 ≤ n1) (hq2 : n1 ≤ 2048) (hx : p.tables.exec = Jvm.exec) (hb : c.code = cX3_deal) (hml : c.maxLocals = 8) (hown : s.vm.findClass RX3 = some m.cls) (hts : ∀ w ∈ wp_k_deal, w.before args s = true) (hA : ∀ q, s.heap.size ≤ q → A q) (hK : va_K D vwCl [(cI, .int)] s) (hN : NC s) (kx119 : ∀ (y : Nat), ∀ (su : Int32), ∀ (gh : Nat → Int32), ∀ (gj : Nat → Int32), (y ≤ cn) → (∀ k, k < y → gj k = nI ((fun k => (a1 * kN fk k + b1) % 2147483647 % n1) k)) → (∀ j, j < 2048 → gh j = nI (cntJ (fun k => (a1 * kN fk k + b1) % 2147483647 % n1) y j)) → (cn ≤ y) → ∀ (H : Heap) (locs : List Loc) (ls : Array Slot), va_P D vwCl [(ob 5, .inr (3, gY ob (nI n1) (nI a1) (nI b1) sm (nI cn))), (ob 6, .inl (cI, 2048, .inl gh)), (ob 10, .inl (cI, 160, .inl gj)), (oc 2, .inr (2, [.int (nI cn), .ref (oc 3), .ref (oc 4)])), (oc 3, .inl (cI, 160, .inl fk))] H → va_D A [(ob 5, .inr (3, gY ob (nI n1) (nI a1) (nI b1) sm (nI cn))), (ob 6, .inl (cI, 2048, .inl gh)), (ob 10, .inl (cI, 160, .inl gj)), (oc 2, .inr (2, [.int (nI cn), .ref (oc 3), .ref (oc 4)])), (oc 3, .inl (cI, 160, .inl fk))] → va_S A s.heap H locs → lv_has ls 8 [(5, .int su)] → W p l e ({ frames := 1, cells := 0, slots := 0, locals := 60 }) s m args below meth c H locs 0 0 Q (F0 m 119 ls [])) : ∀ (N : Nat), ∀ (y : Nat), ∀ (su : Int32), ∀ (gh : Nat → Int32), ∀ (gj : Nat → Int32), (y ≤ cn) → (∀ k, k < y → gj k = nI ((fun k => (a1 * kN fk k + b1) % 2147483647 % n1) k)) → (∀ j, j < 2048 → gh j = nI (cntJ (fun k => (a1 * kN fk k + b1) % 2147483647 % n1) y j)) → cn - y < N → ∀ (H : Heap) (locs : List Loc) (ls : Array Slot), va_P D vwCl [(ob 5, .inr (3, gY ob (nI n1) (nI a1) (nI b1) sm (nI cn))), (ob 6, .inl (cI, 2048, .inl gh)), (ob 10, .inl (cI, 160, .inl gj)), (oc 2, .inr (2, [.int (nI cn), .ref (oc 3), .ref (oc 4)])), (oc 3, .inl (cI, 160, .inl fk))] H → va_D A [(ob 5, .inr (3, gY ob (nI n1) (nI a1) (nI b1) sm (nI cn))), (ob 6, .inl (cI, 2048, .inl gh)), (ob 10, .inl (cI, 160, .inl gj)), (oc 2, .inr (2, [.int (nI cn), .ref (oc 3), .ref (oc 4)])), (oc 3, .inl (cI, 160, .inl fk))] → va_S A s.heap H locs → lv_has ls 8 [(6, .int (nI y)), (5, .int su), (0, .ref (ob 5)), (1, .ref (oc 2)), (2, .int (nI a1)), (3, .int (nI b1)), (4, .int z4)] → W p l e ({ frames := 1, cells := 0, slots := 0, locals := 60 }) s m args below meth c H locs 0 0 Q (F0 m 44 ls []) := by
  have hin_X3 : ∀ w ∈ wsX30, w ∈ wp_k_deal := fun _ h => (List.mem_cons_of_mem _ (List.mem_append_right _ (List.mem_append_right _ (List.mem_append_right _ (List.mem_append_left _ h)))))
  have hin_X2 : ∀ w ∈ wsX20, w ∈ wp_k_deal := fun _ h => (List.mem_cons_of_mem _ (List.mem_append_right _ (List.mem_append_right _ (List.mem_append_right _ (List.mem_append_right _ (List.mem_append_left _ h))))))
  intro N
  induction N with
  | zero =>
    intro y su gh gj hy1 h1 h2 hm
    exact absurd hm (Nat.not_lt_zero _)
  | succ N ih =>
    intro y su gh gj hy1 h1 h2 hm H locs ls hP hD hS hl
    have hcn := hKc.1
    refine lv_iload hx hb dX3_deal_44 (lv_at hl 0 rfl) ?_
    refine lv_aload_n hx hb dX3_deal_46 rfl (lv_at hl 2 rfl) ?_
    refine va_get (D := D) (ci := 3) (v := .int (nI cn)) (C := RX3) (T := TX3) (N := 13) hx hb hts hin_X3 hown hK hP 0 rfl rfl 4 (by decide) (hts (.fieldLink RX3 54 "ClashFree$Layout" "size" "I") (List.mem_of_getElem? (i := 1) rfl)) (fun _ h9 => h9) rfl dX3_deal_47 ?_
    refine lv_icmp_ge (tgt := 119) hx hb dX3_deal_50 (by decide) (fun hc1 => ?_) (fun hc1 => ?_)
    ·
      have hlt : cn ≤ y := (nI_leI (by omega) (by omega)).mp hc1
      exact kx119 y su gh gj (hy1) (h1) (h2) (by omega) H locs ls (hP.sub [0, 1, 2, 3, 4] rfl) (hD.sub [0, 1, 2, 3, 4] (by decide) rfl) hS (lv_sub hl [1] rfl)
    ·
      have hlt : y < cn := by
        rcases Nat.lt_or_ge y (cn) with z | z
        · exact z
        · exact absurd (nI_le z (by omega)) hc1
      have hkk := hKc.k hlt
      have hJl : ((a1 * kN fk y + b1) % 2147483647 % n1) < n1 := Nat.mod_lt _ (by omega)
      refine lv_aload_n hx hb dX3_deal_53 rfl (lv_at hl 2 rfl) ?_
      refine va_get (D := D) (ci := 3) (v := .int (nI a1)) (C := RX3) (T := TX3) (N := 13) hx hb hts hin_X3 hown hK hP 0 rfl rfl 1 (by decide) (hts (.fieldLink RX3 40 "ClashFree$Layout" "a" "I") (List.mem_of_getElem? (i := 2) rfl)) (fun _ h9 => h9) rfl dX3_deal_54 ?_
      refine lv_aload_n hx hb dX3_deal_57 rfl (lv_at hl 2 rfl) ?_
      refine va_get (D := D) (ci := 3) (v := .int (nI b1)) (C := RX3) (T := TX3) (N := 13) hx hb hts hin_X3 hown hK hP 0 rfl rfl 2 (by decide) (hts (.fieldLink RX3 43 "ClashFree$Layout" "b" "I") (List.mem_of_getElem? (i := 3) rfl)) (fun _ h9 => h9) rfl dX3_deal_58 ?_
      refine lv_aload_n hx hb dX3_deal_61 rfl (lv_at hl 3 rfl) ?_
      refine va_get (D := D) (ci := 2) (v := .ref (oc 3)) (C := RX2) (T := TX2) (N := 3) hx hb hts hin_X2 hown hK hP 3 rfl rfl 1 (by decide) (hts (.fieldLink RX3 75 "ClashFree$Keys" "keys" "[I") (List.mem_of_getElem? (i := 4) rfl)) (fun _ h9 => h9) rfl dX3_deal_62 ?_
      refine lv_iload hx hb dX3_deal_65 (lv_at hl 0 rfl) ?_
      refine va_iald hx hb hK hP 4 0 rfl rfl (vp_in_nI (by omega) (by decide)) dX3_deal_67 ?_
      refine lv_topi (fun v2 ev2 => ?_)
      obtain rfl : v2 = nI (kN fk y) := ev2.trans (by rw [nI_clamp (by omega)]; exact hkk.1)
      refine lv_aload_n hx hb dX3_deal_68 rfl (lv_at hl 2 rfl) ?_
      refine va_get (D := D) (ci := 3) (v := .int (nI n1)) (C := RX3) (T := TX3) (N := 13) hx hb hts hin_X3 hown hK hP 0 rfl rfl 0 (by decide) (hts (.fieldLink RX3 36 "ClashFree$Layout" "buckets" "I") (List.mem_of_getElem? (i := 5) rfl)) (fun _ h9 => h9) rfl dX3_deal_69 ?_
      have hPc := hP.sub (ws' := []) [] rfl
      have hKc := hK.sub (tys' := []) [] rfl
      have hFc := va_free0 hS hA
      refine va_calli (va_runSN (As := [.int (nI a1), .int (nI b1), .int (nI (kN fk y)), .int (nI n1)]) (rest := []) ⟨hx, hb, hml, hown, hts⟩ (k_spot l D _ cI (nI a1) (nI b1) (nI (kN fk y)) (nI n1)) ⟨va_cnB 4 hts g_k_deal_k_spot_46 rfl rfl rfl hN.2.2.1 (hts (.initialized RX10) (List.mem_of_getElem? (i := 6) rfl)) (by decide +kernel) ⟨(Nat.le_of_ble_eq_true rfl), (Nat.le_of_ble_eq_true rfl)⟩, (hts (.static yX10_spot) (List.mem_of_getElem? (i := 7) rfl)), trivial⟩ (PcRC_S hPc hKc hN) rfl rfl hl.1 rfl (lv_room (Nat.le_of_ble_eq_true rfl)) dX3_deal_72 ⟨(Nat.le_of_ble_eq_true rfl), (Nat.le_of_ble_eq_true rfl)⟩) hS (fun q _ h => hFc q h) hFc (fun r3 uu tt H locs htt hvm hw hB hz1 hk1 hS => ?_)
      have hP := va_keep hP hk1
      try dsimp only at hw
      clear hB hz1 hk1 hFc hPc hKc
      have hsp_r3 := hw
      refine lv_topi (fun v4 ev4 => ?_)
      obtain rfl : v4 = nI ((a1 * kN fk y + b1) % 2147483647 % n1) := ev4.trans (hsp_r3 _ _ _ _ rfl rfl rfl rfl ha1 hb1 (by omega) (by omega) (by omega))
      refine lv_istore (lv' := [(7, .int (nI ((a1 * kN fk y + b1) % 2147483647 % n1))), (6, .int (nI y)), (5, .int su), (0, .ref (ob 5)), (1, .ref (oc 2)), (2, .int (nI a1)), (3, .int (nI b1)), (4, .int z4)]) hx hb dX3_deal_75 hl (by decide) rfl (fun ls hl => ?_)
      refine lv_aload_n hx hb dX3_deal_77 rfl (lv_at hl 3 rfl) ?_
      refine va_get (D := D) (ci := 3) (v := .ref (ob 10)) (C := RX3) (T := TX3) (N := 13) hx hb hts hin_X3 hown hK hP 0 rfl rfl 9 (by decide) (hts (.fieldLink RX3 27 "ClashFree$Layout" "home" "[I") (List.mem_of_getElem? (i := 8) rfl)) (fun _ h9 => h9) rfl dX3_deal_78 ?_
      refine lv_iload hx hb dX3_deal_81 (lv_at hl 1 rfl) ?_
      refine lv_iload hx hb dX3_deal_83 (lv_at hl 0 rfl) ?_
      refine va_iast hx hb hK hP hD hS 2 0 rfl rfl (vp_in_nI (by omega) (by decide)) dX3_deal_85 (fun H locs hP hD hS => ?_)
      have hP : va_P D vwCl [(ob 5, .inr (3, gY ob (nI n1) (nI a1) (nI b1) sm (nI cn))), (ob 6, .inl (cI, 2048, .inl gh)), (ob 10, .inl (cI, 160, .inl (upd gj (Int32.toNatClampNeg (nI y)) (nI ((a1 * kN fk y + b1) % 2147483647 % n1))))), (oc 2, .inr (2, [.int (nI cn), .ref (oc 3), .ref (oc 4)])), (oc 3, .inl (cI, 160, .inl fk))] H := hP
      have hD : va_D A [(ob 5, .inr (3, gY ob (nI n1) (nI a1) (nI b1) sm (nI cn))), (ob 6, .inl (cI, 2048, .inl gh)), (ob 10, .inl (cI, 160, .inl (upd gj (Int32.toNatClampNeg (nI y)) (nI ((a1 * kN fk y + b1) % 2147483647 % n1))))), (oc 2, .inr (2, [.int (nI cn), .ref (oc 3), .ref (oc 4)])), (oc 3, .inl (cI, 160, .inl fk))] := hD
      rw [show (upd gj (Int32.toNatClampNeg (nI y)) (nI ((a1 * kN fk y + b1) % 2147483647 % n1))) = (upd gj y (nI ((a1 * kN fk y + b1) % 2147483647 % n1))) from by rw [nI_clamp (by omega)]] at hP hD
      refine lv_iload hx hb dX3_deal_86 (lv_at hl 2 rfl) ?_
      refine lv_iconst (v := 2) hx hb dX3_deal_88 (by decide) ?_
      refine lv_aload_n hx hb dX3_deal_89 rfl (lv_at hl 3 rfl) ?_
      refine va_get (D := D) (ci := 3) (v := .ref (ob 6)) (C := RX3) (T := TX3) (N := 13) hx hb hts hin_X3 hown hK hP 0 rfl rfl 5 (by decide) (hts (.fieldLink RX3 9 "ClashFree$Layout" "held" "[I") (List.mem_of_getElem? (i := 9) rfl)) (fun _ h9 => h9) rfl dX3_deal_90 ?_
      refine lv_iload hx hb dX3_deal_93 (lv_at hl 0 rfl) ?_
      refine va_iald hx hb hK hP 1 0 rfl rfl (vp_in_nI (by omega) (by decide)) dX3_deal_95 ?_
      refine lv_topi (fun v5 ev5 => ?_)
      obtain rfl : v5 = nI (cntJ (fun k => (a1 * kN fk k + b1) % 2147483647 % n1) y ((a1 * kN fk y + b1) % 2147483647 % n1)) := ev5.trans (by rw [nI_clamp (by omega)]; exact h2 _ (by omega))
      refine lv_imul hx hb dX3_deal_96 ?_
      refine lv_topi (fun v6 ev6 => ?_)
      refine lv_iconst (v := 1) hx hb dX3_deal_97 (by decide) ?_
      refine lv_iadd hx hb dX3_deal_98 ?_
      refine lv_topi (fun v7 ev7 => ?_)
      refine lv_iadd hx hb dX3_deal_99 ?_
      refine lv_topi (fun v8 ev8 => ?_)
      refine lv_istore (lv' := [(5, .int v8), (7, .int (nI ((a1 * kN fk y + b1) % 2147483647 % n1))), (6, .int (nI y)), (0, .ref (ob 5)), (1, .ref (oc 2)), (2, .int (nI a1)), (3, .int (nI b1)), (4, .int z4)]) hx hb dX3_deal_100 hl (by decide) rfl (fun ls hl => ?_)
      refine lv_aload_n hx hb dX3_deal_102 rfl (lv_at hl 3 rfl) ?_
      refine va_get (D := D) (ci := 3) (v := .ref (ob 6)) (C := RX3) (T := TX3) (N := 13) hx hb hts hin_X3 hown hK hP 0 rfl rfl 5 (by decide) (hts (.fieldLink RX3 9 "ClashFree$Layout" "held" "[I") (List.mem_of_getElem? (i := 9) rfl)) (fun _ h9 => h9) rfl dX3_deal_103 ?_
      refine lv_iload hx hb dX3_deal_106 (lv_at hl 1 rfl) ?_
      refine lv_dup2_11 hx hb dX3_deal_108 rfl rfl ?_
      refine va_iald hx hb hK hP 1 0 rfl rfl (vp_in_nI (by omega) (by decide)) dX3_deal_109 ?_
      refine lv_topi (fun v9 ev9 => ?_)
      obtain rfl : v9 = nI (cntJ (fun k => (a1 * kN fk k + b1) % 2147483647 % n1) y ((a1 * kN fk y + b1) % 2147483647 % n1)) := ev9.trans (by rw [nI_clamp (by omega)]; exact h2 _ (by omega))
      refine lv_iconst (v := 1) hx hb dX3_deal_110 (by decide) ?_
      refine lv_iadd hx hb dX3_deal_111 ?_
      refine lv_topi (fun v10 ev10 => ?_)
      obtain rfl : v10 = nI (cntJ (fun k => (a1 * kN fk k + b1) % 2147483647 % n1) y ((a1 * kN fk y + b1) % 2147483647 % n1) + 1) := ev10.trans (nI_1 _)
      refine va_iast hx hb hK hP hD hS 1 0 rfl rfl (vp_in_nI (by omega) (by decide)) dX3_deal_112 (fun H locs hP hD hS => ?_)
      have hP : va_P D vwCl [(ob 5, .inr (3, gY ob (nI n1) (nI a1) (nI b1) sm (nI cn))), (ob 6, .inl (cI, 2048, .inl (upd gh (Int32.toNatClampNeg (nI ((a1 * kN fk y + b1) % 2147483647 % n1))) (nI (cntJ (fun k => (a1 * kN fk k + b1) % 2147483647 % n1) y ((a1 * kN fk y + b1) % 2147483647 % n1) + 1))))), (ob 10, .inl (cI, 160, .inl (upd gj y (nI ((a1 * kN fk y + b1) % 2147483647 % n1))))), (oc 2, .inr (2, [.int (nI cn), .ref (oc 3), .ref (oc 4)])), (oc 3, .inl (cI, 160, .inl fk))] H := hP
      have hD : va_D A [(ob 5, .inr (3, gY ob (nI n1) (nI a1) (nI b1) sm (nI cn))), (ob 6, .inl (cI, 2048, .inl (upd gh (Int32.toNatClampNeg (nI ((a1 * kN fk y + b1) % 2147483647 % n1))) (nI (cntJ (fun k => (a1 * kN fk k + b1) % 2147483647 % n1) y ((a1 * kN fk y + b1) % 2147483647 % n1) + 1))))), (ob 10, .inl (cI, 160, .inl (upd gj y (nI ((a1 * kN fk y + b1) % 2147483647 % n1))))), (oc 2, .inr (2, [.int (nI cn), .ref (oc 3), .ref (oc 4)])), (oc 3, .inl (cI, 160, .inl fk))] := hD
      rw [show (upd gh (Int32.toNatClampNeg (nI ((a1 * kN fk y + b1) % 2147483647 % n1))) (nI (cntJ (fun k => (a1 * kN fk k + b1) % 2147483647 % n1) y ((a1 * kN fk y + b1) % 2147483647 % n1) + 1))) = (upd gh ((a1 * kN fk y + b1) % 2147483647 % n1) (nI (cntJ (fun k => (a1 * kN fk k + b1) % 2147483647 % n1) y ((a1 * kN fk y + b1) % 2147483647 % n1) + 1))) from by rw [nI_clamp (by omega)]] at hP hD
      refine lv_iinc (v := nI (y + 1)) (lv' := [(6, .int (nI (y + 1))), (5, .int v8), (7, .int (nI ((a1 * kN fk y + b1) % 2147483647 % n1))), (0, .ref (ob 5)), (1, .ref (oc 2)), (2, .int (nI a1)), (3, .int (nI b1)), (4, .int z4)]) hx hb dX3_deal_113 hl (k := 2) rfl (nI_1 _) (by decide) rfl (fun ls hl => ?_)
      refine lv_goto (tgt := 44) hx hb dX3_deal_116 (by decide) ?_
      exact ih (y + 1) v8 (upd gh ((a1 * kN fk y + b1) % 2147483647 % n1) (nI (cntJ (fun k => (a1 * kN fk k + b1) % 2147483647 % n1) y ((a1 * kN fk y + b1) % 2147483647 % n1) + 1))) (upd gj y (nI ((a1 * kN fk y + b1) % 2147483647 % n1))) (by omega) ((dl_step (J := (fun k => (a1 * kN fk k + b1) % 2147483647 % n1)) h1 h2).1) ((dl_step (J := (fun k => (a1 * kN fk k + b1) % 2147483647 % n1)) h1 h2).2) (by omega) H locs ls (hP.sub [0, 1, 2, 3, 4] rfl) (hD.sub [0, 1, 2, 3, 4] (by decide) rfl) hS (lv_sub hl [0, 1, 3, 4, 5, 6, 7] rfl)
set_option maxHeartbeats 4000000 in
set_option maxRecDepth 100000 in
theorem k_deal (l : Launch) (D : va_G) (sz : Nat) (ob : Nat → Nat) (oc : Nat → Nat) (cI : ClassId) (nb : Nat) (ka : Nat) (kb : Nat) (sm : Int32) (ln : Nat) (fh : Nat → Int32) (fj : Nat → Int32) (cn : Nat) (fk : Nat → Int32) (a1 : Nat) (b1 : Nat) (z4 : Int32) (hL : LyH fj fh nb ln) (hKc : KyC fk cn) (ha1 : a1 < 2147483647) (hb1 : b1 < 2147483647) : Met l yX3_deal wp_k_deal ({ frames := 1, cells := 0, slots := 0, locals := 60 }) (PcWC D [.ref (ob 5), .ref (oc 2), .int (nI a1), .int (nI b1), .int z4] sz [(ob 5, .inr (3, gY ob (nI nb) (nI ka) (nI kb) sm (nI ln))), (ob 6, .inl (cI, 2048, .inl fh)), (ob 10, .inl (cI, 160, .inl fj)), (oc 2, .inr (2, [.int (nI cn), .ref (oc 3), .ref (oc 4)])), (oc 3, .inl (cI, 160, .inl fk))] [(cI, .int)]) (va_Qi (fun (r : Int32) (u : (Nat) × (Nat) × (Nat) × (Nat) × (Nat → Int32) × (Nat → Int32)) => LyH u.2.2.2.2.2 u.2.2.2.2.1 u.1 u.2.2.2.1 ∧ 1 ≤ u.1 ∧ u.2.1 < 2147483647 ∧ u.2.2.1 < 2147483647 ∧ u.2.2.2.1 = cn) (fun (u : (Nat) × (Nat) × (Nat) × (Nat) × (Nat → Int32) × (Nat → Int32)) t => va_P D vwCl [(ob 5, .inr (3, gY ob (nI u.1) (nI u.2.1) (nI u.2.2.1) sm (nI u.2.2.2.1))), (ob 6, .inl (cI, 2048, .inl u.2.2.2.2.1)), (ob 10, .inl (cI, 160, .inl u.2.2.2.2.2)), (oc 2, .inr (2, [.int (nI cn), .ref (oc 3), .ref (oc 4)])), (oc 3, .inl (cI, 160, .inl fk))] t.heap ∧ va_K D vwCl [(cI, .int)] t ∧ va_D (va_A [(ob 5, .inr (3, gY ob (nI nb) (nI ka) (nI kb) sm (nI ln))), (ob 6, .inl (cI, 2048, .inl fh)), (ob 10, .inl (cI, 160, .inl fj)), (oc 2, .inr (2, [.int (nI cn), .ref (oc 3), .ref (oc 4)])), (oc 3, .inl (cI, 160, .inl fk))] sz) [(ob 5, .inr (3, gY ob (nI u.1) (nI u.2.1) (nI u.2.2.1) sm (nI u.2.2.2.1))), (ob 6, .inl (cI, 2048, .inl u.2.2.2.2.1)), (ob 10, .inl (cI, 160, .inl u.2.2.2.2.2)), (oc 2, .inr (2, [.int (nI cn), .ref (oc 3), .ref (oc 4)])), (oc 3, .inl (cI, 160, .inl fk))]) (va_A [(ob 5, .inr (3, gY ob (nI nb) (nI ka) (nI kb) sm (nI ln))), (ob 6, .inl (cI, 2048, .inl fh)), (ob 10, .inl (cI, 160, .inl fj)), (oc 2, .inr (2, [.int (nI cn), .ref (oc 3), .ref (oc 4)])), (oc 3, .inl (cI, 160, .inl fk))] sz)) 0 0 (va_A [(ob 5, .inr (3, gY ob (nI nb) (nI ka) (nI kb) sm (nI ln))), (ob 6, .inl (cI, 2048, .inl fh)), (ob 10, .inl (cI, 160, .inl fj)), (oc 2, .inr (2, [.int (nI cn), .ref (oc 3), .ref (oc 4)])), (oc 3, .inl (cI, 160, .inl fk))] sz) := by
  refine Met.ofW (cc := cX3_deal) (maxL := 8) (ret := (some .int)) (by decide) rfl ?_
  intro p e s m args below meth c s₁ B hml hv
  obtain ⟨rfl, hsz, hP, hK, hD0, hN⟩ := hv
  have hx := B.exec
  have hb := B.bytes
  have hr := B.returns
  have hts := atoms_spec (ws := wp_k_deal) B.pre
  have hin_X3 : ∀ w ∈ wsX30, w ∈ wp_k_deal := fun _ h => (List.mem_cons_of_mem _ (List.mem_append_right _ (List.mem_append_right _ (List.mem_append_right _ (List.mem_append_left _ h)))))
  have hin_X2 : ∀ w ∈ wsX20, w ∈ wp_k_deal := fun _ h => (List.mem_cons_of_mem _ (List.mem_append_right _ (List.mem_append_right _ (List.mem_append_right _ (List.mem_append_right _ (List.mem_append_left _ h))))))
  have hown : s.vm.findClass RX3 = some m.cls := findClass_of_methodNamed B.named
  have hlocks := B.notSynchronized
  subst hsz
  have hD := hD0.self (sz := s.heap.size)
  generalize hAe : va_A [(ob 5, .inr (3, gY ob (nI nb) (nI ka) (nI kb) sm (nI ln))), (ob 6, .inl (cI, 2048, .inl fh)), (ob 10, .inl (cI, 160, .inl fj)), (oc 2, .inr (2, [.int (nI cn), .ref (oc 3), .ref (oc 4)])), (oc 3, .inl (cI, 160, .inl fk))] s.heap.size = A at hD ⊢
  have hA : ∀ q : Nat, s.heap.size ≤ q → A q := fun q h => by rw [← hAe]; exact Or.inr h
  have hS : va_S A s.heap s.heap [] := va_S.rf
  have hP : va_P D vwCl [(ob 5, .inr (3, gY ob (nI nb) (nI ka) (nI kb) sm (nI ln))), (ob 6, .inl (cI, 2048, .inl fh)), (ob 10, .inl (cI, 160, .inl fj)), (oc 2, .inr (2, [.int (nI cn), .ref (oc 3), .ref (oc 4)])), (oc 3, .inl (cI, 160, .inl fk))] s.heap := hP
  have hl := lv_entry ([.ref (ob 5), .ref (oc 2), .int (nI a1), .int (nI b1), .int z4]) (n := 8) (Nat.le_of_ble_eq_true rfl)
  rw [lg_entry_eq]
  generalize (lg_sl ([.ref (ob 5), .ref (oc 2), .int (nI a1), .int (nI b1), .int z4]) ++ List.replicate (8 - (lg_sl ([.ref (ob 5), .ref (oc 2), .int (nI a1), .int (nI b1), .int z4])).length) Slot.unset).toArray = ls at hl ⊢
  have hl : lv_has ls 8 [(0, .ref (ob 5)), (1, .ref (oc 2)), (2, .int (nI a1)), (3, .int (nI b1)), (4, .int z4)] := hl
  have hcn := hKc.1
  refine lv_aload_n hx hb dX3_deal_0 rfl (lv_at hl 0 rfl) ?_
  have hPc := hP.sub (ws' := [(ob 5, .inr (3, gY ob (nI nb) (nI ka) (nI kb) sm (nI ln))), (ob 6, .inl (cI, 2048, .inl fh)), (ob 10, .inl (cI, 160, .inl fj))]) [0, 1, 2] rfl
  have hKc := hK.sub (tys' := [(cI, .int)]) [0] rfl
  have hDc := hD.sub (ws' := [(ob 5, .inr (3, gY ob (nI nb) (nI ka) (nI kb) sm (nI ln))), (ob 6, .inl (cI, 2048, .inl fh)), (ob 10, .inl (cI, 160, .inl fj))]) [0, 1, 2] (by decide) rfl
  have hFc := va_free (wc := [(ob 5, .inr (3, gY ob (nI nb) (nI ka) (nI kb) sm (nI ln))), (ob 6, .inl (cI, 2048, .inl fh)), (ob 10, .inl (cI, 160, .inl fj))]) hD hS hA [0, 1, 2] rfl
  refine va_callv (va_runV (As := []) (rest := []) ⟨hx, hb, hml, hown, hts⟩ (k_sweep l D _ ob cI nb ka kb sm ln fh fj hL) (cwV 0 hts g_k_deal_k_sweep_60 rfl rfl rfl (by decide +kernel) ⟨(Nat.le_of_ble_eq_true rfl), (Nat.le_of_ble_eq_true rfl)⟩) (PcWC_V (q0 := 0) hPc hKc hDc hN rfl rfl) rfl rfl hl.1 rfl (lv_room (Nat.le_of_ble_eq_true rfl)) dX3_deal_1 ⟨(Nat.le_of_ble_eq_true rfl), (Nat.le_of_ble_eq_true rfl)⟩) hS (fun q _ h => hFc q h) hFc (fun uu tt H locs htt hvm hw hB hz1 hk1 hS => ?_)
  obtain ⟨w2, rfl⟩ : ∃ z, z = uu := ⟨_, rfl⟩
  obtain ⟨hP1, hK1, hD1⟩ := hB
  rw [htt] at hP1
  have hK1 := va_K.moved hvm.symm hK1
  have hP1 : va_P D vwCl [(ob 5, .inr (3, gY ob (nI nb) (nI ka) (nI kb) sm (nI ln))), (ob 6, .inl (cI, 2048, .inl w2)), (ob 10, .inl (cI, 160, .inl fj))] H := hP1
  obtain ⟨hP, hD⟩ := va_join (wr := [(oc 2, .inr (2, [.int (nI cn), .ref (oc 3), .ref (oc 4)])), (oc 3, .inl (cI, 160, .inl fk))]) (w1 := [(ob 5, .inr (3, gY ob (nI nb) (nI ka) (nI kb) sm (nI ln))), (ob 6, .inl (cI, 2048, .inl w2)), (ob 10, .inl (cI, 160, .inl fj))]) hP hD [0, 1, 2] [3, 4] rfl rfl (by decide) (by decide) hk1 hFc hP1 hD1
  have hP : va_P D vwCl [(oc 2, .inr (2, [.int (nI cn), .ref (oc 3), .ref (oc 4)])), (oc 3, .inl (cI, 160, .inl fk)), (ob 5, .inr (3, gY ob (nI nb) (nI ka) (nI kb) sm (nI ln))), (ob 6, .inl (cI, 2048, .inl w2)), (ob 10, .inl (cI, 160, .inl fj))] H := hP
  have hD : va_D A [(oc 2, .inr (2, [.int (nI cn), .ref (oc 3), .ref (oc 4)])), (oc 3, .inl (cI, 160, .inl fk)), (ob 5, .inr (3, gY ob (nI nb) (nI ka) (nI kb) sm (nI ln))), (ob 6, .inl (cI, 2048, .inl w2)), (ob 10, .inl (cI, 160, .inl fj))] := hD
  try dsimp only at hw
  clear hz1 hk1 hFc hPc hKc hDc
  have hz0 := hw
  refine lv_aload_n hx hb dX3_deal_4 rfl (lv_at hl 0 rfl) ?_
  refine lv_iconst (v := 1) hx hb dX3_deal_5 (by decide) ?_
  refine lv_sipush (v := 2048) hx hb dX3_deal_6 (by decide) ?_
  refine lv_iload hx hb dX3_deal_9 (lv_at hl 4 rfl) ?_
  refine va_mmin hx hb (hml.trans hl.1.symm) hown (hts (.methodLink RX3 63 Lib.Math.min.name) (List.mem_of_getElem? (i := 14) rfl)) (hts (.static Lib.Math.min.name) (List.mem_of_getElem? (i := 15) rfl)) (hts (.initialized "java/lang/Math") (List.mem_of_getElem? (i := 16) rfl)) (hts (.code Lib.Math.min.name Lib.Math.min.code 2 (some .int)) (List.mem_of_getElem? (i := 17) rfl)) (Nat.le_of_ble_eq_true rfl) (Nat.le_of_ble_eq_true rfl) (Nat.le_of_ble_eq_true rfl) (Nat.le_of_ble_eq_true rfl) dX3_deal_11 ?_
  refine lv_topi (fun v3 ev3 => ?_)
  refine va_mmax hx hb (hml.trans hl.1.symm) hown (hts (.methodLink RX3 69 Lib.Math.max.name) (List.mem_of_getElem? (i := 18) rfl)) (hts (.static Lib.Math.max.name) (List.mem_of_getElem? (i := 19) rfl)) (hts (.initialized "java/lang/Math") (List.mem_of_getElem? (i := 16) rfl)) (hts (.code Lib.Math.max.name Lib.Math.max.code 2 (some .int)) (List.mem_of_getElem? (i := 20) rfl)) (Nat.le_of_ble_eq_true rfl) (Nat.le_of_ble_eq_true rfl) (Nat.le_of_ble_eq_true rfl) (Nat.le_of_ble_eq_true rfl) dX3_deal_14 ?_
  refine lv_topi (fun v4 ev4 => ?_)
  obtain ⟨n1, hq1, hq2, rfl⟩ : ∃ q, 1 ≤ q ∧ q ≤ 2048 ∧ v4 = nI q := by
    obtain ⟨q, z1, z2, z3⟩ := clampN z4
    exact ⟨q, z1, z2, (ev4.trans (by rw [ev3])).trans z3⟩
  refine va_put (D := D) (ci := 3) (v := .int (nI n1)) (ty := .int) (C := RX3) (T := TX3) (N := 13) hx hb hts hin_X3 tyX3 tyX3_ok nmX3 hown hK hP hD hS 2 rfl rfl 0 (by decide) (hts (.fieldLink RX3 36 "ClashFree$Layout" "buckets" "I") (List.mem_of_getElem? (i := 5) rfl)) (fun _ h9 => h9) rfl (by decide +kernel) rfl rfl (Nat.le_of_ble_eq_true rfl) dX3_deal_17 (fun H locs hP hD hS => ?_)
  have hP : va_P D vwCl [(oc 2, .inr (2, [.int (nI cn), .ref (oc 3), .ref (oc 4)])), (oc 3, .inl (cI, 160, .inl fk)), (ob 5, .inr (3, gY ob (nI n1) (nI ka) (nI kb) sm (nI ln))), (ob 6, .inl (cI, 2048, .inl w2)), (ob 10, .inl (cI, 160, .inl fj))] H := hP
  have hD : va_D A [(oc 2, .inr (2, [.int (nI cn), .ref (oc 3), .ref (oc 4)])), (oc 3, .inl (cI, 160, .inl fk)), (ob 5, .inr (3, gY ob (nI n1) (nI ka) (nI kb) sm (nI ln))), (ob 6, .inl (cI, 2048, .inl w2)), (ob 10, .inl (cI, 160, .inl fj))] := hD
  refine lv_aload_n hx hb dX3_deal_20 rfl (lv_at hl 0 rfl) ?_
  refine lv_iload_n hx hb dX3_deal_21 rfl (lv_at hl 2 rfl) ?_
  refine va_put (D := D) (ci := 3) (v := .int (nI a1)) (ty := .int) (C := RX3) (T := TX3) (N := 13) hx hb hts hin_X3 tyX3 tyX3_ok nmX3 hown hK hP hD hS 2 rfl rfl 1 (by decide) (hts (.fieldLink RX3 40 "ClashFree$Layout" "a" "I") (List.mem_of_getElem? (i := 2) rfl)) (fun _ h9 => h9) rfl (by decide +kernel) rfl rfl (Nat.le_of_ble_eq_true rfl) dX3_deal_22 (fun H locs hP hD hS => ?_)
  have hP : va_P D vwCl [(oc 2, .inr (2, [.int (nI cn), .ref (oc 3), .ref (oc 4)])), (oc 3, .inl (cI, 160, .inl fk)), (ob 5, .inr (3, gY ob (nI n1) (nI a1) (nI kb) sm (nI ln))), (ob 6, .inl (cI, 2048, .inl w2)), (ob 10, .inl (cI, 160, .inl fj))] H := hP
  have hD : va_D A [(oc 2, .inr (2, [.int (nI cn), .ref (oc 3), .ref (oc 4)])), (oc 3, .inl (cI, 160, .inl fk)), (ob 5, .inr (3, gY ob (nI n1) (nI a1) (nI kb) sm (nI ln))), (ob 6, .inl (cI, 2048, .inl w2)), (ob 10, .inl (cI, 160, .inl fj))] := hD
  refine lv_aload_n hx hb dX3_deal_25 rfl (lv_at hl 0 rfl) ?_
  refine lv_iload_n hx hb dX3_deal_26 rfl (lv_at hl 3 rfl) ?_
  refine va_put (D := D) (ci := 3) (v := .int (nI b1)) (ty := .int) (C := RX3) (T := TX3) (N := 13) hx hb hts hin_X3 tyX3 tyX3_ok nmX3 hown hK hP hD hS 2 rfl rfl 2 (by decide) (hts (.fieldLink RX3 43 "ClashFree$Layout" "b" "I") (List.mem_of_getElem? (i := 3) rfl)) (fun _ h9 => h9) rfl (by decide +kernel) rfl rfl (Nat.le_of_ble_eq_true rfl) dX3_deal_27 (fun H locs hP hD hS => ?_)
  have hP : va_P D vwCl [(oc 2, .inr (2, [.int (nI cn), .ref (oc 3), .ref (oc 4)])), (oc 3, .inl (cI, 160, .inl fk)), (ob 5, .inr (3, gY ob (nI n1) (nI a1) (nI b1) sm (nI ln))), (ob 6, .inl (cI, 2048, .inl w2)), (ob 10, .inl (cI, 160, .inl fj))] H := hP
  have hD : va_D A [(oc 2, .inr (2, [.int (nI cn), .ref (oc 3), .ref (oc 4)])), (oc 3, .inl (cI, 160, .inl fk)), (ob 5, .inr (3, gY ob (nI n1) (nI a1) (nI b1) sm (nI ln))), (ob 6, .inl (cI, 2048, .inl w2)), (ob 10, .inl (cI, 160, .inl fj))] := hD
  refine lv_aload_n hx hb dX3_deal_30 rfl (lv_at hl 0 rfl) ?_
  refine lv_aload_n hx hb dX3_deal_31 rfl (lv_at hl 1 rfl) ?_
  refine va_get (D := D) (ci := 2) (v := .int (nI cn)) (C := RX2) (T := TX2) (N := 3) hx hb hts hin_X2 hown hK hP 0 rfl rfl 0 (by decide) (hts (.fieldLink RX3 72 "ClashFree$Keys" "size" "I") (List.mem_of_getElem? (i := 21) rfl)) (fun _ h9 => h9) rfl dX3_deal_32 ?_
  refine va_put (D := D) (ci := 3) (v := .int (nI cn)) (ty := .int) (C := RX3) (T := TX3) (N := 13) hx hb hts hin_X3 tyX3 tyX3_ok nmX3 hown hK hP hD hS 2 rfl rfl 4 (by decide) (hts (.fieldLink RX3 54 "ClashFree$Layout" "size" "I") (List.mem_of_getElem? (i := 1) rfl)) (fun _ h9 => h9) rfl (by decide +kernel) rfl rfl (Nat.le_of_ble_eq_true rfl) dX3_deal_35 (fun H locs hP hD hS => ?_)
  have hP : va_P D vwCl [(oc 2, .inr (2, [.int (nI cn), .ref (oc 3), .ref (oc 4)])), (oc 3, .inl (cI, 160, .inl fk)), (ob 5, .inr (3, gY ob (nI n1) (nI a1) (nI b1) sm (nI cn))), (ob 6, .inl (cI, 2048, .inl w2)), (ob 10, .inl (cI, 160, .inl fj))] H := hP
  have hD : va_D A [(oc 2, .inr (2, [.int (nI cn), .ref (oc 3), .ref (oc 4)])), (oc 3, .inl (cI, 160, .inl fk)), (ob 5, .inr (3, gY ob (nI n1) (nI a1) (nI b1) sm (nI cn))), (ob 6, .inl (cI, 2048, .inl w2)), (ob 10, .inl (cI, 160, .inl fj))] := hD
  refine lv_iconst (v := 0) hx hb dX3_deal_38 (by decide) ?_
  refine lv_istore (lv' := [(5, .int 0), (0, .ref (ob 5)), (1, .ref (oc 2)), (2, .int (nI a1)), (3, .int (nI b1)), (4, .int z4)]) hx hb dX3_deal_39 hl (by decide) rfl (fun ls hl => ?_)
  refine lv_iconst (v := 0) hx hb dX3_deal_41 (by decide) ?_
  refine lv_istore (lv' := [(6, .int 0), (5, .int 0), (0, .ref (ob 5)), (1, .ref (oc 2)), (2, .int (nI a1)), (3, .int (nI b1)), (4, .int z4)]) hx hb dX3_deal_42 hl (by decide) rfl (fun ls hl => ?_)
  refine lk_deal l D ob oc cI sm cn fk a1 b1 z4 n1 (hKc) (ha1) (hb1) (hq1) (hq2) hx hb hml hown hts hA (hK.sub [0] rfl) hN ?_ (cn + 1) 0 0 w2 fj (Nat.zero_le _) (fun k hk => absurd hk (Nat.not_lt_zero _)) (fun j hj => hz0 j hj) (by omega) _ _ _ (hP.sub [2, 3, 4, 0, 1] rfl) (hD.sub [2, 3, 4, 0, 1] (by decide) rfl) hS (lv_sub hl [0, 1, 2, 3, 4, 5, 6] rfl)
  intro y_5 su_6 gh_7 gj_8 hy1_9 h1_10 h2_11 hx12 H locs ls hP hD hS hl
  refine lv_iload hx hb dX3_deal_119 (lv_at hl 0 rfl) ?_
  exact W.iret (v := su_6) hx hb hr (fun t ht hW => ⟨⟨su_6, (n1, a1, b1, cn, gh_7, gj_8), rfl, (by (try dsimp only); first | done | exact ⟨⟨hq2, hKc.1, _, fun k hk => ⟨h1_10 k (by omega), Nat.mod_lt _ (by omega)⟩, (show y_5 = cn by omega) ▸ h2_11⟩, hq1, ha1, hb1, rfl⟩), by rw [ht]; exact hP.sub [0, 1, 2, 3, 4] rfl, va_K.moved hW.alike (hK.sub [0] rfl), hD.sub [0, 1, 2, 3, 4] (by decide) rfl⟩, hS.F ht⟩) hS.2.2 dX3_deal_121

