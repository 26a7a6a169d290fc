theorem dX3_settle_0 : decode cX3_settle 0 = .ok (.aload_n 0, 1) := by decide +kernel
theorem dX3_settle_1 : decode cX3_settle 1 = .ok (.iconst 0, 1) := by decide +kernel
theorem dX3_settle_2 : decode cX3_settle 2 = .ok (.putfield 78, 3) := by decide +kernel
theorem dX3_settle_5 : decode cX3_settle 5 = .ok (.iconst 0, 1) := by decide +kernel
theorem dX3_settle_6 : decode cX3_settle 6 = .ok (.istore_n 2, 1) := by decide +kernel
theorem dX3_settle_7 : decode cX3_settle 7 = .ok (.iconst 0, 1) := by decide +kernel
theorem dX3_settle_8 : decode cX3_settle 8 = .ok (.istore_n 3, 1) := by decide +kernel
theorem dX3_settle_9 : decode cX3_settle 9 = .ok (.iload_n 3, 1) := by decide +kernel
theorem dX3_settle_10 : decode cX3_settle 10 = .ok (.aload_n 0, 1) := by decide +kernel
theorem dX3_settle_11 : decode cX3_settle 11 = .ok (.getfield 36, 3) := by decide +kernel
theorem dX3_settle_14 : decode cX3_settle 14 = .ok (.if_icmp .ge 61, 3) := by decide +kernel
theorem dX3_settle_17 : decode cX3_settle 17 = .ok (.aload_n 0, 1) := by decide +kernel
theorem dX3_settle_18 : decode cX3_settle 18 = .ok (.getfield 15, 3) := by decide +kernel
theorem dX3_settle_21 : decode cX3_settle 21 = .ok (.iload_n 3, 1) := by decide +kernel
theorem dX3_settle_22 : decode cX3_settle 22 = .ok (.iload_n 1, 1) := by decide +kernel
theorem dX3_settle_23 : decode cX3_settle 23 = .ok (.aload_n 0, 1) := by decide +kernel
theorem dX3_settle_24 : decode cX3_settle 24 = .ok (.getfield 9, 3) := by decide +kernel
theorem dX3_settle_27 : decode cX3_settle 27 = .ok (.iload_n 3, 1) := by decide +kernel
theorem dX3_settle_28 : decode cX3_settle 28 = .ok (.iaload, 1) := by decide +kernel
theorem dX3_settle_29 : decode cX3_settle 29 = .ok (.imul, 1) := by decide +kernel
theorem dX3_settle_30 : decode cX3_settle 30 = .ok (.iastore, 1) := by decide +kernel
theorem dX3_settle_31 : decode cX3_settle 31 = .ok (.aload_n 0, 1) := by decide +kernel
theorem dX3_settle_32 : decode cX3_settle 32 = .ok (.dup, 1) := by decide +kernel
theorem dX3_settle_33 : decode cX3_settle 33 = .ok (.getfield 78, 3) := by decide +kernel
theorem dX3_settle_36 : decode cX3_settle 36 = .ok (.aload_n 0, 1) := by decide +kernel
theorem dX3_settle_37 : decode cX3_settle 37 = .ok (.getfield 15, 3) := by decide +kernel
theorem dX3_settle_40 : decode cX3_settle 40 = .ok (.iload_n 3, 1) := by decide +kernel
theorem dX3_settle_41 : decode cX3_settle 41 = .ok (.iaload, 1) := by decide +kernel
theorem dX3_settle_42 : decode cX3_settle 42 = .ok (.aload_n 0, 1) := by decide +kernel
theorem dX3_settle_43 : decode cX3_settle 43 = .ok (.getfield 15, 3) := by decide +kernel
theorem dX3_settle_46 : decode cX3_settle 46 = .ok (.iload_n 3, 1) := by decide +kernel
theorem dX3_settle_47 : decode cX3_settle 47 = .ok (.iaload, 1) := by decide +kernel
theorem dX3_settle_48 : decode cX3_settle 48 = .ok (.imul, 1) := by decide +kernel
theorem dX3_settle_49 : decode cX3_settle 49 = .ok (.iadd, 1) := by decide +kernel
theorem dX3_settle_50 : decode cX3_settle 50 = .ok (.putfield 78, 3) := by decide +kernel
theorem dX3_settle_53 : decode cX3_settle 53 = .ok (.aload_n 0, 1) := by decide +kernel
theorem dX3_settle_54 : decode cX3_settle 54 = .ok (.getfield 24, 3) := by decide +kernel
theorem dX3_settle_57 : decode cX3_settle 57 = .ok (.iload_n 3, 1) := by decide +kernel
theorem dX3_settle_58 : decode cX3_settle 58 = .ok (.iload_n 2, 1) := by decide +kernel
theorem dX3_settle_59 : decode cX3_settle 59 = .ok (.iastore, 1) := by decide +kernel
theorem dX3_settle_60 : decode cX3_settle 60 = .ok (.iload_n 2, 1) := by decide +kernel
theorem dX3_settle_61 : decode cX3_settle 61 = .ok (.aload_n 0, 1) := by decide +kernel
theorem dX3_settle_62 : decode cX3_settle 62 = .ok (.getfield 9, 3) := by decide +kernel
theorem dX3_settle_65 : decode cX3_settle 65 = .ok (.iload_n 3, 1) := by decide +kernel
theorem dX3_settle_66 : decode cX3_settle 66 = .ok (.iaload, 1) := by decide +kernel
theorem dX3_settle_67 : decode cX3_settle 67 = .ok (.iadd, 1) := by decide +kernel
theorem dX3_settle_68 : decode cX3_settle 68 = .ok (.istore_n 2, 1) := by decide +kernel
theorem dX3_settle_69 : decode cX3_settle 69 = .ok (.iinc 3 1, 3) := by decide +kernel
theorem dX3_settle_72 : decode cX3_settle 72 = .ok (.goto (-63), 3) := by decide +kernel
theorem dX3_settle_75 : decode cX3_settle 75 = .ok (.iconst 0, 1) := by decide +kernel
theorem dX3_settle_76 : decode cX3_settle 76 = .ok (.istore_n 3, 1) := by decide +kernel
theorem dX3_settle_77 : decode cX3_settle 77 = .ok (.iload_n 3, 1) := by decide +kernel
theorem dX3_settle_78 : decode cX3_settle 78 = .ok (.aload_n 0, 1) := by decide +kernel
theorem dX3_settle_79 : decode cX3_settle 79 = .ok (.getfield 54, 3) := by decide +kernel
theorem dX3_settle_82 : decode cX3_settle 82 = .ok (.if_icmp .ge 41, 3) := by decide +kernel
theorem dX3_settle_85 : decode cX3_settle 85 = .ok (.aload_n 0, 1) := by decide +kernel
theorem dX3_settle_86 : decode cX3_settle 86 = .ok (.getfield 27, 3) := by decide +kernel
theorem dX3_settle_89 : decode cX3_settle 89 = .ok (.iload_n 3, 1) := by decide +kernel
theorem dX3_settle_90 : decode cX3_settle 90 = .ok (.iaload, 1) := by decide +kernel
theorem dX3_settle_91 : decode cX3_settle 91 = .ok (.istore 4, 2) := by decide +kernel
theorem dX3_settle_93 : decode cX3_settle 93 = .ok (.aload_n 0, 1) := by decide +kernel
theorem dX3_settle_94 : decode cX3_settle 94 = .ok (.getfield 33, 3) := by decide +kernel
theorem dX3_settle_97 : decode cX3_settle 97 = .ok (.aload_n 0, 1) := by decide +kernel
theorem dX3_settle_98 : decode cX3_settle 98 = .ok (.getfield 24, 3) := by decide +kernel
theorem dX3_settle_101 : decode cX3_settle 101 = .ok (.iload 4, 2) := by decide +kernel
theorem dX3_settle_103 : decode cX3_settle 103 = .ok (.iaload, 1) := by decide +kernel
theorem dX3_settle_104 : decode cX3_settle 104 = .ok (.iload_n 3, 1) := by decide +kernel
theorem dX3_settle_105 : decode cX3_settle 105 = .ok (.iastore, 1) := by decide +kernel
theorem dX3_settle_106 : decode cX3_settle 106 = .ok (.aload_n 0, 1) := by decide +kernel
theorem dX3_settle_107 : decode cX3_settle 107 = .ok (.getfield 24, 3) := by decide +kernel
theorem dX3_settle_110 : decode cX3_settle 110 = .ok (.iload 4, 2) := by decide +kernel
theorem dX3_settle_112 : decode cX3_settle 112 = .ok (.dup2, 1) := by decide +kernel
theorem dX3_settle_113 : decode cX3_settle 113 = .ok (.iaload, 1) := by decide +kernel
theorem dX3_settle_114 : decode cX3_settle 114 = .ok (.iconst 1, 1) := by decide +kernel
theorem dX3_settle_115 : decode cX3_settle 115 = .ok (.iadd, 1) := by decide +kernel
theorem dX3_settle_116 : decode cX3_settle 116 = .ok (.iastore, 1) := by decide +kernel
theorem dX3_settle_117 : decode cX3_settle 117 = .ok (.iinc 3 1, 3) := by decide +kernel
theorem dX3_settle_120 : decode cX3_settle 120 = .ok (.goto (-43), 3) := by decide +kernel
theorem dX3_settle_123 : decode cX3_settle 123 = .ok (.return_, 1) := by decide +kernel
def own_k_settle : List Cond := [.fieldLink RX3 36 "ClashFree$Layout" "buckets" "I", .fieldLink RX3 15 "ClashFree$Layout" "roof" "[I", .fieldLink RX3 9 "ClashFree$Layout" "held" "[I", .fieldLink RX3 78 "ClashFree$Layout" "sum" "I", .fieldLink RX3 24 "ClashFree$Layout" "next" "[I", .fieldLink RX3 54 "ClashFree$Layout" "size" "I", .fieldLink RX3 27 "ClashFree$Layout" "home" "[I", .fieldLink RX3 33 "ClashFree$Layout" "order" "[I"]
def wp_k_settle : List Cond := .code yX3_settle cX3_settle 5 none :: (own_k_settle ++ (wsX30 ++ ([] : List Cond)))
set_option maxRecDepth 20000 in
theorem inown_k_settle : ∀ w ∈ own_k_settle, w ∈ lw_tbl := mem_places [178, 195, 191, 188, 208, 189, 202, 206] (by decide +kernel)
set_option maxRecDepth 20000 in
theorem in_k_settle : ∀ w ∈ wp_k_settle, w ∈ lw_tbl := List.forall_mem_cons.mpr ⟨List.mem_of_getElem? (i := 595) (by decide +kernel), List.forall_mem_append.mpr ⟨inown_k_settle, List.forall_mem_append.mpr ⟨lwb_X3, fun _ h => absurd h List.not_mem_nil⟩⟩⟩
set_option maxRecDepth 20000 in
theorem good_k_settle : wp_k_settle.all goodWord = true := by decide +kernel
set_option maxHeartbeats 4000000 in
set_option maxRecDepth 100000 in
theorem lk_set1 (l : Launch) {p : Program} {e : Env} {s : State} {m : MethodId} {args : Array Value} {below : List Frame} {meth : Method} {c : Code} {Q : State → Prop} {A : Nat → Prop} (D : va_G) (ob : Nat → Nat) (cI : ClassId) (nb : Nat) (ka : Nat) (kb : Nat) (ln : Nat) (fh : Nat → Int32) (fj : Nat → Int32) (fo : Nat → Int32) (z1 : Int32) (J : Nat → Nat) (hnb : nb ≤ 2048) (hln : ln ≤ 160) (hm9 : HmS fj fh nb ln J) (hx : p.tables.exec = Jvm.exec) (hb : c.code = cX3_settle) (hml : c.maxLocals = 5) (hown : s.vm.findClass RX3 = some m.cls) (hts : ∀ w ∈ wp_k_settle, w.before args s = true) (hA : ∀ q, s.heap.size ≤ q → A q) (hK : va_K D vwCl [(cI, .int)] s) (hN : NC s) (kx75 : ∀ (y : Nat), ∀ (su : Int32), ∀ (gf : Nat → Int32), ∀ (gx : Nat → Int32), (y ≤ nb) → (∀ i, i < y → gx i = nI (sumC J ln i)) → (nb ≤ y) → ∀ (H : Heap) (locs : List Loc) (ls : Array Slot), va_P D vwCl [(ob 5, .inr (3, gY ob (nI nb) (nI ka) (nI kb) su (nI ln))), (ob 6, .inl (cI, 2048, .inl fh)), (ob 7, .inl (cI, 2048, .inl gf)), (ob 10, .inl (cI, 160, .inl fj)), (ob 12, .inl (cI, 160, .inl fo)), (ob 13, .inl (cI, 2048, .inl gx))] H → va_D A [(ob 5, .inr (3, gY ob (nI nb) (nI ka) (nI kb) su (nI ln))), (ob 6, .inl (cI, 2048, .inl fh)), (ob 7, .inl (cI, 2048, .inl gf)), (ob 10, .inl (cI, 160, .inl fj)), (ob 12, .inl (cI, 160, .inl fo)), (ob 13, .inl (cI, 2048, .inl gx))] → va_S A s.heap H locs → lv_has ls 5 [(0, .ref (ob 5))] → W p l e ({ frames := 0, cells := 0, slots := 0, locals := 0 }) s m args below meth c H locs 0 0 Q (F0 m 75 ls [])) : ∀ (N : Nat), ∀ (y : Nat), ∀ (su : Int32), ∀ (gf : Nat → Int32), ∀ (gx : Nat → Int32), (y ≤ nb) → (∀ i, i < y → gx i = nI (sumC J ln i)) → nb - y < N → ∀ (H : Heap) (locs : List Loc) (ls : Array Slot), va_P D vwCl [(ob 5, .inr (3, gY ob (nI nb) (nI ka) (nI kb) su (nI ln))), (ob 6, .inl (cI, 2048, .inl fh)), (ob 7, .inl (cI, 2048, .inl gf)), (ob 10, .inl (cI, 160, .inl fj)), (ob 12, .inl (cI, 160, .inl fo)), (ob 13, .inl (cI, 2048, .inl gx))] H → va_D A [(ob 5, .inr (3, gY ob (nI nb) (nI ka) (nI kb) su (nI ln))), (ob 6, .inl (cI, 2048, .inl fh)), (ob 7, .inl (cI, 2048, .inl gf)), (ob 10, .inl (cI, 160, .inl fj)), (ob 12, .inl (cI, 160, .inl fo)), (ob 13, .inl (cI, 2048, .inl gx))] → va_S A s.heap H locs → lv_has ls 5 [(3, .int (nI y)), (2, .int (nI (sumC J ln y))), (0, .ref (ob 5)), (1, .int z1)] → W p l e ({ frames := 0, cells := 0, slots := 0, locals := 0 }) s m args below meth c H locs 0 0 Q (F0 m 9 ls []) := by
  have hin_X3 : ∀ w ∈ wsX30, w ∈ wp_k_settle := fun _ h => (List.mem_cons_of_mem _ (List.mem_append_right _ (List.mem_append_left _ h)))
  intro N
  induction N with
  | zero =>
    intro y su gf gx hy1 hx9 hm
    exact absurd hm (Nat.not_lt_zero _)
  | succ N ih =>
    intro y su gf gx hy1 hx9 hm H locs ls hP hD hS hl
    refine lv_iload_n hx hb dX3_settle_9 rfl (lv_at hl 0 rfl) ?_
    refine lv_aload_n hx hb dX3_settle_10 rfl (lv_at hl 2 rfl) ?_
    refine va_get (D := D) (ci := 3) (v := .int (nI nb)) (C := RX3) (T := TX3) (N := 13) hx hb hts hin_X3 hown hK hP 0 rfl rfl 0 (by decide) (hts (.fieldLink RX3 36 "ClashFree$Layout" "buckets" "I") (List.mem_of_getElem? (i := 1) rfl)) (fun _ h9 => h9) rfl dX3_settle_11 ?_
    refine lv_icmp_ge (tgt := 75) hx hb dX3_settle_14 (by decide) (fun hc1 => ?_) (fun hc1 => ?_)
    ·
      have hlt : nb ≤ y := (nI_leI (by omega) (by omega)).mp hc1
      exact kx75 y su gf gx (hy1) (hx9) (by omega) H locs ls (hP.sub [0, 1, 2, 3, 4, 5] rfl) (hD.sub [0, 1, 2, 3, 4, 5] (by decide) rfl) hS (lv_sub hl [2] rfl)
    ·
      have hlt : y < nb := by
        rcases Nat.lt_or_ge y (nb) with z | z
        · exact z
        · exact absurd (nI_le z (by omega)) hc1
      refine lv_aload_n hx hb dX3_settle_17 rfl (lv_at hl 2 rfl) ?_
      refine va_get (D := D) (ci := 3) (v := .ref (ob 7)) (C := RX3) (T := TX3) (N := 13) hx hb hts hin_X3 hown hK hP 0 rfl rfl 6 (by decide) (hts (.fieldLink RX3 15 "ClashFree$Layout" "roof" "[I") (List.mem_of_getElem? (i := 2) rfl)) (fun _ h9 => h9) rfl dX3_settle_18 ?_
      refine lv_iload_n hx hb dX3_settle_21 rfl (lv_at hl 0 rfl) ?_
      refine lv_iload_n hx hb dX3_settle_22 rfl (lv_at hl 3 rfl) ?_
      refine lv_aload_n hx hb dX3_settle_23 rfl (lv_at hl 2 rfl) ?_
      refine va_get (D := D) (ci := 3) (v := .ref (ob 6)) (C := RX3) (T := TX3) (N := 13) hx hb hts hin_X3 hown hK hP 0 rfl rfl 5 (by decide) (hts (.fieldLink RX3 9 "ClashFree$Layout" "held" "[I") (List.mem_of_getElem? (i := 3) rfl)) (fun _ h9 => h9) rfl dX3_settle_24 ?_
      refine lv_iload_n hx hb dX3_settle_27 rfl (lv_at hl 0 rfl) ?_
      refine va_iald hx hb hK hP 1 0 rfl rfl (vp_in_nI (by omega) (by decide)) dX3_settle_28 ?_
      refine lv_topi (fun v2 ev2 => ?_)
      obtain rfl : v2 = nI (cntJ J ln y) := ev2.trans (by rw [nI_clamp (by omega)]; exact hm9.2 y (by omega))
      refine lv_imul hx hb dX3_settle_29 ?_
      refine lv_topi (fun v3 ev3 => ?_)
      refine va_iast hx hb hK hP hD hS 2 0 rfl rfl (vp_in_nI (by omega) (by decide)) dX3_settle_30 (fun H locs hP hD hS => ?_)
      have hP : va_P D vwCl [(ob 5, .inr (3, gY ob (nI nb) (nI ka) (nI kb) su (nI ln))), (ob 6, .inl (cI, 2048, .inl fh)), (ob 7, .inl (cI, 2048, .inl (upd gf (Int32.toNatClampNeg (nI y)) v3))), (ob 10, .inl (cI, 160, .inl fj)), (ob 12, .inl (cI, 160, .inl fo)), (ob 13, .inl (cI, 2048, .inl gx))] H := hP
      have hD : va_D A [(ob 5, .inr (3, gY ob (nI nb) (nI ka) (nI kb) su (nI ln))), (ob 6, .inl (cI, 2048, .inl fh)), (ob 7, .inl (cI, 2048, .inl (upd gf (Int32.toNatClampNeg (nI y)) v3))), (ob 10, .inl (cI, 160, .inl fj)), (ob 12, .inl (cI, 160, .inl fo)), (ob 13, .inl (cI, 2048, .inl gx))] := hD
      generalize upd gf (Int32.toNatClampNeg (nI y)) v3 = g4 at hP hD
      refine lv_aload_n hx hb dX3_settle_31 rfl (lv_at hl 2 rfl) ?_
      refine lv_dup hx hb dX3_settle_32 rfl ?_
      refine va_get (D := D) (ci := 3) (v := .int su) (C := RX3) (T := TX3) (N := 13) hx hb hts hin_X3 hown hK hP 0 rfl rfl 3 (by decide) (hts (.fieldLink RX3 78 "ClashFree$Layout" "sum" "I") (List.mem_of_getElem? (i := 4) rfl)) (fun _ h9 => h9) rfl dX3_settle_33 ?_
      refine lv_aload_n hx hb dX3_settle_36 rfl (lv_at hl 2 rfl) ?_
      refine va_get (D := D) (ci := 3) (v := .ref (ob 7)) (C := RX3) (T := TX3) (N := 13) hx hb hts hin_X3 hown hK hP 0 rfl rfl 6 (by decide) (hts (.fieldLink RX3 15 "ClashFree$Layout" "roof" "[I") (List.mem_of_getElem? (i := 2) rfl)) (fun _ h9 => h9) rfl dX3_settle_37 ?_
      refine lv_iload_n hx hb dX3_settle_40 rfl (lv_at hl 0 rfl) ?_
      refine va_iald hx hb hK hP 2 0 rfl rfl (vp_in_nI (by omega) (by decide)) dX3_settle_41 ?_
      refine lv_topi (fun v5 ev5 => ?_)
      refine lv_aload_n hx hb dX3_settle_42 rfl (lv_at hl 2 rfl) ?_
      refine va_get (D := D) (ci := 3) (v := .ref (ob 7)) (C := RX3) (T := TX3) (N := 13) hx hb hts hin_X3 hown hK hP 0 rfl rfl 6 (by decide) (hts (.fieldLink RX3 15 "ClashFree$Layout" "roof" "[I") (List.mem_of_getElem? (i := 2) rfl)) (fun _ h9 => h9) rfl dX3_settle_43 ?_
      refine lv_iload_n hx hb dX3_settle_46 rfl (lv_at hl 0 rfl) ?_
      refine va_iald hx hb hK hP 2 0 rfl rfl (vp_in_nI (by omega) (by decide)) dX3_settle_47 ?_
      refine lv_topi (fun v6 ev6 => ?_)
      refine lv_imul hx hb dX3_settle_48 ?_
      refine lv_topi (fun v7 ev7 => ?_)
      refine lv_iadd hx hb dX3_settle_49 ?_
      refine lv_topi (fun v8 ev8 => ?_)
      refine va_put (D := D) (ci := 3) (v := .int v8) (ty := .int) (C := RX3) (T := TX3) (N := 13) hx hb hts hin_X3 tyX3 tyX3_ok nmX3 hown hK hP hD hS 0 rfl rfl 3 (by decide) (hts (.fieldLink RX3 78 "ClashFree$Layout" "sum" "I") (List.mem_of_getElem? (i := 4) rfl)) (fun _ h9 => h9) rfl (by decide +kernel) rfl rfl (Nat.le_of_ble_eq_true rfl) dX3_settle_50 (fun H locs hP hD hS => ?_)
      have hP : va_P D vwCl [(ob 5, .inr (3, gY ob (nI nb) (nI ka) (nI kb) v8 (nI ln))), (ob 6, .inl (cI, 2048, .inl fh)), (ob 7, .inl (cI, 2048, .inl g4)), (ob 10, .inl (cI, 160, .inl fj)), (ob 12, .inl (cI, 160, .inl fo)), (ob 13, .inl (cI, 2048, .inl gx))] H := hP
      have hD : va_D A [(ob 5, .inr (3, gY ob (nI nb) (nI ka) (nI kb) v8 (nI ln))), (ob 6, .inl (cI, 2048, .inl fh)), (ob 7, .inl (cI, 2048, .inl g4)), (ob 10, .inl (cI, 160, .inl fj)), (ob 12, .inl (cI, 160, .inl fo)), (ob 13, .inl (cI, 2048, .inl gx))] := hD
      refine lv_aload_n hx hb dX3_settle_53 rfl (lv_at hl 2 rfl) ?_
      refine va_get (D := D) (ci := 3) (v := .ref (ob 13)) (C := RX3) (T := TX3) (N := 13) hx hb hts hin_X3 hown hK hP 0 rfl rfl 12 (by decide) (hts (.fieldLink RX3 24 "ClashFree$Layout" "next" "[I") (List.mem_of_getElem? (i := 5) rfl)) (fun _ h9 => h9) rfl dX3_settle_54 ?_
      refine lv_iload_n hx hb dX3_settle_57 rfl (lv_at hl 0 rfl) ?_
      refine lv_iload_n hx hb dX3_settle_58 rfl (lv_at hl 1 rfl) ?_
      refine va_iast hx hb hK hP hD hS 5 0 rfl rfl (vp_in_nI (by omega) (by decide)) dX3_settle_59 (fun H locs hP hD hS => ?_)
      have hP : va_P D vwCl [(ob 5, .inr (3, gY ob (nI nb) (nI ka) (nI kb) v8 (nI ln))), (ob 6, .inl (cI, 2048, .inl fh)), (ob 7, .inl (cI, 2048, .inl g4)), (ob 10, .inl (cI, 160, .inl fj)), (ob 12, .inl (cI, 160, .inl fo)), (ob 13, .inl (cI, 2048, .inl (upd gx (Int32.toNatClampNeg (nI y)) (nI (sumC J ln y)))))] H := hP
      have hD : va_D A [(ob 5, .inr (3, gY ob (nI nb) (nI ka) (nI kb) v8 (nI ln))), (ob 6, .inl (cI, 2048, .inl fh)), (ob 7, .inl (cI, 2048, .inl g4)), (ob 10, .inl (cI, 160, .inl fj)), (ob 12, .inl (cI, 160, .inl fo)), (ob 13, .inl (cI, 2048, .inl (upd gx (Int32.toNatClampNeg (nI y)) (nI (sumC J ln y)))))] := hD
      rw [show (upd gx (Int32.toNatClampNeg (nI y)) (nI (sumC J ln y))) = (upd gx y (nI (sumC J ln y))) from by rw [nI_clamp (by omega)]] at hP hD
      refine lv_iload_n hx hb dX3_settle_60 rfl (lv_at hl 1 rfl) ?_
      refine lv_aload_n hx hb dX3_settle_61 rfl (lv_at hl 2 rfl) ?_
      refine va_get (D := D) (ci := 3) (v := .ref (ob 6)) (C := RX3) (T := TX3) (N := 13) hx hb hts hin_X3 hown hK hP 0 rfl rfl 5 (by decide) (hts (.fieldLink RX3 9 "ClashFree$Layout" "held" "[I") (List.mem_of_getElem? (i := 3) rfl)) (fun _ h9 => h9) rfl dX3_settle_62 ?_
      refine lv_iload_n hx hb dX3_settle_65 rfl (lv_at hl 0 rfl) ?_
      refine va_iald hx hb hK hP 1 0 rfl rfl (vp_in_nI (by omega) (by decide)) dX3_settle_66 ?_
      refine lv_topi (fun v9 ev9 => ?_)
      obtain rfl : v9 = nI (cntJ J ln y) := ev9.trans (by rw [nI_clamp (by omega)]; exact hm9.2 y (by omega))
      refine lv_iadd hx hb dX3_settle_67 ?_
      refine lv_topi (fun v10 ev10 => ?_)
      obtain rfl : v10 = nI (sumC J ln (y + 1)) := ev10.trans (nI_add _ _)
      refine lv_istore_n (lv' := [(2, .int (nI (sumC J ln (y + 1)))), (3, .int (nI y)), (0, .ref (ob 5)), (1, .int z1)]) hx hb dX3_settle_68 rfl hl (by decide) rfl (fun ls hl => ?_)
      refine lv_iinc (v := nI (y + 1)) (lv' := [(3, .int (nI (y + 1))), (2, .int (nI (sumC J ln (y + 1)))), (0, .ref (ob 5)), (1, .int z1)]) hx hb dX3_settle_69 hl (k := 1) rfl (nI_1 _) (by decide) rfl (fun ls hl => ?_)
      refine lv_goto (tgt := 9) hx hb dX3_settle_72 (by decide) ?_
      have hbk : ∀ i, i < y + 1 → upd gx y (nI (sumC J ln y)) i = nI (sumC J ln i) := fun i hi => by
        by_cases e : i = y
        · subst e
          exact pk_us
        · rw [pk_un e]
          exact hx9 i (by omega)
      exact ih (y + 1) v8 g4 (upd gx y (nI (sumC J ln y))) (by omega) (hbk) (by omega) H locs ls (hP.sub [0, 1, 2, 3, 4, 5] rfl) (hD.sub [0, 1, 2, 3, 4, 5] (by decide) rfl) hS (lv_sub hl [0, 1, 2, 3] rfl)
set_option maxHeartbeats 4000000 in
set_option maxRecDepth 100000 in
theorem lk_set2 (l : Launch) {p : Program} {e : Env} {s : State} {m : MethodId} {args : Array Value} {below : List Frame} {meth : Method} {c : Code} {Q : State → Prop} {A : Nat → Prop} (D : va_G) (ob : Nat → Nat) (cI : ClassId) (nb : Nat) (ka : Nat) (kb : Nat) (sm : Int32) (ln : Nat) (fh : Nat → Int32) (ff : Nat → Int32) (fj : Nat → Int32) (z1 : Int32) (J : Nat → Nat) (hnb : nb ≤ 2048) (hln : ln ≤ 160) (hm9 : HmS fj fh nb ln J) (hx : p.tables.exec = Jvm.exec) (hb : c.code = cX3_settle) (hml : c.maxLocals = 5) (hown : s.vm.findClass RX3 = some m.cls) (hts : ∀ w ∈ wp_k_settle, w.before args s = true) (hA : ∀ q, s.heap.size ≤ q → A q) (hK : va_K D vwCl [(cI, .int)] s) (hN : NC s) (kx123 : ∀ (y : Nat), ∀ (go : Nat → Int32), ∀ (gx : Nat → Int32), (y ≤ ln) → (∀ i, i < nb → gx i = nI (sumC J ln i + cntJ J y i)) → (OrC go) → ∀ (H : Heap) (locs : List Loc) (ls : Array Slot), va_P D vwCl [(ob 5, .inr (3, gY ob (nI nb) (nI ka) (nI kb) sm (nI ln))), (ob 6, .inl (cI, 2048, .inl fh)), (ob 7, .inl (cI, 2048, .inl ff)), (ob 10, .inl (cI, 160, .inl fj)), (ob 12, .inl (cI, 160, .inl go)), (ob 13, .inl (cI, 2048, .inl gx))] H → va_D A [(ob 5, .inr (3, gY ob (nI nb) (nI ka) (nI kb) sm (nI ln))), (ob 6, .inl (cI, 2048, .inl fh)), (ob 7, .inl (cI, 2048, .inl ff)), (ob 10, .inl (cI, 160, .inl fj)), (ob 12, .inl (cI, 160, .inl go)), (ob 13, .inl (cI, 2048, .inl gx))] → va_S A s.heap H locs → lv_has ls 5 [(0, .ref (ob 5))] → W p l e ({ frames := 0, cells := 0, slots := 0, locals := 0 }) s m args below meth c H locs 0 0 Q (F0 m 123 ls [])) : ∀ (N : Nat), ∀ (y : Nat), ∀ (go : Nat → Int32), ∀ (gx : Nat → Int32), (y ≤ ln) → (∀ i, i < nb → gx i = nI (sumC J ln i + cntJ J y i)) → (OrC go) → ln - y < N → ∀ (H : Heap) (locs : List Loc) (ls : Array Slot), va_P D vwCl [(ob 5, .inr (3, gY ob (nI nb) (nI ka) (nI kb) sm (nI ln))), (ob 6, .inl (cI, 2048, .inl fh)), (ob 7, .inl (cI, 2048, .inl ff)), (ob 10, .inl (cI, 160, .inl fj)), (ob 12, .inl (cI, 160, .inl go)), (ob 13, .inl (cI, 2048, .inl gx))] H → va_D A [(ob 5, .inr (3, gY ob (nI nb) (nI ka) (nI kb) sm (nI ln))), (ob 6, .inl (cI, 2048, .inl fh)), (ob 7, .inl (cI, 2048, .inl ff)), (ob 10, .inl (cI, 160, .inl fj)), (ob 12, .inl (cI, 160, .inl go)), (ob 13, .inl (cI, 2048, .inl gx))] → va_S A s.heap H locs → lv_has ls 5 [(3, .int (nI y)), (0, .ref (ob 5))] → W p l e ({ frames := 0, cells := 0, slots := 0, locals := 0 }) s m args below meth c H locs 0 0 Q (F0 m 77 ls []) := by
  have hin_X3 : ∀ w ∈ wsX30, w ∈ wp_k_settle := fun _ h => (List.mem_cons_of_mem _ (List.mem_append_right _ (List.mem_append_left _ h)))
  intro N
  induction N with
  | zero =>
    intro y go gx hy1 hx9 hO hm
    exact absurd hm (Nat.not_lt_zero _)
  | succ N ih =>
    intro y go gx hy1 hx9 hO hm H locs ls hP hD hS hl
    refine lv_iload_n hx hb dX3_settle_77 rfl (lv_at hl 0 rfl) ?_
    refine lv_aload_n hx hb dX3_settle_78 rfl (lv_at hl 1 rfl) ?_
    refine va_get (D := D) (ci := 3) (v := .int (nI ln)) (C := RX3) (T := TX3) (N := 13) hx hb hts hin_X3 hown hK hP 0 rfl rfl 4 (by decide) (hts (.fieldLink RX3 54 "ClashFree$Layout" "size" "I") (List.mem_of_getElem? (i := 6) rfl)) (fun _ h9 => h9) rfl dX3_settle_79 ?_
    refine lv_icmp_ge (tgt := 123) hx hb dX3_settle_82 (by decide) (fun hc1 => ?_) (fun hc1 => ?_)
    ·
      have hlt : ln ≤ y := (nI_leI (by omega) (by omega)).mp hc1
      exact kx123 y go gx (hy1) (hx9) (hO) H locs ls (hP.sub [0, 1, 2, 3, 4, 5] rfl) (hD.sub [0, 1, 2, 3, 4, 5] (by decide) rfl) hS (lv_sub hl [1] rfl)
    ·
      have hlt : y < ln := by
        rcases Nat.lt_or_ge y (ln) with z | z
        · exact z
        · exact absurd (nI_le z (by omega)) hc1
      have hJy := hm9.1 y hlt
      have hfit := next_fit (J := J) hlt
      have hJ2 := hJy.2
      refine lv_aload_n hx hb dX3_settle_85 rfl (lv_at hl 1 rfl) ?_
      refine va_get (D := D) (ci := 3) (v := .ref (ob 10)) (C := RX3) (T := TX3) (N := 13) hx hb hts hin_X3 hown hK hP 0 rfl rfl 9 (by decide) (hts (.fieldLink RX3 27 "ClashFree$Layout" "home" "[I") (List.mem_of_getElem? (i := 7) rfl)) (fun _ h9 => h9) rfl dX3_settle_86 ?_
      refine lv_iload_n hx hb dX3_settle_89 rfl (lv_at hl 0 rfl) ?_
      refine va_iald hx hb hK hP 3 0 rfl rfl (vp_in_nI (by omega) (by decide)) dX3_settle_90 ?_
      refine lv_topi (fun v2 ev2 => ?_)
      obtain rfl : v2 = nI (J y) := ev2.trans (by rw [nI_clamp (by omega)]; exact hJy.1)
      refine lv_istore (lv' := [(4, .int (nI (J y))), (3, .int (nI y)), (0, .ref (ob 5))]) hx hb dX3_settle_91 hl (by decide) rfl (fun ls hl => ?_)
      refine lv_aload_n hx hb dX3_settle_93 rfl (lv_at hl 2 rfl) ?_
      refine va_get (D := D) (ci := 3) (v := .ref (ob 12)) (C := RX3) (T := TX3) (N := 13) hx hb hts hin_X3 hown hK hP 0 rfl rfl 11 (by decide) (hts (.fieldLink RX3 33 "ClashFree$Layout" "order" "[I") (List.mem_of_getElem? (i := 8) rfl)) (fun _ h9 => h9) rfl dX3_settle_94 ?_
      refine lv_aload_n hx hb dX3_settle_97 rfl (lv_at hl 2 rfl) ?_
      refine va_get (D := D) (ci := 3) (v := .ref (ob 13)) (C := RX3) (T := TX3) (N := 13) hx hb hts hin_X3 hown hK hP 0 rfl rfl 12 (by decide) (hts (.fieldLink RX3 24 "ClashFree$Layout" "next" "[I") (List.mem_of_getElem? (i := 5) rfl)) (fun _ h9 => h9) rfl dX3_settle_98 ?_
      refine lv_iload hx hb dX3_settle_101 (lv_at hl 0 rfl) ?_
      refine va_iald hx hb hK hP 5 0 rfl rfl (vp_in_nI (by omega) (by decide)) dX3_settle_103 ?_
      refine lv_topi (fun v3 ev3 => ?_)
      obtain rfl : v3 = nI (sumC J ln (J y) + cntJ J y (J y)) := ev3.trans (by rw [nI_clamp (by omega)]; exact hx9 _ hJ2)
      refine lv_iload_n hx hb dX3_settle_104 rfl (lv_at hl 1 rfl) ?_
      refine va_iast hx hb hK hP hD hS 4 0 rfl rfl (vp_in_nI (by omega) (by decide)) dX3_settle_105 (fun H locs hP hD hS => ?_)
      have hP : va_P D vwCl [(ob 5, .inr (3, gY ob (nI nb) (nI ka) (nI kb) sm (nI ln))), (ob 6, .inl (cI, 2048, .inl fh)), (ob 7, .inl (cI, 2048, .inl ff)), (ob 10, .inl (cI, 160, .inl fj)), (ob 12, .inl (cI, 160, .inl (upd go (Int32.toNatClampNeg (nI (sumC J ln (J y) + cntJ J y (J y)))) (nI y)))), (ob 13, .inl (cI, 2048, .inl gx))] H := hP
      have hD : va_D A [(ob 5, .inr (3, gY ob (nI nb) (nI ka) (nI kb) sm (nI ln))), (ob 6, .inl (cI, 2048, .inl fh)), (ob 7, .inl (cI, 2048, .inl ff)), (ob 10, .inl (cI, 160, .inl fj)), (ob 12, .inl (cI, 160, .inl (upd go (Int32.toNatClampNeg (nI (sumC J ln (J y) + cntJ J y (J y)))) (nI y)))), (ob 13, .inl (cI, 2048, .inl gx))] := hD
      rw [show (upd go (Int32.toNatClampNeg (nI (sumC J ln (J y) + cntJ J y (J y)))) (nI y)) = (upd go (sumC J ln (J y) + cntJ J y (J y)) (nI y)) from by rw [nI_clamp (by omega)]] at hP hD
      refine lv_aload_n hx hb dX3_settle_106 rfl (lv_at hl 2 rfl) ?_
      refine va_get (D := D) (ci := 3) (v := .ref (ob 13)) (C := RX3) (T := TX3) (N := 13) hx hb hts hin_X3 hown hK hP 0 rfl rfl 12 (by decide) (hts (.fieldLink RX3 24 "ClashFree$Layout" "next" "[I") (List.mem_of_getElem? (i := 5) rfl)) (fun _ h9 => h9) rfl dX3_settle_107 ?_
      refine lv_iload hx hb dX3_settle_110 (lv_at hl 0 rfl) ?_
      refine lv_dup2_11 hx hb dX3_settle_112 rfl rfl ?_
      refine va_iald hx hb hK hP 5 0 rfl rfl (vp_in_nI (by omega) (by decide)) dX3_settle_113 ?_
      refine lv_topi (fun v4 ev4 => ?_)
      obtain rfl : v4 = nI (sumC J ln (J y) + cntJ J y (J y)) := ev4.trans (by rw [nI_clamp (by omega)]; exact hx9 _ hJ2)
      refine lv_iconst (v := 1) hx hb dX3_settle_114 (by decide) ?_
      refine lv_iadd hx hb dX3_settle_115 ?_
      refine lv_topi (fun v5 ev5 => ?_)
      obtain rfl : v5 = nI (sumC J ln (J y) + cntJ J y (J y) + 1) := ev5.trans (nI_1 _)
      refine va_iast hx hb hK hP hD hS 5 0 rfl rfl (vp_in_nI (by omega) (by decide)) dX3_settle_116 (fun H locs hP hD hS => ?_)
      have hP : va_P D vwCl [(ob 5, .inr (3, gY ob (nI nb) (nI ka) (nI kb) sm (nI ln))), (ob 6, .inl (cI, 2048, .inl fh)), (ob 7, .inl (cI, 2048, .inl ff)), (ob 10, .inl (cI, 160, .inl fj)), (ob 12, .inl (cI, 160, .inl (upd go (sumC J ln (J y) + cntJ J y (J y)) (nI y)))), (ob 13, .inl (cI, 2048, .inl (upd gx (Int32.toNatClampNeg (nI (J y))) (nI (sumC J ln (J y) + cntJ J y (J y) + 1)))))] H := hP
      have hD : va_D A [(ob 5, .inr (3, gY ob (nI nb) (nI ka) (nI kb) sm (nI ln))), (ob 6, .inl (cI, 2048, .inl fh)), (ob 7, .inl (cI, 2048, .inl ff)), (ob 10, .inl (cI, 160, .inl fj)), (ob 12, .inl (cI, 160, .inl (upd go (sumC J ln (J y) + cntJ J y (J y)) (nI y)))), (ob 13, .inl (cI, 2048, .inl (upd gx (Int32.toNatClampNeg (nI (J y))) (nI (sumC J ln (J y) + cntJ J y (J y) + 1)))))] := hD
      rw [show (upd gx (Int32.toNatClampNeg (nI (J y))) (nI (sumC J ln (J y) + cntJ J y (J y) + 1))) = (upd gx (J y) (nI (sumC J ln (J y) + cntJ J y (J y) + 1))) from by rw [nI_clamp (by omega)]] at hP hD
      refine lv_iinc (v := nI (y + 1)) (lv' := [(3, .int (nI (y + 1))), (4, .int (nI (J y))), (0, .ref (ob 5))]) hx hb dX3_settle_117 hl (k := 1) rfl (nI_1 _) (by decide) rfl (fun ls hl => ?_)
      refine lv_goto (tgt := 77) hx hb dX3_settle_120 (by decide) ?_
      exact ih (y + 1) (upd go (sumC J ln (J y) + cntJ J y (J y)) (nI y)) (upd gx (J y) (nI (sumC J ln (J y) + cntJ J y (J y) + 1))) (by omega) (nx_step hx9) (OrC_up hO (by omega)) (by omega) H locs ls (hP.sub [0, 1, 2, 3, 4, 5] rfl) (hD.sub [0, 1, 2, 3, 4, 5] (by decide) rfl) hS (lv_sub hl [0, 2] rfl)
set_option maxHeartbeats 4000000 in
set_option maxRecDepth 100000 in
theorem k_settle (l : Launch) (D : va_G) (sz : Nat) (ob : Nat → Nat) (cI : ClassId) (nb : Nat) (ka : Nat) (kb : Nat) (sm : Int32) (ln : Nat) (fh : Nat → Int32) (ff : Nat → Int32) (fj : Nat → Int32) (fo : Nat → Int32) (fx : Nat → Int32) (z1 : Int32) (hL : LyH fj fh nb ln) (hO : OrC fo) : Met l yX3_settle wp_k_settle ({ frames := 0, cells := 0, slots := 0, locals := 0 }) (PcWC D [.ref (ob 5), .int z1] sz [(ob 5, .inr (3, gY ob (nI nb) (nI ka) (nI kb) sm (nI ln))), (ob 6, .inl (cI, 2048, .inl fh)), (ob 7, .inl (cI, 2048, .inl ff)), (ob 10, .inl (cI, 160, .inl fj)), (ob 12, .inl (cI, 160, .inl fo)), (ob 13, .inl (cI, 2048, .inl fx))] [(cI, .int)]) (va_Qv (fun (u : (Int32) × (Nat → Int32) × (Nat → Int32) × (Nat → Int32)) => OrC u.2.2.1) (fun (u : (Int32) × (Nat → Int32) × (Nat → Int32) × (Nat → Int32)) t => va_P D vwCl [(ob 5, .inr (3, gY ob (nI nb) (nI ka) (nI kb) u.1 (nI ln))), (ob 6, .inl (cI, 2048, .inl fh)), (ob 7, .inl (cI, 2048, .inl u.2.1)), (ob 10, .inl (cI, 160, .inl fj)), (ob 12, .inl (cI, 160, .inl u.2.2.1)), (ob 13, .inl (cI, 2048, .inl u.2.2.2))] t.heap ∧ va_K D vwCl [(cI, .int)] t ∧ va_D (va_A [(ob 5, .inr (3, gY ob (nI nb) (nI ka) (nI kb) sm (nI ln))), (ob 6, .inl (cI, 2048, .inl fh)), (ob 7, .inl (cI, 2048, .inl ff)), (ob 10, .inl (cI, 160, .inl fj)), (ob 12, .inl (cI, 160, .inl fo)), (ob 13, .inl (cI, 2048, .inl fx))] sz) [(ob 5, .inr (3, gY ob (nI nb) (nI ka) (nI kb) u.1 (nI ln))), (ob 6, .inl (cI, 2048, .inl fh)), (ob 7, .inl (cI, 2048, .inl u.2.1)), (ob 10, .inl (cI, 160, .inl fj)), (ob 12, .inl (cI, 160, .inl u.2.2.1)), (ob 13, .inl (cI, 2048, .inl u.2.2.2))]) (va_A [(ob 5, .inr (3, gY ob (nI nb) (nI ka) (nI kb) sm (nI ln))), (ob 6, .inl (cI, 2048, .inl fh)), (ob 7, .inl (cI, 2048, .inl ff)), (ob 10, .inl (cI, 160, .inl fj)), (ob 12, .inl (cI, 160, .inl fo)), (ob 13, .inl (cI, 2048, .inl fx))] sz)) 0 0 (va_A [(ob 5, .inr (3, gY ob (nI nb) (nI ka) (nI kb) sm (nI ln))), (ob 6, .inl (cI, 2048, .inl fh)), (ob 7, .inl (cI, 2048, .inl ff)), (ob 10, .inl (cI, 160, .inl fj)), (ob 12, .inl (cI, 160, .inl fo)), (ob 13, .inl (cI, 2048, .inl fx))] sz) := by
  refine Met.ofW (cc := cX3_settle) (maxL := 5) (ret := none) (by decide) rfl ?_
  intro p e s m args below meth c s₁ B hml hv
  obtain ⟨rfl, hsz, hP, hK, hD0, hN⟩ := hv
  have hx := B.exec
  have hb := B.bytes
  have hr := B.returns
  have hts := atoms_spec (ws := wp_k_settle) B.pre
  have hin_X3 : ∀ w ∈ wsX30, w ∈ wp_k_settle := fun _ h => (List.mem_cons_of_mem _ (List.mem_append_right _ (List.mem_append_left _ h)))
  have hown : s.vm.findClass RX3 = some m.cls := findClass_of_methodNamed B.named
  have hlocks := B.notSynchronized
  subst hsz
  have hD := hD0.self (sz := s.heap.size)
  generalize hAe : va_A [(ob 5, .inr (3, gY ob (nI nb) (nI ka) (nI kb) sm (nI ln))), (ob 6, .inl (cI, 2048, .inl fh)), (ob 7, .inl (cI, 2048, .inl ff)), (ob 10, .inl (cI, 160, .inl fj)), (ob 12, .inl (cI, 160, .inl fo)), (ob 13, .inl (cI, 2048, .inl fx))] s.heap.size = A at hD ⊢
  have hA : ∀ q : Nat, s.heap.size ≤ q → A q := fun q h => by rw [← hAe]; exact Or.inr h
  have hS : va_S A s.heap s.heap [] := va_S.rf
  have hP : va_P D vwCl [(ob 5, .inr (3, gY ob (nI nb) (nI ka) (nI kb) sm (nI ln))), (ob 6, .inl (cI, 2048, .inl fh)), (ob 7, .inl (cI, 2048, .inl ff)), (ob 10, .inl (cI, 160, .inl fj)), (ob 12, .inl (cI, 160, .inl fo)), (ob 13, .inl (cI, 2048, .inl fx))] s.heap := hP
  have hl := lv_entry ([.ref (ob 5), .int z1]) (n := 5) (Nat.le_of_ble_eq_true rfl)
  rw [lg_entry_eq]
  generalize (lg_sl ([.ref (ob 5), .int z1]) ++ List.replicate (5 - (lg_sl ([.ref (ob 5), .int z1])).length) Slot.unset).toArray = ls at hl ⊢
  have hl : lv_has ls 5 [(0, .ref (ob 5)), (1, .int z1)] := hl
  obtain ⟨hnb, hln, J, hm9⟩ := hL
  refine lv_aload_n hx hb dX3_settle_0 rfl (lv_at hl 0 rfl) ?_
  refine lv_iconst (v := 0) hx hb dX3_settle_1 (by decide) ?_
  refine va_put (D := D) (ci := 3) (v := .int 0) (ty := .int) (C := RX3) (T := TX3) (N := 13) hx hb hts hin_X3 tyX3 tyX3_ok nmX3 hown hK hP hD hS 0 rfl rfl 3 (by decide) (hts (.fieldLink RX3 78 "ClashFree$Layout" "sum" "I") (List.mem_of_getElem? (i := 4) rfl)) (fun _ h9 => h9) rfl (by decide +kernel) rfl rfl (Nat.le_of_ble_eq_true rfl) dX3_settle_2 (fun H locs hP hD hS => ?_)
  have hP : va_P D vwCl [(ob 5, .inr (3, gY ob (nI nb) (nI ka) (nI kb) 0 (nI ln))), (ob 6, .inl (cI, 2048, .inl fh)), (ob 7, .inl (cI, 2048, .inl ff)), (ob 10, .inl (cI, 160, .inl fj)), (ob 12, .inl (cI, 160, .inl fo)), (ob 13, .inl (cI, 2048, .inl fx))] H := hP
  have hD : va_D A [(ob 5, .inr (3, gY ob (nI nb) (nI ka) (nI kb) 0 (nI ln))), (ob 6, .inl (cI, 2048, .inl fh)), (ob 7, .inl (cI, 2048, .inl ff)), (ob 10, .inl (cI, 160, .inl fj)), (ob 12, .inl (cI, 160, .inl fo)), (ob 13, .inl (cI, 2048, .inl fx))] := hD
  refine lv_iconst (v := 0) hx hb dX3_settle_5 (by decide) ?_
  refine lv_istore_n (lv' := [(2, .int 0), (0, .ref (ob 5)), (1, .int z1)]) hx hb dX3_settle_6 rfl hl (by decide) rfl (fun ls hl => ?_)
  refine lv_iconst (v := 0) hx hb dX3_settle_7 (by decide) ?_
  refine lv_istore_n (lv' := [(3, .int 0), (2, .int 0), (0, .ref (ob 5)), (1, .int z1)]) hx hb dX3_settle_8 rfl hl (by decide) rfl (fun ls hl => ?_)
  refine lk_set1 l D ob cI nb ka kb ln fh fj fo z1 J (hnb) (hln) (hm9) hx hb hml hown hts hA (hK.sub [0] rfl) hN ?_ (nb + 1) 0 0 ff fx (Nat.zero_le _) (fun i hi => absurd hi (Nat.not_lt_zero _)) (by omega) _ _ _ (hP.sub [0, 1, 2, 3, 4, 5] rfl) (hD.sub [0, 1, 2, 3, 4, 5] (by decide) rfl) hS (lv_sub hl [0, 1, 2, 3] rfl)
  intro y_1 su_2 gf_3 gx_4 hy1_5 hx9_6 hx7 H locs ls hP hD hS hl
  refine lv_iconst (v := 0) hx hb dX3_settle_75 (by decide) ?_
  refine lv_istore_n (lv' := [(3, .int 0), (0, .ref (ob 5))]) hx hb dX3_settle_76 rfl hl (by decide) rfl (fun ls hl => ?_)
  refine lk_set2 l D ob cI nb ka kb su_2 ln fh gf_3 fj z1 J (hnb) (hln) (hm9) hx hb hml hown hts hA (hK.sub [0] rfl) hN ?_ (ln + 1) 0 fo gx_4 (Nat.zero_le _) (fun i hi => hx9_6 i (by omega)) (hO) (by omega) _ _ _ (hP.sub [0, 1, 2, 3, 4, 5] rfl) (hD.sub [0, 1, 2, 3, 4, 5] (by decide) rfl) hS (lv_sub hl [0, 1] rfl)
  intro y_8 go_9 gx_10 hy1_11 hx9_12 hO_13 H locs ls hP hD hS hl
  exact W.vret hx hb hr (fun t ht hW => ⟨⟨(su_2, gf_3, go_9, gx_10), rfl, (by (try dsimp only); first | done | exact hO_13), by rw [ht]; exact hP.sub [0, 1, 2, 3, 4, 5] rfl, va_K.moved hW.alike (hK.sub [0] rfl), hD.sub [0, 1, 2, 3, 4, 5] (by decide) rfl⟩, hS.F ht⟩) hS.2.2 dX3_settle_123

