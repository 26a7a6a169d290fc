theorem dX3_nthByRooms_0 : decode cX3_nthByRooms 0 = .ok (.iconst 0, 1) := by decide +kernel
theorem dX3_nthByRooms_1 : decode cX3_nthByRooms 1 = .ok (.istore_n 2, 1) := by decide +kernel
theorem dX3_nthByRooms_2 : decode cX3_nthByRooms 2 = .ok (.iload_n 1, 1) := by decide +kernel
theorem dX3_nthByRooms_3 : decode cX3_nthByRooms 3 = .ok (.istore_n 3, 1) := by decide +kernel
theorem dX3_nthByRooms_4 : decode cX3_nthByRooms 4 = .ok (.iload_n 2, 1) := by decide +kernel
theorem dX3_nthByRooms_5 : decode cX3_nthByRooms 5 = .ok (.aload_n 0, 1) := by decide +kernel
theorem dX3_nthByRooms_6 : decode cX3_nthByRooms 6 = .ok (.getfield 36, 3) := by decide +kernel
theorem dX3_nthByRooms_9 : decode cX3_nthByRooms 9 = .ok (.if_icmp .ge 28, 3) := by decide +kernel
theorem dX3_nthByRooms_12 : decode cX3_nthByRooms 12 = .ok (.iload_n 3, 1) := by decide +kernel
theorem dX3_nthByRooms_13 : decode cX3_nthByRooms 13 = .ok (.aload_n 0, 1) := by decide +kernel
theorem dX3_nthByRooms_14 : decode cX3_nthByRooms 14 = .ok (.getfield 9, 3) := by decide +kernel
theorem dX3_nthByRooms_17 : decode cX3_nthByRooms 17 = .ok (.iload_n 2, 1) := by decide +kernel
theorem dX3_nthByRooms_18 : decode cX3_nthByRooms 18 = .ok (.iaload, 1) := by decide +kernel
theorem dX3_nthByRooms_19 : decode cX3_nthByRooms 19 = .ok (.if_icmp .lt 18, 3) := by decide +kernel
theorem dX3_nthByRooms_22 : decode cX3_nthByRooms 22 = .ok (.iload_n 3, 1) := by decide +kernel
theorem dX3_nthByRooms_23 : decode cX3_nthByRooms 23 = .ok (.aload_n 0, 1) := by decide +kernel
theorem dX3_nthByRooms_24 : decode cX3_nthByRooms 24 = .ok (.getfield 9, 3) := by decide +kernel
theorem dX3_nthByRooms_27 : decode cX3_nthByRooms 27 = .ok (.iload_n 2, 1) := by decide +kernel
theorem dX3_nthByRooms_28 : decode cX3_nthByRooms 28 = .ok (.iaload, 1) := by decide +kernel
theorem dX3_nthByRooms_29 : decode cX3_nthByRooms 29 = .ok (.isub, 1) := by decide +kernel
theorem dX3_nthByRooms_30 : decode cX3_nthByRooms 30 = .ok (.istore_n 3, 1) := by decide +kernel
theorem dX3_nthByRooms_31 : decode cX3_nthByRooms 31 = .ok (.iinc 2 1, 3) := by decide +kernel
theorem dX3_nthByRooms_34 : decode cX3_nthByRooms 34 = .ok (.goto (-30), 3) := by decide +kernel
theorem dX3_nthByRooms_37 : decode cX3_nthByRooms 37 = .ok (.aload_n 0, 1) := by decide +kernel
theorem dX3_nthByRooms_38 : decode cX3_nthByRooms 38 = .ok (.iload_n 2, 1) := by decide +kernel
theorem dX3_nthByRooms_39 : decode cX3_nthByRooms 39 = .ok (.invokevirtual 57, 3) := by decide +kernel
theorem dX3_nthByRooms_42 : decode cX3_nthByRooms 42 = .ok (.istore 4, 2) := by decide +kernel
theorem dX3_nthByRooms_44 : decode cX3_nthByRooms 44 = .ok (.iconst 0, 1) := by decide +kernel
theorem dX3_nthByRooms_45 : decode cX3_nthByRooms 45 = .ok (.istore 5, 2) := by decide +kernel
theorem dX3_nthByRooms_47 : decode cX3_nthByRooms 47 = .ok (.iload 5, 2) := by decide +kernel
theorem dX3_nthByRooms_49 : decode cX3_nthByRooms 49 = .ok (.iload 4, 2) := by decide +kernel
theorem dX3_nthByRooms_51 : decode cX3_nthByRooms 51 = .ok (.if_icmp .ge 72, 3) := by decide +kernel
theorem dX3_nthByRooms_54 : decode cX3_nthByRooms 54 = .ok (.iconst 0, 1) := by decide +kernel
theorem dX3_nthByRooms_55 : decode cX3_nthByRooms 55 = .ok (.istore 6, 2) := by decide +kernel
theorem dX3_nthByRooms_57 : decode cX3_nthByRooms 57 = .ok (.iconst 0, 1) := by decide +kernel
theorem dX3_nthByRooms_58 : decode cX3_nthByRooms 58 = .ok (.istore 7, 2) := by decide +kernel
theorem dX3_nthByRooms_60 : decode cX3_nthByRooms 60 = .ok (.iload 7, 2) := by decide +kernel
theorem dX3_nthByRooms_62 : decode cX3_nthByRooms 62 = .ok (.iload 4, 2) := by decide +kernel
theorem dX3_nthByRooms_64 : decode cX3_nthByRooms 64 = .ok (.if_icmp .ge 39, 3) := by decide +kernel
theorem dX3_nthByRooms_67 : decode cX3_nthByRooms 67 = .ok (.aload_n 0, 1) := by decide +kernel
theorem dX3_nthByRooms_68 : decode cX3_nthByRooms 68 = .ok (.getfield 30, 3) := by decide +kernel
theorem dX3_nthByRooms_71 : decode cX3_nthByRooms 71 = .ok (.aload_n 0, 1) := by decide +kernel
theorem dX3_nthByRooms_72 : decode cX3_nthByRooms 72 = .ok (.getfield 33, 3) := by decide +kernel
theorem dX3_nthByRooms_75 : decode cX3_nthByRooms 75 = .ok (.iload 7, 2) := by decide +kernel
theorem dX3_nthByRooms_77 : decode cX3_nthByRooms 77 = .ok (.iaload, 1) := by decide +kernel
theorem dX3_nthByRooms_78 : decode cX3_nthByRooms 78 = .ok (.iaload, 1) := by decide +kernel
theorem dX3_nthByRooms_79 : decode cX3_nthByRooms 79 = .ok (.aload_n 0, 1) := by decide +kernel
theorem dX3_nthByRooms_80 : decode cX3_nthByRooms 80 = .ok (.getfield 30, 3) := by decide +kernel
theorem dX3_nthByRooms_83 : decode cX3_nthByRooms 83 = .ok (.aload_n 0, 1) := by decide +kernel
theorem dX3_nthByRooms_84 : decode cX3_nthByRooms 84 = .ok (.getfield 33, 3) := by decide +kernel
theorem dX3_nthByRooms_87 : decode cX3_nthByRooms 87 = .ok (.iload 5, 2) := by decide +kernel
theorem dX3_nthByRooms_89 : decode cX3_nthByRooms 89 = .ok (.iaload, 1) := by decide +kernel
theorem dX3_nthByRooms_90 : decode cX3_nthByRooms 90 = .ok (.iaload, 1) := by decide +kernel
theorem dX3_nthByRooms_91 : decode cX3_nthByRooms 91 = .ok (.if_icmp .ge 6, 3) := by decide +kernel
theorem dX3_nthByRooms_94 : decode cX3_nthByRooms 94 = .ok (.iinc 6 1, 3) := by decide +kernel
theorem dX3_nthByRooms_97 : decode cX3_nthByRooms 97 = .ok (.iinc 7 1, 3) := by decide +kernel
theorem dX3_nthByRooms_100 : decode cX3_nthByRooms 100 = .ok (.goto (-40), 3) := by decide +kernel
theorem dX3_nthByRooms_103 : decode cX3_nthByRooms 103 = .ok (.iload 6, 2) := by decide +kernel
theorem dX3_nthByRooms_105 : decode cX3_nthByRooms 105 = .ok (.iload_n 3, 1) := by decide +kernel
theorem dX3_nthByRooms_106 : decode cX3_nthByRooms 106 = .ok (.if_icmp .ne 11, 3) := by decide +kernel
theorem dX3_nthByRooms_109 : decode cX3_nthByRooms 109 = .ok (.aload_n 0, 1) := by decide +kernel
theorem dX3_nthByRooms_110 : decode cX3_nthByRooms 110 = .ok (.getfield 33, 3) := by decide +kernel
theorem dX3_nthByRooms_113 : decode cX3_nthByRooms 113 = .ok (.iload 5, 2) := by decide +kernel
theorem dX3_nthByRooms_115 : decode cX3_nthByRooms 115 = .ok (.iaload, 1) := by decide +kernel
theorem dX3_nthByRooms_116 : decode cX3_nthByRooms 116 = .ok (.ireturn, 1) := by decide +kernel
theorem dX3_nthByRooms_117 : decode cX3_nthByRooms 117 = .ok (.iinc 5 1, 3) := by decide +kernel
theorem dX3_nthByRooms_120 : decode cX3_nthByRooms 120 = .ok (.goto (-73), 3) := by decide +kernel
theorem dX3_nthByRooms_123 : decode cX3_nthByRooms 123 = .ok (.iconst (-1), 1) := by decide +kernel
theorem dX3_nthByRooms_124 : decode cX3_nthByRooms 124 = .ok (.ireturn, 1) := by decide +kernel
def own_k_nth : List Cond := [.fieldLink RX3 36 "ClashFree$Layout" "buckets" "I", .fieldLink RX3 9 "ClashFree$Layout" "held" "[I", .fieldLink RX3 30 "ClashFree$Layout" "lies" "[I", .fieldLink RX3 33 "ClashFree$Layout" "order" "[I", .methodLink RX3 57 yX3_gather, .instanceMethod yX3_gather, .selects RX3 yX3_gather yX3_gather, .initialized RX3]
def wp_k_nth : List Cond := .code yX3_nthByRooms cX3_nthByRooms 8 (some .int) :: (own_k_nth ++ (wp_k_gather ++ (wsX30 ++ ([] : List Cond))))
set_option maxRecDepth 20000 in
theorem inown_k_nth : ∀ w ∈ own_k_nth, w ∈ lw_tbl := mem_places [178, 191, 203, 206, 756, 684, 685, 109] (by decide +kernel)
set_option maxRecDepth 20000 in
theorem in_k_nth : ∀ w ∈ wp_k_nth, w ∈ lw_tbl := List.forall_mem_cons.mpr ⟨List.mem_of_getElem? (i := 755) (by decide +kernel), List.forall_mem_append.mpr ⟨inown_k_nth, List.forall_mem_append.mpr ⟨in_k_gather, List.forall_mem_append.mpr ⟨lwb_X3, fun _ h => absurd h List.not_mem_nil⟩⟩⟩⟩
set_option maxRecDepth 20000 in
theorem good_k_nth : wp_k_nth.all goodWord = true := by decide +kernel
set_option maxRecDepth 20000 in
theorem g_k_nth_k_gather_57 : GoodIn wp_k_nth (wsV RX3 57 RX3 yX3_gather wp_k_gather) := goodIn_sub (List.forall_mem_append.mpr ⟨List.forall_mem_cons.mpr ⟨(List.mem_of_getElem? (i := 5) rfl), List.forall_mem_cons.mpr ⟨(List.mem_of_getElem? (i := 6) rfl), List.forall_mem_cons.mpr ⟨(List.mem_of_getElem? (i := 7) rfl), List.forall_mem_cons.mpr ⟨(List.mem_of_getElem? (i := 8) rfl), fun _ h => absurd h List.not_mem_nil⟩⟩⟩⟩, (fun _ h => (List.mem_cons_of_mem _ (List.mem_append_right _ (List.mem_append_left _ h))))⟩) (by decide +kernel)
set_option maxHeartbeats 4000000 in
set_option maxRecDepth 100000 in
theorem lk_nth1 (l : Launch) {p : Program} {e : Env} {s : State} {m : MethodId} {args : Array Value} {below : List Frame} {meth : Method} {c : Code} {Q : State → Prop} {A : Nat → Prop} (D : va_G) (ob : Nat → Nat) (cI : ClassId) (nb : Nat) (ka : Nat) (kb : Nat) (sm : Int32) (ln : Nat) (fh : Nat → Int32) (fj : Nat → Int32) (fr : Nat → Int32) (fo : Nat → Int32) (z1 : Int32) (hnb : nb ≤ 2048) (hx : p.tables.exec = Jvm.exec) (hb : c.code = cX3_nthByRooms) (hml : c.maxLocals = 8) (hown : s.vm.findClass RX3 = some m.cls) (hts : ∀ w ∈ wp_k_nth, w.before args s = true) (hA : ∀ q, s.heap.size ≤ q → A q) (hK : va_K D vwCl [(cI, .int)] s) (hN : NC s) (kx37 : ∀ (y : Nat), ∀ (su : Int32), (y ≤ nb) → ∀ (H : Heap) (locs : List Loc) (ls : Array Slot), va_P D vwCl [(ob 5, .inr (3, gY ob (nI nb) (nI ka) (nI kb) sm (nI ln))), (ob 6, .inl (cI, 2048, .inl fh)), (ob 10, .inl (cI, 160, .inl fj)), (ob 11, .inl (cI, 160, .inl fr)), (ob 12, .inl (cI, 160, .inl fo))] H → va_D A [(ob 5, .inr (3, gY ob (nI nb) (nI ka) (nI kb) sm (nI ln))), (ob 6, .inl (cI, 2048, .inl fh)), (ob 10, .inl (cI, 160, .inl fj)), (ob 11, .inl (cI, 160, .inl fr)), (ob 12, .inl (cI, 160, .inl fo))] → va_S A s.heap H locs → lv_has ls 8 [(2, .int (nI y)), (3, .int su), (0, .ref (ob 5)), (1, .int z1)] → W p l e ({ frames := 1, cells := 0, slots := 0, locals := 40 }) s m args below meth c H locs 0 0 Q (F0 m 37 ls [])) : ∀ (N : Nat), ∀ (y : Nat), ∀ (su : Int32), (y ≤ nb) → nb - y < N → ∀ (H : Heap) (locs : List Loc) (ls : Array Slot), va_P D vwCl [(ob 5, .inr (3, gY ob (nI nb) (nI ka) (nI kb) sm (nI ln))), (ob 6, .inl (cI, 2048, .inl fh)), (ob 10, .inl (cI, 160, .inl fj)), (ob 11, .inl (cI, 160, .inl fr)), (ob 12, .inl (cI, 160, .inl fo))] H → va_D A [(ob 5, .inr (3, gY ob (nI nb) (nI ka) (nI kb) sm (nI ln))), (ob 6, .inl (cI, 2048, .inl fh)), (ob 10, .inl (cI, 160, .inl fj)), (ob 11, .inl (cI, 160, .inl fr)), (ob 12, .inl (cI, 160, .inl fo))] → va_S A s.heap H locs → lv_has ls 8 [(2, .int (nI y)), (3, .int su), (0, .ref (ob 5)), (1, .int z1)] → W p l e ({ frames := 1, cells := 0, slots := 0, locals := 40 }) s m args below meth c H locs 0 0 Q (F0 m 4 ls []) := by
  have hin_X3 : ∀ w ∈ wsX30, w ∈ wp_k_nth := fun _ h => (List.mem_cons_of_mem _ (List.mem_append_right _ (List.mem_append_right _ (List.mem_append_left _ h))))
  intro N
  induction N with
  | zero =>
    intro y su hy1 hm
    exact absurd hm (Nat.not_lt_zero _)
  | succ N ih =>
    intro y su hy1 hm H locs ls hP hD hS hl
    refine lv_iload_n hx hb dX3_nthByRooms_4 rfl (lv_at hl 0 rfl) ?_
    refine lv_aload_n hx hb dX3_nthByRooms_5 rfl (lv_at hl 2 rfl) ?_
    refine va_get (D := D) (ci := 3) (v := .int (nI nb)) (C := RX3) (T := TX3) (N := 13) hx hb hts hin_X3 hown hK hP 0 rfl rfl 0 (by decide) (hts (.fieldLink RX3 36 "ClashFree$Layout" "buckets" "I") (List.mem_of_getElem? (i := 1) rfl)) (fun _ h9 => h9) rfl dX3_nthByRooms_6 ?_
    refine lv_icmp_ge (tgt := 37) hx hb dX3_nthByRooms_9 (by decide) (fun hc1 => ?_) (fun hc1 => ?_)
    ·
      have hlt : nb ≤ y := (nI_leI (by omega) (by omega)).mp hc1
      exact kx37 y su (hy1) H locs ls (hP.sub [0, 1, 2, 3, 4] rfl) (hD.sub [0, 1, 2, 3, 4] (by decide) rfl) hS (lv_sub hl [0, 1, 2, 3] rfl)
    ·
      have hlt : y < nb := by
        rcases Nat.lt_or_ge y (nb) with z | z
        · exact z
        · exact absurd (nI_le z (by omega)) hc1
      refine lv_iload_n hx hb dX3_nthByRooms_12 rfl (lv_at hl 1 rfl) ?_
      refine lv_aload_n hx hb dX3_nthByRooms_13 rfl (lv_at hl 2 rfl) ?_
      refine va_get (D := D) (ci := 3) (v := .ref (ob 6)) (C := RX3) (T := TX3) (N := 13) hx hb hts hin_X3 hown hK hP 0 rfl rfl 5 (by decide) (hts (.fieldLink RX3 9 "ClashFree$Layout" "held" "[I") (List.mem_of_getElem? (i := 2) rfl)) (fun _ h9 => h9) rfl dX3_nthByRooms_14 ?_
      refine lv_iload_n hx hb dX3_nthByRooms_17 rfl (lv_at hl 0 rfl) ?_
      refine va_iald hx hb hK hP 1 0 rfl rfl (vp_in_nI (by omega) (by decide)) dX3_nthByRooms_18 ?_
      refine lv_topi (fun v2 ev2 => ?_)
      refine lv_icmp_lt (tgt := 37) hx hb dX3_nthByRooms_19 (by decide) (fun hc3 => ?_) (fun hc3 => ?_)
      ·
        exact kx37 y su (hy1) H locs ls (hP.sub [0, 1, 2, 3, 4] rfl) (hD.sub [0, 1, 2, 3, 4] (by decide) rfl) hS (lv_sub hl [0, 1, 2, 3] rfl)
      ·
        refine lv_iload_n hx hb dX3_nthByRooms_22 rfl (lv_at hl 1 rfl) ?_
        refine lv_aload_n hx hb dX3_nthByRooms_23 rfl (lv_at hl 2 rfl) ?_
        refine va_get (D := D) (ci := 3) (v := .ref (ob 6)) (C := RX3) (T := TX3) (N := 13) hx hb hts hin_X3 hown hK hP 0 rfl rfl 5 (by decide) (hts (.fieldLink RX3 9 "ClashFree$Layout" "held" "[I") (List.mem_of_getElem? (i := 2) rfl)) (fun _ h9 => h9) rfl dX3_nthByRooms_24 ?_
        refine lv_iload_n hx hb dX3_nthByRooms_27 rfl (lv_at hl 0 rfl) ?_
        refine va_iald hx hb hK hP 1 0 rfl rfl (vp_in_nI (by omega) (by decide)) dX3_nthByRooms_28 ?_
        refine lv_topi (fun v4 ev4 => ?_)
        refine lv_isub hx hb dX3_nthByRooms_29 ?_
        refine lv_topi (fun v5 ev5 => ?_)
        refine lv_istore_n (lv' := [(3, .int v5), (2, .int (nI y)), (0, .ref (ob 5)), (1, .int z1)]) hx hb dX3_nthByRooms_30 rfl hl (by decide) rfl (fun ls hl => ?_)
        refine lv_iinc (v := nI (y + 1)) (lv' := [(2, .int (nI (y + 1))), (3, .int v5), (0, .ref (ob 5)), (1, .int z1)]) hx hb dX3_nthByRooms_31 hl (k := 1) rfl (nI_1 _) (by decide) rfl (fun ls hl => ?_)
        refine lv_goto (tgt := 4) hx hb dX3_nthByRooms_34 (by decide) ?_
        exact ih (y + 1) v5 (by omega) (by omega) H locs ls (hP.sub [0, 1, 2, 3, 4] rfl) (hD.sub [0, 1, 2, 3, 4] (by decide) rfl) hS (lv_sub hl [0, 1, 2, 3] rfl)
set_option maxHeartbeats 4000000 in
set_option maxRecDepth 100000 in
theorem lk_nth3 (l : Launch) {p : Program} {e : Env} {s : State} {m : MethodId} {args : Array Value} {below : List Frame} {meth : Method} {c : Code} {Q : State → Prop} {A : Nat → Prop} (D : va_G) (ob : Nat → Nat) (cI : ClassId) (nb : Nat) (ka : Nat) (kb : Nat) (sm : Int32) (ln : Nat) (fh : Nat → Int32) (fj : Nat → Int32) (fr : Nat → Int32) (fo : Nat → Int32) (z1 : Int32) (me : Nat) (wi : Int32) (y : Nat) (hO : OrC fo) (hme : me ≤ 160) (hyme : y < me) (hx : p.tables.exec = Jvm.exec) (hb : c.code = cX3_nthByRooms) (hml : c.maxLocals = 8) (hown : s.vm.findClass RX3 = some m.cls) (hts : ∀ w ∈ wp_k_nth, w.before args s = true) (hA : ∀ q, s.heap.size ≤ q → A q) (hK : va_K D vwCl [(cI, .int)] s) (hN : NC s) (kx103 : ∀ (x : Nat), ∀ (ah : Int32), (x ≤ me) → ∀ (H : Heap) (locs : List Loc) (ls : Array Slot), va_P D vwCl [(ob 5, .inr (3, gY ob (nI nb) (nI ka) (nI kb) sm (nI ln))), (ob 6, .inl (cI, 2048, .inl fh)), (ob 10, .inl (cI, 160, .inl fj)), (ob 11, .inl (cI, 160, .inl fr)), (ob 12, .inl (cI, 160, .inl fo))] H → va_D A [(ob 5, .inr (3, gY ob (nI nb) (nI ka) (nI kb) sm (nI ln))), (ob 6, .inl (cI, 2048, .inl fh)), (ob 10, .inl (cI, 160, .inl fj)), (ob 11, .inl (cI, 160, .inl fr)), (ob 12, .inl (cI, 160, .inl fo))] → va_S A s.heap H locs → lv_has ls 8 [(6, .int ah), (5, .int (nI y)), (4, .int (nI me)), (3, .int wi), (0, .ref (ob 5))] → W p l e ({ frames := 1, cells := 0, slots := 0, locals := 40 }) s m args below meth c H locs 0 0 Q (F0 m 103 ls [])) : ∀ (N : Nat), ∀ (x : Nat), ∀ (ah : Int32), (x ≤ me) → me - x < N → ∀ (H : Heap) (locs : List Loc) (ls : Array Slot), va_P D vwCl [(ob 5, .inr (3, gY ob (nI nb) (nI ka) (nI kb) sm (nI ln))), (ob 6, .inl (cI, 2048, .inl fh)), (ob 10, .inl (cI, 160, .inl fj)), (ob 11, .inl (cI, 160, .inl fr)), (ob 12, .inl (cI, 160, .inl fo))] H → va_D A [(ob 5, .inr (3, gY ob (nI nb) (nI ka) (nI kb) sm (nI ln))), (ob 6, .inl (cI, 2048, .inl fh)), (ob 10, .inl (cI, 160, .inl fj)), (ob 11, .inl (cI, 160, .inl fr)), (ob 12, .inl (cI, 160, .inl fo))] → va_S A s.heap H locs → lv_has ls 8 [(7, .int (nI x)), (6, .int ah), (5, .int (nI y)), (4, .int (nI me)), (3, .int wi), (0, .ref (ob 5))] → W p l e ({ frames := 1, cells := 0, slots := 0, locals := 40 }) s m args below meth c H locs 0 0 Q (F0 m 60 ls []) := by
  have hin_X3 : ∀ w ∈ wsX30, w ∈ wp_k_nth := fun _ h => (List.mem_cons_of_mem _ (List.mem_append_right _ (List.mem_append_right _ (List.mem_append_left _ h))))
  intro N
  induction N with
  | zero =>
    intro x ah hx1 hm
    exact absurd hm (Nat.not_lt_zero _)
  | succ N ih =>
    intro x ah hx1 hm H locs ls hP hD hS hl
    refine lv_iload hx hb dX3_nthByRooms_60 (lv_at hl 0 rfl) ?_
    refine lv_iload hx hb dX3_nthByRooms_62 (lv_at hl 3 rfl) ?_
    refine lv_icmp_ge (tgt := 103) hx hb dX3_nthByRooms_64 (by decide) (fun hc1 => ?_) (fun hc1 => ?_)
    ·
      have hlt : me ≤ x := (nI_leI (by omega) (by omega)).mp hc1
      exact kx103 x ah (hx1) H locs ls (hP.sub [0, 1, 2, 3, 4] rfl) (hD.sub [0, 1, 2, 3, 4] (by decide) rfl) hS (lv_sub hl [1, 2, 3, 4, 5] rfl)
    ·
      have hlt : x < me := by
        rcases Nat.lt_or_ge x (me) with z | z
        · exact z
        · exact absurd (nI_le z (by omega)) hc1
      obtain ⟨xox, eox, hox⟩ := hO x (by omega)
      obtain ⟨xoy, eoy, hoy⟩ := hO y (by omega)
      refine lv_aload_n hx hb dX3_nthByRooms_67 rfl (lv_at hl 5 rfl) ?_
      refine va_get (D := D) (ci := 3) (v := .ref (ob 11)) (C := RX3) (T := TX3) (N := 13) hx hb hts hin_X3 hown hK hP 0 rfl rfl 10 (by decide) (hts (.fieldLink RX3 30 "ClashFree$Layout" "lies" "[I") (List.mem_of_getElem? (i := 3) rfl)) (fun _ h9 => h9) rfl dX3_nthByRooms_68 ?_
      refine lv_aload_n hx hb dX3_nthByRooms_71 rfl (lv_at hl 5 rfl) ?_
      refine va_get (D := D) (ci := 3) (v := .ref (ob 12)) (C := RX3) (T := TX3) (N := 13) hx hb hts hin_X3 hown hK hP 0 rfl rfl 11 (by decide) (hts (.fieldLink RX3 33 "ClashFree$Layout" "order" "[I") (List.mem_of_getElem? (i := 4) rfl)) (fun _ h9 => h9) rfl dX3_nthByRooms_72 ?_
      refine lv_iload hx hb dX3_nthByRooms_75 (lv_at hl 0 rfl) ?_
      refine va_iald hx hb hK hP 4 0 rfl rfl (vp_in_nI (by omega) (by decide)) dX3_nthByRooms_77 ?_
      refine lv_topi (fun v2 ev2 => ?_)
      obtain rfl : v2 = nI xox := ev2.trans (by rw [nI_clamp (by omega)]; exact eox)
      refine va_iald hx hb hK hP 3 0 rfl rfl (vp_in_nI (by omega) (by decide)) dX3_nthByRooms_78 ?_
      refine lv_topi (fun v3 ev3 => ?_)
      refine lv_aload_n hx hb dX3_nthByRooms_79 rfl (lv_at hl 5 rfl) ?_
      refine va_get (D := D) (ci := 3) (v := .ref (ob 11)) (C := RX3) (T := TX3) (N := 13) hx hb hts hin_X3 hown hK hP 0 rfl rfl 10 (by decide) (hts (.fieldLink RX3 30 "ClashFree$Layout" "lies" "[I") (List.mem_of_getElem? (i := 3) rfl)) (fun _ h9 => h9) rfl dX3_nthByRooms_80 ?_
      refine lv_aload_n hx hb dX3_nthByRooms_83 rfl (lv_at hl 5 rfl) ?_
      refine va_get (D := D) (ci := 3) (v := .ref (ob 12)) (C := RX3) (T := TX3) (N := 13) hx hb hts hin_X3 hown hK hP 0 rfl rfl 11 (by decide) (hts (.fieldLink RX3 33 "ClashFree$Layout" "order" "[I") (List.mem_of_getElem? (i := 4) rfl)) (fun _ h9 => h9) rfl dX3_nthByRooms_84 ?_
      refine lv_iload hx hb dX3_nthByRooms_87 (lv_at hl 2 rfl) ?_
      refine va_iald hx hb hK hP 4 0 rfl rfl (vp_in_nI (by omega) (by decide)) dX3_nthByRooms_89 ?_
      refine lv_topi (fun v4 ev4 => ?_)
      obtain rfl : v4 = nI xoy := ev4.trans (by rw [nI_clamp (by omega)]; exact eoy)
      refine va_iald hx hb hK hP 3 0 rfl rfl (vp_in_nI (by omega) (by decide)) dX3_nthByRooms_90 ?_
      refine lv_topi (fun v5 ev5 => ?_)
      refine lv_icmp_ge (tgt := 97) hx hb dX3_nthByRooms_91 (by decide) (fun hc6 => ?_) (fun hc6 => ?_)
      ·
        refine lv_iinc (v := nI (x + 1)) (lv' := [(7, .int (nI (x + 1))), (6, .int ah), (5, .int (nI y)), (4, .int (nI me)), (3, .int wi), (0, .ref (ob 5))]) hx hb dX3_nthByRooms_97 hl (k := 0) rfl (nI_1 _) (by decide) rfl (fun ls hl => ?_)
        refine lv_goto (tgt := 60) hx hb dX3_nthByRooms_100 (by decide) ?_
        exact ih (x + 1) ah (by omega) (by omega) H locs ls (hP.sub [0, 1, 2, 3, 4] rfl) (hD.sub [0, 1, 2, 3, 4] (by decide) rfl) hS (lv_sub hl [0, 1, 2, 3, 4, 5] rfl)
      ·
        obtain ⟨v7, ev7⟩ : ∃ y : Int32, y = ah + 1 := ⟨_, rfl⟩
        refine lv_iinc (v := v7) (lv' := [(6, .int v7), (7, .int (nI x)), (5, .int (nI y)), (4, .int (nI me)), (3, .int wi), (0, .ref (ob 5))]) hx hb dX3_nthByRooms_94 hl (k := 1) rfl (by rw [ev7]; rfl) (by decide) rfl (fun ls hl => ?_)
        refine lv_iinc (v := nI (x + 1)) (lv' := [(7, .int (nI (x + 1))), (6, .int v7), (5, .int (nI y)), (4, .int (nI me)), (3, .int wi), (0, .ref (ob 5))]) hx hb dX3_nthByRooms_97 hl (k := 1) rfl (nI_1 _) (by decide) rfl (fun ls hl => ?_)
        refine lv_goto (tgt := 60) hx hb dX3_nthByRooms_100 (by decide) ?_
        exact ih (x + 1) v7 (by omega) (by omega) H locs ls (hP.sub [0, 1, 2, 3, 4] rfl) (hD.sub [0, 1, 2, 3, 4] (by decide) rfl) hS (lv_sub hl [0, 1, 2, 3, 4, 5] rfl)
set_option maxHeartbeats 4000000 in
set_option maxRecDepth 100000 in
theorem lk_nth2 (l : Launch) {p : Program} {e : Env} {s : State} {m : MethodId} {args : Array Value} {below : List Frame} {meth : Method} {c : Code} {Q : State → Prop} {A : Nat → Prop} (D : va_G) (ob : Nat → Nat) (cI : ClassId) (nb : Nat) (ka : Nat) (kb : Nat) (sm : Int32) (ln : Nat) (fh : Nat → Int32) (fj : Nat → Int32) (fr : Nat → Int32) (fo : Nat → Int32) (z1 : Int32) (me : Nat) (wi : Int32) (hO : OrC fo) (hme : me ≤ 160) (hx : p.tables.exec = Jvm.exec) (hb : c.code = cX3_nthByRooms) (hml : c.maxLocals = 8) (hown : s.vm.findClass RX3 = some m.cls) (hts : ∀ w ∈ wp_k_nth, w.before args s = true) (hA : ∀ q, s.heap.size ≤ q → A q) (hK : va_K D vwCl [(cI, .int)] s) (hN : NC s) (kx123 : ∀ (y : Nat), (y ≤ me) → ∀ (H : Heap) (locs : List Loc) (ls : Array Slot), va_P D vwCl [(ob 5, .inr (3, gY ob (nI nb) (nI ka) (nI kb) sm (nI ln))), (ob 6, .inl (cI, 2048, .inl fh)), (ob 10, .inl (cI, 160, .inl fj)), (ob 11, .inl (cI, 160, .inl fr)), (ob 12, .inl (cI, 160, .inl fo))] H → va_D A [(ob 5, .inr (3, gY ob (nI nb) (nI ka) (nI kb) sm (nI ln))), (ob 6, .inl (cI, 2048, .inl fh)), (ob 10, .inl (cI, 160, .inl fj)), (ob 11, .inl (cI, 160, .inl fr)), (ob 12, .inl (cI, 160, .inl fo))] → va_S A s.heap H locs → lv_has ls 8 [(0, .ref (ob 5))] → W p l e ({ frames := 1, cells := 0, slots := 0, locals := 40 }) s m args below meth c H locs 0 0 Q (F0 m 123 ls [])) (kx109 : ∀ (y : Nat), (y ≤ me) → (y < me) → ∀ (H : Heap) (locs : List Loc) (ls : Array Slot), va_P D vwCl [(ob 5, .inr (3, gY ob (nI nb) (nI ka) (nI kb) sm (nI ln))), (ob 6, .inl (cI, 2048, .inl fh)), (ob 10, .inl (cI, 160, .inl fj)), (ob 11, .inl (cI, 160, .inl fr)), (ob 12, .inl (cI, 160, .inl fo))] H → va_D A [(ob 5, .inr (3, gY ob (nI nb) (nI ka) (nI kb) sm (nI ln))), (ob 6, .inl (cI, 2048, .inl fh)), (ob 10, .inl (cI, 160, .inl fj)), (ob 11, .inl (cI, 160, .inl fr)), (ob 12, .inl (cI, 160, .inl fo))] → va_S A s.heap H locs → lv_has ls 8 [(5, .int (nI y)), (0, .ref (ob 5))] → W p l e ({ frames := 1, cells := 0, slots := 0, locals := 40 }) s m args below meth c H locs 0 0 Q (F0 m 109 ls [])) : ∀ (N : Nat), ∀ (y : Nat), (y ≤ me) → me - y < N → ∀ (H : Heap) (locs : List Loc) (ls : Array Slot), va_P D vwCl [(ob 5, .inr (3, gY ob (nI nb) (nI ka) (nI kb) sm (nI ln))), (ob 6, .inl (cI, 2048, .inl fh)), (ob 10, .inl (cI, 160, .inl fj)), (ob 11, .inl (cI, 160, .inl fr)), (ob 12, .inl (cI, 160, .inl fo))] H → va_D A [(ob 5, .inr (3, gY ob (nI nb) (nI ka) (nI kb) sm (nI ln))), (ob 6, .inl (cI, 2048, .inl fh)), (ob 10, .inl (cI, 160, .inl fj)), (ob 11, .inl (cI, 160, .inl fr)), (ob 12, .inl (cI, 160, .inl fo))] → va_S A s.heap H locs → lv_has ls 8 [(5, .int (nI y)), (4, .int (nI me)), (3, .int wi), (0, .ref (ob 5))] → W p l e ({ frames := 1, cells := 0, slots := 0, locals := 40 }) s m args below meth c H locs 0 0 Q (F0 m 47 ls []) := by
  have hin_X3 : ∀ w ∈ wsX30, w ∈ wp_k_nth := fun _ h => (List.mem_cons_of_mem _ (List.mem_append_right _ (List.mem_append_right _ (List.mem_append_left _ h))))
  intro N
  induction N with
  | zero =>
    intro y hy1 hm
    exact absurd hm (Nat.not_lt_zero _)
  | succ N ih =>
    intro y hy1 hm H locs ls hP hD hS hl
    refine lv_iload hx hb dX3_nthByRooms_47 (lv_at hl 0 rfl) ?_
    refine lv_iload hx hb dX3_nthByRooms_49 (lv_at hl 1 rfl) ?_
    refine lv_icmp_ge (tgt := 123) hx hb dX3_nthByRooms_51 (by decide) (fun hc1 => ?_) (fun hc1 => ?_)
    ·
      have hlt : me ≤ y := (nI_leI (by omega) (by omega)).mp hc1
      exact kx123 y (hy1) H locs ls (hP.sub [0, 1, 2, 3, 4] rfl) (hD.sub [0, 1, 2, 3, 4] (by decide) rfl) hS (lv_sub hl [3] rfl)
    ·
      have hlt : y < me := by
        rcases Nat.lt_or_ge y (me) with z | z
        · exact z
        · exact absurd (nI_le z (by omega)) hc1
      refine lv_iconst (v := 0) hx hb dX3_nthByRooms_54 (by decide) ?_
      refine lv_istore (lv' := [(6, .int 0), (5, .int (nI y)), (4, .int (nI me)), (3, .int wi), (0, .ref (ob 5))]) hx hb dX3_nthByRooms_55 hl (by decide) rfl (fun ls hl => ?_)
      refine lv_iconst (v := 0) hx hb dX3_nthByRooms_57 (by decide) ?_
      refine lv_istore (lv' := [(7, .int 0), (6, .int 0), (5, .int (nI y)), (4, .int (nI me)), (3, .int wi), (0, .ref (ob 5))]) hx hb dX3_nthByRooms_58 hl (by decide) rfl (fun ls hl => ?_)
      refine lk_nth3 l D ob cI nb ka kb sm ln fh fj fr fo z1 me wi y (hO) (hme) (hlt) hx hb hml hown hts hA (hK.sub [0] rfl) hN ?_ (me + 1) 0 0 (Nat.zero_le _) (by omega) _ _ _ (hP.sub [0, 1, 2, 3, 4] rfl) (hD.sub [0, 1, 2, 3, 4] (by decide) rfl) hS (lv_sub hl [0, 1, 2, 3, 4, 5] rfl)
      intro x_2 ah_3 hx1_4 H locs ls hP hD hS hl
      refine lv_iload hx hb dX3_nthByRooms_103 (lv_at hl 0 rfl) ?_
      refine lv_iload_n hx hb dX3_nthByRooms_105 rfl (lv_at hl 3 rfl) ?_
      refine lv_icmp_ne (tgt := 117) hx hb dX3_nthByRooms_106 (by decide) (fun hc5 => ?_) (fun hc5 => ?_)
      ·
        refine lv_iinc (v := nI (y + 1)) (lv' := [(5, .int (nI (y + 1))), (6, .int ah_3), (4, .int (nI me)), (3, .int wi), (0, .ref (ob 5))]) hx hb dX3_nthByRooms_117 hl (k := 1) rfl (nI_1 _) (by decide) rfl (fun ls hl => ?_)
        refine lv_goto (tgt := 47) hx hb dX3_nthByRooms_120 (by decide) ?_
        exact ih (y + 1) (by omega) (by omega) H locs ls (hP.sub [0, 1, 2, 3, 4] rfl) (hD.sub [0, 1, 2, 3, 4] (by decide) rfl) hS (lv_sub hl [0, 2, 3, 4] rfl)
      ·
        exact kx109 y (hy1) (by omega) H locs ls (hP.sub [0, 1, 2, 3, 4] rfl) (hD.sub [0, 1, 2, 3, 4] (by decide) rfl) hS (lv_sub hl [1, 4] rfl)
set_option maxHeartbeats 4000000 in
set_option maxRecDepth 100000 in
theorem k_nth (l : Launch) (D : va_G) (sz : Nat) (ob : Nat → Nat) (cI : ClassId) (nb : Nat) (ka : Nat) (kb : Nat) (sm : Int32) (ln : Nat) (fh : Nat → Int32) (fj : Nat → Int32) (fr : Nat → Int32) (fo : Nat → Int32) (z1 : Int32) (hnb : nb ≤ 2048) (hln : ln ≤ 160) (hO : OrC fo) : Met l yX3_nthByRooms wp_k_nth ({ frames := 1, cells := 0, slots := 0, locals := 40 }) (PcWC D [.ref (ob 5), .int z1] sz [(ob 5, .inr (3, gY ob (nI nb) (nI ka) (nI kb) sm (nI ln))), (ob 6, .inl (cI, 2048, .inl fh)), (ob 10, .inl (cI, 160, .inl fj)), (ob 11, .inl (cI, 160, .inl fr)), (ob 12, .inl (cI, 160, .inl fo))] [(cI, .int)]) (va_Qi (fun (r : Int32) (u : (Nat → Int32)) => OrC u) (fun (u : (Nat → Int32)) t => va_P D vwCl [(ob 5, .inr (3, gY ob (nI nb) (nI ka) (nI kb) sm (nI ln))), (ob 6, .inl (cI, 2048, .inl fh)), (ob 10, .inl (cI, 160, .inl fj)), (ob 11, .inl (cI, 160, .inl fr)), (ob 12, .inl (cI, 160, .inl u))] t.heap ∧ va_K D vwCl [(cI, .int)] t ∧ va_D (va_A [(ob 5, .inr (3, gY ob (nI nb) (nI ka) (nI kb) sm (nI ln))), (ob 6, .inl (cI, 2048, .inl fh)), (ob 10, .inl (cI, 160, .inl fj)), (ob 11, .inl (cI, 160, .inl fr)), (ob 12, .inl (cI, 160, .inl fo))] sz) [(ob 5, .inr (3, gY ob (nI nb) (nI ka) (nI kb) sm (nI ln))), (ob 6, .inl (cI, 2048, .inl fh)), (ob 10, .inl (cI, 160, .inl fj)), (ob 11, .inl (cI, 160, .inl fr)), (ob 12, .inl (cI, 160, .inl u))]) (va_A [(ob 5, .inr (3, gY ob (nI nb) (nI ka) (nI kb) sm (nI ln))), (ob 6, .inl (cI, 2048, .inl fh)), (ob 10, .inl (cI, 160, .inl fj)), (ob 11, .inl (cI, 160, .inl fr)), (ob 12, .inl (cI, 160, .inl fo))] sz)) 0 0 (va_A [(ob 5, .inr (3, gY ob (nI nb) (nI ka) (nI kb) sm (nI ln))), (ob 6, .inl (cI, 2048, .inl fh)), (ob 10, .inl (cI, 160, .inl fj)), (ob 11, .inl (cI, 160, .inl fr)), (ob 12, .inl (cI, 160, .inl fo))] sz) := by
  refine Met.ofW (cc := cX3_nthByRooms) (maxL := 8) (ret := (some .int)) (by decide) rfl ?_
  intro p e s m args below meth c s₁ B hml hv
  obtain ⟨rfl, hsz, hP, hK, hD0, hN⟩ := hv
  have hx := B.exec
  have hb := B.bytes
  have hr := B.returns
  have hts := atoms_spec (ws := wp_k_nth) B.pre
  have hin_X3 : ∀ w ∈ wsX30, w ∈ wp_k_nth := fun _ h => (List.mem_cons_of_mem _ (List.mem_append_right _ (List.mem_append_right _ (List.mem_append_left _ h))))
  have hown : s.vm.findClass RX3 = some m.cls := findClass_of_methodNamed B.named
  have hlocks := B.notSynchronized
  subst hsz
  have hD := hD0.self (sz := s.heap.size)
  generalize hAe : va_A [(ob 5, .inr (3, gY ob (nI nb) (nI ka) (nI kb) sm (nI ln))), (ob 6, .inl (cI, 2048, .inl fh)), (ob 10, .inl (cI, 160, .inl fj)), (ob 11, .inl (cI, 160, .inl fr)), (ob 12, .inl (cI, 160, .inl fo))] s.heap.size = A at hD ⊢
  have hA : ∀ q : Nat, s.heap.size ≤ q → A q := fun q h => by rw [← hAe]; exact Or.inr h
  have hS : va_S A s.heap s.heap [] := va_S.rf
  have hP : va_P D vwCl [(ob 5, .inr (3, gY ob (nI nb) (nI ka) (nI kb) sm (nI ln))), (ob 6, .inl (cI, 2048, .inl fh)), (ob 10, .inl (cI, 160, .inl fj)), (ob 11, .inl (cI, 160, .inl fr)), (ob 12, .inl (cI, 160, .inl fo))] s.heap := hP
  have hl := lv_entry ([.ref (ob 5), .int z1]) (n := 8) (Nat.le_of_ble_eq_true rfl)
  rw [lg_entry_eq]
  generalize (lg_sl ([.ref (ob 5), .int z1]) ++ List.replicate (8 - (lg_sl ([.ref (ob 5), .int z1])).length) Slot.unset).toArray = ls at hl ⊢
  have hl : lv_has ls 8 [(0, .ref (ob 5)), (1, .int z1)] := hl
  refine lv_iconst (v := 0) hx hb dX3_nthByRooms_0 (by decide) ?_
  refine lv_istore_n (lv' := [(2, .int 0), (0, .ref (ob 5)), (1, .int z1)]) hx hb dX3_nthByRooms_1 rfl hl (by decide) rfl (fun ls hl => ?_)
  refine lv_iload_n hx hb dX3_nthByRooms_2 rfl (lv_at hl 2 rfl) ?_
  refine lv_istore_n (lv' := [(3, .int z1), (2, .int 0), (0, .ref (ob 5)), (1, .int z1)]) hx hb dX3_nthByRooms_3 rfl hl (by decide) rfl (fun ls hl => ?_)
  refine lk_nth1 l D ob cI nb ka kb sm ln fh fj fr fo z1 (hnb) hx hb hml hown hts hA (hK.sub [0] rfl) hN ?_ (nb + 1) 0 z1 (Nat.zero_le _) (by omega) _ _ _ (hP.sub [0, 1, 2, 3, 4] rfl) (hD.sub [0, 1, 2, 3, 4] (by decide) rfl) hS (lv_sub hl [1, 0, 2, 3] rfl)
  intro y_1 su_2 hy1_3 H locs ls hP hD hS hl
  refine lv_aload_n hx hb dX3_nthByRooms_37 rfl (lv_at hl 2 rfl) ?_
  refine lv_iload_n hx hb dX3_nthByRooms_38 rfl (lv_at hl 0 rfl) ?_
  have hPc := hP.sub (ws' := [(ob 5, .inr (3, gY ob (nI nb) (nI ka) (nI kb) sm (nI ln))), (ob 10, .inl (cI, 160, .inl fj)), (ob 12, .inl (cI, 160, .inl fo))]) [0, 2, 4] rfl
  have hKc := hK.sub (tys' := [(cI, .int)]) [0] rfl
  have hDc := hD.sub (ws' := [(ob 5, .inr (3, gY ob (nI nb) (nI ka) (nI kb) sm (nI ln))), (ob 10, .inl (cI, 160, .inl fj)), (ob 12, .inl (cI, 160, .inl fo))]) [0, 2, 4] (by decide) rfl
  have hFc := va_free (wc := [(ob 5, .inr (3, gY ob (nI nb) (nI ka) (nI kb) sm (nI ln))), (ob 10, .inl (cI, 160, .inl fj)), (ob 12, .inl (cI, 160, .inl fo))]) hD hS hA [0, 2, 4] rfl
  refine va_calli (va_runV (As := [.int (nI y_1)]) (rest := []) ⟨hx, hb, hml, hown, hts⟩ (k_gather l D _ ob cI nb ka kb sm ln fj fo (nI y_1) (by first | assumption | omega) hO) (cwV 1 hts g_k_nth_k_gather_57 rfl rfl rfl (by decide +kernel) ⟨(Nat.le_of_ble_eq_true rfl), (Nat.le_of_ble_eq_true rfl)⟩) (PcWC_V (q0 := 0) hPc hKc hDc hN rfl rfl) rfl rfl hl.1 rfl (lv_room (Nat.le_of_ble_eq_true rfl)) dX3_nthByRooms_39 ⟨(Nat.le_of_ble_eq_true rfl), (Nat.le_of_ble_eq_true rfl)⟩) hS (fun q _ h => hFc q h) hFc (fun r4 uu tt H locs htt hvm hw hB hz1 hk1 hS => ?_)
  obtain ⟨w5, rfl⟩ : ∃ z, z = uu := ⟨_, rfl⟩
  obtain ⟨hP1, hK1, hD1⟩ := hB
  rw [htt] at hP1
  have hK1 := va_K.moved hvm.symm hK1
  have hP1 : va_P D vwCl [(ob 5, .inr (3, gY ob (nI nb) (nI ka) (nI kb) sm (nI ln))), (ob 10, .inl (cI, 160, .inl fj)), (ob 12, .inl (cI, 160, .inl w5))] H := hP1
  obtain ⟨hP, hD⟩ := va_join (wr := [(ob 6, .inl (cI, 2048, .inl fh)), (ob 11, .inl (cI, 160, .inl fr))]) (w1 := [(ob 5, .inr (3, gY ob (nI nb) (nI ka) (nI kb) sm (nI ln))), (ob 10, .inl (cI, 160, .inl fj)), (ob 12, .inl (cI, 160, .inl w5))]) hP hD [0, 2, 4] [1, 3] rfl rfl (by decide) (by decide) hk1 hFc hP1 hD1
  have hP : va_P D vwCl [(ob 6, .inl (cI, 2048, .inl fh)), (ob 11, .inl (cI, 160, .inl fr)), (ob 5, .inr (3, gY ob (nI nb) (nI ka) (nI kb) sm (nI ln))), (ob 10, .inl (cI, 160, .inl fj)), (ob 12, .inl (cI, 160, .inl w5))] H := hP
  have hD : va_D A [(ob 6, .inl (cI, 2048, .inl fh)), (ob 11, .inl (cI, 160, .inl fr)), (ob 5, .inr (3, gY ob (nI nb) (nI ka) (nI kb) sm (nI ln))), (ob 10, .inl (cI, 160, .inl fj)), (ob 12, .inl (cI, 160, .inl w5))] := hD
  try dsimp only at hw
  clear hz1 hk1 hFc hPc hKc hDc
  obtain ⟨hO_ga6, ga6, hga6, rfl⟩ := hw
  refine lv_istore (lv' := [(4, .int (nI ga6)), (2, .int (nI y_1)), (3, .int su_2), (0, .ref (ob 5)), (1, .int z1)]) hx hb dX3_nthByRooms_42 hl (by decide) rfl (fun ls hl => ?_)
  refine lv_iconst (v := 0) hx hb dX3_nthByRooms_44 (by decide) ?_
  refine lv_istore (lv' := [(5, .int 0), (4, .int (nI ga6)), (2, .int (nI y_1)), (3, .int su_2), (0, .ref (ob 5)), (1, .int z1)]) hx hb dX3_nthByRooms_45 hl (by decide) rfl (fun ls hl => ?_)
  refine lk_nth2 l D ob cI nb ka kb sm ln fh fj fr w5 z1 ga6 su_2 (hO_ga6) (by omega) hx hb hml hown hts hA (hK.sub [0] rfl) hN ?_ ?_ (ga6 + 1) 0 (Nat.zero_le _) (by omega) _ _ _ (hP.sub [2, 0, 3, 1, 4] rfl) (hD.sub [2, 0, 3, 1, 4] (by decide) rfl) hS (lv_sub hl [0, 1, 3, 4] rfl)
  ·
    intro y_7 hy1_8 H locs ls hP hD hS hl
    refine lv_iconst (v := (-1)) hx hb dX3_nthByRooms_123 (by decide) ?_
    exact W.iret (v := (-1)) hx hb hr (fun t ht hW => ⟨⟨(-1), w5, rfl, hO_ga6, by rw [ht]; exact hP.sub [0, 1, 2, 3, 4] rfl, va_K.moved hW.alike (hK.sub [0] rfl), hD.sub [0, 1, 2, 3, 4] (by decide) rfl⟩, hS.F ht⟩) hS.2.2 dX3_nthByRooms_124
  ·
    intro y_9 hy1_10 hx11 H locs ls hP hD hS hl
    refine lv_aload_n hx hb dX3_nthByRooms_109 rfl (lv_at hl 1 rfl) ?_
    refine va_get (D := D) (ci := 3) (v := .ref (ob 12)) (C := RX3) (T := TX3) (N := 13) hx hb hts hin_X3 hown hK hP 0 rfl rfl 11 (by decide) (hts (.fieldLink RX3 33 "ClashFree$Layout" "order" "[I") (List.mem_of_getElem? (i := 4) rfl)) (fun _ h9 => h9) rfl dX3_nthByRooms_110 ?_
    refine lv_iload hx hb dX3_nthByRooms_113 (lv_at hl 0 rfl) ?_
    refine va_iald hx hb hK hP 4 0 rfl rfl (vp_in_nI (by omega) (by decide)) dX3_nthByRooms_115 ?_
    refine lv_topi (fun v12 ev12 => ?_)
    exact W.iret (v := v12) hx hb hr (fun t ht hW => ⟨⟨v12, w5, rfl, hO_ga6, by rw [ht]; exact hP.sub [0, 1, 2, 3, 4] rfl, va_K.moved hW.alike (hK.sub [0] rfl), hD.sub [0, 1, 2, 3, 4] (by decide) rfl⟩, hS.F ht⟩) hS.2.2 dX3_nthByRooms_116

