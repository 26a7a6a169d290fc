theorem dX11_isIn_0 : decode cX11_isIn 0 = .ok (.lload_n 0, 1) := by decide +kernel
theorem dX11_isIn_1 : decode cX11_isIn 1 = .ok (.lload_n 2, 1) := by decide +kernel
theorem dX11_isIn_2 : decode cX11_isIn 2 = .ok (.lcmp, 1) := by decide +kernel
theorem dX11_isIn_3 : decode cX11_isIn 3 = .ok (.ifCond .lt 14, 3) := by decide +kernel
theorem dX11_isIn_6 : decode cX11_isIn 6 = .ok (.lload_n 0, 1) := by decide +kernel
theorem dX11_isIn_7 : decode cX11_isIn 7 = .ok (.lload 4, 2) := by decide +kernel
theorem dX11_isIn_9 : decode cX11_isIn 9 = .ok (.lcmp, 1) := by decide +kernel
theorem dX11_isIn_10 : decode cX11_isIn 10 = .ok (.ifCond .gt 7, 3) := by decide +kernel
theorem dX11_isIn_13 : decode cX11_isIn 13 = .ok (.iconst 1, 1) := by decide +kernel
theorem dX11_isIn_14 : decode cX11_isIn 14 = .ok (.goto 4, 3) := by decide +kernel
theorem dX11_isIn_17 : decode cX11_isIn 17 = .ok (.iconst 0, 1) := by decide +kernel
theorem dX11_isIn_18 : decode cX11_isIn 18 = .ok (.ireturn, 1) := by decide +kernel
theorem dX11_flag_0 : decode cX11_flag 0 = .ok (.iload_n 0, 1) := by decide +kernel
theorem dX11_flag_1 : decode cX11_flag 1 = .ok (.ifCond .eq 7, 3) := by decide +kernel
theorem dX11_flag_4 : decode cX11_flag 4 = .ok (.iconst 1, 1) := by decide +kernel
theorem dX11_flag_5 : decode cX11_flag 5 = .ok (.goto 4, 3) := by decide +kernel
theorem dX11_flag_8 : decode cX11_flag 8 = .ok (.iconst 0, 1) := by decide +kernel
theorem dX11_flag_9 : decode cX11_flag 9 = .ok (.ireturn, 1) := by decide +kernel
theorem dX11_of_0 : decode cX11_of 0 = .ok (.aload_n 0, 1) := by decide +kernel
theorem dX11_of_1 : decode cX11_of 1 = .ok (.getfield 13, 3) := by decide +kernel
theorem dX11_of_4 : decode cX11_of 4 = .ok (.bipush 17, 2) := by decide +kernel
theorem dX11_of_6 : decode cX11_of 6 = .ok (.iload_n 1, 1) := by decide +kernel
theorem dX11_of_7 : decode cX11_of 7 = .ok (.imul, 1) := by decide +kernel
theorem dX11_of_8 : decode cX11_of 8 = .ok (.iload_n 2, 1) := by decide +kernel
theorem dX11_of_9 : decode cX11_of 9 = .ok (.iadd, 1) := by decide +kernel
theorem dX11_of_10 : decode cX11_of 10 = .ok (.laload, 1) := by decide +kernel
theorem dX11_of_11 : decode cX11_of 11 = .ok (.lreturn, 1) := by decide +kernel
theorem dX11_lays_0 : decode cX11_lays 0 = .ok (.aload_n 0, 1) := by decide +kernel
theorem dX11_lays_1 : decode cX11_lays 1 = .ok (.getfield 13, 3) := by decide +kernel
theorem dX11_lays_4 : decode cX11_lays 4 = .ok (.bipush 17, 2) := by decide +kernel
theorem dX11_lays_6 : decode cX11_lays 6 = .ok (.iload_n 1, 1) := by decide +kernel
theorem dX11_lays_7 : decode cX11_lays 7 = .ok (.imul, 1) := by decide +kernel
theorem dX11_lays_8 : decode cX11_lays 8 = .ok (.iload_n 2, 1) := by decide +kernel
theorem dX11_lays_9 : decode cX11_lays 9 = .ok (.iadd, 1) := by decide +kernel
theorem dX11_lays_10 : decode cX11_lays 10 = .ok (.lload_n 3, 1) := by decide +kernel
theorem dX11_lays_11 : decode cX11_lays 11 = .ok (.lastore, 1) := by decide +kernel
theorem dX11_lays_12 : decode cX11_lays 12 = .ok (.return_, 1) := by decide +kernel
theorem dX11_adds_0 : decode cX11_adds 0 = .ok (.aload_n 0, 1) := by decide +kernel
theorem dX11_adds_1 : decode cX11_adds 1 = .ok (.getfield 13, 3) := by decide +kernel
theorem dX11_adds_4 : decode cX11_adds 4 = .ok (.bipush 17, 2) := by decide +kernel
theorem dX11_adds_6 : decode cX11_adds 6 = .ok (.iload_n 1, 1) := by decide +kernel
theorem dX11_adds_7 : decode cX11_adds 7 = .ok (.imul, 1) := by decide +kernel
theorem dX11_adds_8 : decode cX11_adds 8 = .ok (.iload_n 2, 1) := by decide +kernel
theorem dX11_adds_9 : decode cX11_adds 9 = .ok (.iadd, 1) := by decide +kernel
theorem dX11_adds_10 : decode cX11_adds 10 = .ok (.dup2, 1) := by decide +kernel
theorem dX11_adds_11 : decode cX11_adds 11 = .ok (.laload, 1) := by decide +kernel
theorem dX11_adds_12 : decode cX11_adds 12 = .ok (.lload_n 3, 1) := by decide +kernel
theorem dX11_adds_13 : decode cX11_adds 13 = .ok (.ladd, 1) := by decide +kernel
theorem dX11_adds_14 : decode cX11_adds 14 = .ok (.lastore, 1) := by decide +kernel
theorem dX11_adds_15 : decode cX11_adds 15 = .ok (.return_, 1) := by decide +kernel
theorem dX11_isThere_0 : decode cX11_isThere 0 = .ok (.iload_n 1, 1) := by decide +kernel
theorem dX11_isThere_1 : decode cX11_isThere 1 = .ok (.i2l, 1) := by decide +kernel
theorem dX11_isThere_2 : decode cX11_isThere 2 = .ok (.lconst 0, 1) := by decide +kernel
theorem dX11_isThere_3 : decode cX11_isThere 3 = .ok (.ldc2_w 87, 3) := by decide +kernel
theorem dX11_isThere_6 : decode cX11_isThere 6 = .ok (.invokestatic 83, 3) := by decide +kernel
theorem dX11_isThere_9 : decode cX11_isThere 9 = .ok (.ifCond .eq 18, 3) := by decide +kernel
theorem dX11_isThere_12 : decode cX11_isThere 12 = .ok (.aload_n 0, 1) := by decide +kernel
theorem dX11_isThere_13 : decode cX11_isThere 13 = .ok (.iload_n 1, 1) := by decide +kernel
theorem dX11_isThere_14 : decode cX11_isThere 14 = .ok (.iconst 0, 1) := by decide +kernel
theorem dX11_isThere_15 : decode cX11_isThere 15 = .ok (.invokevirtual 89, 3) := by decide +kernel
theorem dX11_isThere_18 : decode cX11_isThere 18 = .ok (.lconst 1, 1) := by decide +kernel
theorem dX11_isThere_19 : decode cX11_isThere 19 = .ok (.lcmp, 1) := by decide +kernel
theorem dX11_isThere_20 : decode cX11_isThere 20 = .ok (.ifCond .ne 7, 3) := by decide +kernel
theorem dX11_isThere_23 : decode cX11_isThere 23 = .ok (.iconst 1, 1) := by decide +kernel
theorem dX11_isThere_24 : decode cX11_isThere 24 = .ok (.goto 4, 3) := by decide +kernel
theorem dX11_isThere_27 : decode cX11_isThere 27 = .ok (.iconst 0, 1) := by decide +kernel
theorem dX11_isThere_28 : decode cX11_isThere 28 = .ok (.ireturn, 1) := by decide +kernel
theorem dX11_isKey_0 : decode cX11_isKey 0 = .ok (.iload_n 0, 1) := by decide +kernel
theorem dX11_isKey_1 : decode cX11_isKey 1 = .ok (.i2l, 1) := by decide +kernel
theorem dX11_isKey_2 : decode cX11_isKey 2 = .ok (.lconst 0, 1) := by decide +kernel
theorem dX11_isKey_3 : decode cX11_isKey 3 = .ok (.ldc2_w 93, 3) := by decide +kernel
theorem dX11_isKey_6 : decode cX11_isKey 6 = .ok (.invokestatic 83, 3) := by decide +kernel
theorem dX11_isKey_9 : decode cX11_isKey 9 = .ok (.ireturn, 1) := by decide +kernel
theorem dX11_manyOf_0 : decode cX11_manyOf 0 = .ok (.aload_n 0, 1) := by decide +kernel
theorem dX11_manyOf_1 : decode cX11_manyOf 1 = .ok (.iload_n 1, 1) := by decide +kernel
theorem dX11_manyOf_2 : decode cX11_manyOf 2 = .ok (.iconst 1, 1) := by decide +kernel
theorem dX11_manyOf_3 : decode cX11_manyOf 3 = .ok (.invokevirtual 89, 3) := by decide +kernel
theorem dX11_manyOf_6 : decode cX11_manyOf 6 = .ok (.l2i, 1) := by decide +kernel
theorem dX11_manyOf_7 : decode cX11_manyOf 7 = .ok (.ireturn, 1) := by decide +kernel
theorem dX11_buckets_0 : decode cX11_buckets 0 = .ok (.aload_n 0, 1) := by decide +kernel
theorem dX11_buckets_1 : decode cX11_buckets 1 = .ok (.iload_n 1, 1) := by decide +kernel
theorem dX11_buckets_2 : decode cX11_buckets 2 = .ok (.iconst 4, 1) := by decide +kernel
theorem dX11_buckets_3 : decode cX11_buckets 3 = .ok (.invokevirtual 89, 3) := by decide +kernel
theorem dX11_buckets_6 : decode cX11_buckets 6 = .ok (.l2i, 1) := by decide +kernel
theorem dX11_buckets_7 : decode cX11_buckets 7 = .ok (.ireturn, 1) := by decide +kernel
theorem dX11_placeOf_0 : decode cX11_placeOf 0 = .ok (.lload_n 0, 1) := by decide +kernel
theorem dX11_placeOf_1 : decode cX11_placeOf 1 = .ok (.lload 4, 2) := by decide +kernel
theorem dX11_placeOf_3 : decode cX11_placeOf 3 = .ok (.lmul, 1) := by decide +kernel
theorem dX11_placeOf_4 : decode cX11_placeOf 4 = .ok (.lload_n 2, 1) := by decide +kernel
theorem dX11_placeOf_5 : decode cX11_placeOf 5 = .ok (.ladd, 1) := by decide +kernel
theorem dX11_placeOf_6 : decode cX11_placeOf 6 = .ok (.ldc2_w 103, 3) := by decide +kernel
theorem dX11_placeOf_9 : decode cX11_placeOf 9 = .ok (.lrem, 1) := by decide +kernel
theorem dX11_placeOf_10 : decode cX11_placeOf 10 = .ok (.lload 6, 2) := by decide +kernel
theorem dX11_placeOf_12 : decode cX11_placeOf 12 = .ok (.lrem, 1) := by decide +kernel
theorem dX11_placeOf_13 : decode cX11_placeOf 13 = .ok (.l2i, 1) := by decide +kernel
theorem dX11_placeOf_14 : decode cX11_placeOf 14 = .ok (.ireturn, 1) := by decide +kernel
theorem dX11_draw_0 : decode cX11_draw 0 = .ok (.aload_n 0, 1) := by decide +kernel
theorem dX11_draw_1 : decode cX11_draw 1 = .ok (.aload_n 0, 1) := by decide +kernel
theorem dX11_draw_2 : decode cX11_draw 2 = .ok (.getfield 105, 3) := by decide +kernel
theorem dX11_draw_5 : decode cX11_draw 5 = .ok (.ldc2_w 109, 3) := by decide +kernel
theorem dX11_draw_8 : decode cX11_draw 8 = .ok (.lmul, 1) := by decide +kernel
theorem dX11_draw_9 : decode cX11_draw 9 = .ok (.ldc2_w 111, 3) := by decide +kernel
theorem dX11_draw_12 : decode cX11_draw 12 = .ok (.ladd, 1) := by decide +kernel
theorem dX11_draw_13 : decode cX11_draw 13 = .ok (.putfield 105, 3) := by decide +kernel
theorem dX11_draw_16 : decode cX11_draw 16 = .ok (.aload_n 0, 1) := by decide +kernel
theorem dX11_draw_17 : decode cX11_draw 17 = .ok (.getfield 105, 3) := by decide +kernel
theorem dX11_draw_20 : decode cX11_draw 20 = .ok (.bipush 33, 2) := by decide +kernel
theorem dX11_draw_22 : decode cX11_draw 22 = .ok (.lushr, 1) := by decide +kernel
theorem dX11_draw_23 : decode cX11_draw 23 = .ok (.lload_n 1, 1) := by decide +kernel
theorem dX11_draw_24 : decode cX11_draw 24 = .ok (.lrem, 1) := by decide +kernel
theorem dX11_draw_25 : decode cX11_draw 25 = .ok (.lreturn, 1) := by decide +kernel
theorem dX11_drawsPair_0 : decode cX11_drawsPair 0 = .ok (.aload_n 0, 1) := by decide +kernel
theorem dX11_drawsPair_1 : decode cX11_drawsPair 1 = .ok (.lconst 1, 1) := by decide +kernel
theorem dX11_drawsPair_2 : decode cX11_drawsPair 2 = .ok (.aload_n 0, 1) := by decide +kernel
theorem dX11_drawsPair_3 : decode cX11_drawsPair 3 = .ok (.ldc2_w 93, 3) := by decide +kernel
theorem dX11_drawsPair_6 : decode cX11_drawsPair 6 = .ok (.invokevirtual 113, 3) := by decide +kernel
theorem dX11_drawsPair_9 : decode cX11_drawsPair 9 = .ok (.ladd, 1) := by decide +kernel
theorem dX11_drawsPair_10 : decode cX11_drawsPair 10 = .ok (.putfield 117, 3) := by decide +kernel
theorem dX11_drawsPair_13 : decode cX11_drawsPair 13 = .ok (.aload_n 0, 1) := by decide +kernel
theorem dX11_drawsPair_14 : decode cX11_drawsPair 14 = .ok (.aload_n 0, 1) := by decide +kernel
theorem dX11_drawsPair_15 : decode cX11_drawsPair 15 = .ok (.ldc2_w 103, 3) := by decide +kernel
theorem dX11_drawsPair_18 : decode cX11_drawsPair 18 = .ok (.invokevirtual 113, 3) := by decide +kernel
theorem dX11_drawsPair_21 : decode cX11_drawsPair 21 = .ok (.putfield 120, 3) := by decide +kernel
theorem dX11_drawsPair_24 : decode cX11_drawsPair 24 = .ok (.aload_n 0, 1) := by decide +kernel
theorem dX11_drawsPair_25 : decode cX11_drawsPair 25 = .ok (.dup, 1) := by decide +kernel
theorem dX11_drawsPair_26 : decode cX11_drawsPair 26 = .ok (.getfield 123, 3) := by decide +kernel
theorem dX11_drawsPair_29 : decode cX11_drawsPair 29 = .ok (.iconst 1, 1) := by decide +kernel
theorem dX11_drawsPair_30 : decode cX11_drawsPair 30 = .ok (.iadd, 1) := by decide +kernel
theorem dX11_drawsPair_31 : decode cX11_drawsPair 31 = .ok (.putfield 123, 3) := by decide +kernel
theorem dX11_drawsPair_34 : decode cX11_drawsPair 34 = .ok (.return_, 1) := by decide +kernel
def own_c_isIn : List Cond := []
def wp_c_isIn : List Cond := .code yX11_isIn cX11_isIn 6 (some .boolean) :: (own_c_isIn ++ ([] : List Cond))
set_option maxRecDepth 20000 in
theorem inown_c_isIn : ∀ w ∈ own_c_isIn, w ∈ lw_tbl := mem_places [] (by decide +kernel)
set_option maxRecDepth 20000 in
theorem in_c_isIn : ∀ w ∈ wp_c_isIn, w ∈ lw_tbl := List.forall_mem_cons.mpr ⟨List.mem_of_getElem? (i := 1373) (by decide +kernel), List.forall_mem_append.mpr ⟨inown_c_isIn, fun _ h => absurd h List.not_mem_nil⟩⟩
set_option maxRecDepth 20000 in
theorem good_c_isIn : wp_c_isIn.all goodWord = true := by decide +kernel
set_option maxHeartbeats 4000000 in
set_option maxRecDepth 100000 in
theorem c_isIn (l : Launch) (D : va_G) (sz : Nat) (v0 : Int64) (v1 : Int64) (v2 : Int64)  : Met l yX11_isIn wp_c_isIn ({ frames := 0, cells := 0, slots := 0, locals := 0 }) (PcR D [.long v0, .long v1, .long v2] sz [] []) (va_Qi (fun (r : Int32) (_ : Unit) => (r = 1 ∧ (v1 ≤ v0 ∧ v0 ≤ v2)) ∨ (r = 0 ∧ ¬ (v1 ≤ v0 ∧ v0 ≤ v2))) (fun (_ : Unit) _ => True) (va_A [] sz)) 0 0 (va_A [] sz) := by
  refine Met.ofW (cc := cX11_isIn) (maxL := 6) (ret := (some .boolean)) (by decide) rfl ?_
  intro p e s m args below meth c s₁ B hml hv
  obtain ⟨rfl, hsz, hP, hK⟩ := hv
  have hx := B.exec
  have hb := B.bytes
  have hr := B.returns
  have hts := atoms_spec (ws := wp_c_isIn) B.pre
  have hown : s.vm.findClass RX11 = some m.cls := findClass_of_methodNamed B.named
  have hlocks := B.notSynchronized
  subst hsz
  generalize hAe : va_A [] s.heap.size = A at ⊢
  have hA : ∀ q : Nat, s.heap.size ≤ q → A q := fun q h => by rw [← hAe]; exact Or.inr h
  have hS : va_S A s.heap s.heap [] := va_S.rf
  have hP : va_P D vwCl [] s.heap := hP
  have hl := lv_entry ([.long v0, .long v1, .long v2]) (n := 6) (Nat.le_of_ble_eq_true rfl)
  rw [lg_entry_eq]
  generalize (lg_sl ([.long v0, .long v1, .long v2]) ++ List.replicate (6 - (lg_sl ([.long v0, .long v1, .long v2])).length) Slot.unset).toArray = ls at hl ⊢
  have hl : lv_has ls 6 [(0, .long v0), (2, .long v1), (4, .long v2)] := hl
  refine lv_lload_n hx hb dX11_isIn_0 rfl (lv_at hl 0 rfl) ?_
  refine lv_lload_n hx hb dX11_isIn_1 rfl (lv_at hl 1 rfl) ?_
  refine W.lcmp hx hb dX11_isIn_2 ?_
  refine lv_if_lt (tgt := 17) hx hb dX11_isIn_3 (by decide) (fun hc1 => ?_) (fun hc1 => ?_)
  ·
    refine lv_iconst (v := 0) hx hb dX11_isIn_17 (by decide) ?_
    exact W.zret (v := 0) hx hb hr rfl (fun t ht hW => ⟨⟨0, (), rfl, Or.inr ⟨rfl, fun h => absurd h.1 (Int64.not_le.mpr ((lg_cmp_lt _ _).mp hc1))⟩, trivial⟩, hS.F ht⟩) hS.2.2 dX11_isIn_18
  ·
    refine lv_lload_n hx hb dX11_isIn_6 rfl (lv_at hl 0 rfl) ?_
    refine lv_lload hx hb dX11_isIn_7 (lv_at hl 2 rfl) ?_
    refine W.lcmp hx hb dX11_isIn_9 ?_
    refine lv_if_gt (tgt := 17) hx hb dX11_isIn_10 (by decide) (fun hc2 => ?_) (fun hc2 => ?_)
    ·
      refine lv_iconst (v := 0) hx hb dX11_isIn_17 (by decide) ?_
      exact W.zret (v := 0) hx hb hr rfl (fun t ht hW => ⟨⟨0, (), rfl, Or.inr ⟨rfl, fun h => absurd h.2 (Int64.not_le.mpr ((lg_cmp_gt _ _).mp hc2))⟩, trivial⟩, hS.F ht⟩) hS.2.2 dX11_isIn_18
    ·
      refine lv_iconst (v := 1) hx hb dX11_isIn_13 (by decide) ?_
      refine lv_goto (tgt := 18) hx hb dX11_isIn_14 (by decide) ?_
      exact W.zret (v := 1) hx hb hr rfl (fun t ht hW => ⟨⟨1, (), rfl, Or.inl ⟨rfl, Int64.not_lt.mp (mt (lg_cmp_lt _ _).mpr hc1), Int64.not_lt.mp (mt (lg_cmp_gt _ _).mpr hc2)⟩, trivial⟩, hS.F ht⟩) hS.2.2 dX11_isIn_18

def own_c_flag : List Cond := []
def wp_c_flag : List Cond := .code yX11_flag cX11_flag 1 (some .int) :: (own_c_flag ++ ([] : List Cond))
set_option maxRecDepth 20000 in
theorem inown_c_flag : ∀ w ∈ own_c_flag, w ∈ lw_tbl := mem_places [] (by decide +kernel)
set_option maxRecDepth 20000 in
theorem in_c_flag : ∀ w ∈ wp_c_flag, w ∈ lw_tbl := List.forall_mem_cons.mpr ⟨List.mem_of_getElem? (i := 1504) (by decide +kernel), List.forall_mem_append.mpr ⟨inown_c_flag, fun _ h => absurd h List.not_mem_nil⟩⟩
set_option maxRecDepth 20000 in
theorem good_c_flag : wp_c_flag.all goodWord = true := by decide +kernel
set_option maxHeartbeats 4000000 in
set_option maxRecDepth 100000 in
theorem c_flag (l : Launch) (D : va_G) (sz : Nat) (z : Int32)  : Met l yX11_flag wp_c_flag ({ frames := 0, cells := 0, slots := 0, locals := 0 }) (PcR D [.int z] sz [] []) (va_Qi (fun (r : Int32) (_ : Unit) => r = if z = 0 then 0 else 1) (fun (_ : Unit) _ => True) (va_A [] sz)) 0 0 (va_A [] sz) := by
  refine Met.ofW (cc := cX11_flag) (maxL := 1) (ret := (some .int)) (by decide) rfl ?_
  intro p e s m args below meth c s₁ B hml hv
  obtain ⟨rfl, hsz, hP, hK⟩ := hv
  have hx := B.exec
  have hb := B.bytes
  have hr := B.returns
  have hts := atoms_spec (ws := wp_c_flag) B.pre
  have hown : s.vm.findClass RX11 = some m.cls := findClass_of_methodNamed B.named
  have hlocks := B.notSynchronized
  subst hsz
  generalize hAe : va_A [] s.heap.size = A at ⊢
  have hA : ∀ q : Nat, s.heap.size ≤ q → A q := fun q h => by rw [← hAe]; exact Or.inr h
  have hS : va_S A s.heap s.heap [] := va_S.rf
  have hP : va_P D vwCl [] s.heap := hP
  have hl := lv_entry ([.int z]) (n := 1) (Nat.le_of_ble_eq_true rfl)
  rw [lg_entry_eq]
  generalize (lg_sl ([.int z]) ++ List.replicate (1 - (lg_sl ([.int z])).length) Slot.unset).toArray = ls at hl ⊢
  have hl : lv_has ls 1 [(0, .int z)] := hl
  refine lv_iload_n hx hb dX11_flag_0 rfl (lv_at hl 0 rfl) ?_
  refine lv_if_eq (tgt := 8) hx hb dX11_flag_1 (by decide) (fun hc1 => ?_) (fun hc1 => ?_)
  ·
    refine lv_iconst (v := 0) hx hb dX11_flag_8 (by decide) ?_
    exact W.iret (v := 0) hx hb hr (fun t ht hW => ⟨⟨0, (), rfl, by rw [if_pos hc1], trivial⟩, hS.F ht⟩) hS.2.2 dX11_flag_9
  ·
    refine lv_iconst (v := 1) hx hb dX11_flag_4 (by decide) ?_
    refine lv_goto (tgt := 9) hx hb dX11_flag_5 (by decide) ?_
    exact W.iret (v := 1) hx hb hr (fun t ht hW => ⟨⟨1, (), rfl, by rw [if_neg hc1], trivial⟩, hS.F ht⟩) hS.2.2 dX11_flag_9

def own_c_of : List Cond := [.fieldLink RX11 13 "ClashFreeModel" "n" "[J"]
def wp_c_of : List Cond := .code yX11_of cX11_of 3 (some .long) :: (own_c_of ++ (wsX110 ++ ([] : List Cond)))
set_option maxRecDepth 20000 in
theorem inown_c_of : ∀ w ∈ own_c_of, w ∈ lw_tbl := mem_places [1219] (by decide +kernel)
set_option maxRecDepth 20000 in
theorem in_c_of : ∀ w ∈ wp_c_of, w ∈ lw_tbl := List.forall_mem_cons.mpr ⟨List.mem_of_getElem? (i := 1403) (by decide +kernel), List.forall_mem_append.mpr ⟨inown_c_of, List.forall_mem_append.mpr ⟨lwb_X11, fun _ h => absurd h List.not_mem_nil⟩⟩⟩
set_option maxRecDepth 20000 in
theorem good_c_of : wp_c_of.all goodWord = true := by decide +kernel
set_option maxHeartbeats 4000000 in
set_option maxRecDepth 100000 in
theorem c_of (l : Launch) (D : va_G) (sz : Nat) (h0 : Nat) (a : Nat → Nat) (cm : Nat → ClassId) (i : Nat → Int32) (g : Nat → Int64) (fn : Nat → Int64) (k : Nat) (w : Nat) (hk : k < 5) (hw : w < 17) : Met l yX11_of wp_c_of ({ frames := 0, cells := 0, slots := 0, locals := 0 }) (PcR D [.ref h0, .int (nI k), .int (nI w)] sz [(h0, .inr (11, gM a i g)), (a 3, .inl (cm 3, 85, .inr (.inl fn)))] [(cm 3, .long)]) (va_Ql (fun (r : Int64) (u : Unit) => r = fn (17 * k + w)) (fun (_ : Unit) _ => True) (va_A [] sz)) 0 0 (va_A [] sz) := by
  refine Met.ofW (cc := cX11_of) (maxL := 3) (ret := (some .long)) (by decide) rfl ?_
  intro p e s m args below meth c s₁ B hml hv
  obtain ⟨rfl, hsz, hP, hK⟩ := hv
  have hx := B.exec
  have hb := B.bytes
  have hr := B.returns
  have hts := atoms_spec (ws := wp_c_of) B.pre
  have hin_X11 : ∀ w ∈ wsX110, w ∈ wp_c_of := fun _ h => (List.mem_cons_of_mem _ (List.mem_append_right _ (List.mem_append_left _ h)))
  have hown : s.vm.findClass RX11 = some m.cls := findClass_of_methodNamed B.named
  have hlocks := B.notSynchronized
  subst hsz
  generalize hAe : va_A [] s.heap.size = A at ⊢
  have hA : ∀ q : Nat, s.heap.size ≤ q → A q := fun q h => by rw [← hAe]; exact Or.inr h
  have hS : va_S A s.heap s.heap [] := va_S.rf
  have hP : va_P D vwCl [(h0, .inr (11, gM a i g)), (a 3, .inl (cm 3, 85, .inr (.inl fn)))] s.heap := hP
  have hl := lv_entry ([.ref h0, .int (nI k), .int (nI w)]) (n := 3) (Nat.le_of_ble_eq_true rfl)
  rw [lg_entry_eq]
  generalize (lg_sl ([.ref h0, .int (nI k), .int (nI w)]) ++ List.replicate (3 - (lg_sl ([.ref h0, .int (nI k), .int (nI w)])).length) Slot.unset).toArray = ls at hl ⊢
  have hl : lv_has ls 3 [(0, .ref h0), (1, .int (nI k)), (2, .int (nI w))] := hl
  refine lv_aload_n hx hb dX11_of_0 rfl (lv_at hl 0 rfl) ?_
  refine va_get (D := D) (ci := 11) (v := .ref (a 3)) (C := RX11) (T := TX11) (N := 47) hx hb hts hin_X11 hown hK hP 0 rfl rfl 3 (by decide) (hts (.fieldLink RX11 13 "ClashFreeModel" "n" "[J") (List.mem_of_getElem? (i := 1) rfl)) (fun _ h9 => h9) rfl dX11_of_1 ?_
  refine lv_bipush (v := 17) hx hb dX11_of_4 (by decide) ?_
  refine lv_iload_n hx hb dX11_of_6 rfl (lv_at hl 1 rfl) ?_
  refine lv_imul hx hb dX11_of_7 ?_
  refine lv_iload_n hx hb dX11_of_8 rfl (lv_at hl 2 rfl) ?_
  refine lv_iadd hx hb dX11_of_9 ?_
  refine lv_topi (fun v1 ev1 => ?_)
  obtain rfl : v1 = nI (17 * k + w) := ev1.trans (ix17 k w)
  refine va_lald hx hb hK hP 1 0 rfl rfl (vp_in_nI (by omega) (by decide)) dX11_of_10 ?_
  refine lv_topl (fun v2 ev2 => ?_)
  obtain rfl : v2 = fn (17 * k + w) := ev2.trans (by rw [nI_clamp (by omega)])
  exact W.lret (v := fn (17 * k + w)) hx hb hr (fun t ht hW => ⟨⟨fn (17 * k + w), (), rfl, rfl, trivial⟩, hS.F ht⟩) hS.2.2 dX11_of_11

def own_c_lays : List Cond := [.fieldLink RX11 13 "ClashFreeModel" "n" "[J"]
def wp_c_lays : List Cond := .code yX11_lays cX11_lays 5 none :: (own_c_lays ++ (wsX110 ++ ([] : List Cond)))
set_option maxRecDepth 20000 in
theorem inown_c_lays : ∀ w ∈ own_c_lays, w ∈ lw_tbl := mem_places [1219] (by decide +kernel)
set_option maxRecDepth 20000 in
theorem in_c_lays : ∀ w ∈ wp_c_lays, w ∈ lw_tbl := List.forall_mem_cons.mpr ⟨List.mem_of_getElem? (i := 1391) (by decide +kernel), List.forall_mem_append.mpr ⟨inown_c_lays, List.forall_mem_append.mpr ⟨lwb_X11, fun _ h => absurd h List.not_mem_nil⟩⟩⟩
set_option maxRecDepth 20000 in
theorem good_c_lays : wp_c_lays.all goodWord = true := by decide +kernel
set_option maxHeartbeats 4000000 in
set_option maxRecDepth 100000 in
theorem c_lays (l : Launch) (D : va_G) (sz : Nat) (h0 : Nat) (a : Nat → Nat) (cm : Nat → ClassId) (i : Nat → Int32) (g : Nat → Int64) (fn : Nat → Int64) (k : Nat) (w : Nat) (v : Int64) (hk : k < 5) (hw : w < 17) : Met l yX11_lays wp_c_lays ({ frames := 0, cells := 0, slots := 0, locals := 0 }) (PcW D [.ref h0, .int (nI k), .int (nI w), .long v] sz [(h0, .inr (11, gM a i g)), (a 3, .inl (cm 3, 85, .inr (.inl fn)))] [(cm 3, .long)]) (va_Qv (fun (u : (Nat → Int64)) => u (17 * k + w) = v ∧ ∀ x, x ≠ 17 * k + w → u x = fn x) (fun (u : (Nat → Int64)) t => va_P D vwCl [(h0, .inr (11, gM a i g)), (a 3, .inl (cm 3, 85, .inr (.inl u)))] t.heap ∧ va_K D vwCl [(cm 3, .long)] t ∧ va_D (va_A [(h0, .inr (11, gM a i g)), (a 3, .inl (cm 3, 85, .inr (.inl fn)))] sz) [(h0, .inr (11, gM a i g)), (a 3, .inl (cm 3, 85, .inr (.inl u)))]) (va_A [(h0, .inr (11, gM a i g)), (a 3, .inl (cm 3, 85, .inr (.inl fn)))] sz)) 0 0 (va_A [(h0, .inr (11, gM a i g)), (a 3, .inl (cm 3, 85, .inr (.inl fn)))] sz) := by
  refine Met.ofW (cc := cX11_lays) (maxL := 5) (ret := none) (by decide) rfl ?_
  intro p e s m args below meth c s₁ B hml hv
  obtain ⟨rfl, hsz, hP, hK, hD0⟩ := hv
  have hx := B.exec
  have hb := B.bytes
  have hr := B.returns
  have hts := atoms_spec (ws := wp_c_lays) B.pre
  have hin_X11 : ∀ w ∈ wsX110, w ∈ wp_c_lays := fun _ h => (List.mem_cons_of_mem _ (List.mem_append_right _ (List.mem_append_left _ h)))
  have hown : s.vm.findClass RX11 = some m.cls := findClass_of_methodNamed B.named
  have hlocks := B.notSynchronized
  subst hsz
  have hD := hD0.self (sz := s.heap.size)
  generalize hAe : va_A [(h0, .inr (11, gM a i g)), (a 3, .inl (cm 3, 85, .inr (.inl fn)))] s.heap.size = A at hD ⊢
  have hA : ∀ q : Nat, s.heap.size ≤ q → A q := fun q h => by rw [← hAe]; exact Or.inr h
  have hS : va_S A s.heap s.heap [] := va_S.rf
  have hP : va_P D vwCl [(h0, .inr (11, gM a i g)), (a 3, .inl (cm 3, 85, .inr (.inl fn)))] s.heap := hP
  have hl := lv_entry ([.ref h0, .int (nI k), .int (nI w), .long v]) (n := 5) (Nat.le_of_ble_eq_true rfl)
  rw [lg_entry_eq]
  generalize (lg_sl ([.ref h0, .int (nI k), .int (nI w), .long v]) ++ List.replicate (5 - (lg_sl ([.ref h0, .int (nI k), .int (nI w), .long v])).length) Slot.unset).toArray = ls at hl ⊢
  have hl : lv_has ls 5 [(0, .ref h0), (1, .int (nI k)), (2, .int (nI w)), (3, .long v)] := hl
  refine lv_aload_n hx hb dX11_lays_0 rfl (lv_at hl 0 rfl) ?_
  refine va_get (D := D) (ci := 11) (v := .ref (a 3)) (C := RX11) (T := TX11) (N := 47) hx hb hts hin_X11 hown hK hP 0 rfl rfl 3 (by decide) (hts (.fieldLink RX11 13 "ClashFreeModel" "n" "[J") (List.mem_of_getElem? (i := 1) rfl)) (fun _ h9 => h9) rfl dX11_lays_1 ?_
  refine lv_bipush (v := 17) hx hb dX11_lays_4 (by decide) ?_
  refine lv_iload_n hx hb dX11_lays_6 rfl (lv_at hl 1 rfl) ?_
  refine lv_imul hx hb dX11_lays_7 ?_
  refine lv_iload_n hx hb dX11_lays_8 rfl (lv_at hl 2 rfl) ?_
  refine lv_iadd hx hb dX11_lays_9 ?_
  refine lv_topi (fun v1 ev1 => ?_)
  obtain rfl : v1 = nI (17 * k + w) := ev1.trans (ix17 k w)
  refine lv_lload_n hx hb dX11_lays_10 rfl (lv_at hl 3 rfl) ?_
  refine va_last hx hb hK hP hD hS 1 0 rfl rfl (vp_in_nI (by omega) (by decide)) dX11_lays_11 (fun H locs hP hD hS => ?_)
  have hP : va_P D vwCl [(h0, .inr (11, gM a i g)), (a 3, .inl (cm 3, 85, .inr (.inl (vp_updL fn (Int32.toNatClampNeg (nI (17 * k + w))) v))))] H := hP
  have hD : va_D A [(h0, .inr (11, gM a i g)), (a 3, .inl (cm 3, 85, .inr (.inl (vp_updL fn (Int32.toNatClampNeg (nI (17 * k + w))) v))))] := hD
  rw [show (vp_updL fn (Int32.toNatClampNeg (nI (17 * k + w))) v) = (vp_updL fn (17 * k + w) v) from by rw [nI_clamp (by omega)]] at hP hD
  exact W.vret hx hb hr (fun t ht hW => ⟨⟨(vp_updL fn (17 * k + w) v), rfl, ⟨pk_uLs, fun x h => pk_uLn h⟩, by rw [ht]; exact hP.sub [0, 1] rfl, va_K.moved hW.alike (hK.sub [0] rfl), hD.sub [0, 1] (by decide) rfl⟩, hS.F ht⟩) hS.2.2 dX11_lays_12

def own_c_adds : List Cond := [.fieldLink RX11 13 "ClashFreeModel" "n" "[J"]
def wp_c_adds : List Cond := .code yX11_adds cX11_adds 5 none :: (own_c_adds ++ (wsX110 ++ ([] : List Cond)))
set_option maxRecDepth 20000 in
theorem inown_c_adds : ∀ w ∈ own_c_adds, w ∈ lw_tbl := mem_places [1219] (by decide +kernel)
set_option maxRecDepth 20000 in
theorem in_c_adds : ∀ w ∈ wp_c_adds, w ∈ lw_tbl := List.forall_mem_cons.mpr ⟨List.mem_of_getElem? (i := 1461) (by decide +kernel), List.forall_mem_append.mpr ⟨inown_c_adds, List.forall_mem_append.mpr ⟨lwb_X11, fun _ h => absurd h List.not_mem_nil⟩⟩⟩
set_option maxRecDepth 20000 in
theorem good_c_adds : wp_c_adds.all goodWord = true := by decide +kernel
set_option maxHeartbeats 4000000 in
set_option maxRecDepth 100000 in
theorem c_adds (l : Launch) (D : va_G) (sz : Nat) (h0 : Nat) (a : Nat → Nat) (cm : Nat → ClassId) (i : Nat → Int32) (g : Nat → Int64) (fn : Nat → Int64) (k : Nat) (w : Nat) (v : Int64) (hk : k < 5) (hw : w < 17) : Met l yX11_adds wp_c_adds ({ frames := 0, cells := 0, slots := 0, locals := 0 }) (PcW D [.ref h0, .int (nI k), .int (nI w), .long v] sz [(h0, .inr (11, gM a i g)), (a 3, .inl (cm 3, 85, .inr (.inl fn)))] [(cm 3, .long)]) (va_Qv (fun (u : (Nat → Int64)) => u (17 * k + w) = fn (17 * k + w) + v ∧ ∀ x, x ≠ 17 * k + w → u x = fn x) (fun (u : (Nat → Int64)) t => va_P D vwCl [(h0, .inr (11, gM a i g)), (a 3, .inl (cm 3, 85, .inr (.inl u)))] t.heap ∧ va_K D vwCl [(cm 3, .long)] t ∧ va_D (va_A [(h0, .inr (11, gM a i g)), (a 3, .inl (cm 3, 85, .inr (.inl fn)))] sz) [(h0, .inr (11, gM a i g)), (a 3, .inl (cm 3, 85, .inr (.inl u)))]) (va_A [(h0, .inr (11, gM a i g)), (a 3, .inl (cm 3, 85, .inr (.inl fn)))] sz)) 0 0 (va_A [(h0, .inr (11, gM a i g)), (a 3, .inl (cm 3, 85, .inr (.inl fn)))] sz) := by
  refine Met.ofW (cc := cX11_adds) (maxL := 5) (ret := none) (by decide) rfl ?_
  intro p e s m args below meth c s₁ B hml hv
  obtain ⟨rfl, hsz, hP, hK, hD0⟩ := hv
  have hx := B.exec
  have hb := B.bytes
  have hr := B.returns
  have hts := atoms_spec (ws := wp_c_adds) B.pre
  have hin_X11 : ∀ w ∈ wsX110, w ∈ wp_c_adds := fun _ h => (List.mem_cons_of_mem _ (List.mem_append_right _ (List.mem_append_left _ h)))
  have hown : s.vm.findClass RX11 = some m.cls := findClass_of_methodNamed B.named
  have hlocks := B.notSynchronized
  subst hsz
  have hD := hD0.self (sz := s.heap.size)
  generalize hAe : va_A [(h0, .inr (11, gM a i g)), (a 3, .inl (cm 3, 85, .inr (.inl fn)))] s.heap.size = A at hD ⊢
  have hA : ∀ q : Nat, s.heap.size ≤ q → A q := fun q h => by rw [← hAe]; exact Or.inr h
  have hS : va_S A s.heap s.heap [] := va_S.rf
  have hP : va_P D vwCl [(h0, .inr (11, gM a i g)), (a 3, .inl (cm 3, 85, .inr (.inl fn)))] s.heap := hP
  have hl := lv_entry ([.ref h0, .int (nI k), .int (nI w), .long v]) (n := 5) (Nat.le_of_ble_eq_true rfl)
  rw [lg_entry_eq]
  generalize (lg_sl ([.ref h0, .int (nI k), .int (nI w), .long v]) ++ List.replicate (5 - (lg_sl ([.ref h0, .int (nI k), .int (nI w), .long v])).length) Slot.unset).toArray = ls at hl ⊢
  have hl : lv_has ls 5 [(0, .ref h0), (1, .int (nI k)), (2, .int (nI w)), (3, .long v)] := hl
  refine lv_aload_n hx hb dX11_adds_0 rfl (lv_at hl 0 rfl) ?_
  refine va_get (D := D) (ci := 11) (v := .ref (a 3)) (C := RX11) (T := TX11) (N := 47) hx hb hts hin_X11 hown hK hP 0 rfl rfl 3 (by decide) (hts (.fieldLink RX11 13 "ClashFreeModel" "n" "[J") (List.mem_of_getElem? (i := 1) rfl)) (fun _ h9 => h9) rfl dX11_adds_1 ?_
  refine lv_bipush (v := 17) hx hb dX11_adds_4 (by decide) ?_
  refine lv_iload_n hx hb dX11_adds_6 rfl (lv_at hl 1 rfl) ?_
  refine lv_imul hx hb dX11_adds_7 ?_
  refine lv_iload_n hx hb dX11_adds_8 rfl (lv_at hl 2 rfl) ?_
  refine lv_iadd hx hb dX11_adds_9 ?_
  refine lv_topi (fun v1 ev1 => ?_)
  obtain rfl : v1 = nI (17 * k + w) := ev1.trans (ix17 k w)
  refine lv_dup2_11 hx hb dX11_adds_10 rfl rfl ?_
  refine va_lald hx hb hK hP 1 0 rfl rfl (vp_in_nI (by omega) (by decide)) dX11_adds_11 ?_
  refine lv_topl (fun v2 ev2 => ?_)
  obtain rfl : v2 = fn (17 * k + w) := ev2.trans (by rw [nI_clamp (by omega)])
  refine lv_lload_n hx hb dX11_adds_12 rfl (lv_at hl 3 rfl) ?_
  refine lv_ladd hx hb dX11_adds_13 ?_
  refine va_last hx hb hK hP hD hS 1 0 rfl rfl (vp_in_nI (by omega) (by decide)) dX11_adds_14 (fun H locs hP hD hS => ?_)
  have hP : va_P D vwCl [(h0, .inr (11, gM a i g)), (a 3, .inl (cm 3, 85, .inr (.inl (vp_updL fn (Int32.toNatClampNeg (nI (17 * k + w))) ((fn (17 * k + w)) + v)))))] H := hP
  have hD : va_D A [(h0, .inr (11, gM a i g)), (a 3, .inl (cm 3, 85, .inr (.inl (vp_updL fn (Int32.toNatClampNeg (nI (17 * k + w))) ((fn (17 * k + w)) + v)))))] := hD
  rw [show (vp_updL fn (Int32.toNatClampNeg (nI (17 * k + w))) ((fn (17 * k + w)) + v)) = (vp_updL fn (17 * k + w) (fn (17 * k + w) + v)) from by rw [nI_clamp (by omega)]] at hP hD
  exact W.vret hx hb hr (fun t ht hW => ⟨⟨(vp_updL fn (17 * k + w) (fn (17 * k + w) + v)), rfl, ⟨pk_uLs, fun x h => pk_uLn h⟩, by rw [ht]; exact hP.sub [0, 1] rfl, va_K.moved hW.alike (hK.sub [0] rfl), hD.sub [0, 1] (by decide) rfl⟩, hS.F ht⟩) hS.2.2 dX11_adds_15

def own_c_isThere : List Cond := [.constantLong RX11 87 (3), .methodLink RX11 83 yX11_isIn, .static yX11_isIn, .initialized RX11, .methodLink RX11 89 yX11_of, .instanceMethod yX11_of, .selects RX11 yX11_of yX11_of]
def wp_c_isThere : List Cond := .code yX11_isThere cX11_isThere 2 (some .boolean) :: (own_c_isThere ++ (wp_c_isIn ++ (wp_c_of ++ ([] : List Cond))))
set_option maxRecDepth 20000 in
theorem inown_c_isThere : ∀ w ∈ own_c_isThere, w ∈ lw_tbl := mem_places [1378, 1371, 1372, 115, 1400, 1402, 41] (by decide +kernel)
set_option maxRecDepth 20000 in
theorem in_c_isThere : ∀ w ∈ wp_c_isThere, w ∈ lw_tbl := List.forall_mem_cons.mpr ⟨List.mem_of_getElem? (i := 1469) (by decide +kernel), List.forall_mem_append.mpr ⟨inown_c_isThere, List.forall_mem_append.mpr ⟨in_c_isIn, List.forall_mem_append.mpr ⟨in_c_of, fun _ h => absurd h List.not_mem_nil⟩⟩⟩⟩
set_option maxRecDepth 20000 in
theorem good_c_isThere : wp_c_isThere.all goodWord = true := by decide +kernel
set_option maxRecDepth 20000 in
theorem g_c_isThere_c_isIn_83 : GoodIn wp_c_isThere (va_wsS RX11 83 yX11_isIn wp_c_isIn) := goodIn_sub (List.forall_mem_append.mpr ⟨List.forall_mem_cons.mpr ⟨(List.mem_of_getElem? (i := 2) rfl), List.forall_mem_cons.mpr ⟨(List.mem_of_getElem? (i := 3) rfl), List.forall_mem_cons.mpr ⟨(List.mem_of_getElem? (i := 4) rfl), fun _ h => absurd h List.not_mem_nil⟩⟩⟩, (fun _ h => (List.mem_cons_of_mem _ (List.mem_append_right _ (List.mem_append_left _ h))))⟩) (by decide +kernel)
set_option maxRecDepth 20000 in
theorem g_c_isThere_c_of_89 : GoodIn wp_c_isThere (wsV RX11 89 RX11 yX11_of wp_c_of) := goodIn_sub (List.forall_mem_append.mpr ⟨List.forall_mem_cons.mpr ⟨(List.mem_of_getElem? (i := 5) rfl), List.forall_mem_cons.mpr ⟨(List.mem_of_getElem? (i := 6) rfl), List.forall_mem_cons.mpr ⟨(List.mem_of_getElem? (i := 7) rfl), List.forall_mem_cons.mpr ⟨(List.mem_of_getElem? (i := 4) rfl), fun _ h => absurd h List.not_mem_nil⟩⟩⟩⟩, (fun _ h => (List.mem_cons_of_mem _ (List.mem_append_right _ (List.mem_append_right _ (List.mem_append_left _ h)))))⟩) (by decide +kernel)
set_option maxHeartbeats 4000000 in
set_option maxRecDepth 100000 in
theorem c_isThere (l : Launch) (D : va_G) (sz : Nat) (h0 : Nat) (a : Nat → Nat) (cm : Nat → ClassId) (i : Nat → Int32) (g : Nat → Int64) (fn : Nat → Int64) (z1 : Int32)  : Met l yX11_isThere wp_c_isThere ({ frames := 1, cells := 0, slots := 0, locals := 25 }) (PcR D [.ref h0, .int z1] sz [(h0, .inr (11, gM a i g)), (a 3, .inl (cm 3, 85, .inr (.inl fn)))] [(cm 3, .long)]) (va_Qi (fun (r : Int32) (u : Unit) => (r = 1 ∧ there fn z1) ∨ (r = 0 ∧ ¬ there fn z1)) (fun (_ : Unit) _ => True) (va_A [] sz)) 0 0 (va_A [] sz) := by
  refine Met.ofW (cc := cX11_isThere) (maxL := 2) (ret := (some .boolean)) (by decide) rfl ?_
  intro p e s m args below meth c s₁ B hml hv
  obtain ⟨rfl, hsz, hP, hK⟩ := hv
  have hx := B.exec
  have hb := B.bytes
  have hr := B.returns
  have hts := atoms_spec (ws := wp_c_isThere) B.pre
  have hown : s.vm.findClass RX11 = some m.cls := findClass_of_methodNamed B.named
  have hlocks := B.notSynchronized
  subst hsz
  generalize hAe : va_A [] s.heap.size = A at ⊢
  have hA : ∀ q : Nat, s.heap.size ≤ q → A q := fun q h => by rw [← hAe]; exact Or.inr h
  have hS : va_S A s.heap s.heap [] := va_S.rf
  have hP : va_P D vwCl [(h0, .inr (11, gM a i g)), (a 3, .inl (cm 3, 85, .inr (.inl fn)))] s.heap := hP
  have hl := lv_entry ([.ref h0, .int z1]) (n := 2) (Nat.le_of_ble_eq_true rfl)
  rw [lg_entry_eq]
  generalize (lg_sl ([.ref h0, .int z1]) ++ List.replicate (2 - (lg_sl ([.ref h0, .int z1])).length) Slot.unset).toArray = ls at hl ⊢
  have hl : lv_has ls 2 [(0, .ref h0), (1, .int z1)] := hl
  refine lv_iload_n hx hb dX11_isThere_0 rfl (lv_at hl 1 rfl) ?_
  refine lv_i2l hx hb dX11_isThere_1 rfl ?_
  refine lv_lconst (v := 0) hx hb dX11_isThere_2 (by decide) ?_
  refine lv_ldc2 (v := 3) hx hb hown (hts (.constantLong RX11 87 (3)) (List.mem_of_getElem? (i := 1) rfl)) dX11_isThere_3 ?_
  have hPc := hP.sub (ws' := []) [] rfl
  have hKc := hK.sub (tys' := []) [] rfl
  have hFc := va_free0 hS hA
  refine va_calli (va_runS (As := [.long (Int32.toInt64 z1), .long 0, .long 3]) (rest := []) ⟨hx, hb, hml, hown, hts⟩ (c_isIn l D _ (Int32.toInt64 z1) 0 3) (va_cwS 3 hts g_c_isThere_c_isIn_83 rfl rfl rfl (by decide +kernel) ⟨(Nat.le_of_ble_eq_true rfl), (Nat.le_of_ble_eq_true rfl)⟩) (PcR_S hPc hKc) rfl rfl hl.1 rfl (lv_room (Nat.le_of_ble_eq_true rfl)) dX11_isThere_6 ⟨(Nat.le_of_ble_eq_true rfl), (Nat.le_of_ble_eq_true rfl)⟩) hS (fun q _ h => hFc q h) hFc (fun r1 uu tt H locs htt hvm hw hB hz1 hk1 hS => ?_)
  have hP := va_keep hP hk1
  try dsimp only at hw
  clear hB hz1 hk1 hFc hPc hKc
  rcases hw with ⟨rfl, hA_r1⟩ | ⟨rfl, hA_r1⟩
  ·
    obtain ⟨k, hk, rfl⟩ := in04 (isIn04c.mp hA_r1)
    refine lv_if_eq (tgt := 27) hx hb dX11_isThere_9 (by decide) (fun hc => absurd hc (by decide)) (fun hc => ?_)
    refine lv_aload_n hx hb dX11_isThere_12 rfl (lv_at hl 0 rfl) ?_
    refine lv_iload_n hx hb dX11_isThere_13 rfl (lv_at hl 1 rfl) ?_
    refine lv_iconst (v := 0) hx hb dX11_isThere_14 (by decide) ?_
    have hPc := hP.sub (ws' := [(h0, .inr (11, gM a i g)), (a 3, .inl (cm 3, 85, .inr (.inl fn)))]) [0, 1] rfl
    have hKc := hK.sub (tys' := [(cm 3, .long)]) [0] rfl
    have hFc := va_free0 hS hA
    refine va_calll (va_runV (As := [.int (nI k), .int (nI 0)]) (rest := []) ⟨hx, hb, hml, hown, hts⟩ (c_of l D _ h0 a cm i g fn k 0 (by first | assumption | omega) (by first | assumption | omega)) (cwV 2 hts g_c_isThere_c_of_89 rfl rfl rfl (by decide +kernel) ⟨(Nat.le_of_ble_eq_true rfl), (Nat.le_of_ble_eq_true rfl)⟩) (PcR_V (q0 := 0) hPc hKc rfl rfl) rfl rfl hl.1 rfl (lv_room (Nat.le_of_ble_eq_true rfl)) dX11_isThere_15 ⟨(Nat.le_of_ble_eq_true rfl), (Nat.le_of_ble_eq_true rfl)⟩) hS (fun q _ h => hFc q h) hFc (fun r2 uu tt H locs htt hvm hw hB hz1 hk1 hS => ?_)
    have hP := va_keep hP hk1
    try dsimp only at hw
    clear hB hz1 hk1 hFc hPc hKc
    obtain rfl : r2 = fn (17 * k + 0) := hw
    refine lv_lconst (v := 1) hx hb dX11_isThere_18 (by decide) ?_
    refine W.lcmp hx hb dX11_isThere_19 ?_
    refine lv_if_ne (tgt := 27) hx hb dX11_isThere_20 (by decide) (fun hc3 => ?_) (fun hc3 => ?_)
    ·
      refine lv_iconst (v := 0) hx hb dX11_isThere_27 (by decide) ?_
      exact W.zret (v := 0) hx hb hr rfl (fun t ht hW => ⟨⟨0, (), rfl, Or.inr ⟨rfl, fun h9 => hc3 ((lg_cmp_eq _ _).mpr (there_eq hk h9))⟩, trivial⟩, hS.F ht⟩) hS.2.2 dX11_isThere_28
    ·
      refine lv_iconst (v := 1) hx hb dX11_isThere_23 (by decide) ?_
      refine lv_goto (tgt := 28) hx hb dX11_isThere_24 (by decide) ?_
      exact W.zret (v := 1) hx hb hr rfl (fun t ht hW => ⟨⟨1, (), rfl, Or.inl ⟨rfl, k, hk, rfl, (lg_cmp_eq _ _).mp hc3⟩, trivial⟩, hS.F ht⟩) hS.2.2 dX11_isThere_28
  ·
    refine lv_if_eq (tgt := 27) hx hb dX11_isThere_9 (by decide) (fun hc => ?_) (fun hc => absurd (by decide) hc)
    refine lv_iconst (v := 0) hx hb dX11_isThere_27 (by decide) ?_
    exact W.zret (v := 0) hx hb hr rfl (fun t ht hW => ⟨⟨0, (), rfl, Or.inr ⟨rfl, fun h => hA_r1 (isIn04c.mpr (there_in h))⟩, trivial⟩, hS.F ht⟩) hS.2.2 dX11_isThere_28

def own_c_isKey : List Cond := [.constantLong RX11 93 (2147483646), .methodLink RX11 83 yX11_isIn, .static yX11_isIn, .initialized RX11]
def wp_c_isKey : List Cond := .code yX11_isKey cX11_isKey 1 (some .boolean) :: (own_c_isKey ++ (wp_c_isIn ++ ([] : List Cond)))
set_option maxRecDepth 20000 in
theorem inown_c_isKey : ∀ w ∈ own_c_isKey, w ∈ lw_tbl := mem_places [1414, 1371, 1372, 115] (by decide +kernel)
set_option maxRecDepth 20000 in
theorem in_c_isKey : ∀ w ∈ wp_c_isKey, w ∈ lw_tbl := List.forall_mem_cons.mpr ⟨List.mem_of_getElem? (i := 1472) (by decide +kernel), List.forall_mem_append.mpr ⟨inown_c_isKey, List.forall_mem_append.mpr ⟨in_c_isIn, fun _ h => absurd h List.not_mem_nil⟩⟩⟩
set_option maxRecDepth 20000 in
theorem good_c_isKey : wp_c_isKey.all goodWord = true := by decide +kernel
set_option maxRecDepth 20000 in
theorem g_c_isKey_c_isIn_83 : GoodIn wp_c_isKey (va_wsS RX11 83 yX11_isIn wp_c_isIn) := goodIn_sub (List.forall_mem_append.mpr ⟨List.forall_mem_cons.mpr ⟨(List.mem_of_getElem? (i := 2) rfl), List.forall_mem_cons.mpr ⟨(List.mem_of_getElem? (i := 3) rfl), List.forall_mem_cons.mpr ⟨(List.mem_of_getElem? (i := 4) rfl), fun _ h => absurd h List.not_mem_nil⟩⟩⟩, (fun _ h => (List.mem_cons_of_mem _ (List.mem_append_right _ (List.mem_append_left _ h))))⟩) (by decide +kernel)
set_option maxHeartbeats 4000000 in
set_option maxRecDepth 100000 in
theorem c_isKey (l : Launch) (D : va_G) (sz : Nat) (z1 : Int32)  : Met l yX11_isKey wp_c_isKey ({ frames := 1, cells := 0, slots := 0, locals := 25 }) (PcR D [.int z1] sz [] []) (va_Qi (fun (r : Int32) (_ : Unit) => (r = 1 ∧ isK z1) ∨ (r = 0 ∧ ¬ isK z1)) (fun (_ : Unit) _ => True) (va_A [] sz)) 0 0 (va_A [] sz) := by
  refine Met.ofW (cc := cX11_isKey) (maxL := 1) (ret := (some .boolean)) (by decide) rfl ?_
  intro p e s m args below meth c s₁ B hml hv
  obtain ⟨rfl, hsz, hP, hK⟩ := hv
  have hx := B.exec
  have hb := B.bytes
  have hr := B.returns
  have hts := atoms_spec (ws := wp_c_isKey) B.pre
  have hown : s.vm.findClass RX11 = some m.cls := findClass_of_methodNamed B.named
  have hlocks := B.notSynchronized
  subst hsz
  generalize hAe : va_A [] s.heap.size = A at ⊢
  have hA : ∀ q : Nat, s.heap.size ≤ q → A q := fun q h => by rw [← hAe]; exact Or.inr h
  have hS : va_S A s.heap s.heap [] := va_S.rf
  have hP : va_P D vwCl [] s.heap := hP
  have hl := lv_entry ([.int z1]) (n := 1) (Nat.le_of_ble_eq_true rfl)
  rw [lg_entry_eq]
  generalize (lg_sl ([.int z1]) ++ List.replicate (1 - (lg_sl ([.int z1])).length) Slot.unset).toArray = ls at hl ⊢
  have hl : lv_has ls 1 [(0, .int z1)] := hl
  refine lv_iload_n hx hb dX11_isKey_0 rfl (lv_at hl 0 rfl) ?_
  refine lv_i2l hx hb dX11_isKey_1 rfl ?_
  refine lv_lconst (v := 0) hx hb dX11_isKey_2 (by decide) ?_
  refine lv_ldc2 (v := 2147483646) hx hb hown (hts (.constantLong RX11 93 (2147483646)) (List.mem_of_getElem? (i := 1) rfl)) dX11_isKey_3 ?_
  have hPc := hP.sub (ws' := []) [] rfl
  have hKc := hK.sub (tys' := []) [] rfl
  have hFc := va_free0 hS hA
  refine va_calli (va_runS (As := [.long (Int32.toInt64 z1), .long 0, .long 2147483646]) (rest := []) ⟨hx, hb, hml, hown, hts⟩ (c_isIn l D _ (Int32.toInt64 z1) 0 2147483646) (va_cwS 3 hts g_c_isKey_c_isIn_83 rfl rfl rfl (by decide +kernel) ⟨(Nat.le_of_ble_eq_true rfl), (Nat.le_of_ble_eq_true rfl)⟩) (PcR_S hPc hKc) rfl rfl hl.1 rfl (lv_room (Nat.le_of_ble_eq_true rfl)) dX11_isKey_6 ⟨(Nat.le_of_ble_eq_true rfl), (Nat.le_of_ble_eq_true rfl)⟩) hS (fun q _ h => hFc q h) hFc (fun r1 uu tt H locs htt hvm hw hB hz1 hk1 hS => ?_)
  have hP := va_keep hP hk1
  try dsimp only at hw
  clear hB hz1 hk1 hFc hPc hKc
  rcases hw with ⟨rfl, hA_r1⟩ | ⟨rfl, hA_r1⟩
  ·
    exact W.zret (v := 1) hx hb hr rfl (fun t ht hW => ⟨⟨1, (), rfl, Or.inl ⟨rfl, isK_of.mp hA_r1⟩, trivial⟩, hS.F ht⟩) hS.2.2 dX11_isKey_9
  ·
    exact W.zret (v := 0) hx hb hr rfl (fun t ht hW => ⟨⟨0, (), rfl, Or.inr ⟨rfl, fun h => hA_r1 (isK_of.mpr h)⟩, trivial⟩, hS.F ht⟩) hS.2.2 dX11_isKey_9

def own_c_manyOf : List Cond := [.methodLink RX11 89 yX11_of, .instanceMethod yX11_of, .selects RX11 yX11_of yX11_of, .initialized RX11]
def wp_c_manyOf : List Cond := .code yX11_manyOf cX11_manyOf 2 (some .int) :: (own_c_manyOf ++ (wp_c_of ++ ([] : List Cond)))
set_option maxRecDepth 20000 in
theorem inown_c_manyOf : ∀ w ∈ own_c_manyOf, w ∈ lw_tbl := mem_places [1400, 1402, 41, 115] (by decide +kernel)
set_option maxRecDepth 20000 in
theorem in_c_manyOf : ∀ w ∈ wp_c_manyOf, w ∈ lw_tbl := List.forall_mem_cons.mpr ⟨List.mem_of_getElem? (i := 1399) (by decide +kernel), List.forall_mem_append.mpr ⟨inown_c_manyOf, List.forall_mem_append.mpr ⟨in_c_of, fun _ h => absurd h List.not_mem_nil⟩⟩⟩
set_option maxRecDepth 20000 in
theorem good_c_manyOf : wp_c_manyOf.all goodWord = true := by decide +kernel
set_option maxRecDepth 20000 in
theorem g_c_manyOf_c_of_89 : GoodIn wp_c_manyOf (wsV RX11 89 RX11 yX11_of wp_c_of) := goodIn_sub (List.forall_mem_append.mpr ⟨List.forall_mem_cons.mpr ⟨(List.mem_of_getElem? (i := 1) rfl), List.forall_mem_cons.mpr ⟨(List.mem_of_getElem? (i := 2) rfl), List.forall_mem_cons.mpr ⟨(List.mem_of_getElem? (i := 3) rfl), List.forall_mem_cons.mpr ⟨(List.mem_of_getElem? (i := 4) rfl), fun _ h => absurd h List.not_mem_nil⟩⟩⟩⟩, (fun _ h => (List.mem_cons_of_mem _ (List.mem_append_right _ (List.mem_append_left _ h))))⟩) (by decide +kernel)
set_option maxHeartbeats 4000000 in
set_option maxRecDepth 100000 in
theorem c_manyOf (l : Launch) (D : va_G) (sz : Nat) (h0 : Nat) (a : Nat → Nat) (cm : Nat → ClassId) (i : Nat → Int32) (g : Nat → Int64) (fn : Nat → Int64) (k : Nat) (cn : Nat) (hk : k < 5) (h1 : fn (17 * k + 1) = lN cn) : Met l yX11_manyOf wp_c_manyOf ({ frames := 1, cells := 0, slots := 0, locals := 22 }) (PcR D [.ref h0, .int (nI k)] sz [(h0, .inr (11, gM a i g)), (a 3, .inl (cm 3, 85, .inr (.inl fn)))] [(cm 3, .long)]) (va_Qi (fun (r : Int32) (u : Unit) => r = nI cn) (fun (_ : Unit) _ => True) (va_A [] sz)) 0 0 (va_A [] sz) := by
  refine Met.ofW (cc := cX11_manyOf) (maxL := 2) (ret := (some .int)) (by decide) rfl ?_
  intro p e s m args below meth c s₁ B hml hv
  obtain ⟨rfl, hsz, hP, hK⟩ := hv
  have hx := B.exec
  have hb := B.bytes
  have hr := B.returns
  have hts := atoms_spec (ws := wp_c_manyOf) B.pre
  have hown : s.vm.findClass RX11 = some m.cls := findClass_of_methodNamed B.named
  have hlocks := B.notSynchronized
  subst hsz
  generalize hAe : va_A [] s.heap.size = A at ⊢
  have hA : ∀ q : Nat, s.heap.size ≤ q → A q := fun q h => by rw [← hAe]; exact Or.inr h
  have hS : va_S A s.heap s.heap [] := va_S.rf
  have hP : va_P D vwCl [(h0, .inr (11, gM a i g)), (a 3, .inl (cm 3, 85, .inr (.inl fn)))] s.heap := hP
  have hl := lv_entry ([.ref h0, .int (nI k)]) (n := 2) (Nat.le_of_ble_eq_true rfl)
  rw [lg_entry_eq]
  generalize (lg_sl ([.ref h0, .int (nI k)]) ++ List.replicate (2 - (lg_sl ([.ref h0, .int (nI k)])).length) Slot.unset).toArray = ls at hl ⊢
  have hl : lv_has ls 2 [(0, .ref h0), (1, .int (nI k))] := hl
  refine lv_aload_n hx hb dX11_manyOf_0 rfl (lv_at hl 0 rfl) ?_
  refine lv_iload_n hx hb dX11_manyOf_1 rfl (lv_at hl 1 rfl) ?_
  refine lv_iconst (v := 1) hx hb dX11_manyOf_2 (by decide) ?_
  have hPc := hP.sub (ws' := [(h0, .inr (11, gM a i g)), (a 3, .inl (cm 3, 85, .inr (.inl fn)))]) [0, 1] rfl
  have hKc := hK.sub (tys' := [(cm 3, .long)]) [0] rfl
  have hFc := va_free0 hS hA
  refine va_calll (va_runV (As := [.int (nI k), .int (nI 1)]) (rest := []) ⟨hx, hb, hml, hown, hts⟩ (c_of l D _ h0 a cm i g fn k 1 (by first | assumption | omega) (by first | assumption | omega)) (cwV 2 hts g_c_manyOf_c_of_89 rfl rfl rfl (by decide +kernel) ⟨(Nat.le_of_ble_eq_true rfl), (Nat.le_of_ble_eq_true rfl)⟩) (PcR_V (q0 := 0) hPc hKc rfl rfl) rfl rfl hl.1 rfl (lv_room (Nat.le_of_ble_eq_true rfl)) dX11_manyOf_3 ⟨(Nat.le_of_ble_eq_true rfl), (Nat.le_of_ble_eq_true rfl)⟩) hS (fun q _ h => hFc q h) hFc (fun r1 uu tt H locs htt hvm hw hB hz1 hk1 hS => ?_)
  have hP := va_keep hP hk1
  try dsimp only at hw
  clear hB hz1 hk1 hFc hPc hKc
  obtain rfl : r1 = fn (17 * k + 1) := hw
  refine lv_topl (fun v2 ev2 => ?_)
  obtain rfl : v2 = lN cn := ev2.trans (h1)
  refine lv_l2i hx hb dX11_manyOf_6 rfl ?_
  refine lv_topi (fun v3 ev3 => ?_)
  obtain rfl : v3 = nI cn := ev3.trans (lN_i cn)
  exact W.iret (v := nI cn) hx hb hr (fun t ht hW => ⟨⟨nI cn, (), rfl, rfl, trivial⟩, hS.F ht⟩) hS.2.2 dX11_manyOf_7

def own_c_buckets : List Cond := [.methodLink RX11 89 yX11_of, .instanceMethod yX11_of, .selects RX11 yX11_of yX11_of, .initialized RX11]
def wp_c_buckets : List Cond := .code yX11_buckets cX11_buckets 2 (some .int) :: (own_c_buckets ++ (wp_c_of ++ ([] : List Cond)))
set_option maxRecDepth 20000 in
theorem inown_c_buckets : ∀ w ∈ own_c_buckets, w ∈ lw_tbl := mem_places [1400, 1402, 41, 115] (by decide +kernel)
set_option maxRecDepth 20000 in
theorem in_c_buckets : ∀ w ∈ wp_c_buckets, w ∈ lw_tbl := List.forall_mem_cons.mpr ⟨List.mem_of_getElem? (i := 1429) (by decide +kernel), List.forall_mem_append.mpr ⟨inown_c_buckets, List.forall_mem_append.mpr ⟨in_c_of, fun _ h => absurd h List.not_mem_nil⟩⟩⟩
set_option maxRecDepth 20000 in
theorem good_c_buckets : wp_c_buckets.all goodWord = true := by decide +kernel
set_option maxRecDepth 20000 in
theorem g_c_buckets_c_of_89 : GoodIn wp_c_buckets (wsV RX11 89 RX11 yX11_of wp_c_of) := goodIn_sub (List.forall_mem_append.mpr ⟨List.forall_mem_cons.mpr ⟨(List.mem_of_getElem? (i := 1) rfl), List.forall_mem_cons.mpr ⟨(List.mem_of_getElem? (i := 2) rfl), List.forall_mem_cons.mpr ⟨(List.mem_of_getElem? (i := 3) rfl), List.forall_mem_cons.mpr ⟨(List.mem_of_getElem? (i := 4) rfl), fun _ h => absurd h List.not_mem_nil⟩⟩⟩⟩, (fun _ h => (List.mem_cons_of_mem _ (List.mem_append_right _ (List.mem_append_left _ h))))⟩) (by decide +kernel)
set_option maxHeartbeats 4000000 in
set_option maxRecDepth 100000 in
theorem c_buckets (l : Launch) (D : va_G) (sz : Nat) (h0 : Nat) (a : Nat → Nat) (cm : Nat → ClassId) (i : Nat → Int32) (g : Nat → Int64) (fn : Nat → Int64) (k : Nat) (n : Nat) (hk : k < 5) (h4 : fn (17 * k + 4) = lN n) : Met l yX11_buckets wp_c_buckets ({ frames := 1, cells := 0, slots := 0, locals := 22 }) (PcR D [.ref h0, .int (nI k)] sz [(h0, .inr (11, gM a i g)), (a 3, .inl (cm 3, 85, .inr (.inl fn)))] [(cm 3, .long)]) (va_Qi (fun (r : Int32) (u : Unit) => r = nI n) (fun (_ : Unit) _ => True) (va_A [] sz)) 0 0 (va_A [] sz) := by
  refine Met.ofW (cc := cX11_buckets) (maxL := 2) (ret := (some .int)) (by decide) rfl ?_
  intro p e s m args below meth c s₁ B hml hv
  obtain ⟨rfl, hsz, hP, hK⟩ := hv
  have hx := B.exec
  have hb := B.bytes
  have hr := B.returns
  have hts := atoms_spec (ws := wp_c_buckets) B.pre
  have hown : s.vm.findClass RX11 = some m.cls := findClass_of_methodNamed B.named
  have hlocks := B.notSynchronized
  subst hsz
  generalize hAe : va_A [] s.heap.size = A at ⊢
  have hA : ∀ q : Nat, s.heap.size ≤ q → A q := fun q h => by rw [← hAe]; exact Or.inr h
  have hS : va_S A s.heap s.heap [] := va_S.rf
  have hP : va_P D vwCl [(h0, .inr (11, gM a i g)), (a 3, .inl (cm 3, 85, .inr (.inl fn)))] s.heap := hP
  have hl := lv_entry ([.ref h0, .int (nI k)]) (n := 2) (Nat.le_of_ble_eq_true rfl)
  rw [lg_entry_eq]
  generalize (lg_sl ([.ref h0, .int (nI k)]) ++ List.replicate (2 - (lg_sl ([.ref h0, .int (nI k)])).length) Slot.unset).toArray = ls at hl ⊢
  have hl : lv_has ls 2 [(0, .ref h0), (1, .int (nI k))] := hl
  refine lv_aload_n hx hb dX11_buckets_0 rfl (lv_at hl 0 rfl) ?_
  refine lv_iload_n hx hb dX11_buckets_1 rfl (lv_at hl 1 rfl) ?_
  refine lv_iconst (v := 4) hx hb dX11_buckets_2 (by decide) ?_
  have hPc := hP.sub (ws' := [(h0, .inr (11, gM a i g)), (a 3, .inl (cm 3, 85, .inr (.inl fn)))]) [0, 1] rfl
  have hKc := hK.sub (tys' := [(cm 3, .long)]) [0] rfl
  have hFc := va_free0 hS hA
  refine va_calll (va_runV (As := [.int (nI k), .int (nI 4)]) (rest := []) ⟨hx, hb, hml, hown, hts⟩ (c_of l D _ h0 a cm i g fn k 4 (by first | assumption | omega) (by first | assumption | omega)) (cwV 2 hts g_c_buckets_c_of_89 rfl rfl rfl (by decide +kernel) ⟨(Nat.le_of_ble_eq_true rfl), (Nat.le_of_ble_eq_true rfl)⟩) (PcR_V (q0 := 0) hPc hKc rfl rfl) rfl rfl hl.1 rfl (lv_room (Nat.le_of_ble_eq_true rfl)) dX11_buckets_3 ⟨(Nat.le_of_ble_eq_true rfl), (Nat.le_of_ble_eq_true rfl)⟩) hS (fun q _ h => hFc q h) hFc (fun r1 uu tt H locs htt hvm hw hB hz1 hk1 hS => ?_)
  have hP := va_keep hP hk1
  try dsimp only at hw
  clear hB hz1 hk1 hFc hPc hKc
  obtain rfl : r1 = fn (17 * k + 4) := hw
  refine lv_topl (fun v2 ev2 => ?_)
  obtain rfl : v2 = lN n := ev2.trans (h4)
  refine lv_l2i hx hb dX11_buckets_6 rfl ?_
  refine lv_topi (fun v3 ev3 => ?_)
  obtain rfl : v3 = nI n := ev3.trans (lN_i n)
  exact W.iret (v := nI n) hx hb hr (fun t ht hW => ⟨⟨nI n, (), rfl, rfl, trivial⟩, hS.F ht⟩) hS.2.2 dX11_buckets_7

def own_c_placeOf : List Cond := [.constantLong RX11 103 (2147483647)]
def wp_c_placeOf : List Cond := .code yX11_placeOf cX11_placeOf 8 (some .int) :: (own_c_placeOf ++ ([] : List Cond))
set_option maxRecDepth 20000 in
theorem inown_c_placeOf : ∀ w ∈ own_c_placeOf, w ∈ lw_tbl := mem_places [1421] (by decide +kernel)
set_option maxRecDepth 20000 in
theorem in_c_placeOf : ∀ w ∈ wp_c_placeOf, w ∈ lw_tbl := List.forall_mem_cons.mpr ⟨List.mem_of_getElem? (i := 1436) (by decide +kernel), List.forall_mem_append.mpr ⟨inown_c_placeOf, fun _ h => absurd h List.not_mem_nil⟩⟩
set_option maxRecDepth 20000 in
theorem good_c_placeOf : wp_c_placeOf.all goodWord = true := by decide +kernel
set_option maxHeartbeats 4000000 in
set_option maxRecDepth 100000 in
theorem c_placeOf (l : Launch) (D : va_G) (sz : Nat) (ka : Nat) (kb : Nat) (kx : Nat) (q : Nat) (hA0 : ka < 2147483647) (hB0 : kb < 2147483647) (hx0 : kx < 2147483648) (hq0 : 0 < q) (hq1 : q < 2147483648) : Met l yX11_placeOf wp_c_placeOf ({ frames := 0, cells := 0, slots := 0, locals := 0 }) (PcR D [.long (lN ka), .long (lN kb), .long (lN kx), .long (lN q)] sz [] []) (va_Qi (fun (r : Int32) (_ : Unit) => r = nI ((ka * kx + kb) % 2147483647 % q)) (fun (_ : Unit) _ => True) (va_A [] sz)) 0 0 (va_A [] sz) := by
  refine Met.ofW (cc := cX11_placeOf) (maxL := 8) (ret := (some .int)) (by decide) rfl ?_
  intro p e s m args below meth c s₁ B hml hv
  obtain ⟨rfl, hsz, hP, hK⟩ := hv
  have hx := B.exec
  have hb := B.bytes
  have hr := B.returns
  have hts := atoms_spec (ws := wp_c_placeOf) B.pre
  have hown : s.vm.findClass RX11 = some m.cls := findClass_of_methodNamed B.named
  have hlocks := B.notSynchronized
  subst hsz
  generalize hAe : va_A [] s.heap.size = A at ⊢
  have hA : ∀ q : Nat, s.heap.size ≤ q → A q := fun q h => by rw [← hAe]; exact Or.inr h
  have hS : va_S A s.heap s.heap [] := va_S.rf
  have hP : va_P D vwCl [] s.heap := hP
  have hl := lv_entry ([.long (lN ka), .long (lN kb), .long (lN kx), .long (lN q)]) (n := 8) (Nat.le_of_ble_eq_true rfl)
  rw [lg_entry_eq]
  generalize (lg_sl ([.long (lN ka), .long (lN kb), .long (lN kx), .long (lN q)]) ++ List.replicate (8 - (lg_sl ([.long (lN ka), .long (lN kb), .long (lN kx), .long (lN q)])).length) Slot.unset).toArray = ls at hl ⊢
  have hl : lv_has ls 8 [(0, .long (lN ka)), (2, .long (lN kb)), (4, .long (lN kx)), (6, .long (lN q))] := hl
  refine lv_lload_n hx hb dX11_placeOf_0 rfl (lv_at hl 0 rfl) ?_
  refine lv_lload hx hb dX11_placeOf_1 (lv_at hl 2 rfl) ?_
  refine lv_lmul hx hb dX11_placeOf_3 ?_
  refine lv_topl (fun v1 ev1 => ?_)
  obtain rfl : v1 = lN (ka * kx) := ev1.trans (lN_mul ka kx)
  refine lv_lload_n hx hb dX11_placeOf_4 rfl (lv_at hl 1 rfl) ?_
  refine lv_ladd hx hb dX11_placeOf_5 ?_
  refine lv_topl (fun v2 ev2 => ?_)
  obtain rfl : v2 = lN (ka * kx + kb) := ev2.trans (lN_add _ _)
  refine lv_ldc2 (v := 2147483647) hx hb hown (hts (.constantLong RX11 103 (2147483647)) (List.mem_of_getElem? (i := 1) rfl)) dX11_placeOf_6 ?_
  refine lv_lrem hx hb dX11_placeOf_9 (by decide) ?_
  refine lv_topl (fun v3 ev3 => ?_)
  obtain rfl : v3 = lN ((ka * kx + kb) % 2147483647) := ev3.trans (pl_rem hA0 hB0 hx0)
  refine lv_lload hx hb dX11_placeOf_10 (lv_at hl 3 rfl) ?_
  refine lv_lrem hx hb dX11_placeOf_12 (pl_ne hq0 hq1) ?_
  refine lv_topl (fun v4 ev4 => ?_)
  obtain rfl : v4 = lN ((ka * kx + kb) % 2147483647 % q) := ev4.trans (pk_lRem (Nat.lt_trans (Nat.mod_lt _ (by decide)) (by decide)) hq0 (by omega))
  refine lv_l2i hx hb dX11_placeOf_13 rfl ?_
  refine lv_topi (fun v5 ev5 => ?_)
  obtain rfl : v5 = nI ((ka * kx + kb) % 2147483647 % q) := ev5.trans (lN_i _)
  exact W.iret (v := nI ((ka * kx + kb) % 2147483647 % q)) hx hb hr (fun t ht hW => ⟨⟨nI ((ka * kx + kb) % 2147483647 % q), (), rfl, rfl, trivial⟩, hS.F ht⟩) hS.2.2 dX11_placeOf_14

def own_c_draw : List Cond := [.fieldLink RX11 105 "ClashFreeModel" "seed" "J", .constantLong RX11 109 (6364136223846793005), .constantLong RX11 111 (1442695040888963407)]
def wp_c_draw : List Cond := .code yX11_draw cX11_draw 3 (some .long) :: (own_c_draw ++ (wsX110 ++ ([] : List Cond)))
set_option maxRecDepth 20000 in
theorem inown_c_draw : ∀ w ∈ own_c_draw, w ∈ lw_tbl := mem_places [1228, 1419, 1420] (by decide +kernel)
set_option maxRecDepth 20000 in
theorem in_c_draw : ∀ w ∈ wp_c_draw, w ∈ lw_tbl := List.forall_mem_cons.mpr ⟨List.mem_of_getElem? (i := 1418) (by decide +kernel), List.forall_mem_append.mpr ⟨inown_c_draw, List.forall_mem_append.mpr ⟨lwb_X11, fun _ h => absurd h List.not_mem_nil⟩⟩⟩
set_option maxRecDepth 20000 in
theorem good_c_draw : wp_c_draw.all goodWord = true := by decide +kernel
set_option maxHeartbeats 4000000 in
set_option maxRecDepth 100000 in
theorem c_draw (l : Launch) (D : va_G) (sz : Nat) (h0 : Nat) (a : Nat → Nat) (cm : Nat → ClassId) (i : Nat → Int32) (g : Nat → Int64) (am : Nat) (h0m : 0 < am) (h1m : am < 2147483648) : Met l yX11_draw wp_c_draw ({ frames := 0, cells := 0, slots := 0, locals := 0 }) (PcW D [.ref h0, .long (lN am)] sz [(h0, .inr (11, gM a i g))] []) (va_Ql (fun (r : Int64) (u : (Int64)) => r = lN (hi33 (nxS (g 12)) % am) ∧ u = nxS (g 12)) (fun (u : (Int64)) t => va_P D vwCl [(h0, .inr (11, gM a i (vp_updL g 12 u)))] t.heap ∧ va_K D vwCl [] t ∧ va_D (va_A [(h0, .inr (11, gM a i g))] sz) [(h0, .inr (11, gM a i (vp_updL g 12 u)))]) (va_A [(h0, .inr (11, gM a i g))] sz)) 0 0 (va_A [(h0, .inr (11, gM a i g))] sz) := by
  refine Met.ofW (cc := cX11_draw) (maxL := 3) (ret := (some .long)) (by decide) rfl ?_
  intro p e s m args below meth c s₁ B hml hv
  obtain ⟨rfl, hsz, hP, hK, hD0⟩ := hv
  have hx := B.exec
  have hb := B.bytes
  have hr := B.returns
  have hts := atoms_spec (ws := wp_c_draw) B.pre
  have hin_X11 : ∀ w ∈ wsX110, w ∈ wp_c_draw := fun _ h => (List.mem_cons_of_mem _ (List.mem_append_right _ (List.mem_append_left _ h)))
  have hown : s.vm.findClass RX11 = some m.cls := findClass_of_methodNamed B.named
  have hlocks := B.notSynchronized
  subst hsz
  have hD := hD0.self (sz := s.heap.size)
  generalize hAe : va_A [(h0, .inr (11, gM a i g))] s.heap.size = A at hD ⊢
  have hA : ∀ q : Nat, s.heap.size ≤ q → A q := fun q h => by rw [← hAe]; exact Or.inr h
  have hS : va_S A s.heap s.heap [] := va_S.rf
  have hP : va_P D vwCl [(h0, .inr (11, gM a i g))] s.heap := hP
  have hl := lv_entry ([.ref h0, .long (lN am)]) (n := 3) (Nat.le_of_ble_eq_true rfl)
  rw [lg_entry_eq]
  generalize (lg_sl ([.ref h0, .long (lN am)]) ++ List.replicate (3 - (lg_sl ([.ref h0, .long (lN am)])).length) Slot.unset).toArray = ls at hl ⊢
  have hl : lv_has ls 3 [(0, .ref h0), (1, .long (lN am))] := hl
  refine lv_aload_n hx hb dX11_draw_0 rfl (lv_at hl 0 rfl) ?_
  refine lv_aload_n hx hb dX11_draw_1 rfl (lv_at hl 0 rfl) ?_
  refine va_get (D := D) (ci := 11) (v := .long (g 12)) (C := RX11) (T := TX11) (N := 47) hx hb hts hin_X11 hown hK hP 0 rfl rfl 12 (by decide) (hts (.fieldLink RX11 105 "ClashFreeModel" "seed" "J") (List.mem_of_getElem? (i := 1) rfl)) (fun _ h9 => h9) rfl dX11_draw_2 ?_
  refine lv_ldc2 (v := 6364136223846793005) hx hb hown (hts (.constantLong RX11 109 (6364136223846793005)) (List.mem_of_getElem? (i := 2) rfl)) dX11_draw_5 ?_
  refine lv_lmul hx hb dX11_draw_8 ?_
  refine lv_ldc2 (v := 1442695040888963407) hx hb hown (hts (.constantLong RX11 111 (1442695040888963407)) (List.mem_of_getElem? (i := 3) rfl)) dX11_draw_9 ?_
  refine lv_ladd hx hb dX11_draw_12 ?_
  refine lv_topl (fun v1 ev1 => ?_)
  obtain rfl : v1 = nxS (g 12) := ev1.trans (rfl)
  refine va_put (D := D) (ci := 11) (v := .long (nxS (g 12))) (ty := .long) (C := RX11) (T := TX11) (N := 47) hx hb hts hin_X11 tyX11 tyX11_ok nmX11 hown hK hP hD hS 0 rfl rfl 12 (by decide) (hts (.fieldLink RX11 105 "ClashFreeModel" "seed" "J") (List.mem_of_getElem? (i := 1) rfl)) (fun _ h9 => h9) rfl (by decide +kernel) rfl rfl (Nat.le_of_ble_eq_true rfl) dX11_draw_13 (fun H locs hP hD hS => ?_)
  have hP : va_P D vwCl [(h0, .inr (11, gM a i (vp_updL g 12 (nxS (g 12)))))] H := hP
  have hD : va_D A [(h0, .inr (11, gM a i (vp_updL g 12 (nxS (g 12)))))] := hD
  refine lv_aload_n hx hb dX11_draw_16 rfl (lv_at hl 0 rfl) ?_
  refine va_get (D := D) (ci := 11) (v := .long (nxS (g 12))) (C := RX11) (T := TX11) (N := 47) hx hb hts hin_X11 hown hK hP 0 rfl rfl 12 (by decide) (hts (.fieldLink RX11 105 "ClashFreeModel" "seed" "J") (List.mem_of_getElem? (i := 1) rfl)) (fun _ h9 => h9) rfl dX11_draw_17 ?_
  refine lv_bipush (v := 33) hx hb dX11_draw_20 (by decide) ?_
  refine lv_lushr hx hb dX11_draw_22 rfl ?_
  refine lv_topl (fun v2 ev2 => ?_)
  obtain rfl : v2 = lN (hi33 (nxS (g 12))) := ev2.trans (sh33 _)
  refine lv_lload_n hx hb dX11_draw_23 rfl (lv_at hl 1 rfl) ?_
  refine lv_lrem hx hb dX11_draw_24 (pl_ne h0m h1m) ?_
  refine lv_topl (fun v3 ev3 => ?_)
  obtain rfl : v3 = lN (hi33 (nxS (g 12)) % am) := ev3.trans (pk_lRem (sh33_lt _) h0m (by omega))
  exact W.lret (v := lN (hi33 (nxS (g 12)) % am)) hx hb hr (fun t ht hW => ⟨⟨lN (hi33 (nxS (g 12)) % am), (nxS (g 12)), rfl, ⟨rfl, rfl⟩, by rw [ht]; exact hP.sub [0] rfl, va_K.moved hW.alike (hK.sub [] rfl), hD.sub [0] (by decide) rfl⟩, hS.F ht⟩) hS.2.2 dX11_draw_25

def own_c_drawsPair : List Cond := [.constantLong RX11 93 (2147483646), .methodLink RX11 113 yX11_draw, .instanceMethod yX11_draw, .selects RX11 yX11_draw yX11_draw, .initialized RX11, .fieldLink RX11 117 "ClashFreeModel" "pairA" "J", .constantLong RX11 103 (2147483647), .fieldLink RX11 120 "ClashFreeModel" "pairB" "J", .fieldLink RX11 123 "ClashFreeModel" "drawn" "I"]
def wp_c_drawsPair : List Cond := .code yX11_drawsPair cX11_drawsPair 1 none :: (own_c_drawsPair ++ (wp_c_draw ++ (wsX110 ++ ([] : List Cond))))
set_option maxRecDepth 20000 in
theorem inown_c_drawsPair : ∀ w ∈ own_c_drawsPair, w ∈ lw_tbl := mem_places [1414, 1415, 1417, 44, 115, 1229, 1421, 1230, 1231] (by decide +kernel)
set_option maxRecDepth 20000 in
theorem in_c_drawsPair : ∀ w ∈ wp_c_drawsPair, w ∈ lw_tbl := List.forall_mem_cons.mpr ⟨List.mem_of_getElem? (i := 1413) (by decide +kernel), List.forall_mem_append.mpr ⟨inown_c_drawsPair, List.forall_mem_append.mpr ⟨in_c_draw, List.forall_mem_append.mpr ⟨lwb_X11, fun _ h => absurd h List.not_mem_nil⟩⟩⟩⟩
set_option maxRecDepth 20000 in
theorem good_c_drawsPair : wp_c_drawsPair.all goodWord = true := by decide +kernel
set_option maxRecDepth 20000 in
theorem g_c_drawsPair_c_draw_113 : GoodIn wp_c_drawsPair (wsV RX11 113 RX11 yX11_draw wp_c_draw) := goodIn_sub (List.forall_mem_append.mpr ⟨List.forall_mem_cons.mpr ⟨(List.mem_of_getElem? (i := 2) rfl), List.forall_mem_cons.mpr ⟨(List.mem_of_getElem? (i := 3) rfl), List.forall_mem_cons.mpr ⟨(List.mem_of_getElem? (i := 4) rfl), List.forall_mem_cons.mpr ⟨(List.mem_of_getElem? (i := 5) rfl), fun _ h => absurd h List.not_mem_nil⟩⟩⟩⟩, (fun _ h => (List.mem_cons_of_mem _ (List.mem_append_right _ (List.mem_append_left _ h))))⟩) (by decide +kernel)
set_option maxHeartbeats 4000000 in
set_option maxRecDepth 100000 in
theorem c_drawsPair (l : Launch) (D : va_G) (sz : Nat) (h0 : Nat) (a : Nat → Nat) (cm : Nat → ClassId) (i : Nat → Int32) (g : Nat → Int64)  : Met l yX11_drawsPair wp_c_drawsPair ({ frames := 1, cells := 0, slots := 0, locals := 22 }) (PcW D [.ref h0] sz [(h0, .inr (11, gM a i g))] []) (va_Qv (fun (u : (Int64) × (Int64) × (Int64) × (Int32)) => u.1 = sdn (g 12) ∧ (∃ ka kb : Nat, u.2.1 = lN ka ∧ u.2.2.1 = lN kb ∧ ka < 2147483647 ∧ kb < 2147483647 ∧ ka = aOf (g 12)) ∧ u.2.2.2 = i 15 + 1) (fun (u : (Int64) × (Int64) × (Int64) × (Int32)) t => va_P D vwCl [(h0, .inr (11, gM a (upd i 15 u.2.2.2) (vp_updL (vp_updL (vp_updL (fun _ => 0) 12 u.1) 13 u.2.1) 14 u.2.2.1)))] t.heap ∧ va_K D vwCl [] t ∧ va_D (va_A [(h0, .inr (11, gM a i g))] sz) [(h0, .inr (11, gM a (upd i 15 u.2.2.2) (vp_updL (vp_updL (vp_updL (fun _ => 0) 12 u.1) 13 u.2.1) 14 u.2.2.1)))]) (va_A [(h0, .inr (11, gM a i g))] sz)) 0 0 (va_A [(h0, .inr (11, gM a i g))] sz) := by
  refine Met.ofW (cc := cX11_drawsPair) (maxL := 1) (ret := none) (by decide) rfl ?_
  intro p e s m args below meth c s₁ B hml hv
  obtain ⟨rfl, hsz, hP, hK, hD0⟩ := hv
  have hx := B.exec
  have hb := B.bytes
  have hr := B.returns
  have hts := atoms_spec (ws := wp_c_drawsPair) B.pre
  have hin_X11 : ∀ w ∈ wsX110, w ∈ wp_c_drawsPair := fun _ h => (List.mem_cons_of_mem _ (List.mem_append_right _ (List.mem_append_right _ (List.mem_append_left _ h))))
  have hown : s.vm.findClass RX11 = some m.cls := findClass_of_methodNamed B.named
  have hlocks := B.notSynchronized
  subst hsz
  have hD := hD0.self (sz := s.heap.size)
  generalize hAe : va_A [(h0, .inr (11, gM a i g))] s.heap.size = A at hD ⊢
  have hA : ∀ q : Nat, s.heap.size ≤ q → A q := fun q h => by rw [← hAe]; exact Or.inr h
  have hS : va_S A s.heap s.heap [] := va_S.rf
  have hP : va_P D vwCl [(h0, .inr (11, gM a i g))] s.heap := hP
  have hl := lv_entry ([.ref h0]) (n := 1) (Nat.le_of_ble_eq_true rfl)
  rw [lg_entry_eq]
  generalize (lg_sl ([.ref h0]) ++ List.replicate (1 - (lg_sl ([.ref h0])).length) Slot.unset).toArray = ls at hl ⊢
  have hl : lv_has ls 1 [(0, .ref h0)] := hl
  refine lv_aload_n hx hb dX11_drawsPair_0 rfl (lv_at hl 0 rfl) ?_
  refine lv_lconst (v := 1) hx hb dX11_drawsPair_1 (by decide) ?_
  refine lv_aload_n hx hb dX11_drawsPair_2 rfl (lv_at hl 0 rfl) ?_
  refine lv_ldc2 (v := 2147483646) hx hb hown (hts (.constantLong RX11 93 (2147483646)) (List.mem_of_getElem? (i := 1) rfl)) dX11_drawsPair_3 ?_
  have hPc := hP.sub (ws' := [(h0, .inr (11, gM a i g))]) [0] rfl
  have hKc := hK.sub (tys' := []) [] rfl
  have hDc := hD.sub (ws' := [(h0, .inr (11, gM a i g))]) [0] (by decide) rfl
  have hFc := va_free (wc := [(h0, .inr (11, gM a i g))]) hD hS hA [0] rfl
  refine va_calll (va_runV (As := [.long (lN 2147483646)]) (rest := [.long 1, .ref h0]) ⟨hx, hb, hml, hown, hts⟩ (c_draw l D _ h0 a cm i g 2147483646 (by first | assumption | omega) (by first | assumption | omega)) (cwV 1 hts g_c_drawsPair_c_draw_113 rfl rfl rfl (by decide +kernel) ⟨(Nat.le_of_ble_eq_true rfl), (Nat.le_of_ble_eq_true rfl)⟩) (PcW_V (q0 := 0) hPc hKc hDc rfl rfl) rfl rfl hl.1 rfl (lv_room (Nat.le_of_ble_eq_true rfl)) dX11_drawsPair_6 ⟨(Nat.le_of_ble_eq_true rfl), (Nat.le_of_ble_eq_true rfl)⟩) hS (fun q _ h => hFc q h) hFc (fun r1 uu tt H locs htt hvm hw hB hz1 hk1 hS => ?_)
  obtain ⟨w2, rfl⟩ : ∃ z, z = uu := ⟨_, rfl⟩
  obtain ⟨hP1, hK1, hD1⟩ := hB
  rw [htt] at hP1
  have hK1 := va_K.moved hvm.symm hK1
  have hP1 : va_P D vwCl [(h0, .inr (11, gM a i (vp_updL g 12 w2)))] H := hP1
  obtain ⟨hP, hD⟩ := va_join (wr := []) (w1 := [(h0, .inr (11, gM a i (vp_updL g 12 w2)))]) hP hD [0] [] rfl rfl (by decide) (by decide) hk1 hFc hP1 hD1
  have hP : va_P D vwCl [(h0, .inr (11, gM a i (vp_updL g 12 w2)))] H := hP
  have hD : va_D A [(h0, .inr (11, gM a i (vp_updL g 12 w2)))] := hD
  try dsimp only at hw
  clear hz1 hk1 hFc hPc hKc hDc
  obtain ⟨hr_r1, hs_r1⟩ := hw
  have hs_r1 : w2 = nxS (g 12) := hs_r1
  obtain ⟨n_r1, en_r1, rfl⟩ : ∃ n : Nat, n = hi33 (nxS (g 12)) % 2147483646 ∧ r1 = lN n := ⟨_, rfl, hr_r1⟩
  refine lv_ladd hx hb dX11_drawsPair_9 ?_
  refine lv_topl (fun v3 ev3 => ?_)
  obtain rfl : v3 = lN (1 + n_r1) := ev3.trans (lN_add 1 _)
  refine va_put (D := D) (ci := 11) (v := .long (lN (1 + n_r1))) (ty := .long) (C := RX11) (T := TX11) (N := 47) hx hb hts hin_X11 tyX11 tyX11_ok nmX11 hown hK hP hD hS 0 rfl rfl 13 (by decide) (hts (.fieldLink RX11 117 "ClashFreeModel" "pairA" "J") (List.mem_of_getElem? (i := 6) rfl)) (fun _ h9 => h9) rfl (by decide +kernel) rfl rfl (Nat.le_of_ble_eq_true rfl) dX11_drawsPair_10 (fun H locs hP hD hS => ?_)
  have hP : va_P D vwCl [(h0, .inr (11, gM a i (vp_updL (vp_updL g 12 w2) 13 (lN (1 + n_r1)))))] H := hP
  have hD : va_D A [(h0, .inr (11, gM a i (vp_updL (vp_updL g 12 w2) 13 (lN (1 + n_r1)))))] := hD
  refine lv_aload_n hx hb dX11_drawsPair_13 rfl (lv_at hl 0 rfl) ?_
  refine lv_aload_n hx hb dX11_drawsPair_14 rfl (lv_at hl 0 rfl) ?_
  refine lv_ldc2 (v := 2147483647) hx hb hown (hts (.constantLong RX11 103 (2147483647)) (List.mem_of_getElem? (i := 7) rfl)) dX11_drawsPair_15 ?_
  have hPc := hP.sub (ws' := [(h0, .inr (11, gM a i (vp_updL (vp_updL g 12 w2) 13 (lN (1 + n_r1)))))]) [0] rfl
  have hKc := hK.sub (tys' := []) [] rfl
  have hDc := hD.sub (ws' := [(h0, .inr (11, gM a i (vp_updL (vp_updL g 12 w2) 13 (lN (1 + n_r1)))))]) [0] (by decide) rfl
  have hFc := va_free (wc := [(h0, .inr (11, gM a i (vp_updL (vp_updL g 12 w2) 13 (lN (1 + n_r1)))))]) hD hS hA [0] rfl
  refine va_calll (va_runV (As := [.long (lN 2147483647)]) (rest := [.ref h0]) ⟨hx, hb, hml, hown, hts⟩ (c_draw l D _ h0 a cm i (vp_updL (vp_updL g 12 w2) 13 (lN (1 + n_r1))) 2147483647 (by first | assumption | omega) (by first | assumption | omega)) (cwV 1 hts g_c_drawsPair_c_draw_113 rfl rfl rfl (by decide +kernel) ⟨(Nat.le_of_ble_eq_true rfl), (Nat.le_of_ble_eq_true rfl)⟩) (PcW_V (q0 := 0) hPc hKc hDc rfl rfl) rfl rfl hl.1 rfl (lv_room (Nat.le_of_ble_eq_true rfl)) dX11_drawsPair_18 ⟨(Nat.le_of_ble_eq_true rfl), (Nat.le_of_ble_eq_true rfl)⟩) hS (fun q _ h => hFc q h) hFc (fun r4 uu tt H locs htt hvm hw hB hz1 hk1 hS => ?_)
  obtain ⟨w5, rfl⟩ : ∃ z, z = uu := ⟨_, rfl⟩
  obtain ⟨hP1, hK1, hD1⟩ := hB
  rw [htt] at hP1
  have hK1 := va_K.moved hvm.symm hK1
  have hP1 : va_P D vwCl [(h0, .inr (11, gM a i (vp_updL (vp_updL g 12 w5) 13 (lN (1 + n_r1)))))] H := hP1
  obtain ⟨hP, hD⟩ := va_join (wr := []) (w1 := [(h0, .inr (11, gM a i (vp_updL (vp_updL g 12 w5) 13 (lN (1 + n_r1)))))]) hP hD [0] [] rfl rfl (by decide) (by decide) hk1 hFc hP1 hD1
  have hP : va_P D vwCl [(h0, .inr (11, gM a i (vp_updL (vp_updL g 12 w5) 13 (lN (1 + n_r1)))))] H := hP
  have hD : va_D A [(h0, .inr (11, gM a i (vp_updL (vp_updL g 12 w5) 13 (lN (1 + n_r1)))))] := hD
  try dsimp only at hw
  clear hz1 hk1 hFc hPc hKc hDc
  obtain ⟨hr_r4, hs_r4⟩ := hw
  have hs_r4 : w5 = nxS w2 := hs_r4
  obtain ⟨n_r4, en_r4, rfl⟩ : ∃ n : Nat, n = hi33 (nxS w2) % 2147483647 ∧ r4 = lN n := ⟨_, rfl, hr_r4⟩
  refine va_put (D := D) (ci := 11) (v := .long (lN n_r4)) (ty := .long) (C := RX11) (T := TX11) (N := 47) hx hb hts hin_X11 tyX11 tyX11_ok nmX11 hown hK hP hD hS 0 rfl rfl 14 (by decide) (hts (.fieldLink RX11 120 "ClashFreeModel" "pairB" "J") (List.mem_of_getElem? (i := 8) rfl)) (fun _ h9 => h9) rfl (by decide +kernel) rfl rfl (Nat.le_of_ble_eq_true rfl) dX11_drawsPair_21 (fun H locs hP hD hS => ?_)
  have hP : va_P D vwCl [(h0, .inr (11, gM a i (vp_updL (vp_updL (vp_updL (fun _ => 0) 12 w5) 13 (lN (1 + n_r1))) 14 (lN n_r4))))] H := hP
  have hD : va_D A [(h0, .inr (11, gM a i (vp_updL (vp_updL (vp_updL (fun _ => 0) 12 w5) 13 (lN (1 + n_r1))) 14 (lN n_r4))))] := hD
  refine lv_aload_n hx hb dX11_drawsPair_24 rfl (lv_at hl 0 rfl) ?_
  refine lv_dup hx hb dX11_drawsPair_25 rfl ?_
  refine va_get (D := D) (ci := 11) (v := .int (i 15)) (C := RX11) (T := TX11) (N := 47) hx hb hts hin_X11 hown hK hP 0 rfl rfl 15 (by decide) (hts (.fieldLink RX11 123 "ClashFreeModel" "drawn" "I") (List.mem_of_getElem? (i := 9) rfl)) (fun _ h9 => h9) rfl dX11_drawsPair_26 ?_
  refine lv_iconst (v := 1) hx hb dX11_drawsPair_29 (by decide) ?_
  refine lv_iadd hx hb dX11_drawsPair_30 ?_
  refine va_put (D := D) (ci := 11) (v := .int ((i 15) + 1)) (ty := .int) (C := RX11) (T := TX11) (N := 47) hx hb hts hin_X11 tyX11 tyX11_ok nmX11 hown hK hP hD hS 0 rfl rfl 15 (by decide) (hts (.fieldLink RX11 123 "ClashFreeModel" "drawn" "I") (List.mem_of_getElem? (i := 9) rfl)) (fun _ h9 => h9) rfl (by decide +kernel) rfl rfl (Nat.le_of_ble_eq_true rfl) dX11_drawsPair_31 (fun H locs hP hD hS => ?_)
  have hP : va_P D vwCl [(h0, .inr (11, gM a (upd i 15 ((i 15) + 1)) (vp_updL (vp_updL (vp_updL (fun _ => 0) 12 w5) 13 (lN (1 + n_r1))) 14 (lN n_r4))))] H := hP
  have hD : va_D A [(h0, .inr (11, gM a (upd i 15 ((i 15) + 1)) (vp_updL (vp_updL (vp_updL (fun _ => 0) 12 w5) 13 (lN (1 + n_r1))) 14 (lN n_r4))))] := hD
  exact W.vret hx hb hr (fun t ht hW => ⟨⟨(w5, (lN (1 + n_r1)), (lN n_r4), ((i 15) + 1)), rfl, ⟨by unfold sdn; rw [hs_r4, hs_r1], ⟨_, _, rfl, rfl, by rw [en_r1]; exact dp_lt1 _, by rw [en_r4]; exact dp_lt2 _, by unfold aOf; rw [en_r1]⟩, rfl⟩, by rw [ht]; exact hP.sub [0] rfl, va_K.moved hW.alike (hK.sub [] rfl), hD.sub [0] (by decide) rfl⟩, hS.F ht⟩) hS.2.2 dX11_drawsPair_34

