theorem dX10_count_0 : decode cX10_count 0 = .ok (.iload_n 1, 1) := by decide +kernel
theorem dX10_count_1 : decode cX10_count 1 = .ok (.tableswitch 42 0 2 #[27, 32, 37], 27) := by decide +kernel
theorem dX10_count_28 : decode cX10_count 28 = .ok (.aload_n 0, 1) := by decide +kernel
theorem dX10_count_29 : decode cX10_count 29 = .ok (.invokevirtual 345, 3) := by decide +kernel
theorem dX10_count_32 : decode cX10_count 32 = .ok (.ireturn, 1) := by decide +kernel
theorem dX10_count_33 : decode cX10_count 33 = .ok (.aload_n 0, 1) := by decide +kernel
theorem dX10_count_34 : decode cX10_count 34 = .ok (.invokevirtual 348, 3) := by decide +kernel
theorem dX10_count_37 : decode cX10_count 37 = .ok (.ireturn, 1) := by decide +kernel
theorem dX10_count_38 : decode cX10_count 38 = .ok (.aload_n 0, 1) := by decide +kernel
theorem dX10_count_39 : decode cX10_count 39 = .ok (.getfield 19, 3) := by decide +kernel
theorem dX10_count_42 : decode cX10_count 42 = .ok (.ireturn, 1) := by decide +kernel
theorem dX10_count_43 : decode cX10_count 43 = .ok (.iconst (-1), 1) := by decide +kernel
theorem dX10_count_44 : decode cX10_count 44 = .ok (.ireturn, 1) := by decide +kernel
theorem dX10_countTables_0 : decode cX10_countTables 0 = .ok (.iconst 0, 1) := by decide +kernel
theorem dX10_countTables_1 : decode cX10_countTables 1 = .ok (.istore_n 1, 1) := by decide +kernel
theorem dX10_countTables_2 : decode cX10_countTables 2 = .ok (.iconst 0, 1) := by decide +kernel
theorem dX10_countTables_3 : decode cX10_countTables 3 = .ok (.istore_n 2, 1) := by decide +kernel
theorem dX10_countTables_4 : decode cX10_countTables 4 = .ok (.iload_n 2, 1) := by decide +kernel
theorem dX10_countTables_5 : decode cX10_countTables 5 = .ok (.iconst 4, 1) := by decide +kernel
theorem dX10_countTables_6 : decode cX10_countTables 6 = .ok (.if_icmp .ge 21, 3) := by decide +kernel
theorem dX10_countTables_9 : decode cX10_countTables 9 = .ok (.aload_n 0, 1) := by decide +kernel
theorem dX10_countTables_10 : decode cX10_countTables 10 = .ok (.getfield 11, 3) := by decide +kernel
theorem dX10_countTables_13 : decode cX10_countTables 13 = .ok (.iload_n 2, 1) := by decide +kernel
theorem dX10_countTables_14 : decode cX10_countTables 14 = .ok (.aaload, 1) := by decide +kernel
theorem dX10_countTables_15 : decode cX10_countTables 15 = .ok (.ifnull 6, 3) := by decide +kernel
theorem dX10_countTables_18 : decode cX10_countTables 18 = .ok (.iinc 1 1, 3) := by decide +kernel
theorem dX10_countTables_21 : decode cX10_countTables 21 = .ok (.iinc 2 1, 3) := by decide +kernel
theorem dX10_countTables_24 : decode cX10_countTables 24 = .ok (.goto (-20), 3) := by decide +kernel
theorem dX10_countTables_27 : decode cX10_countTables 27 = .ok (.iload_n 1, 1) := by decide +kernel
theorem dX10_countTables_28 : decode cX10_countTables 28 = .ok (.ireturn, 1) := by decide +kernel
theorem dX10_countKeys_0 : decode cX10_countKeys 0 = .ok (.iconst 0, 1) := by decide +kernel
theorem dX10_countKeys_1 : decode cX10_countKeys 1 = .ok (.istore_n 1, 1) := by decide +kernel
theorem dX10_countKeys_2 : decode cX10_countKeys 2 = .ok (.iconst 0, 1) := by decide +kernel
theorem dX10_countKeys_3 : decode cX10_countKeys 3 = .ok (.istore_n 2, 1) := by decide +kernel
theorem dX10_countKeys_4 : decode cX10_countKeys 4 = .ok (.iload_n 2, 1) := by decide +kernel
theorem dX10_countKeys_5 : decode cX10_countKeys 5 = .ok (.iconst 4, 1) := by decide +kernel
theorem dX10_countKeys_6 : decode cX10_countKeys 6 = .ok (.if_icmp .ge 33, 3) := by decide +kernel
theorem dX10_countKeys_9 : decode cX10_countKeys 9 = .ok (.aload_n 0, 1) := by decide +kernel
theorem dX10_countKeys_10 : decode cX10_countKeys 10 = .ok (.getfield 11, 3) := by decide +kernel
theorem dX10_countKeys_13 : decode cX10_countKeys 13 = .ok (.iload_n 2, 1) := by decide +kernel
theorem dX10_countKeys_14 : decode cX10_countKeys 14 = .ok (.aaload, 1) := by decide +kernel
theorem dX10_countKeys_15 : decode cX10_countKeys 15 = .ok (.ifnull 18, 3) := by decide +kernel
theorem dX10_countKeys_18 : decode cX10_countKeys 18 = .ok (.iload_n 1, 1) := by decide +kernel
theorem dX10_countKeys_19 : decode cX10_countKeys 19 = .ok (.aload_n 0, 1) := by decide +kernel
theorem dX10_countKeys_20 : decode cX10_countKeys 20 = .ok (.getfield 11, 3) := by decide +kernel
theorem dX10_countKeys_23 : decode cX10_countKeys 23 = .ok (.iload_n 2, 1) := by decide +kernel
theorem dX10_countKeys_24 : decode cX10_countKeys 24 = .ok (.aaload, 1) := by decide +kernel
theorem dX10_countKeys_25 : decode cX10_countKeys 25 = .ok (.getfield 93, 3) := by decide +kernel
theorem dX10_countKeys_28 : decode cX10_countKeys 28 = .ok (.getfield 121, 3) := by decide +kernel
theorem dX10_countKeys_31 : decode cX10_countKeys 31 = .ok (.iadd, 1) := by decide +kernel
theorem dX10_countKeys_32 : decode cX10_countKeys 32 = .ok (.istore_n 1, 1) := by decide +kernel
theorem dX10_countKeys_33 : decode cX10_countKeys 33 = .ok (.iinc 2 1, 3) := by decide +kernel
theorem dX10_countKeys_36 : decode cX10_countKeys 36 = .ok (.goto (-32), 3) := by decide +kernel
theorem dX10_countKeys_39 : decode cX10_countKeys 39 = .ok (.iload_n 1, 1) := by decide +kernel
theorem dX10_countKeys_40 : decode cX10_countKeys 40 = .ok (.ireturn, 1) := by decide +kernel
theorem va_P.two {D : va_G} {cl : List vw_C} {a b x y : Nat × va_E} {Wt : va_W} {H : Heap} (h : va_P D cl (a :: b :: Wt) H) (hx : x ∈ Wt) (hy : y ∈ Wt) : va_P D cl [a, b, x, y] H := by
  have hm : ∀ q ∈ (a :: b :: Wt), va_at D cl q H := fun q hq => by
    obtain ⟨k, hk⟩ := List.getElem?_of_mem hq
    exact h k q hk
  intro k q hk
  have hq := List.mem_of_getElem? hk
  simp only [List.mem_cons, List.not_mem_nil, or_false] at hq
  rcases hq with e | e | e | e <;> subst e
  · exact hm _ (List.mem_cons_self ..)
  · exact hm _ (List.mem_cons_of_mem _ (List.mem_cons_self ..))
  · exact hm _ (List.mem_cons_of_mem _ (List.mem_cons_of_mem _ hx))
  · exact hm _ (List.mem_cons_of_mem _ (List.mem_cons_of_mem _ hy))
def own_k_cT : List Cond := [.fieldLink RX10 11 "ClashFree" "tables" "[LClashFree$Table;"]
def wp_k_cT : List Cond := .code yX10_countTables cX10_countTables 3 (some .int) :: (own_k_cT ++ (wsX100 ++ ([] : List Cond)))
set_option maxRecDepth 20000 in
theorem inown_k_cT : ∀ w ∈ own_k_cT, w ∈ lw_tbl := mem_places [412] (by decide +kernel)
set_option maxRecDepth 20000 in
theorem in_k_cT : ∀ w ∈ wp_k_cT, w ∈ lw_tbl := List.forall_mem_cons.mpr ⟨List.mem_of_getElem? (i := 1205) (by decide +kernel), List.forall_mem_append.mpr ⟨inown_k_cT, List.forall_mem_append.mpr ⟨lwb_X10, fun _ h => absurd h List.not_mem_nil⟩⟩⟩
set_option maxRecDepth 20000 in
theorem good_k_cT : wp_k_cT.all goodWord = true := by decide +kernel
set_option maxHeartbeats 4000000 in
set_option maxRecDepth 100000 in
theorem k_cT (l : Launch) (D : va_G) (sz : Nat) (ox : Nat → Nat) (ob3 : Nat → Nat) (og : Nat → Nat) (oq : Nat → Nat) (ow : Nat → Nat) (cI : ClassId) (cT : ClassId) (tp : Nat) (ft : Nat → Option Nat) (Ls : Nat → List (Nat × Int32))  : Met l yX10_countTables wp_k_cT ({ frames := 0, cells := 0, slots := 0, locals := 0 }) (PcRC D [.ref (ox 0)] sz [(ox 0, .inr (10, [.ref (ox 1), .ref (ox 2), .int (nI tp), .ref (ob3 0), .ref (og 0), .ref (oq 0), .ref (ow 0)])), (ox 1, .inl (cT, 4, .inr (.inr (.inr (.inr ft)))))] [(cT, .object RX9)]) (va_Qi (fun (r : Int32) (u : Unit) => r = nI (cuF (fun j => (ft j).isSome) Ls 4).1) (fun (_ : Unit) _ => True) (va_A [] sz)) 0 0 (va_A [] sz) := by
  refine Met.ofW (cc := cX10_countTables) (maxL := 3) (ret := (some .int)) (by decide) rfl ?_
  intro p e s m args below meth c s₁ B hml hv
  obtain ⟨rfl, hsz, hP, hK, hN⟩ := hv
  have hx := B.exec
  have hb := B.bytes
  have hr := B.returns
  have hts := atoms_spec (ws := wp_k_cT) B.pre
  have hin_X10 : ∀ w ∈ wsX100, w ∈ wp_k_cT := fun _ h => (List.mem_cons_of_mem _ (List.mem_append_right _ (List.mem_append_left _ h)))
  have hown : s.vm.findClass RX10 = some m.cls := findClass_of_methodNamed B.named
  have hlocks := B.notSynchronized
  subst hsz
  generalize hAe : va_A [] s.heap.size = A at ⊢
  have hA : ∀ q : Nat, s.heap.size ≤ q → A q := fun q h => by rw [← hAe]; exact Or.inr h
  have hS : va_S A s.heap s.heap [] := va_S.rf
  have hP : va_P D vwCl [(ox 0, .inr (10, [.ref (ox 1), .ref (ox 2), .int (nI tp), .ref (ob3 0), .ref (og 0), .ref (oq 0), .ref (ow 0)])), (ox 1, .inl (cT, 4, .inr (.inr (.inr (.inr ft)))))] s.heap := hP
  have hl := lv_entry ([.ref (ox 0)]) (n := 3) (Nat.le_of_ble_eq_true rfl)
  rw [lg_entry_eq]
  generalize (lg_sl ([.ref (ox 0)]) ++ List.replicate (3 - (lg_sl ([.ref (ox 0)])).length) Slot.unset).toArray = ls at hl ⊢
  have hl : lv_has ls 3 [(0, .ref (ox 0))] := hl
  refine lv_iconst (v := 0) hx hb dX10_countTables_0 (by decide) ?_
  refine lv_istore_n (lv' := [(1, .int 0), (0, .ref (ox 0))]) hx hb dX10_countTables_1 rfl hl (by decide) rfl (fun ls hl => ?_)
  refine lv_iconst (v := 0) hx hb dX10_countTables_2 (by decide) ?_
  refine lv_istore_n (lv' := [(2, .int 0), (1, .int 0), (0, .ref (ox 0))]) hx hb dX10_countTables_3 rfl hl (by decide) rfl (fun ls hl => ?_)
  refine lv_iload_n hx hb dX10_countTables_4 rfl (lv_at hl 0 rfl) ?_
  refine lv_iconst (v := 4) hx hb dX10_countTables_5 (by decide) ?_
  refine lv_icmp_ge (tgt := 27) hx hb dX10_countTables_6 (by decide) (fun hc => absurd hc (by decide)) (fun hc => ?_)
  refine lv_aload_n hx hb dX10_countTables_9 rfl (lv_at hl 2 rfl) ?_
  refine va_get (D := D) (ci := 10) (v := .ref (ox 1)) (C := RX10) (T := TX10) (N := 7) hx hb hts hin_X10 hown hK hP 0 rfl rfl 0 (by decide) (hts (.fieldLink RX10 11 "ClashFree" "tables" "[LClashFree$Table;") (List.mem_of_getElem? (i := 1) rfl)) (fun _ h9 => h9) rfl dX10_countTables_10 ?_
  refine lv_iload_n hx hb dX10_countTables_13 rfl (lv_at hl 0 rfl) ?_
  refine va_aldq hx hb hK hP 1 0 rfl rfl (show ¬ ((0 : Int32) < 0 ∨ 4 ≤ Int32.toNatClampNeg 0) by decide) dX10_countTables_14 ?_
  rcases hf0 : ft 0 with _ | b0
  ·
    refine W.eq (g2 := F0 m 15 ls [.null]) (by rw [show Int32.toNatClampNeg 0 = 0 from by decide, hf0]; rfl) ?_
    refine lv_ifnullN (tgt := 21) hx hb dX10_countTables_15 (by decide) ?_
    refine lv_iinc (v := 1) (lv' := [(2, .int 1), (1, .int 0), (0, .ref (ox 0))]) hx hb dX10_countTables_21 hl (k := 0) rfl (by decide) (by decide) rfl (fun ls hl => ?_)
    refine lv_goto (tgt := 4) hx hb dX10_countTables_24 (by decide) ?_
    refine lv_iload_n hx hb dX10_countTables_4 rfl (lv_at hl 0 rfl) ?_
    refine lv_iconst (v := 4) hx hb dX10_countTables_5 (by decide) ?_
    refine lv_icmp_ge (tgt := 27) hx hb dX10_countTables_6 (by decide) (fun hc => absurd hc (by decide)) (fun hc => ?_)
    refine lv_aload_n hx hb dX10_countTables_9 rfl (lv_at hl 2 rfl) ?_
    refine va_get (D := D) (ci := 10) (v := .ref (ox 1)) (C := RX10) (T := TX10) (N := 7) hx hb hts hin_X10 hown hK hP 0 rfl rfl 0 (by decide) (hts (.fieldLink RX10 11 "ClashFree" "tables" "[LClashFree$Table;") (List.mem_of_getElem? (i := 1) rfl)) (fun _ h9 => h9) rfl dX10_countTables_10 ?_
    refine lv_iload_n hx hb dX10_countTables_13 rfl (lv_at hl 0 rfl) ?_
    refine va_aldq hx hb hK hP 1 0 rfl rfl (show ¬ ((1 : Int32) < 0 ∨ 4 ≤ Int32.toNatClampNeg 1) by decide) dX10_countTables_14 ?_
    rcases hf1 : ft 1 with _ | b1
    ·
      refine W.eq (g2 := F0 m 15 ls [.null]) (by rw [show Int32.toNatClampNeg 1 = 1 from by decide, hf1]; rfl) ?_
      refine lv_ifnullN (tgt := 21) hx hb dX10_countTables_15 (by decide) ?_
      refine lv_iinc (v := 2) (lv' := [(2, .int 2), (1, .int 0), (0, .ref (ox 0))]) hx hb dX10_countTables_21 hl (k := 0) rfl (by decide) (by decide) rfl (fun ls hl => ?_)
      refine lv_goto (tgt := 4) hx hb dX10_countTables_24 (by decide) ?_
      refine lv_iload_n hx hb dX10_countTables_4 rfl (lv_at hl 0 rfl) ?_
      refine lv_iconst (v := 4) hx hb dX10_countTables_5 (by decide) ?_
      refine lv_icmp_ge (tgt := 27) hx hb dX10_countTables_6 (by decide) (fun hc => absurd hc (by decide)) (fun hc => ?_)
      refine lv_aload_n hx hb dX10_countTables_9 rfl (lv_at hl 2 rfl) ?_
      refine va_get (D := D) (ci := 10) (v := .ref (ox 1)) (C := RX10) (T := TX10) (N := 7) hx hb hts hin_X10 hown hK hP 0 rfl rfl 0 (by decide) (hts (.fieldLink RX10 11 "ClashFree" "tables" "[LClashFree$Table;") (List.mem_of_getElem? (i := 1) rfl)) (fun _ h9 => h9) rfl dX10_countTables_10 ?_
      refine lv_iload_n hx hb dX10_countTables_13 rfl (lv_at hl 0 rfl) ?_
      refine va_aldq hx hb hK hP 1 0 rfl rfl (show ¬ ((2 : Int32) < 0 ∨ 4 ≤ Int32.toNatClampNeg 2) by decide) dX10_countTables_14 ?_
      rcases hf2 : ft 2 with _ | b2
      ·
        refine W.eq (g2 := F0 m 15 ls [.null]) (by rw [show Int32.toNatClampNeg 2 = 2 from by decide, hf2]; rfl) ?_
        refine lv_ifnullN (tgt := 21) hx hb dX10_countTables_15 (by decide) ?_
        refine lv_iinc (v := 3) (lv' := [(2, .int 3), (1, .int 0), (0, .ref (ox 0))]) hx hb dX10_countTables_21 hl (k := 0) rfl (by decide) (by decide) rfl (fun ls hl => ?_)
        refine lv_goto (tgt := 4) hx hb dX10_countTables_24 (by decide) ?_
        refine lv_iload_n hx hb dX10_countTables_4 rfl (lv_at hl 0 rfl) ?_
        refine lv_iconst (v := 4) hx hb dX10_countTables_5 (by decide) ?_
        refine lv_icmp_ge (tgt := 27) hx hb dX10_countTables_6 (by decide) (fun hc => absurd hc (by decide)) (fun hc => ?_)
        refine lv_aload_n hx hb dX10_countTables_9 rfl (lv_at hl 2 rfl) ?_
        refine va_get (D := D) (ci := 10) (v := .ref (ox 1)) (C := RX10) (T := TX10) (N := 7) hx hb hts hin_X10 hown hK hP 0 rfl rfl 0 (by decide) (hts (.fieldLink RX10 11 "ClashFree" "tables" "[LClashFree$Table;") (List.mem_of_getElem? (i := 1) rfl)) (fun _ h9 => h9) rfl dX10_countTables_10 ?_
        refine lv_iload_n hx hb dX10_countTables_13 rfl (lv_at hl 0 rfl) ?_
        refine va_aldq hx hb hK hP 1 0 rfl rfl (show ¬ ((3 : Int32) < 0 ∨ 4 ≤ Int32.toNatClampNeg 3) by decide) dX10_countTables_14 ?_
        rcases hf3 : ft 3 with _ | b3
        ·
          refine W.eq (g2 := F0 m 15 ls [.null]) (by rw [show Int32.toNatClampNeg 3 = 3 from by decide, hf3]; rfl) ?_
          refine lv_ifnullN (tgt := 21) hx hb dX10_countTables_15 (by decide) ?_
          refine lv_iinc (v := 4) (lv' := [(2, .int 4), (1, .int 0), (0, .ref (ox 0))]) hx hb dX10_countTables_21 hl (k := 0) rfl (by decide) (by decide) rfl (fun ls hl => ?_)
          refine lv_goto (tgt := 4) hx hb dX10_countTables_24 (by decide) ?_
          refine lv_iload_n hx hb dX10_countTables_4 rfl (lv_at hl 0 rfl) ?_
          refine lv_iconst (v := 4) hx hb dX10_countTables_5 (by decide) ?_
          refine lv_icmp_ge (tgt := 27) hx hb dX10_countTables_6 (by decide) (fun hc => ?_) (fun hc => absurd (by decide) hc)
          refine lv_iload_n hx hb dX10_countTables_27 rfl (lv_at hl 1 rfl) ?_
          have hc0 : cuF (fun j => (ft j).isSome) Ls 0 = (0, 0) := rfl
          have hc1 : cuF (fun j => (ft j).isSome) Ls 1 = (0, 0) := cuF_0 hc0 (by show ¬ (ft 0).isSome = true; rw [hf0]; decide)
          have hc2 : cuF (fun j => (ft j).isSome) Ls 2 = (0, 0) := cuF_0 hc1 (by show ¬ (ft 1).isSome = true; rw [hf1]; decide)
          have hc3 : cuF (fun j => (ft j).isSome) Ls 3 = (0, 0) := cuF_0 hc2 (by show ¬ (ft 2).isSome = true; rw [hf2]; decide)
          have hc4 : cuF (fun j => (ft j).isSome) Ls 4 = (0, 0) := cuF_0 hc3 (by show ¬ (ft 3).isSome = true; rw [hf3]; decide)
          exact W.iret (v := 0) hx hb hr (fun t ht hW => ⟨⟨0, (), rfl, by rw [hc4]; rfl, trivial⟩, hS.F ht⟩) hS.2.2 dX10_countTables_28
        ·
          refine W.eq (g2 := F0 m 15 ls [.ref b3]) (by rw [show Int32.toNatClampNeg 3 = 3 from by decide, hf3]; rfl) ?_
          refine lv_ifnull hx hb dX10_countTables_15 ?_
          refine lv_iinc (v := 1) (lv' := [(1, .int 1), (2, .int 3), (0, .ref (ox 0))]) hx hb dX10_countTables_18 hl (k := 1) rfl (by decide) (by decide) rfl (fun ls hl => ?_)
          refine lv_iinc (v := 4) (lv' := [(2, .int 4), (1, .int 1), (0, .ref (ox 0))]) hx hb dX10_countTables_21 hl (k := 1) rfl (by decide) (by decide) rfl (fun ls hl => ?_)
          refine lv_goto (tgt := 4) hx hb dX10_countTables_24 (by decide) ?_
          refine lv_iload_n hx hb dX10_countTables_4 rfl (lv_at hl 0 rfl) ?_
          refine lv_iconst (v := 4) hx hb dX10_countTables_5 (by decide) ?_
          refine lv_icmp_ge (tgt := 27) hx hb dX10_countTables_6 (by decide) (fun hc => ?_) (fun hc => absurd (by decide) hc)
          refine lv_iload_n hx hb dX10_countTables_27 rfl (lv_at hl 1 rfl) ?_
          have hc0 : cuF (fun j => (ft j).isSome) Ls 0 = (0, 0) := rfl
          have hc1 : cuF (fun j => (ft j).isSome) Ls 1 = (0, 0) := cuF_0 hc0 (by show ¬ (ft 0).isSome = true; rw [hf0]; decide)
          have hc2 : cuF (fun j => (ft j).isSome) Ls 2 = (0, 0) := cuF_0 hc1 (by show ¬ (ft 1).isSome = true; rw [hf1]; decide)
          have hc3 : cuF (fun j => (ft j).isSome) Ls 3 = (0, 0) := cuF_0 hc2 (by show ¬ (ft 2).isSome = true; rw [hf2]; decide)
          have hc4 : cuF (fun j => (ft j).isSome) Ls 4 = ((0 + 1), (0 + (Ls 3).length)) := cuF_1 hc3 (by show (ft 3).isSome = true; rw [hf3]; rfl) rfl
          exact W.iret (v := 1) hx hb hr (fun t ht hW => ⟨⟨1, (), rfl, by rw [hc4]; rfl, trivial⟩, hS.F ht⟩) hS.2.2 dX10_countTables_28
      ·
        refine W.eq (g2 := F0 m 15 ls [.ref b2]) (by rw [show Int32.toNatClampNeg 2 = 2 from by decide, hf2]; rfl) ?_
        refine lv_ifnull hx hb dX10_countTables_15 ?_
        refine lv_iinc (v := 1) (lv' := [(1, .int 1), (2, .int 2), (0, .ref (ox 0))]) hx hb dX10_countTables_18 hl (k := 1) rfl (by decide) (by decide) rfl (fun ls hl => ?_)
        refine lv_iinc (v := 3) (lv' := [(2, .int 3), (1, .int 1), (0, .ref (ox 0))]) hx hb dX10_countTables_21 hl (k := 1) rfl (by decide) (by decide) rfl (fun ls hl => ?_)
        refine lv_goto (tgt := 4) hx hb dX10_countTables_24 (by decide) ?_
        refine lv_iload_n hx hb dX10_countTables_4 rfl (lv_at hl 0 rfl) ?_
        refine lv_iconst (v := 4) hx hb dX10_countTables_5 (by decide) ?_
        refine lv_icmp_ge (tgt := 27) hx hb dX10_countTables_6 (by decide) (fun hc => absurd hc (by decide)) (fun hc => ?_)
        refine lv_aload_n hx hb dX10_countTables_9 rfl (lv_at hl 2 rfl) ?_
        refine va_get (D := D) (ci := 10) (v := .ref (ox 1)) (C := RX10) (T := TX10) (N := 7) hx hb hts hin_X10 hown hK hP 0 rfl rfl 0 (by decide) (hts (.fieldLink RX10 11 "ClashFree" "tables" "[LClashFree$Table;") (List.mem_of_getElem? (i := 1) rfl)) (fun _ h9 => h9) rfl dX10_countTables_10 ?_
        refine lv_iload_n hx hb dX10_countTables_13 rfl (lv_at hl 0 rfl) ?_
        refine va_aldq hx hb hK hP 1 0 rfl rfl (show ¬ ((3 : Int32) < 0 ∨ 4 ≤ Int32.toNatClampNeg 3) by decide) dX10_countTables_14 ?_
        rcases hf3 : ft 3 with _ | b3
        ·
          refine W.eq (g2 := F0 m 15 ls [.null]) (by rw [show Int32.toNatClampNeg 3 = 3 from by decide, hf3]; rfl) ?_
          refine lv_ifnullN (tgt := 21) hx hb dX10_countTables_15 (by decide) ?_
          refine lv_iinc (v := 4) (lv' := [(2, .int 4), (1, .int 1), (0, .ref (ox 0))]) hx hb dX10_countTables_21 hl (k := 0) rfl (by decide) (by decide) rfl (fun ls hl => ?_)
          refine lv_goto (tgt := 4) hx hb dX10_countTables_24 (by decide) ?_
          refine lv_iload_n hx hb dX10_countTables_4 rfl (lv_at hl 0 rfl) ?_
          refine lv_iconst (v := 4) hx hb dX10_countTables_5 (by decide) ?_
          refine lv_icmp_ge (tgt := 27) hx hb dX10_countTables_6 (by decide) (fun hc => ?_) (fun hc => absurd (by decide) hc)
          refine lv_iload_n hx hb dX10_countTables_27 rfl (lv_at hl 1 rfl) ?_
          have hc0 : cuF (fun j => (ft j).isSome) Ls 0 = (0, 0) := rfl
          have hc1 : cuF (fun j => (ft j).isSome) Ls 1 = (0, 0) := cuF_0 hc0 (by show ¬ (ft 0).isSome = true; rw [hf0]; decide)
          have hc2 : cuF (fun j => (ft j).isSome) Ls 2 = (0, 0) := cuF_0 hc1 (by show ¬ (ft 1).isSome = true; rw [hf1]; decide)
          have hc3 : cuF (fun j => (ft j).isSome) Ls 3 = ((0 + 1), (0 + (Ls 2).length)) := cuF_1 hc2 (by show (ft 2).isSome = true; rw [hf2]; rfl) rfl
          have hc4 : cuF (fun j => (ft j).isSome) Ls 4 = ((0 + 1), (0 + (Ls 2).length)) := cuF_0 hc3 (by show ¬ (ft 3).isSome = true; rw [hf3]; decide)
          exact W.iret (v := 1) hx hb hr (fun t ht hW => ⟨⟨1, (), rfl, by rw [hc4]; rfl, trivial⟩, hS.F ht⟩) hS.2.2 dX10_countTables_28
        ·
          refine W.eq (g2 := F0 m 15 ls [.ref b3]) (by rw [show Int32.toNatClampNeg 3 = 3 from by decide, hf3]; rfl) ?_
          refine lv_ifnull hx hb dX10_countTables_15 ?_
          refine lv_iinc (v := 2) (lv' := [(1, .int 2), (2, .int 3), (0, .ref (ox 0))]) hx hb dX10_countTables_18 hl (k := 1) rfl (by decide) (by decide) rfl (fun ls hl => ?_)
          refine lv_iinc (v := 4) (lv' := [(2, .int 4), (1, .int 2), (0, .ref (ox 0))]) hx hb dX10_countTables_21 hl (k := 1) rfl (by decide) (by decide) rfl (fun ls hl => ?_)
          refine lv_goto (tgt := 4) hx hb dX10_countTables_24 (by decide) ?_
          refine lv_iload_n hx hb dX10_countTables_4 rfl (lv_at hl 0 rfl) ?_
          refine lv_iconst (v := 4) hx hb dX10_countTables_5 (by decide) ?_
          refine lv_icmp_ge (tgt := 27) hx hb dX10_countTables_6 (by decide) (fun hc => ?_) (fun hc => absurd (by decide) hc)
          refine lv_iload_n hx hb dX10_countTables_27 rfl (lv_at hl 1 rfl) ?_
          have hc0 : cuF (fun j => (ft j).isSome) Ls 0 = (0, 0) := rfl
          have hc1 : cuF (fun j => (ft j).isSome) Ls 1 = (0, 0) := cuF_0 hc0 (by show ¬ (ft 0).isSome = true; rw [hf0]; decide)
          have hc2 : cuF (fun j => (ft j).isSome) Ls 2 = (0, 0) := cuF_0 hc1 (by show ¬ (ft 1).isSome = true; rw [hf1]; decide)
          have hc3 : cuF (fun j => (ft j).isSome) Ls 3 = ((0 + 1), (0 + (Ls 2).length)) := cuF_1 hc2 (by show (ft 2).isSome = true; rw [hf2]; rfl) rfl
          have hc4 : cuF (fun j => (ft j).isSome) Ls 4 = (((0 + 1) + 1), ((0 + (Ls 2).length) + (Ls 3).length)) := cuF_1 hc3 (by show (ft 3).isSome = true; rw [hf3]; rfl) rfl
          exact W.iret (v := 2) hx hb hr (fun t ht hW => ⟨⟨2, (), rfl, by rw [hc4]; rfl, trivial⟩, hS.F ht⟩) hS.2.2 dX10_countTables_28
    ·
      refine W.eq (g2 := F0 m 15 ls [.ref b1]) (by rw [show Int32.toNatClampNeg 1 = 1 from by decide, hf1]; rfl) ?_
      refine lv_ifnull hx hb dX10_countTables_15 ?_
      refine lv_iinc (v := 1) (lv' := [(1, .int 1), (2, .int 1), (0, .ref (ox 0))]) hx hb dX10_countTables_18 hl (k := 1) rfl (by decide) (by decide) rfl (fun ls hl => ?_)
      refine lv_iinc (v := 2) (lv' := [(2, .int 2), (1, .int 1), (0, .ref (ox 0))]) hx hb dX10_countTables_21 hl (k := 1) rfl (by decide) (by decide) rfl (fun ls hl => ?_)
      refine lv_goto (tgt := 4) hx hb dX10_countTables_24 (by decide) ?_
      refine lv_iload_n hx hb dX10_countTables_4 rfl (lv_at hl 0 rfl) ?_
      refine lv_iconst (v := 4) hx hb dX10_countTables_5 (by decide) ?_
      refine lv_icmp_ge (tgt := 27) hx hb dX10_countTables_6 (by decide) (fun hc => absurd hc (by decide)) (fun hc => ?_)
      refine lv_aload_n hx hb dX10_countTables_9 rfl (lv_at hl 2 rfl) ?_
      refine va_get (D := D) (ci := 10) (v := .ref (ox 1)) (C := RX10) (T := TX10) (N := 7) hx hb hts hin_X10 hown hK hP 0 rfl rfl 0 (by decide) (hts (.fieldLink RX10 11 "ClashFree" "tables" "[LClashFree$Table;") (List.mem_of_getElem? (i := 1) rfl)) (fun _ h9 => h9) rfl dX10_countTables_10 ?_
      refine lv_iload_n hx hb dX10_countTables_13 rfl (lv_at hl 0 rfl) ?_
      refine va_aldq hx hb hK hP 1 0 rfl rfl (show ¬ ((2 : Int32) < 0 ∨ 4 ≤ Int32.toNatClampNeg 2) by decide) dX10_countTables_14 ?_
      rcases hf2 : ft 2 with _ | b2
      ·
        refine W.eq (g2 := F0 m 15 ls [.null]) (by rw [show Int32.toNatClampNeg 2 = 2 from by decide, hf2]; rfl) ?_
        refine lv_ifnullN (tgt := 21) hx hb dX10_countTables_15 (by decide) ?_
        refine lv_iinc (v := 3) (lv' := [(2, .int 3), (1, .int 1), (0, .ref (ox 0))]) hx hb dX10_countTables_21 hl (k := 0) rfl (by decide) (by decide) rfl (fun ls hl => ?_)
        refine lv_goto (tgt := 4) hx hb dX10_countTables_24 (by decide) ?_
        refine lv_iload_n hx hb dX10_countTables_4 rfl (lv_at hl 0 rfl) ?_
        refine lv_iconst (v := 4) hx hb dX10_countTables_5 (by decide) ?_
        refine lv_icmp_ge (tgt := 27) hx hb dX10_countTables_6 (by decide) (fun hc => absurd hc (by decide)) (fun hc => ?_)
        refine lv_aload_n hx hb dX10_countTables_9 rfl (lv_at hl 2 rfl) ?_
        refine va_get (D := D) (ci := 10) (v := .ref (ox 1)) (C := RX10) (T := TX10) (N := 7) hx hb hts hin_X10 hown hK hP 0 rfl rfl 0 (by decide) (hts (.fieldLink RX10 11 "ClashFree" "tables" "[LClashFree$Table;") (List.mem_of_getElem? (i := 1) rfl)) (fun _ h9 => h9) rfl dX10_countTables_10 ?_
        refine lv_iload_n hx hb dX10_countTables_13 rfl (lv_at hl 0 rfl) ?_
        refine va_aldq hx hb hK hP 1 0 rfl rfl (show ¬ ((3 : Int32) < 0 ∨ 4 ≤ Int32.toNatClampNeg 3) by decide) dX10_countTables_14 ?_
        rcases hf3 : ft 3 with _ | b3
        ·
          refine W.eq (g2 := F0 m 15 ls [.null]) (by rw [show Int32.toNatClampNeg 3 = 3 from by decide, hf3]; rfl) ?_
          refine lv_ifnullN (tgt := 21) hx hb dX10_countTables_15 (by decide) ?_
          refine lv_iinc (v := 4) (lv' := [(2, .int 4), (1, .int 1), (0, .ref (ox 0))]) hx hb dX10_countTables_21 hl (k := 0) rfl (by decide) (by decide) rfl (fun ls hl => ?_)
          refine lv_goto (tgt := 4) hx hb dX10_countTables_24 (by decide) ?_
          refine lv_iload_n hx hb dX10_countTables_4 rfl (lv_at hl 0 rfl) ?_
          refine lv_iconst (v := 4) hx hb dX10_countTables_5 (by decide) ?_
          refine lv_icmp_ge (tgt := 27) hx hb dX10_countTables_6 (by decide) (fun hc => ?_) (fun hc => absurd (by decide) hc)
          refine lv_iload_n hx hb dX10_countTables_27 rfl (lv_at hl 1 rfl) ?_
          have hc0 : cuF (fun j => (ft j).isSome) Ls 0 = (0, 0) := rfl
          have hc1 : cuF (fun j => (ft j).isSome) Ls 1 = (0, 0) := cuF_0 hc0 (by show ¬ (ft 0).isSome = true; rw [hf0]; decide)
          have hc2 : cuF (fun j => (ft j).isSome) Ls 2 = ((0 + 1), (0 + (Ls 1).length)) := cuF_1 hc1 (by show (ft 1).isSome = true; rw [hf1]; rfl) rfl
          have hc3 : cuF (fun j => (ft j).isSome) Ls 3 = ((0 + 1), (0 + (Ls 1).length)) := cuF_0 hc2 (by show ¬ (ft 2).isSome = true; rw [hf2]; decide)
          have hc4 : cuF (fun j => (ft j).isSome) Ls 4 = ((0 + 1), (0 + (Ls 1).length)) := cuF_0 hc3 (by show ¬ (ft 3).isSome = true; rw [hf3]; decide)
          exact W.iret (v := 1) hx hb hr (fun t ht hW => ⟨⟨1, (), rfl, by rw [hc4]; rfl, trivial⟩, hS.F ht⟩) hS.2.2 dX10_countTables_28
        ·
          refine W.eq (g2 := F0 m 15 ls [.ref b3]) (by rw [show Int32.toNatClampNeg 3 = 3 from by decide, hf3]; rfl) ?_
          refine lv_ifnull hx hb dX10_countTables_15 ?_
          refine lv_iinc (v := 2) (lv' := [(1, .int 2), (2, .int 3), (0, .ref (ox 0))]) hx hb dX10_countTables_18 hl (k := 1) rfl (by decide) (by decide) rfl (fun ls hl => ?_)
          refine lv_iinc (v := 4) (lv' := [(2, .int 4), (1, .int 2), (0, .ref (ox 0))]) hx hb dX10_countTables_21 hl (k := 1) rfl (by decide) (by decide) rfl (fun ls hl => ?_)
          refine lv_goto (tgt := 4) hx hb dX10_countTables_24 (by decide) ?_
          refine lv_iload_n hx hb dX10_countTables_4 rfl (lv_at hl 0 rfl) ?_
          refine lv_iconst (v := 4) hx hb dX10_countTables_5 (by decide) ?_
          refine lv_icmp_ge (tgt := 27) hx hb dX10_countTables_6 (by decide) (fun hc => ?_) (fun hc => absurd (by decide) hc)
          refine lv_iload_n hx hb dX10_countTables_27 rfl (lv_at hl 1 rfl) ?_
          have hc0 : cuF (fun j => (ft j).isSome) Ls 0 = (0, 0) := rfl
          have hc1 : cuF (fun j => (ft j).isSome) Ls 1 = (0, 0) := cuF_0 hc0 (by show ¬ (ft 0).isSome = true; rw [hf0]; decide)
          have hc2 : cuF (fun j => (ft j).isSome) Ls 2 = ((0 + 1), (0 + (Ls 1).length)) := cuF_1 hc1 (by show (ft 1).isSome = true; rw [hf1]; rfl) rfl
          have hc3 : cuF (fun j => (ft j).isSome) Ls 3 = ((0 + 1), (0 + (Ls 1).length)) := cuF_0 hc2 (by show ¬ (ft 2).isSome = true; rw [hf2]; decide)
          have hc4 : cuF (fun j => (ft j).isSome) Ls 4 = (((0 + 1) + 1), ((0 + (Ls 1).length) + (Ls 3).length)) := cuF_1 hc3 (by show (ft 3).isSome = true; rw [hf3]; rfl) rfl
          exact W.iret (v := 2) hx hb hr (fun t ht hW => ⟨⟨2, (), rfl, by rw [hc4]; rfl, trivial⟩, hS.F ht⟩) hS.2.2 dX10_countTables_28
      ·
        refine W.eq (g2 := F0 m 15 ls [.ref b2]) (by rw [show Int32.toNatClampNeg 2 = 2 from by decide, hf2]; rfl) ?_
        refine lv_ifnull hx hb dX10_countTables_15 ?_
        refine lv_iinc (v := 2) (lv' := [(1, .int 2), (2, .int 2), (0, .ref (ox 0))]) hx hb dX10_countTables_18 hl (k := 1) rfl (by decide) (by decide) rfl (fun ls hl => ?_)
        refine lv_iinc (v := 3) (lv' := [(2, .int 3), (1, .int 2), (0, .ref (ox 0))]) hx hb dX10_countTables_21 hl (k := 1) rfl (by decide) (by decide) rfl (fun ls hl => ?_)
        refine lv_goto (tgt := 4) hx hb dX10_countTables_24 (by decide) ?_
        refine lv_iload_n hx hb dX10_countTables_4 rfl (lv_at hl 0 rfl) ?_
        refine lv_iconst (v := 4) hx hb dX10_countTables_5 (by decide) ?_
        refine lv_icmp_ge (tgt := 27) hx hb dX10_countTables_6 (by decide) (fun hc => absurd hc (by decide)) (fun hc => ?_)
        refine lv_aload_n hx hb dX10_countTables_9 rfl (lv_at hl 2 rfl) ?_
        refine va_get (D := D) (ci := 10) (v := .ref (ox 1)) (C := RX10) (T := TX10) (N := 7) hx hb hts hin_X10 hown hK hP 0 rfl rfl 0 (by decide) (hts (.fieldLink RX10 11 "ClashFree" "tables" "[LClashFree$Table;") (List.mem_of_getElem? (i := 1) rfl)) (fun _ h9 => h9) rfl dX10_countTables_10 ?_
        refine lv_iload_n hx hb dX10_countTables_13 rfl (lv_at hl 0 rfl) ?_
        refine va_aldq hx hb hK hP 1 0 rfl rfl (show ¬ ((3 : Int32) < 0 ∨ 4 ≤ Int32.toNatClampNeg 3) by decide) dX10_countTables_14 ?_
        rcases hf3 : ft 3 with _ | b3
        ·
          refine W.eq (g2 := F0 m 15 ls [.null]) (by rw [show Int32.toNatClampNeg 3 = 3 from by decide, hf3]; rfl) ?_
          refine lv_ifnullN (tgt := 21) hx hb dX10_countTables_15 (by decide) ?_
          refine lv_iinc (v := 4) (lv' := [(2, .int 4), (1, .int 2), (0, .ref (ox 0))]) hx hb dX10_countTables_21 hl (k := 0) rfl (by decide) (by decide) rfl (fun ls hl => ?_)
          refine lv_goto (tgt := 4) hx hb dX10_countTables_24 (by decide) ?_
          refine lv_iload_n hx hb dX10_countTables_4 rfl (lv_at hl 0 rfl) ?_
          refine lv_iconst (v := 4) hx hb dX10_countTables_5 (by decide) ?_
          refine lv_icmp_ge (tgt := 27) hx hb dX10_countTables_6 (by decide) (fun hc => ?_) (fun hc => absurd (by decide) hc)
          refine lv_iload_n hx hb dX10_countTables_27 rfl (lv_at hl 1 rfl) ?_
          have hc0 : cuF (fun j => (ft j).isSome) Ls 0 = (0, 0) := rfl
          have hc1 : cuF (fun j => (ft j).isSome) Ls 1 = (0, 0) := cuF_0 hc0 (by show ¬ (ft 0).isSome = true; rw [hf0]; decide)
          have hc2 : cuF (fun j => (ft j).isSome) Ls 2 = ((0 + 1), (0 + (Ls 1).length)) := cuF_1 hc1 (by show (ft 1).isSome = true; rw [hf1]; rfl) rfl
          have hc3 : cuF (fun j => (ft j).isSome) Ls 3 = (((0 + 1) + 1), ((0 + (Ls 1).length) + (Ls 2).length)) := cuF_1 hc2 (by show (ft 2).isSome = true; rw [hf2]; rfl) rfl
          have hc4 : cuF (fun j => (ft j).isSome) Ls 4 = (((0 + 1) + 1), ((0 + (Ls 1).length) + (Ls 2).length)) := cuF_0 hc3 (by show ¬ (ft 3).isSome = true; rw [hf3]; decide)
          exact W.iret (v := 2) hx hb hr (fun t ht hW => ⟨⟨2, (), rfl, by rw [hc4]; rfl, trivial⟩, hS.F ht⟩) hS.2.2 dX10_countTables_28
        ·
          refine W.eq (g2 := F0 m 15 ls [.ref b3]) (by rw [show Int32.toNatClampNeg 3 = 3 from by decide, hf3]; rfl) ?_
          refine lv_ifnull hx hb dX10_countTables_15 ?_
          refine lv_iinc (v := 3) (lv' := [(1, .int 3), (2, .int 3), (0, .ref (ox 0))]) hx hb dX10_countTables_18 hl (k := 1) rfl (by decide) (by decide) rfl (fun ls hl => ?_)
          refine lv_iinc (v := 4) (lv' := [(2, .int 4), (1, .int 3), (0, .ref (ox 0))]) hx hb dX10_countTables_21 hl (k := 1) rfl (by decide) (by decide) rfl (fun ls hl => ?_)
          refine lv_goto (tgt := 4) hx hb dX10_countTables_24 (by decide) ?_
          refine lv_iload_n hx hb dX10_countTables_4 rfl (lv_at hl 0 rfl) ?_
          refine lv_iconst (v := 4) hx hb dX10_countTables_5 (by decide) ?_
          refine lv_icmp_ge (tgt := 27) hx hb dX10_countTables_6 (by decide) (fun hc => ?_) (fun hc => absurd (by decide) hc)
          refine lv_iload_n hx hb dX10_countTables_27 rfl (lv_at hl 1 rfl) ?_
          have hc0 : cuF (fun j => (ft j).isSome) Ls 0 = (0, 0) := rfl
          have hc1 : cuF (fun j => (ft j).isSome) Ls 1 = (0, 0) := cuF_0 hc0 (by show ¬ (ft 0).isSome = true; rw [hf0]; decide)
          have hc2 : cuF (fun j => (ft j).isSome) Ls 2 = ((0 + 1), (0 + (Ls 1).length)) := cuF_1 hc1 (by show (ft 1).isSome = true; rw [hf1]; rfl) rfl
          have hc3 : cuF (fun j => (ft j).isSome) Ls 3 = (((0 + 1) + 1), ((0 + (Ls 1).length) + (Ls 2).length)) := cuF_1 hc2 (by show (ft 2).isSome = true; rw [hf2]; rfl) rfl
          have hc4 : cuF (fun j => (ft j).isSome) Ls 4 = ((((0 + 1) + 1) + 1), (((0 + (Ls 1).length) + (Ls 2).length) + (Ls 3).length)) := cuF_1 hc3 (by show (ft 3).isSome = true; rw [hf3]; rfl) rfl
          exact W.iret (v := 3) hx hb hr (fun t ht hW => ⟨⟨3, (), rfl, by rw [hc4]; rfl, trivial⟩, hS.F ht⟩) hS.2.2 dX10_countTables_28
  ·
    refine W.eq (g2 := F0 m 15 ls [.ref b0]) (by rw [show Int32.toNatClampNeg 0 = 0 from by decide, hf0]; rfl) ?_
    refine lv_ifnull hx hb dX10_countTables_15 ?_
    refine lv_iinc (v := 1) (lv' := [(1, .int 1), (2, .int 0), (0, .ref (ox 0))]) hx hb dX10_countTables_18 hl (k := 1) rfl (by decide) (by decide) rfl (fun ls hl => ?_)
    refine lv_iinc (v := 1) (lv' := [(2, .int 1), (1, .int 1), (0, .ref (ox 0))]) hx hb dX10_countTables_21 hl (k := 1) rfl (by decide) (by decide) rfl (fun ls hl => ?_)
    refine lv_goto (tgt := 4) hx hb dX10_countTables_24 (by decide) ?_
    refine lv_iload_n hx hb dX10_countTables_4 rfl (lv_at hl 0 rfl) ?_
    refine lv_iconst (v := 4) hx hb dX10_countTables_5 (by decide) ?_
    refine lv_icmp_ge (tgt := 27) hx hb dX10_countTables_6 (by decide) (fun hc => absurd hc (by decide)) (fun hc => ?_)
    refine lv_aload_n hx hb dX10_countTables_9 rfl (lv_at hl 2 rfl) ?_
    refine va_get (D := D) (ci := 10) (v := .ref (ox 1)) (C := RX10) (T := TX10) (N := 7) hx hb hts hin_X10 hown hK hP 0 rfl rfl 0 (by decide) (hts (.fieldLink RX10 11 "ClashFree" "tables" "[LClashFree$Table;") (List.mem_of_getElem? (i := 1) rfl)) (fun _ h9 => h9) rfl dX10_countTables_10 ?_
    refine lv_iload_n hx hb dX10_countTables_13 rfl (lv_at hl 0 rfl) ?_
    refine va_aldq hx hb hK hP 1 0 rfl rfl (show ¬ ((1 : Int32) < 0 ∨ 4 ≤ Int32.toNatClampNeg 1) by decide) dX10_countTables_14 ?_
    rcases hf1 : ft 1 with _ | b1
    ·
      refine W.eq (g2 := F0 m 15 ls [.null]) (by rw [show Int32.toNatClampNeg 1 = 1 from by decide, hf1]; rfl) ?_
      refine lv_ifnullN (tgt := 21) hx hb dX10_countTables_15 (by decide) ?_
      refine lv_iinc (v := 2) (lv' := [(2, .int 2), (1, .int 1), (0, .ref (ox 0))]) hx hb dX10_countTables_21 hl (k := 0) rfl (by decide) (by decide) rfl (fun ls hl => ?_)
      refine lv_goto (tgt := 4) hx hb dX10_countTables_24 (by decide) ?_
      refine lv_iload_n hx hb dX10_countTables_4 rfl (lv_at hl 0 rfl) ?_
      refine lv_iconst (v := 4) hx hb dX10_countTables_5 (by decide) ?_
      refine lv_icmp_ge (tgt := 27) hx hb dX10_countTables_6 (by decide) (fun hc => absurd hc (by decide)) (fun hc => ?_)
      refine lv_aload_n hx hb dX10_countTables_9 rfl (lv_at hl 2 rfl) ?_
      refine va_get (D := D) (ci := 10) (v := .ref (ox 1)) (C := RX10) (T := TX10) (N := 7) hx hb hts hin_X10 hown hK hP 0 rfl rfl 0 (by decide) (hts (.fieldLink RX10 11 "ClashFree" "tables" "[LClashFree$Table;") (List.mem_of_getElem? (i := 1) rfl)) (fun _ h9 => h9) rfl dX10_countTables_10 ?_
      refine lv_iload_n hx hb dX10_countTables_13 rfl (lv_at hl 0 rfl) ?_
      refine va_aldq hx hb hK hP 1 0 rfl rfl (show ¬ ((2 : Int32) < 0 ∨ 4 ≤ Int32.toNatClampNeg 2) by decide) dX10_countTables_14 ?_
      rcases hf2 : ft 2 with _ | b2
      ·
        refine W.eq (g2 := F0 m 15 ls [.null]) (by rw [show Int32.toNatClampNeg 2 = 2 from by decide, hf2]; rfl) ?_
        refine lv_ifnullN (tgt := 21) hx hb dX10_countTables_15 (by decide) ?_
        refine lv_iinc (v := 3) (lv' := [(2, .int 3), (1, .int 1), (0, .ref (ox 0))]) hx hb dX10_countTables_21 hl (k := 0) rfl (by decide) (by decide) rfl (fun ls hl => ?_)
        refine lv_goto (tgt := 4) hx hb dX10_countTables_24 (by decide) ?_
        refine lv_iload_n hx hb dX10_countTables_4 rfl (lv_at hl 0 rfl) ?_
        refine lv_iconst (v := 4) hx hb dX10_countTables_5 (by decide) ?_
        refine lv_icmp_ge (tgt := 27) hx hb dX10_countTables_6 (by decide) (fun hc => absurd hc (by decide)) (fun hc => ?_)
        refine lv_aload_n hx hb dX10_countTables_9 rfl (lv_at hl 2 rfl) ?_
        refine va_get (D := D) (ci := 10) (v := .ref (ox 1)) (C := RX10) (T := TX10) (N := 7) hx hb hts hin_X10 hown hK hP 0 rfl rfl 0 (by decide) (hts (.fieldLink RX10 11 "ClashFree" "tables" "[LClashFree$Table;") (List.mem_of_getElem? (i := 1) rfl)) (fun _ h9 => h9) rfl dX10_countTables_10 ?_
        refine lv_iload_n hx hb dX10_countTables_13 rfl (lv_at hl 0 rfl) ?_
        refine va_aldq hx hb hK hP 1 0 rfl rfl (show ¬ ((3 : Int32) < 0 ∨ 4 ≤ Int32.toNatClampNeg 3) by decide) dX10_countTables_14 ?_
        rcases hf3 : ft 3 with _ | b3
        ·
          refine W.eq (g2 := F0 m 15 ls [.null]) (by rw [show Int32.toNatClampNeg 3 = 3 from by decide, hf3]; rfl) ?_
          refine lv_ifnullN (tgt := 21) hx hb dX10_countTables_15 (by decide) ?_
          refine lv_iinc (v := 4) (lv' := [(2, .int 4), (1, .int 1), (0, .ref (ox 0))]) hx hb dX10_countTables_21 hl (k := 0) rfl (by decide) (by decide) rfl (fun ls hl => ?_)
          refine lv_goto (tgt := 4) hx hb dX10_countTables_24 (by decide) ?_
          refine lv_iload_n hx hb dX10_countTables_4 rfl (lv_at hl 0 rfl) ?_
          refine lv_iconst (v := 4) hx hb dX10_countTables_5 (by decide) ?_
          refine lv_icmp_ge (tgt := 27) hx hb dX10_countTables_6 (by decide) (fun hc => ?_) (fun hc => absurd (by decide) hc)
          refine lv_iload_n hx hb dX10_countTables_27 rfl (lv_at hl 1 rfl) ?_
          have hc0 : cuF (fun j => (ft j).isSome) Ls 0 = (0, 0) := rfl
          have hc1 : cuF (fun j => (ft j).isSome) Ls 1 = ((0 + 1), (0 + (Ls 0).length)) := cuF_1 hc0 (by show (ft 0).isSome = true; rw [hf0]; rfl) rfl
          have hc2 : cuF (fun j => (ft j).isSome) Ls 2 = ((0 + 1), (0 + (Ls 0).length)) := cuF_0 hc1 (by show ¬ (ft 1).isSome = true; rw [hf1]; decide)
          have hc3 : cuF (fun j => (ft j).isSome) Ls 3 = ((0 + 1), (0 + (Ls 0).length)) := cuF_0 hc2 (by show ¬ (ft 2).isSome = true; rw [hf2]; decide)
          have hc4 : cuF (fun j => (ft j).isSome) Ls 4 = ((0 + 1), (0 + (Ls 0).length)) := cuF_0 hc3 (by show ¬ (ft 3).isSome = true; rw [hf3]; decide)
          exact W.iret (v := 1) hx hb hr (fun t ht hW => ⟨⟨1, (), rfl, by rw [hc4]; rfl, trivial⟩, hS.F ht⟩) hS.2.2 dX10_countTables_28
        ·
          refine W.eq (g2 := F0 m 15 ls [.ref b3]) (by rw [show Int32.toNatClampNeg 3 = 3 from by decide, hf3]; rfl) ?_
          refine lv_ifnull hx hb dX10_countTables_15 ?_
          refine lv_iinc (v := 2) (lv' := [(1, .int 2), (2, .int 3), (0, .ref (ox 0))]) hx hb dX10_countTables_18 hl (k := 1) rfl (by decide) (by decide) rfl (fun ls hl => ?_)
          refine lv_iinc (v := 4) (lv' := [(2, .int 4), (1, .int 2), (0, .ref (ox 0))]) hx hb dX10_countTables_21 hl (k := 1) rfl (by decide) (by decide) rfl (fun ls hl => ?_)
          refine lv_goto (tgt := 4) hx hb dX10_countTables_24 (by decide) ?_
          refine lv_iload_n hx hb dX10_countTables_4 rfl (lv_at hl 0 rfl) ?_
          refine lv_iconst (v := 4) hx hb dX10_countTables_5 (by decide) ?_
          refine lv_icmp_ge (tgt := 27) hx hb dX10_countTables_6 (by decide) (fun hc => ?_) (fun hc => absurd (by decide) hc)
          refine lv_iload_n hx hb dX10_countTables_27 rfl (lv_at hl 1 rfl) ?_
          have hc0 : cuF (fun j => (ft j).isSome) Ls 0 = (0, 0) := rfl
          have hc1 : cuF (fun j => (ft j).isSome) Ls 1 = ((0 + 1), (0 + (Ls 0).length)) := cuF_1 hc0 (by show (ft 0).isSome = true; rw [hf0]; rfl) rfl
          have hc2 : cuF (fun j => (ft j).isSome) Ls 2 = ((0 + 1), (0 + (Ls 0).length)) := cuF_0 hc1 (by show ¬ (ft 1).isSome = true; rw [hf1]; decide)
          have hc3 : cuF (fun j => (ft j).isSome) Ls 3 = ((0 + 1), (0 + (Ls 0).length)) := cuF_0 hc2 (by show ¬ (ft 2).isSome = true; rw [hf2]; decide)
          have hc4 : cuF (fun j => (ft j).isSome) Ls 4 = (((0 + 1) + 1), ((0 + (Ls 0).length) + (Ls 3).length)) := cuF_1 hc3 (by show (ft 3).isSome = true; rw [hf3]; rfl) rfl
          exact W.iret (v := 2) hx hb hr (fun t ht hW => ⟨⟨2, (), rfl, by rw [hc4]; rfl, trivial⟩, hS.F ht⟩) hS.2.2 dX10_countTables_28
      ·
        refine W.eq (g2 := F0 m 15 ls [.ref b2]) (by rw [show Int32.toNatClampNeg 2 = 2 from by decide, hf2]; rfl) ?_
        refine lv_ifnull hx hb dX10_countTables_15 ?_
        refine lv_iinc (v := 2) (lv' := [(1, .int 2), (2, .int 2), (0, .ref (ox 0))]) hx hb dX10_countTables_18 hl (k := 1) rfl (by decide) (by decide) rfl (fun ls hl => ?_)
        refine lv_iinc (v := 3) (lv' := [(2, .int 3), (1, .int 2), (0, .ref (ox 0))]) hx hb dX10_countTables_21 hl (k := 1) rfl (by decide) (by decide) rfl (fun ls hl => ?_)
        refine lv_goto (tgt := 4) hx hb dX10_countTables_24 (by decide) ?_
        refine lv_iload_n hx hb dX10_countTables_4 rfl (lv_at hl 0 rfl) ?_
        refine lv_iconst (v := 4) hx hb dX10_countTables_5 (by decide) ?_
        refine lv_icmp_ge (tgt := 27) hx hb dX10_countTables_6 (by decide) (fun hc => absurd hc (by decide)) (fun hc => ?_)
        refine lv_aload_n hx hb dX10_countTables_9 rfl (lv_at hl 2 rfl) ?_
        refine va_get (D := D) (ci := 10) (v := .ref (ox 1)) (C := RX10) (T := TX10) (N := 7) hx hb hts hin_X10 hown hK hP 0 rfl rfl 0 (by decide) (hts (.fieldLink RX10 11 "ClashFree" "tables" "[LClashFree$Table;") (List.mem_of_getElem? (i := 1) rfl)) (fun _ h9 => h9) rfl dX10_countTables_10 ?_
        refine lv_iload_n hx hb dX10_countTables_13 rfl (lv_at hl 0 rfl) ?_
        refine va_aldq hx hb hK hP 1 0 rfl rfl (show ¬ ((3 : Int32) < 0 ∨ 4 ≤ Int32.toNatClampNeg 3) by decide) dX10_countTables_14 ?_
        rcases hf3 : ft 3 with _ | b3
        ·
          refine W.eq (g2 := F0 m 15 ls [.null]) (by rw [show Int32.toNatClampNeg 3 = 3 from by decide, hf3]; rfl) ?_
          refine lv_ifnullN (tgt := 21) hx hb dX10_countTables_15 (by decide) ?_
          refine lv_iinc (v := 4) (lv' := [(2, .int 4), (1, .int 2), (0, .ref (ox 0))]) hx hb dX10_countTables_21 hl (k := 0) rfl (by decide) (by decide) rfl (fun ls hl => ?_)
          refine lv_goto (tgt := 4) hx hb dX10_countTables_24 (by decide) ?_
          refine lv_iload_n hx hb dX10_countTables_4 rfl (lv_at hl 0 rfl) ?_
          refine lv_iconst (v := 4) hx hb dX10_countTables_5 (by decide) ?_
          refine lv_icmp_ge (tgt := 27) hx hb dX10_countTables_6 (by decide) (fun hc => ?_) (fun hc => absurd (by decide) hc)
          refine lv_iload_n hx hb dX10_countTables_27 rfl (lv_at hl 1 rfl) ?_
          have hc0 : cuF (fun j => (ft j).isSome) Ls 0 = (0, 0) := rfl
          have hc1 : cuF (fun j => (ft j).isSome) Ls 1 = ((0 + 1), (0 + (Ls 0).length)) := cuF_1 hc0 (by show (ft 0).isSome = true; rw [hf0]; rfl) rfl
          have hc2 : cuF (fun j => (ft j).isSome) Ls 2 = ((0 + 1), (0 + (Ls 0).length)) := cuF_0 hc1 (by show ¬ (ft 1).isSome = true; rw [hf1]; decide)
          have hc3 : cuF (fun j => (ft j).isSome) Ls 3 = (((0 + 1) + 1), ((0 + (Ls 0).length) + (Ls 2).length)) := cuF_1 hc2 (by show (ft 2).isSome = true; rw [hf2]; rfl) rfl
          have hc4 : cuF (fun j => (ft j).isSome) Ls 4 = (((0 + 1) + 1), ((0 + (Ls 0).length) + (Ls 2).length)) := cuF_0 hc3 (by show ¬ (ft 3).isSome = true; rw [hf3]; decide)
          exact W.iret (v := 2) hx hb hr (fun t ht hW => ⟨⟨2, (), rfl, by rw [hc4]; rfl, trivial⟩, hS.F ht⟩) hS.2.2 dX10_countTables_28
        ·
          refine W.eq (g2 := F0 m 15 ls [.ref b3]) (by rw [show Int32.toNatClampNeg 3 = 3 from by decide, hf3]; rfl) ?_
          refine lv_ifnull hx hb dX10_countTables_15 ?_
          refine lv_iinc (v := 3) (lv' := [(1, .int 3), (2, .int 3), (0, .ref (ox 0))]) hx hb dX10_countTables_18 hl (k := 1) rfl (by decide) (by decide) rfl (fun ls hl => ?_)
          refine lv_iinc (v := 4) (lv' := [(2, .int 4), (1, .int 3), (0, .ref (ox 0))]) hx hb dX10_countTables_21 hl (k := 1) rfl (by decide) (by decide) rfl (fun ls hl => ?_)
          refine lv_goto (tgt := 4) hx hb dX10_countTables_24 (by decide) ?_
          refine lv_iload_n hx hb dX10_countTables_4 rfl (lv_at hl 0 rfl) ?_
          refine lv_iconst (v := 4) hx hb dX10_countTables_5 (by decide) ?_
          refine lv_icmp_ge (tgt := 27) hx hb dX10_countTables_6 (by decide) (fun hc => ?_) (fun hc => absurd (by decide) hc)
          refine lv_iload_n hx hb dX10_countTables_27 rfl (lv_at hl 1 rfl) ?_
          have hc0 : cuF (fun j => (ft j).isSome) Ls 0 = (0, 0) := rfl
          have hc1 : cuF (fun j => (ft j).isSome) Ls 1 = ((0 + 1), (0 + (Ls 0).length)) := cuF_1 hc0 (by show (ft 0).isSome = true; rw [hf0]; rfl) rfl
          have hc2 : cuF (fun j => (ft j).isSome) Ls 2 = ((0 + 1), (0 + (Ls 0).length)) := cuF_0 hc1 (by show ¬ (ft 1).isSome = true; rw [hf1]; decide)
          have hc3 : cuF (fun j => (ft j).isSome) Ls 3 = (((0 + 1) + 1), ((0 + (Ls 0).length) + (Ls 2).length)) := cuF_1 hc2 (by show (ft 2).isSome = true; rw [hf2]; rfl) rfl
          have hc4 : cuF (fun j => (ft j).isSome) Ls 4 = ((((0 + 1) + 1) + 1), (((0 + (Ls 0).length) + (Ls 2).length) + (Ls 3).length)) := cuF_1 hc3 (by show (ft 3).isSome = true; rw [hf3]; rfl) rfl
          exact W.iret (v := 3) hx hb hr (fun t ht hW => ⟨⟨3, (), rfl, by rw [hc4]; rfl, trivial⟩, hS.F ht⟩) hS.2.2 dX10_countTables_28
    ·
      refine W.eq (g2 := F0 m 15 ls [.ref b1]) (by rw [show Int32.toNatClampNeg 1 = 1 from by decide, hf1]; rfl) ?_
      refine lv_ifnull hx hb dX10_countTables_15 ?_
      refine lv_iinc (v := 2) (lv' := [(1, .int 2), (2, .int 1), (0, .ref (ox 0))]) hx hb dX10_countTables_18 hl (k := 1) rfl (by decide) (by decide) rfl (fun ls hl => ?_)
      refine lv_iinc (v := 2) (lv' := [(2, .int 2), (1, .int 2), (0, .ref (ox 0))]) hx hb dX10_countTables_21 hl (k := 1) rfl (by decide) (by decide) rfl (fun ls hl => ?_)
      refine lv_goto (tgt := 4) hx hb dX10_countTables_24 (by decide) ?_
      refine lv_iload_n hx hb dX10_countTables_4 rfl (lv_at hl 0 rfl) ?_
      refine lv_iconst (v := 4) hx hb dX10_countTables_5 (by decide) ?_
      refine lv_icmp_ge (tgt := 27) hx hb dX10_countTables_6 (by decide) (fun hc => absurd hc (by decide)) (fun hc => ?_)
      refine lv_aload_n hx hb dX10_countTables_9 rfl (lv_at hl 2 rfl) ?_
      refine va_get (D := D) (ci := 10) (v := .ref (ox 1)) (C := RX10) (T := TX10) (N := 7) hx hb hts hin_X10 hown hK hP 0 rfl rfl 0 (by decide) (hts (.fieldLink RX10 11 "ClashFree" "tables" "[LClashFree$Table;") (List.mem_of_getElem? (i := 1) rfl)) (fun _ h9 => h9) rfl dX10_countTables_10 ?_
      refine lv_iload_n hx hb dX10_countTables_13 rfl (lv_at hl 0 rfl) ?_
      refine va_aldq hx hb hK hP 1 0 rfl rfl (show ¬ ((2 : Int32) < 0 ∨ 4 ≤ Int32.toNatClampNeg 2) by decide) dX10_countTables_14 ?_
      rcases hf2 : ft 2 with _ | b2
      ·
        refine W.eq (g2 := F0 m 15 ls [.null]) (by rw [show Int32.toNatClampNeg 2 = 2 from by decide, hf2]; rfl) ?_
        refine lv_ifnullN (tgt := 21) hx hb dX10_countTables_15 (by decide) ?_
        refine lv_iinc (v := 3) (lv' := [(2, .int 3), (1, .int 2), (0, .ref (ox 0))]) hx hb dX10_countTables_21 hl (k := 0) rfl (by decide) (by decide) rfl (fun ls hl => ?_)
        refine lv_goto (tgt := 4) hx hb dX10_countTables_24 (by decide) ?_
        refine lv_iload_n hx hb dX10_countTables_4 rfl (lv_at hl 0 rfl) ?_
        refine lv_iconst (v := 4) hx hb dX10_countTables_5 (by decide) ?_
        refine lv_icmp_ge (tgt := 27) hx hb dX10_countTables_6 (by decide) (fun hc => absurd hc (by decide)) (fun hc => ?_)
        refine lv_aload_n hx hb dX10_countTables_9 rfl (lv_at hl 2 rfl) ?_
        refine va_get (D := D) (ci := 10) (v := .ref (ox 1)) (C := RX10) (T := TX10) (N := 7) hx hb hts hin_X10 hown hK hP 0 rfl rfl 0 (by decide) (hts (.fieldLink RX10 11 "ClashFree" "tables" "[LClashFree$Table;") (List.mem_of_getElem? (i := 1) rfl)) (fun _ h9 => h9) rfl dX10_countTables_10 ?_
        refine lv_iload_n hx hb dX10_countTables_13 rfl (lv_at hl 0 rfl) ?_
        refine va_aldq hx hb hK hP 1 0 rfl rfl (show ¬ ((3 : Int32) < 0 ∨ 4 ≤ Int32.toNatClampNeg 3) by decide) dX10_countTables_14 ?_
        rcases hf3 : ft 3 with _ | b3
        ·
          refine W.eq (g2 := F0 m 15 ls [.null]) (by rw [show Int32.toNatClampNeg 3 = 3 from by decide, hf3]; rfl) ?_
          refine lv_ifnullN (tgt := 21) hx hb dX10_countTables_15 (by decide) ?_
          refine lv_iinc (v := 4) (lv' := [(2, .int 4), (1, .int 2), (0, .ref (ox 0))]) hx hb dX10_countTables_21 hl (k := 0) rfl (by decide) (by decide) rfl (fun ls hl => ?_)
          refine lv_goto (tgt := 4) hx hb dX10_countTables_24 (by decide) ?_
          refine lv_iload_n hx hb dX10_countTables_4 rfl (lv_at hl 0 rfl) ?_
          refine lv_iconst (v := 4) hx hb dX10_countTables_5 (by decide) ?_
          refine lv_icmp_ge (tgt := 27) hx hb dX10_countTables_6 (by decide) (fun hc => ?_) (fun hc => absurd (by decide) hc)
          refine lv_iload_n hx hb dX10_countTables_27 rfl (lv_at hl 1 rfl) ?_
          have hc0 : cuF (fun j => (ft j).isSome) Ls 0 = (0, 0) := rfl
          have hc1 : cuF (fun j => (ft j).isSome) Ls 1 = ((0 + 1), (0 + (Ls 0).length)) := cuF_1 hc0 (by show (ft 0).isSome = true; rw [hf0]; rfl) rfl
          have hc2 : cuF (fun j => (ft j).isSome) Ls 2 = (((0 + 1) + 1), ((0 + (Ls 0).length) + (Ls 1).length)) := cuF_1 hc1 (by show (ft 1).isSome = true; rw [hf1]; rfl) rfl
          have hc3 : cuF (fun j => (ft j).isSome) Ls 3 = (((0 + 1) + 1), ((0 + (Ls 0).length) + (Ls 1).length)) := cuF_0 hc2 (by show ¬ (ft 2).isSome = true; rw [hf2]; decide)
          have hc4 : cuF (fun j => (ft j).isSome) Ls 4 = (((0 + 1) + 1), ((0 + (Ls 0).length) + (Ls 1).length)) := cuF_0 hc3 (by show ¬ (ft 3).isSome = true; rw [hf3]; decide)
          exact W.iret (v := 2) hx hb hr (fun t ht hW => ⟨⟨2, (), rfl, by rw [hc4]; rfl, trivial⟩, hS.F ht⟩) hS.2.2 dX10_countTables_28
        ·
          refine W.eq (g2 := F0 m 15 ls [.ref b3]) (by rw [show Int32.toNatClampNeg 3 = 3 from by decide, hf3]; rfl) ?_
          refine lv_ifnull hx hb dX10_countTables_15 ?_
          refine lv_iinc (v := 3) (lv' := [(1, .int 3), (2, .int 3), (0, .ref (ox 0))]) hx hb dX10_countTables_18 hl (k := 1) rfl (by decide) (by decide) rfl (fun ls hl => ?_)
          refine lv_iinc (v := 4) (lv' := [(2, .int 4), (1, .int 3), (0, .ref (ox 0))]) hx hb dX10_countTables_21 hl (k := 1) rfl (by decide) (by decide) rfl (fun ls hl => ?_)
          refine lv_goto (tgt := 4) hx hb dX10_countTables_24 (by decide) ?_
          refine lv_iload_n hx hb dX10_countTables_4 rfl (lv_at hl 0 rfl) ?_
          refine lv_iconst (v := 4) hx hb dX10_countTables_5 (by decide) ?_
          refine lv_icmp_ge (tgt := 27) hx hb dX10_countTables_6 (by decide) (fun hc => ?_) (fun hc => absurd (by decide) hc)
          refine lv_iload_n hx hb dX10_countTables_27 rfl (lv_at hl 1 rfl) ?_
          have hc0 : cuF (fun j => (ft j).isSome) Ls 0 = (0, 0) := rfl
          have hc1 : cuF (fun j => (ft j).isSome) Ls 1 = ((0 + 1), (0 + (Ls 0).length)) := cuF_1 hc0 (by show (ft 0).isSome = true; rw [hf0]; rfl) rfl
          have hc2 : cuF (fun j => (ft j).isSome) Ls 2 = (((0 + 1) + 1), ((0 + (Ls 0).length) + (Ls 1).length)) := cuF_1 hc1 (by show (ft 1).isSome = true; rw [hf1]; rfl) rfl
          have hc3 : cuF (fun j => (ft j).isSome) Ls 3 = (((0 + 1) + 1), ((0 + (Ls 0).length) + (Ls 1).length)) := cuF_0 hc2 (by show ¬ (ft 2).isSome = true; rw [hf2]; decide)
          have hc4 : cuF (fun j => (ft j).isSome) Ls 4 = ((((0 + 1) + 1) + 1), (((0 + (Ls 0).length) + (Ls 1).length) + (Ls 3).length)) := cuF_1 hc3 (by show (ft 3).isSome = true; rw [hf3]; rfl) rfl
          exact W.iret (v := 3) hx hb hr (fun t ht hW => ⟨⟨3, (), rfl, by rw [hc4]; rfl, trivial⟩, hS.F ht⟩) hS.2.2 dX10_countTables_28
      ·
        refine W.eq (g2 := F0 m 15 ls [.ref b2]) (by rw [show Int32.toNatClampNeg 2 = 2 from by decide, hf2]; rfl) ?_
        refine lv_ifnull hx hb dX10_countTables_15 ?_
        refine lv_iinc (v := 3) (lv' := [(1, .int 3), (2, .int 2), (0, .ref (ox 0))]) hx hb dX10_countTables_18 hl (k := 1) rfl (by decide) (by decide) rfl (fun ls hl => ?_)
        refine lv_iinc (v := 3) (lv' := [(2, .int 3), (1, .int 3), (0, .ref (ox 0))]) hx hb dX10_countTables_21 hl (k := 1) rfl (by decide) (by decide) rfl (fun ls hl => ?_)
        refine lv_goto (tgt := 4) hx hb dX10_countTables_24 (by decide) ?_
        refine lv_iload_n hx hb dX10_countTables_4 rfl (lv_at hl 0 rfl) ?_
        refine lv_iconst (v := 4) hx hb dX10_countTables_5 (by decide) ?_
        refine lv_icmp_ge (tgt := 27) hx hb dX10_countTables_6 (by decide) (fun hc => absurd hc (by decide)) (fun hc => ?_)
        refine lv_aload_n hx hb dX10_countTables_9 rfl (lv_at hl 2 rfl) ?_
        refine va_get (D := D) (ci := 10) (v := .ref (ox 1)) (C := RX10) (T := TX10) (N := 7) hx hb hts hin_X10 hown hK hP 0 rfl rfl 0 (by decide) (hts (.fieldLink RX10 11 "ClashFree" "tables" "[LClashFree$Table;") (List.mem_of_getElem? (i := 1) rfl)) (fun _ h9 => h9) rfl dX10_countTables_10 ?_
        refine lv_iload_n hx hb dX10_countTables_13 rfl (lv_at hl 0 rfl) ?_
        refine va_aldq hx hb hK hP 1 0 rfl rfl (show ¬ ((3 : Int32) < 0 ∨ 4 ≤ Int32.toNatClampNeg 3) by decide) dX10_countTables_14 ?_
        rcases hf3 : ft 3 with _ | b3
        ·
          refine W.eq (g2 := F0 m 15 ls [.null]) (by rw [show Int32.toNatClampNeg 3 = 3 from by decide, hf3]; rfl) ?_
          refine lv_ifnullN (tgt := 21) hx hb dX10_countTables_15 (by decide) ?_
          refine lv_iinc (v := 4) (lv' := [(2, .int 4), (1, .int 3), (0, .ref (ox 0))]) hx hb dX10_countTables_21 hl (k := 0) rfl (by decide) (by decide) rfl (fun ls hl => ?_)
          refine lv_goto (tgt := 4) hx hb dX10_countTables_24 (by decide) ?_
          refine lv_iload_n hx hb dX10_countTables_4 rfl (lv_at hl 0 rfl) ?_
          refine lv_iconst (v := 4) hx hb dX10_countTables_5 (by decide) ?_
          refine lv_icmp_ge (tgt := 27) hx hb dX10_countTables_6 (by decide) (fun hc => ?_) (fun hc => absurd (by decide) hc)
          refine lv_iload_n hx hb dX10_countTables_27 rfl (lv_at hl 1 rfl) ?_
          have hc0 : cuF (fun j => (ft j).isSome) Ls 0 = (0, 0) := rfl
          have hc1 : cuF (fun j => (ft j).isSome) Ls 1 = ((0 + 1), (0 + (Ls 0).length)) := cuF_1 hc0 (by show (ft 0).isSome = true; rw [hf0]; rfl) rfl
          have hc2 : cuF (fun j => (ft j).isSome) Ls 2 = (((0 + 1) + 1), ((0 + (Ls 0).length) + (Ls 1).length)) := cuF_1 hc1 (by show (ft 1).isSome = true; rw [hf1]; rfl) rfl
          have hc3 : cuF (fun j => (ft j).isSome) Ls 3 = ((((0 + 1) + 1) + 1), (((0 + (Ls 0).length) + (Ls 1).length) + (Ls 2).length)) := cuF_1 hc2 (by show (ft 2).isSome = true; rw [hf2]; rfl) rfl
          have hc4 : cuF (fun j => (ft j).isSome) Ls 4 = ((((0 + 1) + 1) + 1), (((0 + (Ls 0).length) + (Ls 1).length) + (Ls 2).length)) := cuF_0 hc3 (by show ¬ (ft 3).isSome = true; rw [hf3]; decide)
          exact W.iret (v := 3) hx hb hr (fun t ht hW => ⟨⟨3, (), rfl, by rw [hc4]; rfl, trivial⟩, hS.F ht⟩) hS.2.2 dX10_countTables_28
        ·
          refine W.eq (g2 := F0 m 15 ls [.ref b3]) (by rw [show Int32.toNatClampNeg 3 = 3 from by decide, hf3]; rfl) ?_
          refine lv_ifnull hx hb dX10_countTables_15 ?_
          refine lv_iinc (v := 4) (lv' := [(1, .int 4), (2, .int 3), (0, .ref (ox 0))]) hx hb dX10_countTables_18 hl (k := 1) rfl (by decide) (by decide) rfl (fun ls hl => ?_)
          refine lv_iinc (v := 4) (lv' := [(2, .int 4), (1, .int 4), (0, .ref (ox 0))]) hx hb dX10_countTables_21 hl (k := 1) rfl (by decide) (by decide) rfl (fun ls hl => ?_)
          refine lv_goto (tgt := 4) hx hb dX10_countTables_24 (by decide) ?_
          refine lv_iload_n hx hb dX10_countTables_4 rfl (lv_at hl 0 rfl) ?_
          refine lv_iconst (v := 4) hx hb dX10_countTables_5 (by decide) ?_
          refine lv_icmp_ge (tgt := 27) hx hb dX10_countTables_6 (by decide) (fun hc => ?_) (fun hc => absurd (by decide) hc)
          refine lv_iload_n hx hb dX10_countTables_27 rfl (lv_at hl 1 rfl) ?_
          have hc0 : cuF (fun j => (ft j).isSome) Ls 0 = (0, 0) := rfl
          have hc1 : cuF (fun j => (ft j).isSome) Ls 1 = ((0 + 1), (0 + (Ls 0).length)) := cuF_1 hc0 (by show (ft 0).isSome = true; rw [hf0]; rfl) rfl
          have hc2 : cuF (fun j => (ft j).isSome) Ls 2 = (((0 + 1) + 1), ((0 + (Ls 0).length) + (Ls 1).length)) := cuF_1 hc1 (by show (ft 1).isSome = true; rw [hf1]; rfl) rfl
          have hc3 : cuF (fun j => (ft j).isSome) Ls 3 = ((((0 + 1) + 1) + 1), (((0 + (Ls 0).length) + (Ls 1).length) + (Ls 2).length)) := cuF_1 hc2 (by show (ft 2).isSome = true; rw [hf2]; rfl) rfl
          have hc4 : cuF (fun j => (ft j).isSome) Ls 4 = (((((0 + 1) + 1) + 1) + 1), ((((0 + (Ls 0).length) + (Ls 1).length) + (Ls 2).length) + (Ls 3).length)) := cuF_1 hc3 (by show (ft 3).isSome = true; rw [hf3]; rfl) rfl
          exact W.iret (v := 4) hx hb hr (fun t ht hW => ⟨⟨4, (), rfl, by rw [hc4]; rfl, trivial⟩, hS.F ht⟩) hS.2.2 dX10_countTables_28

def own_k_cK : List Cond := [.fieldLink RX10 11 "ClashFree" "tables" "[LClashFree$Table;", .fieldLink RX10 93 "ClashFree$Table" "keys" "LClashFree$Keys;", .fieldLink RX10 121 "ClashFree$Keys" "size" "I"]
def wp_k_cK : List Cond := .code yX10_countKeys cX10_countKeys 3 (some .int) :: (own_k_cK ++ (wsX100 ++ (wsX90 ++ (wsX20 ++ ([] : List Cond)))))
set_option maxRecDepth 20000 in
theorem inown_k_cK : ∀ w ∈ own_k_cK, w ∈ lw_tbl := mem_places [412, 518, 476] (by decide +kernel)
set_option maxRecDepth 20000 in
theorem in_k_cK : ∀ w ∈ wp_k_cK, w ∈ lw_tbl := List.forall_mem_cons.mpr ⟨List.mem_of_getElem? (i := 1209) (by decide +kernel), List.forall_mem_append.mpr ⟨inown_k_cK, List.forall_mem_append.mpr ⟨lwb_X10, List.forall_mem_append.mpr ⟨lwb_X9, List.forall_mem_append.mpr ⟨lwb_X2, fun _ h => absurd h List.not_mem_nil⟩⟩⟩⟩⟩
set_option maxRecDepth 20000 in
theorem good_k_cK : wp_k_cK.all goodWord = true := by decide +kernel
set_option maxHeartbeats 4000000 in
set_option maxRecDepth 100000 in
theorem k_cK (l : Launch) (D : va_G) (sz : Nat) (ox : Nat → Nat) (ob3 : Nat → Nat) (og : Nat → Nat) (oq : Nat → Nat) (ow : Nat → Nat) (cI : ClassId) (cT : ClassId) (tp : Nat) (ft : Nat → Option Nat) (Wt : va_W) (Ls : Nat → List (Nat × Int32)) (hG : ∀ k, k < 4 → ∀ b, ft k = some b → ∃ (o : Nat → Nat) (tb ts tg tl tc tr tu tv tw : Int32) (cn : Nat), b = o 0 ∧ (o 0, .inr (9, gT o tb ts tg tl tc tr tu tv tw)) ∈ Wt ∧ (o 2, .inr (2, [.int (nI cn), .ref (o 3), .ref (o 4)])) ∈ Wt ∧ (Ls k).length = cn) : Met l yX10_countKeys wp_k_cK ({ frames := 0, cells := 0, slots := 0, locals := 0 }) (PcRC D [.ref (ox 0)] sz ((ox 0, .inr (10, [.ref (ox 1), .ref (ox 2), .int (nI tp), .ref (ob3 0), .ref (og 0), .ref (oq 0), .ref (ow 0)])) :: (ox 1, .inl (cT, 4, .inr (.inr (.inr (.inr ft))))) :: Wt) [(cT, .object RX9)]) (va_Qi (fun (r : Int32) (u : Unit) => r = nI (cuF (fun j => (ft j).isSome) Ls 4).2) (fun (_ : Unit) _ => True) (va_A [] sz)) 0 0 (va_A [] sz) := by
  refine Met.ofW (cc := cX10_countKeys) (maxL := 3) (ret := (some .int)) (by decide) rfl ?_
  intro p e s m args below meth c s₁ B hml hv
  obtain ⟨rfl, hsz, hP, hK, hN⟩ := hv
  have hx := B.exec
  have hb := B.bytes
  have hr := B.returns
  have hts := atoms_spec (ws := wp_k_cK) B.pre
  have hin_X10 : ∀ w ∈ wsX100, w ∈ wp_k_cK := fun _ h => (List.mem_cons_of_mem _ (List.mem_append_right _ (List.mem_append_left _ h)))
  have hin_X9 : ∀ w ∈ wsX90, w ∈ wp_k_cK := fun _ h => (List.mem_cons_of_mem _ (List.mem_append_right _ (List.mem_append_right _ (List.mem_append_left _ h))))
  have hin_X2 : ∀ w ∈ wsX20, w ∈ wp_k_cK := fun _ h => (List.mem_cons_of_mem _ (List.mem_append_right _ (List.mem_append_right _ (List.mem_append_right _ (List.mem_append_left _ h)))))
  have hown : s.vm.findClass RX10 = some m.cls := findClass_of_methodNamed B.named
  have hlocks := B.notSynchronized
  subst hsz
  generalize hAe : va_A [] s.heap.size = A at ⊢
  have hA : ∀ q : Nat, s.heap.size ≤ q → A q := fun q h => by rw [← hAe]; exact Or.inr h
  have hS : va_S A s.heap s.heap [] := va_S.rf
  have hP : va_P D vwCl ((ox 0, .inr (10, [.ref (ox 1), .ref (ox 2), .int (nI tp), .ref (ob3 0), .ref (og 0), .ref (oq 0), .ref (ow 0)])) :: (ox 1, .inl (cT, 4, .inr (.inr (.inr (.inr ft))))) :: Wt) s.heap := hP
  have hl := lv_entry ([.ref (ox 0)]) (n := 3) (Nat.le_of_ble_eq_true rfl)
  rw [lg_entry_eq]
  generalize (lg_sl ([.ref (ox 0)]) ++ List.replicate (3 - (lg_sl ([.ref (ox 0)])).length) Slot.unset).toArray = ls at hl ⊢
  have hl : lv_has ls 3 [(0, .ref (ox 0))] := hl
  have hP0 := hP
  have hP := hP.sub (ws' := [(ox 0, .inr (10, [.ref (ox 1), .ref (ox 2), .int (nI tp), .ref (ob3 0), .ref (og 0), .ref (oq 0), .ref (ow 0)])), (ox 1, .inl (cT, 4, .inr (.inr (.inr (.inr ft)))))]) [0, 1] rfl
  refine lv_iconst (v := 0) hx hb dX10_countKeys_0 (by decide) ?_
  refine lv_istore_n (lv' := [(1, .int 0), (0, .ref (ox 0))]) hx hb dX10_countKeys_1 rfl hl (by decide) rfl (fun ls hl => ?_)
  refine lv_iconst (v := 0) hx hb dX10_countKeys_2 (by decide) ?_
  refine lv_istore_n (lv' := [(2, .int 0), (1, .int 0), (0, .ref (ox 0))]) hx hb dX10_countKeys_3 rfl hl (by decide) rfl (fun ls hl => ?_)
  refine lv_iload_n hx hb dX10_countKeys_4 rfl (lv_at hl 0 rfl) ?_
  refine lv_iconst (v := 4) hx hb dX10_countKeys_5 (by decide) ?_
  refine lv_icmp_ge (tgt := 39) hx hb dX10_countKeys_6 (by decide) (fun hc => absurd hc (by decide)) (fun hc => ?_)
  refine lv_aload_n hx hb dX10_countKeys_9 rfl (lv_at hl 2 rfl) ?_
  refine va_get (D := D) (ci := 10) (v := .ref (ox 1)) (C := RX10) (T := TX10) (N := 7) hx hb hts hin_X10 hown hK hP 0 rfl rfl 0 (by decide) (hts (.fieldLink RX10 11 "ClashFree" "tables" "[LClashFree$Table;") (List.mem_of_getElem? (i := 1) rfl)) (fun _ h9 => h9) rfl dX10_countKeys_10 ?_
  refine lv_iload_n hx hb dX10_countKeys_13 rfl (lv_at hl 0 rfl) ?_
  refine va_aldq hx hb hK hP 1 0 rfl rfl (show ¬ ((0 : Int32) < 0 ∨ 4 ≤ Int32.toNatClampNeg 0) by decide) dX10_countKeys_14 ?_
  rcases hf0 : ft 0 with _ | b0
  ·
    refine W.eq (g2 := F0 m 15 ls [.null]) (by rw [show Int32.toNatClampNeg 0 = 0 from by decide, hf0]; rfl) ?_
    refine lv_ifnullN (tgt := 33) hx hb dX10_countKeys_15 (by decide) ?_
    refine lv_iinc (v := 1) (lv' := [(2, .int 1), (1, .int 0), (0, .ref (ox 0))]) hx hb dX10_countKeys_33 hl (k := 0) rfl (by decide) (by decide) rfl (fun ls hl => ?_)
    refine lv_goto (tgt := 4) hx hb dX10_countKeys_36 (by decide) ?_
    refine lv_iload_n hx hb dX10_countKeys_4 rfl (lv_at hl 0 rfl) ?_
    refine lv_iconst (v := 4) hx hb dX10_countKeys_5 (by decide) ?_
    refine lv_icmp_ge (tgt := 39) hx hb dX10_countKeys_6 (by decide) (fun hc => absurd hc (by decide)) (fun hc => ?_)
    refine lv_aload_n hx hb dX10_countKeys_9 rfl (lv_at hl 2 rfl) ?_
    refine va_get (D := D) (ci := 10) (v := .ref (ox 1)) (C := RX10) (T := TX10) (N := 7) hx hb hts hin_X10 hown hK hP 0 rfl rfl 0 (by decide) (hts (.fieldLink RX10 11 "ClashFree" "tables" "[LClashFree$Table;") (List.mem_of_getElem? (i := 1) rfl)) (fun _ h9 => h9) rfl dX10_countKeys_10 ?_
    refine lv_iload_n hx hb dX10_countKeys_13 rfl (lv_at hl 0 rfl) ?_
    refine va_aldq hx hb hK hP 1 0 rfl rfl (show ¬ ((1 : Int32) < 0 ∨ 4 ≤ Int32.toNatClampNeg 1) by decide) dX10_countKeys_14 ?_
    rcases hf1 : ft 1 with _ | b1
    ·
      refine W.eq (g2 := F0 m 15 ls [.null]) (by rw [show Int32.toNatClampNeg 1 = 1 from by decide, hf1]; rfl) ?_
      refine lv_ifnullN (tgt := 33) hx hb dX10_countKeys_15 (by decide) ?_
      refine lv_iinc (v := 2) (lv' := [(2, .int 2), (1, .int 0), (0, .ref (ox 0))]) hx hb dX10_countKeys_33 hl (k := 0) rfl (by decide) (by decide) rfl (fun ls hl => ?_)
      refine lv_goto (tgt := 4) hx hb dX10_countKeys_36 (by decide) ?_
      refine lv_iload_n hx hb dX10_countKeys_4 rfl (lv_at hl 0 rfl) ?_
      refine lv_iconst (v := 4) hx hb dX10_countKeys_5 (by decide) ?_
      refine lv_icmp_ge (tgt := 39) hx hb dX10_countKeys_6 (by decide) (fun hc => absurd hc (by decide)) (fun hc => ?_)
      refine lv_aload_n hx hb dX10_countKeys_9 rfl (lv_at hl 2 rfl) ?_
      refine va_get (D := D) (ci := 10) (v := .ref (ox 1)) (C := RX10) (T := TX10) (N := 7) hx hb hts hin_X10 hown hK hP 0 rfl rfl 0 (by decide) (hts (.fieldLink RX10 11 "ClashFree" "tables" "[LClashFree$Table;") (List.mem_of_getElem? (i := 1) rfl)) (fun _ h9 => h9) rfl dX10_countKeys_10 ?_
      refine lv_iload_n hx hb dX10_countKeys_13 rfl (lv_at hl 0 rfl) ?_
      refine va_aldq hx hb hK hP 1 0 rfl rfl (show ¬ ((2 : Int32) < 0 ∨ 4 ≤ Int32.toNatClampNeg 2) by decide) dX10_countKeys_14 ?_
      rcases hf2 : ft 2 with _ | b2
      ·
        refine W.eq (g2 := F0 m 15 ls [.null]) (by rw [show Int32.toNatClampNeg 2 = 2 from by decide, hf2]; rfl) ?_
        refine lv_ifnullN (tgt := 33) hx hb dX10_countKeys_15 (by decide) ?_
        refine lv_iinc (v := 3) (lv' := [(2, .int 3), (1, .int 0), (0, .ref (ox 0))]) hx hb dX10_countKeys_33 hl (k := 0) rfl (by decide) (by decide) rfl (fun ls hl => ?_)
        refine lv_goto (tgt := 4) hx hb dX10_countKeys_36 (by decide) ?_
        refine lv_iload_n hx hb dX10_countKeys_4 rfl (lv_at hl 0 rfl) ?_
        refine lv_iconst (v := 4) hx hb dX10_countKeys_5 (by decide) ?_
        refine lv_icmp_ge (tgt := 39) hx hb dX10_countKeys_6 (by decide) (fun hc => absurd hc (by decide)) (fun hc => ?_)
        refine lv_aload_n hx hb dX10_countKeys_9 rfl (lv_at hl 2 rfl) ?_
        refine va_get (D := D) (ci := 10) (v := .ref (ox 1)) (C := RX10) (T := TX10) (N := 7) hx hb hts hin_X10 hown hK hP 0 rfl rfl 0 (by decide) (hts (.fieldLink RX10 11 "ClashFree" "tables" "[LClashFree$Table;") (List.mem_of_getElem? (i := 1) rfl)) (fun _ h9 => h9) rfl dX10_countKeys_10 ?_
        refine lv_iload_n hx hb dX10_countKeys_13 rfl (lv_at hl 0 rfl) ?_
        refine va_aldq hx hb hK hP 1 0 rfl rfl (show ¬ ((3 : Int32) < 0 ∨ 4 ≤ Int32.toNatClampNeg 3) by decide) dX10_countKeys_14 ?_
        rcases hf3 : ft 3 with _ | b3
        ·
          refine W.eq (g2 := F0 m 15 ls [.null]) (by rw [show Int32.toNatClampNeg 3 = 3 from by decide, hf3]; rfl) ?_
          refine lv_ifnullN (tgt := 33) hx hb dX10_countKeys_15 (by decide) ?_
          refine lv_iinc (v := 4) (lv' := [(2, .int 4), (1, .int 0), (0, .ref (ox 0))]) hx hb dX10_countKeys_33 hl (k := 0) rfl (by decide) (by decide) rfl (fun ls hl => ?_)
          refine lv_goto (tgt := 4) hx hb dX10_countKeys_36 (by decide) ?_
          refine lv_iload_n hx hb dX10_countKeys_4 rfl (lv_at hl 0 rfl) ?_
          refine lv_iconst (v := 4) hx hb dX10_countKeys_5 (by decide) ?_
          refine lv_icmp_ge (tgt := 39) hx hb dX10_countKeys_6 (by decide) (fun hc => ?_) (fun hc => absurd (by decide) hc)
          refine lv_iload_n hx hb dX10_countKeys_39 rfl (lv_at hl 1 rfl) ?_
          have hc0 : cuF (fun j => (ft j).isSome) Ls 0 = (0, 0) := rfl
          have hc1 : cuF (fun j => (ft j).isSome) Ls 1 = (0, 0) := cuF_0 hc0 (by show ¬ (ft 0).isSome = true; rw [hf0]; decide)
          have hc2 : cuF (fun j => (ft j).isSome) Ls 2 = (0, 0) := cuF_0 hc1 (by show ¬ (ft 1).isSome = true; rw [hf1]; decide)
          have hc3 : cuF (fun j => (ft j).isSome) Ls 3 = (0, 0) := cuF_0 hc2 (by show ¬ (ft 2).isSome = true; rw [hf2]; decide)
          have hc4 : cuF (fun j => (ft j).isSome) Ls 4 = (0, 0) := cuF_0 hc3 (by show ¬ (ft 3).isSome = true; rw [hf3]; decide)
          exact W.iret (v := 0) hx hb hr (fun t ht hW => ⟨⟨0, (), rfl, by rw [hc4]; rfl, trivial⟩, hS.F ht⟩) hS.2.2 dX10_countKeys_40
        ·
          obtain ⟨o3, tb3, ts3, tg3, tl3, tc3, tr3, tu3, tv3, tw3, cn3, rfl, hm1, hm2, hn3⟩ := hG 3 (by decide) b3 hf3
          have hP : va_P D vwCl [(ox 0, .inr (10, [.ref (ox 1), .ref (ox 2), .int (nI tp), .ref (ob3 0), .ref (og 0), .ref (oq 0), .ref (ow 0)])), (ox 1, .inl (cT, 4, .inr (.inr (.inr (.inr ft))))), (o3 0, .inr (9, gT o3 tb3 ts3 tg3 tl3 tc3 tr3 tu3 tv3 tw3)), (o3 2, .inr (2, [.int (nI cn3), .ref (o3 3), .ref (o3 4)]))] s.heap := va_P.two hP0 hm1 hm2
          refine W.eq (g2 := F0 m 15 ls [.ref (o3 0)]) (by rw [show Int32.toNatClampNeg 3 = 3 from by decide, hf3]; rfl) ?_
          refine lv_ifnull hx hb dX10_countKeys_15 ?_
          refine lv_iload_n hx hb dX10_countKeys_18 rfl (lv_at hl 1 rfl) ?_
          refine lv_aload_n hx hb dX10_countKeys_19 rfl (lv_at hl 2 rfl) ?_
          refine va_get (D := D) (ci := 10) (v := .ref (ox 1)) (C := RX10) (T := TX10) (N := 7) hx hb hts hin_X10 hown hK hP 0 rfl rfl 0 (by decide) (hts (.fieldLink RX10 11 "ClashFree" "tables" "[LClashFree$Table;") (List.mem_of_getElem? (i := 1) rfl)) (fun _ h9 => h9) rfl dX10_countKeys_20 ?_
          refine lv_iload_n hx hb dX10_countKeys_23 rfl (lv_at hl 0 rfl) ?_
          refine va_aldq hx hb hK hP 1 0 rfl rfl (show ¬ ((3 : Int32) < 0 ∨ 4 ≤ Int32.toNatClampNeg 3) by decide) dX10_countKeys_24 ?_
          refine W.eq (g2 := F0 m 25 ls [.ref (o3 0), .int 0]) (by rw [show Int32.toNatClampNeg 3 = 3 from by decide, hf3]; rfl) ?_
          refine va_get (D := D) (ci := 9) (v := .ref (o3 2)) (C := RX9) (T := TX9) (N := 12) hx hb hts hin_X9 hown hK hP 2 rfl rfl 10 (by decide) (hts (.fieldLink RX10 93 "ClashFree$Table" "keys" "LClashFree$Keys;") (List.mem_of_getElem? (i := 2) rfl)) (fun _ h9 => h9) rfl dX10_countKeys_25 ?_
          refine va_get (D := D) (ci := 2) (v := .int (nI cn3)) (C := RX2) (T := TX2) (N := 3) hx hb hts hin_X2 hown hK hP 3 rfl rfl 0 (by decide) (hts (.fieldLink RX10 121 "ClashFree$Keys" "size" "I") (List.mem_of_getElem? (i := 3) rfl)) (fun _ h9 => h9) rfl dX10_countKeys_28 ?_
          refine lv_iadd hx hb dX10_countKeys_31 ?_
          refine lv_istore_n (lv' := [(1, .int (0 + (nI cn3))), (2, .int 3), (0, .ref (ox 0))]) hx hb dX10_countKeys_32 rfl hl (by decide) rfl (fun ls hl => ?_)
          refine lv_iinc (v := 4) (lv' := [(2, .int 4), (1, .int (0 + (nI cn3))), (0, .ref (ox 0))]) hx hb dX10_countKeys_33 hl (k := 1) rfl (by decide) (by decide) rfl (fun ls hl => ?_)
          refine lv_goto (tgt := 4) hx hb dX10_countKeys_36 (by decide) ?_
          refine lv_iload_n hx hb dX10_countKeys_4 rfl (lv_at hl 0 rfl) ?_
          refine lv_iconst (v := 4) hx hb dX10_countKeys_5 (by decide) ?_
          refine lv_icmp_ge (tgt := 39) hx hb dX10_countKeys_6 (by decide) (fun hc => ?_) (fun hc => absurd (by decide) hc)
          refine lv_iload_n hx hb dX10_countKeys_39 rfl (lv_at hl 1 rfl) ?_
          have hc0 : cuF (fun j => (ft j).isSome) Ls 0 = (0, 0) := rfl
          have hc1 : cuF (fun j => (ft j).isSome) Ls 1 = (0, 0) := cuF_0 hc0 (by show ¬ (ft 0).isSome = true; rw [hf0]; decide)
          have hc2 : cuF (fun j => (ft j).isSome) Ls 2 = (0, 0) := cuF_0 hc1 (by show ¬ (ft 1).isSome = true; rw [hf1]; decide)
          have hc3 : cuF (fun j => (ft j).isSome) Ls 3 = (0, 0) := cuF_0 hc2 (by show ¬ (ft 2).isSome = true; rw [hf2]; decide)
          have hc4 : cuF (fun j => (ft j).isSome) Ls 4 = ((0 + 1), (0 + cn3)) := cuF_1 hc3 (by show (ft 3).isSome = true; rw [hf3]; rfl) hn3
          exact W.iret (v := 0 + (nI cn3)) hx hb hr (fun t ht hW => ⟨⟨0 + (nI cn3), (), rfl, by rw [hc4]; show 0 + (nI cn3) = nI (0 + cn3); simp only [nI_add, show (0 : Int32) = nI 0 from rfl, Nat.zero_add], trivial⟩, hS.F ht⟩) hS.2.2 dX10_countKeys_40
      ·
        obtain ⟨o2, tb2, ts2, tg2, tl2, tc2, tr2, tu2, tv2, tw2, cn2, rfl, hm1, hm2, hn2⟩ := hG 2 (by decide) b2 hf2
        have hP : va_P D vwCl [(ox 0, .inr (10, [.ref (ox 1), .ref (ox 2), .int (nI tp), .ref (ob3 0), .ref (og 0), .ref (oq 0), .ref (ow 0)])), (ox 1, .inl (cT, 4, .inr (.inr (.inr (.inr ft))))), (o2 0, .inr (9, gT o2 tb2 ts2 tg2 tl2 tc2 tr2 tu2 tv2 tw2)), (o2 2, .inr (2, [.int (nI cn2), .ref (o2 3), .ref (o2 4)]))] s.heap := va_P.two hP0 hm1 hm2
        refine W.eq (g2 := F0 m 15 ls [.ref (o2 0)]) (by rw [show Int32.toNatClampNeg 2 = 2 from by decide, hf2]; rfl) ?_
        refine lv_ifnull hx hb dX10_countKeys_15 ?_
        refine lv_iload_n hx hb dX10_countKeys_18 rfl (lv_at hl 1 rfl) ?_
        refine lv_aload_n hx hb dX10_countKeys_19 rfl (lv_at hl 2 rfl) ?_
        refine va_get (D := D) (ci := 10) (v := .ref (ox 1)) (C := RX10) (T := TX10) (N := 7) hx hb hts hin_X10 hown hK hP 0 rfl rfl 0 (by decide) (hts (.fieldLink RX10 11 "ClashFree" "tables" "[LClashFree$Table;") (List.mem_of_getElem? (i := 1) rfl)) (fun _ h9 => h9) rfl dX10_countKeys_20 ?_
        refine lv_iload_n hx hb dX10_countKeys_23 rfl (lv_at hl 0 rfl) ?_
        refine va_aldq hx hb hK hP 1 0 rfl rfl (show ¬ ((2 : Int32) < 0 ∨ 4 ≤ Int32.toNatClampNeg 2) by decide) dX10_countKeys_24 ?_
        refine W.eq (g2 := F0 m 25 ls [.ref (o2 0), .int 0]) (by rw [show Int32.toNatClampNeg 2 = 2 from by decide, hf2]; rfl) ?_
        refine va_get (D := D) (ci := 9) (v := .ref (o2 2)) (C := RX9) (T := TX9) (N := 12) hx hb hts hin_X9 hown hK hP 2 rfl rfl 10 (by decide) (hts (.fieldLink RX10 93 "ClashFree$Table" "keys" "LClashFree$Keys;") (List.mem_of_getElem? (i := 2) rfl)) (fun _ h9 => h9) rfl dX10_countKeys_25 ?_
        refine va_get (D := D) (ci := 2) (v := .int (nI cn2)) (C := RX2) (T := TX2) (N := 3) hx hb hts hin_X2 hown hK hP 3 rfl rfl 0 (by decide) (hts (.fieldLink RX10 121 "ClashFree$Keys" "size" "I") (List.mem_of_getElem? (i := 3) rfl)) (fun _ h9 => h9) rfl dX10_countKeys_28 ?_
        refine lv_iadd hx hb dX10_countKeys_31 ?_
        refine lv_istore_n (lv' := [(1, .int (0 + (nI cn2))), (2, .int 2), (0, .ref (ox 0))]) hx hb dX10_countKeys_32 rfl hl (by decide) rfl (fun ls hl => ?_)
        refine lv_iinc (v := 3) (lv' := [(2, .int 3), (1, .int (0 + (nI cn2))), (0, .ref (ox 0))]) hx hb dX10_countKeys_33 hl (k := 1) rfl (by decide) (by decide) rfl (fun ls hl => ?_)
        refine lv_goto (tgt := 4) hx hb dX10_countKeys_36 (by decide) ?_
        refine lv_iload_n hx hb dX10_countKeys_4 rfl (lv_at hl 0 rfl) ?_
        refine lv_iconst (v := 4) hx hb dX10_countKeys_5 (by decide) ?_
        refine lv_icmp_ge (tgt := 39) hx hb dX10_countKeys_6 (by decide) (fun hc => absurd hc (by decide)) (fun hc => ?_)
        refine lv_aload_n hx hb dX10_countKeys_9 rfl (lv_at hl 2 rfl) ?_
        refine va_get (D := D) (ci := 10) (v := .ref (ox 1)) (C := RX10) (T := TX10) (N := 7) hx hb hts hin_X10 hown hK hP 0 rfl rfl 0 (by decide) (hts (.fieldLink RX10 11 "ClashFree" "tables" "[LClashFree$Table;") (List.mem_of_getElem? (i := 1) rfl)) (fun _ h9 => h9) rfl dX10_countKeys_10 ?_
        refine lv_iload_n hx hb dX10_countKeys_13 rfl (lv_at hl 0 rfl) ?_
        refine va_aldq hx hb hK hP 1 0 rfl rfl (show ¬ ((3 : Int32) < 0 ∨ 4 ≤ Int32.toNatClampNeg 3) by decide) dX10_countKeys_14 ?_
        rcases hf3 : ft 3 with _ | b3
        ·
          refine W.eq (g2 := F0 m 15 ls [.null]) (by rw [show Int32.toNatClampNeg 3 = 3 from by decide, hf3]; rfl) ?_
          refine lv_ifnullN (tgt := 33) hx hb dX10_countKeys_15 (by decide) ?_
          refine lv_iinc (v := 4) (lv' := [(2, .int 4), (1, .int (0 + (nI cn2))), (0, .ref (ox 0))]) hx hb dX10_countKeys_33 hl (k := 0) rfl (by decide) (by decide) rfl (fun ls hl => ?_)
          refine lv_goto (tgt := 4) hx hb dX10_countKeys_36 (by decide) ?_
          refine lv_iload_n hx hb dX10_countKeys_4 rfl (lv_at hl 0 rfl) ?_
          refine lv_iconst (v := 4) hx hb dX10_countKeys_5 (by decide) ?_
          refine lv_icmp_ge (tgt := 39) hx hb dX10_countKeys_6 (by decide) (fun hc => ?_) (fun hc => absurd (by decide) hc)
          refine lv_iload_n hx hb dX10_countKeys_39 rfl (lv_at hl 1 rfl) ?_
          have hc0 : cuF (fun j => (ft j).isSome) Ls 0 = (0, 0) := rfl
          have hc1 : cuF (fun j => (ft j).isSome) Ls 1 = (0, 0) := cuF_0 hc0 (by show ¬ (ft 0).isSome = true; rw [hf0]; decide)
          have hc2 : cuF (fun j => (ft j).isSome) Ls 2 = (0, 0) := cuF_0 hc1 (by show ¬ (ft 1).isSome = true; rw [hf1]; decide)
          have hc3 : cuF (fun j => (ft j).isSome) Ls 3 = ((0 + 1), (0 + cn2)) := cuF_1 hc2 (by show (ft 2).isSome = true; rw [hf2]; rfl) hn2
          have hc4 : cuF (fun j => (ft j).isSome) Ls 4 = ((0 + 1), (0 + cn2)) := cuF_0 hc3 (by show ¬ (ft 3).isSome = true; rw [hf3]; decide)
          exact W.iret (v := 0 + (nI cn2)) hx hb hr (fun t ht hW => ⟨⟨0 + (nI cn2), (), rfl, by rw [hc4]; show 0 + (nI cn2) = nI (0 + cn2); simp only [nI_add, show (0 : Int32) = nI 0 from rfl, Nat.zero_add], trivial⟩, hS.F ht⟩) hS.2.2 dX10_countKeys_40
        ·
          obtain ⟨o3, tb3, ts3, tg3, tl3, tc3, tr3, tu3, tv3, tw3, cn3, rfl, hm1, hm2, hn3⟩ := hG 3 (by decide) b3 hf3
          have hP : va_P D vwCl [(ox 0, .inr (10, [.ref (ox 1), .ref (ox 2), .int (nI tp), .ref (ob3 0), .ref (og 0), .ref (oq 0), .ref (ow 0)])), (ox 1, .inl (cT, 4, .inr (.inr (.inr (.inr ft))))), (o3 0, .inr (9, gT o3 tb3 ts3 tg3 tl3 tc3 tr3 tu3 tv3 tw3)), (o3 2, .inr (2, [.int (nI cn3), .ref (o3 3), .ref (o3 4)]))] s.heap := va_P.two hP0 hm1 hm2
          refine W.eq (g2 := F0 m 15 ls [.ref (o3 0)]) (by rw [show Int32.toNatClampNeg 3 = 3 from by decide, hf3]; rfl) ?_
          refine lv_ifnull hx hb dX10_countKeys_15 ?_
          refine lv_iload_n hx hb dX10_countKeys_18 rfl (lv_at hl 1 rfl) ?_
          refine lv_aload_n hx hb dX10_countKeys_19 rfl (lv_at hl 2 rfl) ?_
          refine va_get (D := D) (ci := 10) (v := .ref (ox 1)) (C := RX10) (T := TX10) (N := 7) hx hb hts hin_X10 hown hK hP 0 rfl rfl 0 (by decide) (hts (.fieldLink RX10 11 "ClashFree" "tables" "[LClashFree$Table;") (List.mem_of_getElem? (i := 1) rfl)) (fun _ h9 => h9) rfl dX10_countKeys_20 ?_
          refine lv_iload_n hx hb dX10_countKeys_23 rfl (lv_at hl 0 rfl) ?_
          refine va_aldq hx hb hK hP 1 0 rfl rfl (show ¬ ((3 : Int32) < 0 ∨ 4 ≤ Int32.toNatClampNeg 3) by decide) dX10_countKeys_24 ?_
          refine W.eq (g2 := F0 m 25 ls [.ref (o3 0), .int (0 + (nI cn2))]) (by rw [show Int32.toNatClampNeg 3 = 3 from by decide, hf3]; rfl) ?_
          refine va_get (D := D) (ci := 9) (v := .ref (o3 2)) (C := RX9) (T := TX9) (N := 12) hx hb hts hin_X9 hown hK hP 2 rfl rfl 10 (by decide) (hts (.fieldLink RX10 93 "ClashFree$Table" "keys" "LClashFree$Keys;") (List.mem_of_getElem? (i := 2) rfl)) (fun _ h9 => h9) rfl dX10_countKeys_25 ?_
          refine va_get (D := D) (ci := 2) (v := .int (nI cn3)) (C := RX2) (T := TX2) (N := 3) hx hb hts hin_X2 hown hK hP 3 rfl rfl 0 (by decide) (hts (.fieldLink RX10 121 "ClashFree$Keys" "size" "I") (List.mem_of_getElem? (i := 3) rfl)) (fun _ h9 => h9) rfl dX10_countKeys_28 ?_
          refine lv_iadd hx hb dX10_countKeys_31 ?_
          refine lv_istore_n (lv' := [(1, .int ((0 + (nI cn2)) + (nI cn3))), (2, .int 3), (0, .ref (ox 0))]) hx hb dX10_countKeys_32 rfl hl (by decide) rfl (fun ls hl => ?_)
          refine lv_iinc (v := 4) (lv' := [(2, .int 4), (1, .int ((0 + (nI cn2)) + (nI cn3))), (0, .ref (ox 0))]) hx hb dX10_countKeys_33 hl (k := 1) rfl (by decide) (by decide) rfl (fun ls hl => ?_)
          refine lv_goto (tgt := 4) hx hb dX10_countKeys_36 (by decide) ?_
          refine lv_iload_n hx hb dX10_countKeys_4 rfl (lv_at hl 0 rfl) ?_
          refine lv_iconst (v := 4) hx hb dX10_countKeys_5 (by decide) ?_
          refine lv_icmp_ge (tgt := 39) hx hb dX10_countKeys_6 (by decide) (fun hc => ?_) (fun hc => absurd (by decide) hc)
          refine lv_iload_n hx hb dX10_countKeys_39 rfl (lv_at hl 1 rfl) ?_
          have hc0 : cuF (fun j => (ft j).isSome) Ls 0 = (0, 0) := rfl
          have hc1 : cuF (fun j => (ft j).isSome) Ls 1 = (0, 0) := cuF_0 hc0 (by show ¬ (ft 0).isSome = true; rw [hf0]; decide)
          have hc2 : cuF (fun j => (ft j).isSome) Ls 2 = (0, 0) := cuF_0 hc1 (by show ¬ (ft 1).isSome = true; rw [hf1]; decide)
          have hc3 : cuF (fun j => (ft j).isSome) Ls 3 = ((0 + 1), (0 + cn2)) := cuF_1 hc2 (by show (ft 2).isSome = true; rw [hf2]; rfl) hn2
          have hc4 : cuF (fun j => (ft j).isSome) Ls 4 = (((0 + 1) + 1), ((0 + cn2) + cn3)) := cuF_1 hc3 (by show (ft 3).isSome = true; rw [hf3]; rfl) hn3
          exact W.iret (v := (0 + (nI cn2)) + (nI cn3)) hx hb hr (fun t ht hW => ⟨⟨(0 + (nI cn2)) + (nI cn3), (), rfl, by rw [hc4]; show (0 + (nI cn2)) + (nI cn3) = nI ((0 + cn2) + cn3); simp only [nI_add, show (0 : Int32) = nI 0 from rfl, Nat.zero_add], trivial⟩, hS.F ht⟩) hS.2.2 dX10_countKeys_40
    ·
      obtain ⟨o1, tb1, ts1, tg1, tl1, tc1, tr1, tu1, tv1, tw1, cn1, rfl, hm1, hm2, hn1⟩ := hG 1 (by decide) b1 hf1
      have hP : va_P D vwCl [(ox 0, .inr (10, [.ref (ox 1), .ref (ox 2), .int (nI tp), .ref (ob3 0), .ref (og 0), .ref (oq 0), .ref (ow 0)])), (ox 1, .inl (cT, 4, .inr (.inr (.inr (.inr ft))))), (o1 0, .inr (9, gT o1 tb1 ts1 tg1 tl1 tc1 tr1 tu1 tv1 tw1)), (o1 2, .inr (2, [.int (nI cn1), .ref (o1 3), .ref (o1 4)]))] s.heap := va_P.two hP0 hm1 hm2
      refine W.eq (g2 := F0 m 15 ls [.ref (o1 0)]) (by rw [show Int32.toNatClampNeg 1 = 1 from by decide, hf1]; rfl) ?_
      refine lv_ifnull hx hb dX10_countKeys_15 ?_
      refine lv_iload_n hx hb dX10_countKeys_18 rfl (lv_at hl 1 rfl) ?_
      refine lv_aload_n hx hb dX10_countKeys_19 rfl (lv_at hl 2 rfl) ?_
      refine va_get (D := D) (ci := 10) (v := .ref (ox 1)) (C := RX10) (T := TX10) (N := 7) hx hb hts hin_X10 hown hK hP 0 rfl rfl 0 (by decide) (hts (.fieldLink RX10 11 "ClashFree" "tables" "[LClashFree$Table;") (List.mem_of_getElem? (i := 1) rfl)) (fun _ h9 => h9) rfl dX10_countKeys_20 ?_
      refine lv_iload_n hx hb dX10_countKeys_23 rfl (lv_at hl 0 rfl) ?_
      refine va_aldq hx hb hK hP 1 0 rfl rfl (show ¬ ((1 : Int32) < 0 ∨ 4 ≤ Int32.toNatClampNeg 1) by decide) dX10_countKeys_24 ?_
      refine W.eq (g2 := F0 m 25 ls [.ref (o1 0), .int 0]) (by rw [show Int32.toNatClampNeg 1 = 1 from by decide, hf1]; rfl) ?_
      refine va_get (D := D) (ci := 9) (v := .ref (o1 2)) (C := RX9) (T := TX9) (N := 12) hx hb hts hin_X9 hown hK hP 2 rfl rfl 10 (by decide) (hts (.fieldLink RX10 93 "ClashFree$Table" "keys" "LClashFree$Keys;") (List.mem_of_getElem? (i := 2) rfl)) (fun _ h9 => h9) rfl dX10_countKeys_25 ?_
      refine va_get (D := D) (ci := 2) (v := .int (nI cn1)) (C := RX2) (T := TX2) (N := 3) hx hb hts hin_X2 hown hK hP 3 rfl rfl 0 (by decide) (hts (.fieldLink RX10 121 "ClashFree$Keys" "size" "I") (List.mem_of_getElem? (i := 3) rfl)) (fun _ h9 => h9) rfl dX10_countKeys_28 ?_
      refine lv_iadd hx hb dX10_countKeys_31 ?_
      refine lv_istore_n (lv' := [(1, .int (0 + (nI cn1))), (2, .int 1), (0, .ref (ox 0))]) hx hb dX10_countKeys_32 rfl hl (by decide) rfl (fun ls hl => ?_)
      refine lv_iinc (v := 2) (lv' := [(2, .int 2), (1, .int (0 + (nI cn1))), (0, .ref (ox 0))]) hx hb dX10_countKeys_33 hl (k := 1) rfl (by decide) (by decide) rfl (fun ls hl => ?_)
      refine lv_goto (tgt := 4) hx hb dX10_countKeys_36 (by decide) ?_
      refine lv_iload_n hx hb dX10_countKeys_4 rfl (lv_at hl 0 rfl) ?_
      refine lv_iconst (v := 4) hx hb dX10_countKeys_5 (by decide) ?_
      refine lv_icmp_ge (tgt := 39) hx hb dX10_countKeys_6 (by decide) (fun hc => absurd hc (by decide)) (fun hc => ?_)
      refine lv_aload_n hx hb dX10_countKeys_9 rfl (lv_at hl 2 rfl) ?_
      refine va_get (D := D) (ci := 10) (v := .ref (ox 1)) (C := RX10) (T := TX10) (N := 7) hx hb hts hin_X10 hown hK hP 0 rfl rfl 0 (by decide) (hts (.fieldLink RX10 11 "ClashFree" "tables" "[LClashFree$Table;") (List.mem_of_getElem? (i := 1) rfl)) (fun _ h9 => h9) rfl dX10_countKeys_10 ?_
      refine lv_iload_n hx hb dX10_countKeys_13 rfl (lv_at hl 0 rfl) ?_
      refine va_aldq hx hb hK hP 1 0 rfl rfl (show ¬ ((2 : Int32) < 0 ∨ 4 ≤ Int32.toNatClampNeg 2) by decide) dX10_countKeys_14 ?_
      rcases hf2 : ft 2 with _ | b2
      ·
        refine W.eq (g2 := F0 m 15 ls [.null]) (by rw [show Int32.toNatClampNeg 2 = 2 from by decide, hf2]; rfl) ?_
        refine lv_ifnullN (tgt := 33) hx hb dX10_countKeys_15 (by decide) ?_
        refine lv_iinc (v := 3) (lv' := [(2, .int 3), (1, .int (0 + (nI cn1))), (0, .ref (ox 0))]) hx hb dX10_countKeys_33 hl (k := 0) rfl (by decide) (by decide) rfl (fun ls hl => ?_)
        refine lv_goto (tgt := 4) hx hb dX10_countKeys_36 (by decide) ?_
        refine lv_iload_n hx hb dX10_countKeys_4 rfl (lv_at hl 0 rfl) ?_
        refine lv_iconst (v := 4) hx hb dX10_countKeys_5 (by decide) ?_
        refine lv_icmp_ge (tgt := 39) hx hb dX10_countKeys_6 (by decide) (fun hc => absurd hc (by decide)) (fun hc => ?_)
        refine lv_aload_n hx hb dX10_countKeys_9 rfl (lv_at hl 2 rfl) ?_
        refine va_get (D := D) (ci := 10) (v := .ref (ox 1)) (C := RX10) (T := TX10) (N := 7) hx hb hts hin_X10 hown hK hP 0 rfl rfl 0 (by decide) (hts (.fieldLink RX10 11 "ClashFree" "tables" "[LClashFree$Table;") (List.mem_of_getElem? (i := 1) rfl)) (fun _ h9 => h9) rfl dX10_countKeys_10 ?_
        refine lv_iload_n hx hb dX10_countKeys_13 rfl (lv_at hl 0 rfl) ?_
        refine va_aldq hx hb hK hP 1 0 rfl rfl (show ¬ ((3 : Int32) < 0 ∨ 4 ≤ Int32.toNatClampNeg 3) by decide) dX10_countKeys_14 ?_
        rcases hf3 : ft 3 with _ | b3
        ·
          refine W.eq (g2 := F0 m 15 ls [.null]) (by rw [show Int32.toNatClampNeg 3 = 3 from by decide, hf3]; rfl) ?_
          refine lv_ifnullN (tgt := 33) hx hb dX10_countKeys_15 (by decide) ?_
          refine lv_iinc (v := 4) (lv' := [(2, .int 4), (1, .int (0 + (nI cn1))), (0, .ref (ox 0))]) hx hb dX10_countKeys_33 hl (k := 0) rfl (by decide) (by decide) rfl (fun ls hl => ?_)
          refine lv_goto (tgt := 4) hx hb dX10_countKeys_36 (by decide) ?_
          refine lv_iload_n hx hb dX10_countKeys_4 rfl (lv_at hl 0 rfl) ?_
          refine lv_iconst (v := 4) hx hb dX10_countKeys_5 (by decide) ?_
          refine lv_icmp_ge (tgt := 39) hx hb dX10_countKeys_6 (by decide) (fun hc => ?_) (fun hc => absurd (by decide) hc)
          refine lv_iload_n hx hb dX10_countKeys_39 rfl (lv_at hl 1 rfl) ?_
          have hc0 : cuF (fun j => (ft j).isSome) Ls 0 = (0, 0) := rfl
          have hc1 : cuF (fun j => (ft j).isSome) Ls 1 = (0, 0) := cuF_0 hc0 (by show ¬ (ft 0).isSome = true; rw [hf0]; decide)
          have hc2 : cuF (fun j => (ft j).isSome) Ls 2 = ((0 + 1), (0 + cn1)) := cuF_1 hc1 (by show (ft 1).isSome = true; rw [hf1]; rfl) hn1
          have hc3 : cuF (fun j => (ft j).isSome) Ls 3 = ((0 + 1), (0 + cn1)) := cuF_0 hc2 (by show ¬ (ft 2).isSome = true; rw [hf2]; decide)
          have hc4 : cuF (fun j => (ft j).isSome) Ls 4 = ((0 + 1), (0 + cn1)) := cuF_0 hc3 (by show ¬ (ft 3).isSome = true; rw [hf3]; decide)
          exact W.iret (v := 0 + (nI cn1)) hx hb hr (fun t ht hW => ⟨⟨0 + (nI cn1), (), rfl, by rw [hc4]; show 0 + (nI cn1) = nI (0 + cn1); simp only [nI_add, show (0 : Int32) = nI 0 from rfl, Nat.zero_add], trivial⟩, hS.F ht⟩) hS.2.2 dX10_countKeys_40
        ·
          obtain ⟨o3, tb3, ts3, tg3, tl3, tc3, tr3, tu3, tv3, tw3, cn3, rfl, hm1, hm2, hn3⟩ := hG 3 (by decide) b3 hf3
          have hP : va_P D vwCl [(ox 0, .inr (10, [.ref (ox 1), .ref (ox 2), .int (nI tp), .ref (ob3 0), .ref (og 0), .ref (oq 0), .ref (ow 0)])), (ox 1, .inl (cT, 4, .inr (.inr (.inr (.inr ft))))), (o3 0, .inr (9, gT o3 tb3 ts3 tg3 tl3 tc3 tr3 tu3 tv3 tw3)), (o3 2, .inr (2, [.int (nI cn3), .ref (o3 3), .ref (o3 4)]))] s.heap := va_P.two hP0 hm1 hm2
          refine W.eq (g2 := F0 m 15 ls [.ref (o3 0)]) (by rw [show Int32.toNatClampNeg 3 = 3 from by decide, hf3]; rfl) ?_
          refine lv_ifnull hx hb dX10_countKeys_15 ?_
          refine lv_iload_n hx hb dX10_countKeys_18 rfl (lv_at hl 1 rfl) ?_
          refine lv_aload_n hx hb dX10_countKeys_19 rfl (lv_at hl 2 rfl) ?_
          refine va_get (D := D) (ci := 10) (v := .ref (ox 1)) (C := RX10) (T := TX10) (N := 7) hx hb hts hin_X10 hown hK hP 0 rfl rfl 0 (by decide) (hts (.fieldLink RX10 11 "ClashFree" "tables" "[LClashFree$Table;") (List.mem_of_getElem? (i := 1) rfl)) (fun _ h9 => h9) rfl dX10_countKeys_20 ?_
          refine lv_iload_n hx hb dX10_countKeys_23 rfl (lv_at hl 0 rfl) ?_
          refine va_aldq hx hb hK hP 1 0 rfl rfl (show ¬ ((3 : Int32) < 0 ∨ 4 ≤ Int32.toNatClampNeg 3) by decide) dX10_countKeys_24 ?_
          refine W.eq (g2 := F0 m 25 ls [.ref (o3 0), .int (0 + (nI cn1))]) (by rw [show Int32.toNatClampNeg 3 = 3 from by decide, hf3]; rfl) ?_
          refine va_get (D := D) (ci := 9) (v := .ref (o3 2)) (C := RX9) (T := TX9) (N := 12) hx hb hts hin_X9 hown hK hP 2 rfl rfl 10 (by decide) (hts (.fieldLink RX10 93 "ClashFree$Table" "keys" "LClashFree$Keys;") (List.mem_of_getElem? (i := 2) rfl)) (fun _ h9 => h9) rfl dX10_countKeys_25 ?_
          refine va_get (D := D) (ci := 2) (v := .int (nI cn3)) (C := RX2) (T := TX2) (N := 3) hx hb hts hin_X2 hown hK hP 3 rfl rfl 0 (by decide) (hts (.fieldLink RX10 121 "ClashFree$Keys" "size" "I") (List.mem_of_getElem? (i := 3) rfl)) (fun _ h9 => h9) rfl dX10_countKeys_28 ?_
          refine lv_iadd hx hb dX10_countKeys_31 ?_
          refine lv_istore_n (lv' := [(1, .int ((0 + (nI cn1)) + (nI cn3))), (2, .int 3), (0, .ref (ox 0))]) hx hb dX10_countKeys_32 rfl hl (by decide) rfl (fun ls hl => ?_)
          refine lv_iinc (v := 4) (lv' := [(2, .int 4), (1, .int ((0 + (nI cn1)) + (nI cn3))), (0, .ref (ox 0))]) hx hb dX10_countKeys_33 hl (k := 1) rfl (by decide) (by decide) rfl (fun ls hl => ?_)
          refine lv_goto (tgt := 4) hx hb dX10_countKeys_36 (by decide) ?_
          refine lv_iload_n hx hb dX10_countKeys_4 rfl (lv_at hl 0 rfl) ?_
          refine lv_iconst (v := 4) hx hb dX10_countKeys_5 (by decide) ?_
          refine lv_icmp_ge (tgt := 39) hx hb dX10_countKeys_6 (by decide) (fun hc => ?_) (fun hc => absurd (by decide) hc)
          refine lv_iload_n hx hb dX10_countKeys_39 rfl (lv_at hl 1 rfl) ?_
          have hc0 : cuF (fun j => (ft j).isSome) Ls 0 = (0, 0) := rfl
          have hc1 : cuF (fun j => (ft j).isSome) Ls 1 = (0, 0) := cuF_0 hc0 (by show ¬ (ft 0).isSome = true; rw [hf0]; decide)
          have hc2 : cuF (fun j => (ft j).isSome) Ls 2 = ((0 + 1), (0 + cn1)) := cuF_1 hc1 (by show (ft 1).isSome = true; rw [hf1]; rfl) hn1
          have hc3 : cuF (fun j => (ft j).isSome) Ls 3 = ((0 + 1), (0 + cn1)) := cuF_0 hc2 (by show ¬ (ft 2).isSome = true; rw [hf2]; decide)
          have hc4 : cuF (fun j => (ft j).isSome) Ls 4 = (((0 + 1) + 1), ((0 + cn1) + cn3)) := cuF_1 hc3 (by show (ft 3).isSome = true; rw [hf3]; rfl) hn3
          exact W.iret (v := (0 + (nI cn1)) + (nI cn3)) hx hb hr (fun t ht hW => ⟨⟨(0 + (nI cn1)) + (nI cn3), (), rfl, by rw [hc4]; show (0 + (nI cn1)) + (nI cn3) = nI ((0 + cn1) + cn3); simp only [nI_add, show (0 : Int32) = nI 0 from rfl, Nat.zero_add], trivial⟩, hS.F ht⟩) hS.2.2 dX10_countKeys_40
      ·
        obtain ⟨o2, tb2, ts2, tg2, tl2, tc2, tr2, tu2, tv2, tw2, cn2, rfl, hm1, hm2, hn2⟩ := hG 2 (by decide) b2 hf2
        have hP : va_P D vwCl [(ox 0, .inr (10, [.ref (ox 1), .ref (ox 2), .int (nI tp), .ref (ob3 0), .ref (og 0), .ref (oq 0), .ref (ow 0)])), (ox 1, .inl (cT, 4, .inr (.inr (.inr (.inr ft))))), (o2 0, .inr (9, gT o2 tb2 ts2 tg2 tl2 tc2 tr2 tu2 tv2 tw2)), (o2 2, .inr (2, [.int (nI cn2), .ref (o2 3), .ref (o2 4)]))] s.heap := va_P.two hP0 hm1 hm2
        refine W.eq (g2 := F0 m 15 ls [.ref (o2 0)]) (by rw [show Int32.toNatClampNeg 2 = 2 from by decide, hf2]; rfl) ?_
        refine lv_ifnull hx hb dX10_countKeys_15 ?_
        refine lv_iload_n hx hb dX10_countKeys_18 rfl (lv_at hl 1 rfl) ?_
        refine lv_aload_n hx hb dX10_countKeys_19 rfl (lv_at hl 2 rfl) ?_
        refine va_get (D := D) (ci := 10) (v := .ref (ox 1)) (C := RX10) (T := TX10) (N := 7) hx hb hts hin_X10 hown hK hP 0 rfl rfl 0 (by decide) (hts (.fieldLink RX10 11 "ClashFree" "tables" "[LClashFree$Table;") (List.mem_of_getElem? (i := 1) rfl)) (fun _ h9 => h9) rfl dX10_countKeys_20 ?_
        refine lv_iload_n hx hb dX10_countKeys_23 rfl (lv_at hl 0 rfl) ?_
        refine va_aldq hx hb hK hP 1 0 rfl rfl (show ¬ ((2 : Int32) < 0 ∨ 4 ≤ Int32.toNatClampNeg 2) by decide) dX10_countKeys_24 ?_
        refine W.eq (g2 := F0 m 25 ls [.ref (o2 0), .int (0 + (nI cn1))]) (by rw [show Int32.toNatClampNeg 2 = 2 from by decide, hf2]; rfl) ?_
        refine va_get (D := D) (ci := 9) (v := .ref (o2 2)) (C := RX9) (T := TX9) (N := 12) hx hb hts hin_X9 hown hK hP 2 rfl rfl 10 (by decide) (hts (.fieldLink RX10 93 "ClashFree$Table" "keys" "LClashFree$Keys;") (List.mem_of_getElem? (i := 2) rfl)) (fun _ h9 => h9) rfl dX10_countKeys_25 ?_
        refine va_get (D := D) (ci := 2) (v := .int (nI cn2)) (C := RX2) (T := TX2) (N := 3) hx hb hts hin_X2 hown hK hP 3 rfl rfl 0 (by decide) (hts (.fieldLink RX10 121 "ClashFree$Keys" "size" "I") (List.mem_of_getElem? (i := 3) rfl)) (fun _ h9 => h9) rfl dX10_countKeys_28 ?_
        refine lv_iadd hx hb dX10_countKeys_31 ?_
        refine lv_istore_n (lv' := [(1, .int ((0 + (nI cn1)) + (nI cn2))), (2, .int 2), (0, .ref (ox 0))]) hx hb dX10_countKeys_32 rfl hl (by decide) rfl (fun ls hl => ?_)
        refine lv_iinc (v := 3) (lv' := [(2, .int 3), (1, .int ((0 + (nI cn1)) + (nI cn2))), (0, .ref (ox 0))]) hx hb dX10_countKeys_33 hl (k := 1) rfl (by decide) (by decide) rfl (fun ls hl => ?_)
        refine lv_goto (tgt := 4) hx hb dX10_countKeys_36 (by decide) ?_
        refine lv_iload_n hx hb dX10_countKeys_4 rfl (lv_at hl 0 rfl) ?_
        refine lv_iconst (v := 4) hx hb dX10_countKeys_5 (by decide) ?_
        refine lv_icmp_ge (tgt := 39) hx hb dX10_countKeys_6 (by decide) (fun hc => absurd hc (by decide)) (fun hc => ?_)
        refine lv_aload_n hx hb dX10_countKeys_9 rfl (lv_at hl 2 rfl) ?_
        refine va_get (D := D) (ci := 10) (v := .ref (ox 1)) (C := RX10) (T := TX10) (N := 7) hx hb hts hin_X10 hown hK hP 0 rfl rfl 0 (by decide) (hts (.fieldLink RX10 11 "ClashFree" "tables" "[LClashFree$Table;") (List.mem_of_getElem? (i := 1) rfl)) (fun _ h9 => h9) rfl dX10_countKeys_10 ?_
        refine lv_iload_n hx hb dX10_countKeys_13 rfl (lv_at hl 0 rfl) ?_
        refine va_aldq hx hb hK hP 1 0 rfl rfl (show ¬ ((3 : Int32) < 0 ∨ 4 ≤ Int32.toNatClampNeg 3) by decide) dX10_countKeys_14 ?_
        rcases hf3 : ft 3 with _ | b3
        ·
          refine W.eq (g2 := F0 m 15 ls [.null]) (by rw [show Int32.toNatClampNeg 3 = 3 from by decide, hf3]; rfl) ?_
          refine lv_ifnullN (tgt := 33) hx hb dX10_countKeys_15 (by decide) ?_
          refine lv_iinc (v := 4) (lv' := [(2, .int 4), (1, .int ((0 + (nI cn1)) + (nI cn2))), (0, .ref (ox 0))]) hx hb dX10_countKeys_33 hl (k := 0) rfl (by decide) (by decide) rfl (fun ls hl => ?_)
          refine lv_goto (tgt := 4) hx hb dX10_countKeys_36 (by decide) ?_
          refine lv_iload_n hx hb dX10_countKeys_4 rfl (lv_at hl 0 rfl) ?_
          refine lv_iconst (v := 4) hx hb dX10_countKeys_5 (by decide) ?_
          refine lv_icmp_ge (tgt := 39) hx hb dX10_countKeys_6 (by decide) (fun hc => ?_) (fun hc => absurd (by decide) hc)
          refine lv_iload_n hx hb dX10_countKeys_39 rfl (lv_at hl 1 rfl) ?_
          have hc0 : cuF (fun j => (ft j).isSome) Ls 0 = (0, 0) := rfl
          have hc1 : cuF (fun j => (ft j).isSome) Ls 1 = (0, 0) := cuF_0 hc0 (by show ¬ (ft 0).isSome = true; rw [hf0]; decide)
          have hc2 : cuF (fun j => (ft j).isSome) Ls 2 = ((0 + 1), (0 + cn1)) := cuF_1 hc1 (by show (ft 1).isSome = true; rw [hf1]; rfl) hn1
          have hc3 : cuF (fun j => (ft j).isSome) Ls 3 = (((0 + 1) + 1), ((0 + cn1) + cn2)) := cuF_1 hc2 (by show (ft 2).isSome = true; rw [hf2]; rfl) hn2
          have hc4 : cuF (fun j => (ft j).isSome) Ls 4 = (((0 + 1) + 1), ((0 + cn1) + cn2)) := cuF_0 hc3 (by show ¬ (ft 3).isSome = true; rw [hf3]; decide)
          exact W.iret (v := (0 + (nI cn1)) + (nI cn2)) hx hb hr (fun t ht hW => ⟨⟨(0 + (nI cn1)) + (nI cn2), (), rfl, by rw [hc4]; show (0 + (nI cn1)) + (nI cn2) = nI ((0 + cn1) + cn2); simp only [nI_add, show (0 : Int32) = nI 0 from rfl, Nat.zero_add], trivial⟩, hS.F ht⟩) hS.2.2 dX10_countKeys_40
        ·
          obtain ⟨o3, tb3, ts3, tg3, tl3, tc3, tr3, tu3, tv3, tw3, cn3, rfl, hm1, hm2, hn3⟩ := hG 3 (by decide) b3 hf3
          have hP : va_P D vwCl [(ox 0, .inr (10, [.ref (ox 1), .ref (ox 2), .int (nI tp), .ref (ob3 0), .ref (og 0), .ref (oq 0), .ref (ow 0)])), (ox 1, .inl (cT, 4, .inr (.inr (.inr (.inr ft))))), (o3 0, .inr (9, gT o3 tb3 ts3 tg3 tl3 tc3 tr3 tu3 tv3 tw3)), (o3 2, .inr (2, [.int (nI cn3), .ref (o3 3), .ref (o3 4)]))] s.heap := va_P.two hP0 hm1 hm2
          refine W.eq (g2 := F0 m 15 ls [.ref (o3 0)]) (by rw [show Int32.toNatClampNeg 3 = 3 from by decide, hf3]; rfl) ?_
          refine lv_ifnull hx hb dX10_countKeys_15 ?_
          refine lv_iload_n hx hb dX10_countKeys_18 rfl (lv_at hl 1 rfl) ?_
          refine lv_aload_n hx hb dX10_countKeys_19 rfl (lv_at hl 2 rfl) ?_
          refine va_get (D := D) (ci := 10) (v := .ref (ox 1)) (C := RX10) (T := TX10) (N := 7) hx hb hts hin_X10 hown hK hP 0 rfl rfl 0 (by decide) (hts (.fieldLink RX10 11 "ClashFree" "tables" "[LClashFree$Table;") (List.mem_of_getElem? (i := 1) rfl)) (fun _ h9 => h9) rfl dX10_countKeys_20 ?_
          refine lv_iload_n hx hb dX10_countKeys_23 rfl (lv_at hl 0 rfl) ?_
          refine va_aldq hx hb hK hP 1 0 rfl rfl (show ¬ ((3 : Int32) < 0 ∨ 4 ≤ Int32.toNatClampNeg 3) by decide) dX10_countKeys_24 ?_
          refine W.eq (g2 := F0 m 25 ls [.ref (o3 0), .int ((0 + (nI cn1)) + (nI cn2))]) (by rw [show Int32.toNatClampNeg 3 = 3 from by decide, hf3]; rfl) ?_
          refine va_get (D := D) (ci := 9) (v := .ref (o3 2)) (C := RX9) (T := TX9) (N := 12) hx hb hts hin_X9 hown hK hP 2 rfl rfl 10 (by decide) (hts (.fieldLink RX10 93 "ClashFree$Table" "keys" "LClashFree$Keys;") (List.mem_of_getElem? (i := 2) rfl)) (fun _ h9 => h9) rfl dX10_countKeys_25 ?_
          refine va_get (D := D) (ci := 2) (v := .int (nI cn3)) (C := RX2) (T := TX2) (N := 3) hx hb hts hin_X2 hown hK hP 3 rfl rfl 0 (by decide) (hts (.fieldLink RX10 121 "ClashFree$Keys" "size" "I") (List.mem_of_getElem? (i := 3) rfl)) (fun _ h9 => h9) rfl dX10_countKeys_28 ?_
          refine lv_iadd hx hb dX10_countKeys_31 ?_
          refine lv_istore_n (lv' := [(1, .int (((0 + (nI cn1)) + (nI cn2)) + (nI cn3))), (2, .int 3), (0, .ref (ox 0))]) hx hb dX10_countKeys_32 rfl hl (by decide) rfl (fun ls hl => ?_)
          refine lv_iinc (v := 4) (lv' := [(2, .int 4), (1, .int (((0 + (nI cn1)) + (nI cn2)) + (nI cn3))), (0, .ref (ox 0))]) hx hb dX10_countKeys_33 hl (k := 1) rfl (by decide) (by decide) rfl (fun ls hl => ?_)
          refine lv_goto (tgt := 4) hx hb dX10_countKeys_36 (by decide) ?_
          refine lv_iload_n hx hb dX10_countKeys_4 rfl (lv_at hl 0 rfl) ?_
          refine lv_iconst (v := 4) hx hb dX10_countKeys_5 (by decide) ?_
          refine lv_icmp_ge (tgt := 39) hx hb dX10_countKeys_6 (by decide) (fun hc => ?_) (fun hc => absurd (by decide) hc)
          refine lv_iload_n hx hb dX10_countKeys_39 rfl (lv_at hl 1 rfl) ?_
          have hc0 : cuF (fun j => (ft j).isSome) Ls 0 = (0, 0) := rfl
          have hc1 : cuF (fun j => (ft j).isSome) Ls 1 = (0, 0) := cuF_0 hc0 (by show ¬ (ft 0).isSome = true; rw [hf0]; decide)
          have hc2 : cuF (fun j => (ft j).isSome) Ls 2 = ((0 + 1), (0 + cn1)) := cuF_1 hc1 (by show (ft 1).isSome = true; rw [hf1]; rfl) hn1
          have hc3 : cuF (fun j => (ft j).isSome) Ls 3 = (((0 + 1) + 1), ((0 + cn1) + cn2)) := cuF_1 hc2 (by show (ft 2).isSome = true; rw [hf2]; rfl) hn2
          have hc4 : cuF (fun j => (ft j).isSome) Ls 4 = ((((0 + 1) + 1) + 1), (((0 + cn1) + cn2) + cn3)) := cuF_1 hc3 (by show (ft 3).isSome = true; rw [hf3]; rfl) hn3
          exact W.iret (v := ((0 + (nI cn1)) + (nI cn2)) + (nI cn3)) hx hb hr (fun t ht hW => ⟨⟨((0 + (nI cn1)) + (nI cn2)) + (nI cn3), (), rfl, by rw [hc4]; show ((0 + (nI cn1)) + (nI cn2)) + (nI cn3) = nI (((0 + cn1) + cn2) + cn3); simp only [nI_add, show (0 : Int32) = nI 0 from rfl, Nat.zero_add], trivial⟩, hS.F ht⟩) hS.2.2 dX10_countKeys_40
  ·
    obtain ⟨o0, tb0, ts0, tg0, tl0, tc0, tr0, tu0, tv0, tw0, cn0, rfl, hm1, hm2, hn0⟩ := hG 0 (by decide) b0 hf0
    have hP : va_P D vwCl [(ox 0, .inr (10, [.ref (ox 1), .ref (ox 2), .int (nI tp), .ref (ob3 0), .ref (og 0), .ref (oq 0), .ref (ow 0)])), (ox 1, .inl (cT, 4, .inr (.inr (.inr (.inr ft))))), (o0 0, .inr (9, gT o0 tb0 ts0 tg0 tl0 tc0 tr0 tu0 tv0 tw0)), (o0 2, .inr (2, [.int (nI cn0), .ref (o0 3), .ref (o0 4)]))] s.heap := va_P.two hP0 hm1 hm2
    refine W.eq (g2 := F0 m 15 ls [.ref (o0 0)]) (by rw [show Int32.toNatClampNeg 0 = 0 from by decide, hf0]; rfl) ?_
    refine lv_ifnull hx hb dX10_countKeys_15 ?_
    refine lv_iload_n hx hb dX10_countKeys_18 rfl (lv_at hl 1 rfl) ?_
    refine lv_aload_n hx hb dX10_countKeys_19 rfl (lv_at hl 2 rfl) ?_
    refine va_get (D := D) (ci := 10) (v := .ref (ox 1)) (C := RX10) (T := TX10) (N := 7) hx hb hts hin_X10 hown hK hP 0 rfl rfl 0 (by decide) (hts (.fieldLink RX10 11 "ClashFree" "tables" "[LClashFree$Table;") (List.mem_of_getElem? (i := 1) rfl)) (fun _ h9 => h9) rfl dX10_countKeys_20 ?_
    refine lv_iload_n hx hb dX10_countKeys_23 rfl (lv_at hl 0 rfl) ?_
    refine va_aldq hx hb hK hP 1 0 rfl rfl (show ¬ ((0 : Int32) < 0 ∨ 4 ≤ Int32.toNatClampNeg 0) by decide) dX10_countKeys_24 ?_
    refine W.eq (g2 := F0 m 25 ls [.ref (o0 0), .int 0]) (by rw [show Int32.toNatClampNeg 0 = 0 from by decide, hf0]; rfl) ?_
    refine va_get (D := D) (ci := 9) (v := .ref (o0 2)) (C := RX9) (T := TX9) (N := 12) hx hb hts hin_X9 hown hK hP 2 rfl rfl 10 (by decide) (hts (.fieldLink RX10 93 "ClashFree$Table" "keys" "LClashFree$Keys;") (List.mem_of_getElem? (i := 2) rfl)) (fun _ h9 => h9) rfl dX10_countKeys_25 ?_
    refine va_get (D := D) (ci := 2) (v := .int (nI cn0)) (C := RX2) (T := TX2) (N := 3) hx hb hts hin_X2 hown hK hP 3 rfl rfl 0 (by decide) (hts (.fieldLink RX10 121 "ClashFree$Keys" "size" "I") (List.mem_of_getElem? (i := 3) rfl)) (fun _ h9 => h9) rfl dX10_countKeys_28 ?_
    refine lv_iadd hx hb dX10_countKeys_31 ?_
    refine lv_istore_n (lv' := [(1, .int (0 + (nI cn0))), (2, .int 0), (0, .ref (ox 0))]) hx hb dX10_countKeys_32 rfl hl (by decide) rfl (fun ls hl => ?_)
    refine lv_iinc (v := 1) (lv' := [(2, .int 1), (1, .int (0 + (nI cn0))), (0, .ref (ox 0))]) hx hb dX10_countKeys_33 hl (k := 1) rfl (by decide) (by decide) rfl (fun ls hl => ?_)
    refine lv_goto (tgt := 4) hx hb dX10_countKeys_36 (by decide) ?_
    refine lv_iload_n hx hb dX10_countKeys_4 rfl (lv_at hl 0 rfl) ?_
    refine lv_iconst (v := 4) hx hb dX10_countKeys_5 (by decide) ?_
    refine lv_icmp_ge (tgt := 39) hx hb dX10_countKeys_6 (by decide) (fun hc => absurd hc (by decide)) (fun hc => ?_)
    refine lv_aload_n hx hb dX10_countKeys_9 rfl (lv_at hl 2 rfl) ?_
    refine va_get (D := D) (ci := 10) (v := .ref (ox 1)) (C := RX10) (T := TX10) (N := 7) hx hb hts hin_X10 hown hK hP 0 rfl rfl 0 (by decide) (hts (.fieldLink RX10 11 "ClashFree" "tables" "[LClashFree$Table;") (List.mem_of_getElem? (i := 1) rfl)) (fun _ h9 => h9) rfl dX10_countKeys_10 ?_
    refine lv_iload_n hx hb dX10_countKeys_13 rfl (lv_at hl 0 rfl) ?_
    refine va_aldq hx hb hK hP 1 0 rfl rfl (show ¬ ((1 : Int32) < 0 ∨ 4 ≤ Int32.toNatClampNeg 1) by decide) dX10_countKeys_14 ?_
    rcases hf1 : ft 1 with _ | b1
    ·
      refine W.eq (g2 := F0 m 15 ls [.null]) (by rw [show Int32.toNatClampNeg 1 = 1 from by decide, hf1]; rfl) ?_
      refine lv_ifnullN (tgt := 33) hx hb dX10_countKeys_15 (by decide) ?_
      refine lv_iinc (v := 2) (lv' := [(2, .int 2), (1, .int (0 + (nI cn0))), (0, .ref (ox 0))]) hx hb dX10_countKeys_33 hl (k := 0) rfl (by decide) (by decide) rfl (fun ls hl => ?_)
      refine lv_goto (tgt := 4) hx hb dX10_countKeys_36 (by decide) ?_
      refine lv_iload_n hx hb dX10_countKeys_4 rfl (lv_at hl 0 rfl) ?_
      refine lv_iconst (v := 4) hx hb dX10_countKeys_5 (by decide) ?_
      refine lv_icmp_ge (tgt := 39) hx hb dX10_countKeys_6 (by decide) (fun hc => absurd hc (by decide)) (fun hc => ?_)
      refine lv_aload_n hx hb dX10_countKeys_9 rfl (lv_at hl 2 rfl) ?_
      refine va_get (D := D) (ci := 10) (v := .ref (ox 1)) (C := RX10) (T := TX10) (N := 7) hx hb hts hin_X10 hown hK hP 0 rfl rfl 0 (by decide) (hts (.fieldLink RX10 11 "ClashFree" "tables" "[LClashFree$Table;") (List.mem_of_getElem? (i := 1) rfl)) (fun _ h9 => h9) rfl dX10_countKeys_10 ?_
      refine lv_iload_n hx hb dX10_countKeys_13 rfl (lv_at hl 0 rfl) ?_
      refine va_aldq hx hb hK hP 1 0 rfl rfl (show ¬ ((2 : Int32) < 0 ∨ 4 ≤ Int32.toNatClampNeg 2) by decide) dX10_countKeys_14 ?_
      rcases hf2 : ft 2 with _ | b2
      ·
        refine W.eq (g2 := F0 m 15 ls [.null]) (by rw [show Int32.toNatClampNeg 2 = 2 from by decide, hf2]; rfl) ?_
        refine lv_ifnullN (tgt := 33) hx hb dX10_countKeys_15 (by decide) ?_
        refine lv_iinc (v := 3) (lv' := [(2, .int 3), (1, .int (0 + (nI cn0))), (0, .ref (ox 0))]) hx hb dX10_countKeys_33 hl (k := 0) rfl (by decide) (by decide) rfl (fun ls hl => ?_)
        refine lv_goto (tgt := 4) hx hb dX10_countKeys_36 (by decide) ?_
        refine lv_iload_n hx hb dX10_countKeys_4 rfl (lv_at hl 0 rfl) ?_
        refine lv_iconst (v := 4) hx hb dX10_countKeys_5 (by decide) ?_
        refine lv_icmp_ge (tgt := 39) hx hb dX10_countKeys_6 (by decide) (fun hc => absurd hc (by decide)) (fun hc => ?_)
        refine lv_aload_n hx hb dX10_countKeys_9 rfl (lv_at hl 2 rfl) ?_
        refine va_get (D := D) (ci := 10) (v := .ref (ox 1)) (C := RX10) (T := TX10) (N := 7) hx hb hts hin_X10 hown hK hP 0 rfl rfl 0 (by decide) (hts (.fieldLink RX10 11 "ClashFree" "tables" "[LClashFree$Table;") (List.mem_of_getElem? (i := 1) rfl)) (fun _ h9 => h9) rfl dX10_countKeys_10 ?_
        refine lv_iload_n hx hb dX10_countKeys_13 rfl (lv_at hl 0 rfl) ?_
        refine va_aldq hx hb hK hP 1 0 rfl rfl (show ¬ ((3 : Int32) < 0 ∨ 4 ≤ Int32.toNatClampNeg 3) by decide) dX10_countKeys_14 ?_
        rcases hf3 : ft 3 with _ | b3
        ·
          refine W.eq (g2 := F0 m 15 ls [.null]) (by rw [show Int32.toNatClampNeg 3 = 3 from by decide, hf3]; rfl) ?_
          refine lv_ifnullN (tgt := 33) hx hb dX10_countKeys_15 (by decide) ?_
          refine lv_iinc (v := 4) (lv' := [(2, .int 4), (1, .int (0 + (nI cn0))), (0, .ref (ox 0))]) hx hb dX10_countKeys_33 hl (k := 0) rfl (by decide) (by decide) rfl (fun ls hl => ?_)
          refine lv_goto (tgt := 4) hx hb dX10_countKeys_36 (by decide) ?_
          refine lv_iload_n hx hb dX10_countKeys_4 rfl (lv_at hl 0 rfl) ?_
          refine lv_iconst (v := 4) hx hb dX10_countKeys_5 (by decide) ?_
          refine lv_icmp_ge (tgt := 39) hx hb dX10_countKeys_6 (by decide) (fun hc => ?_) (fun hc => absurd (by decide) hc)
          refine lv_iload_n hx hb dX10_countKeys_39 rfl (lv_at hl 1 rfl) ?_
          have hc0 : cuF (fun j => (ft j).isSome) Ls 0 = (0, 0) := rfl
          have hc1 : cuF (fun j => (ft j).isSome) Ls 1 = ((0 + 1), (0 + cn0)) := cuF_1 hc0 (by show (ft 0).isSome = true; rw [hf0]; rfl) hn0
          have hc2 : cuF (fun j => (ft j).isSome) Ls 2 = ((0 + 1), (0 + cn0)) := cuF_0 hc1 (by show ¬ (ft 1).isSome = true; rw [hf1]; decide)
          have hc3 : cuF (fun j => (ft j).isSome) Ls 3 = ((0 + 1), (0 + cn0)) := cuF_0 hc2 (by show ¬ (ft 2).isSome = true; rw [hf2]; decide)
          have hc4 : cuF (fun j => (ft j).isSome) Ls 4 = ((0 + 1), (0 + cn0)) := cuF_0 hc3 (by show ¬ (ft 3).isSome = true; rw [hf3]; decide)
          exact W.iret (v := 0 + (nI cn0)) hx hb hr (fun t ht hW => ⟨⟨0 + (nI cn0), (), rfl, by rw [hc4]; show 0 + (nI cn0) = nI (0 + cn0); simp only [nI_add, show (0 : Int32) = nI 0 from rfl, Nat.zero_add], trivial⟩, hS.F ht⟩) hS.2.2 dX10_countKeys_40
        ·
          obtain ⟨o3, tb3, ts3, tg3, tl3, tc3, tr3, tu3, tv3, tw3, cn3, rfl, hm1, hm2, hn3⟩ := hG 3 (by decide) b3 hf3
          have hP : va_P D vwCl [(ox 0, .inr (10, [.ref (ox 1), .ref (ox 2), .int (nI tp), .ref (ob3 0), .ref (og 0), .ref (oq 0), .ref (ow 0)])), (ox 1, .inl (cT, 4, .inr (.inr (.inr (.inr ft))))), (o3 0, .inr (9, gT o3 tb3 ts3 tg3 tl3 tc3 tr3 tu3 tv3 tw3)), (o3 2, .inr (2, [.int (nI cn3), .ref (o3 3), .ref (o3 4)]))] s.heap := va_P.two hP0 hm1 hm2
          refine W.eq (g2 := F0 m 15 ls [.ref (o3 0)]) (by rw [show Int32.toNatClampNeg 3 = 3 from by decide, hf3]; rfl) ?_
          refine lv_ifnull hx hb dX10_countKeys_15 ?_
          refine lv_iload_n hx hb dX10_countKeys_18 rfl (lv_at hl 1 rfl) ?_
          refine lv_aload_n hx hb dX10_countKeys_19 rfl (lv_at hl 2 rfl) ?_
          refine va_get (D := D) (ci := 10) (v := .ref (ox 1)) (C := RX10) (T := TX10) (N := 7) hx hb hts hin_X10 hown hK hP 0 rfl rfl 0 (by decide) (hts (.fieldLink RX10 11 "ClashFree" "tables" "[LClashFree$Table;") (List.mem_of_getElem? (i := 1) rfl)) (fun _ h9 => h9) rfl dX10_countKeys_20 ?_
          refine lv_iload_n hx hb dX10_countKeys_23 rfl (lv_at hl 0 rfl) ?_
          refine va_aldq hx hb hK hP 1 0 rfl rfl (show ¬ ((3 : Int32) < 0 ∨ 4 ≤ Int32.toNatClampNeg 3) by decide) dX10_countKeys_24 ?_
          refine W.eq (g2 := F0 m 25 ls [.ref (o3 0), .int (0 + (nI cn0))]) (by rw [show Int32.toNatClampNeg 3 = 3 from by decide, hf3]; rfl) ?_
          refine va_get (D := D) (ci := 9) (v := .ref (o3 2)) (C := RX9) (T := TX9) (N := 12) hx hb hts hin_X9 hown hK hP 2 rfl rfl 10 (by decide) (hts (.fieldLink RX10 93 "ClashFree$Table" "keys" "LClashFree$Keys;") (List.mem_of_getElem? (i := 2) rfl)) (fun _ h9 => h9) rfl dX10_countKeys_25 ?_
          refine va_get (D := D) (ci := 2) (v := .int (nI cn3)) (C := RX2) (T := TX2) (N := 3) hx hb hts hin_X2 hown hK hP 3 rfl rfl 0 (by decide) (hts (.fieldLink RX10 121 "ClashFree$Keys" "size" "I") (List.mem_of_getElem? (i := 3) rfl)) (fun _ h9 => h9) rfl dX10_countKeys_28 ?_
          refine lv_iadd hx hb dX10_countKeys_31 ?_
          refine lv_istore_n (lv' := [(1, .int ((0 + (nI cn0)) + (nI cn3))), (2, .int 3), (0, .ref (ox 0))]) hx hb dX10_countKeys_32 rfl hl (by decide) rfl (fun ls hl => ?_)
          refine lv_iinc (v := 4) (lv' := [(2, .int 4), (1, .int ((0 + (nI cn0)) + (nI cn3))), (0, .ref (ox 0))]) hx hb dX10_countKeys_33 hl (k := 1) rfl (by decide) (by decide) rfl (fun ls hl => ?_)
          refine lv_goto (tgt := 4) hx hb dX10_countKeys_36 (by decide) ?_
          refine lv_iload_n hx hb dX10_countKeys_4 rfl (lv_at hl 0 rfl) ?_
          refine lv_iconst (v := 4) hx hb dX10_countKeys_5 (by decide) ?_
          refine lv_icmp_ge (tgt := 39) hx hb dX10_countKeys_6 (by decide) (fun hc => ?_) (fun hc => absurd (by decide) hc)
          refine lv_iload_n hx hb dX10_countKeys_39 rfl (lv_at hl 1 rfl) ?_
          have hc0 : cuF (fun j => (ft j).isSome) Ls 0 = (0, 0) := rfl
          have hc1 : cuF (fun j => (ft j).isSome) Ls 1 = ((0 + 1), (0 + cn0)) := cuF_1 hc0 (by show (ft 0).isSome = true; rw [hf0]; rfl) hn0
          have hc2 : cuF (fun j => (ft j).isSome) Ls 2 = ((0 + 1), (0 + cn0)) := cuF_0 hc1 (by show ¬ (ft 1).isSome = true; rw [hf1]; decide)
          have hc3 : cuF (fun j => (ft j).isSome) Ls 3 = ((0 + 1), (0 + cn0)) := cuF_0 hc2 (by show ¬ (ft 2).isSome = true; rw [hf2]; decide)
          have hc4 : cuF (fun j => (ft j).isSome) Ls 4 = (((0 + 1) + 1), ((0 + cn0) + cn3)) := cuF_1 hc3 (by show (ft 3).isSome = true; rw [hf3]; rfl) hn3
          exact W.iret (v := (0 + (nI cn0)) + (nI cn3)) hx hb hr (fun t ht hW => ⟨⟨(0 + (nI cn0)) + (nI cn3), (), rfl, by rw [hc4]; show (0 + (nI cn0)) + (nI cn3) = nI ((0 + cn0) + cn3); simp only [nI_add, show (0 : Int32) = nI 0 from rfl, Nat.zero_add], trivial⟩, hS.F ht⟩) hS.2.2 dX10_countKeys_40
      ·
        obtain ⟨o2, tb2, ts2, tg2, tl2, tc2, tr2, tu2, tv2, tw2, cn2, rfl, hm1, hm2, hn2⟩ := hG 2 (by decide) b2 hf2
        have hP : va_P D vwCl [(ox 0, .inr (10, [.ref (ox 1), .ref (ox 2), .int (nI tp), .ref (ob3 0), .ref (og 0), .ref (oq 0), .ref (ow 0)])), (ox 1, .inl (cT, 4, .inr (.inr (.inr (.inr ft))))), (o2 0, .inr (9, gT o2 tb2 ts2 tg2 tl2 tc2 tr2 tu2 tv2 tw2)), (o2 2, .inr (2, [.int (nI cn2), .ref (o2 3), .ref (o2 4)]))] s.heap := va_P.two hP0 hm1 hm2
        refine W.eq (g2 := F0 m 15 ls [.ref (o2 0)]) (by rw [show Int32.toNatClampNeg 2 = 2 from by decide, hf2]; rfl) ?_
        refine lv_ifnull hx hb dX10_countKeys_15 ?_
        refine lv_iload_n hx hb dX10_countKeys_18 rfl (lv_at hl 1 rfl) ?_
        refine lv_aload_n hx hb dX10_countKeys_19 rfl (lv_at hl 2 rfl) ?_
        refine va_get (D := D) (ci := 10) (v := .ref (ox 1)) (C := RX10) (T := TX10) (N := 7) hx hb hts hin_X10 hown hK hP 0 rfl rfl 0 (by decide) (hts (.fieldLink RX10 11 "ClashFree" "tables" "[LClashFree$Table;") (List.mem_of_getElem? (i := 1) rfl)) (fun _ h9 => h9) rfl dX10_countKeys_20 ?_
        refine lv_iload_n hx hb dX10_countKeys_23 rfl (lv_at hl 0 rfl) ?_
        refine va_aldq hx hb hK hP 1 0 rfl rfl (show ¬ ((2 : Int32) < 0 ∨ 4 ≤ Int32.toNatClampNeg 2) by decide) dX10_countKeys_24 ?_
        refine W.eq (g2 := F0 m 25 ls [.ref (o2 0), .int (0 + (nI cn0))]) (by rw [show Int32.toNatClampNeg 2 = 2 from by decide, hf2]; rfl) ?_
        refine va_get (D := D) (ci := 9) (v := .ref (o2 2)) (C := RX9) (T := TX9) (N := 12) hx hb hts hin_X9 hown hK hP 2 rfl rfl 10 (by decide) (hts (.fieldLink RX10 93 "ClashFree$Table" "keys" "LClashFree$Keys;") (List.mem_of_getElem? (i := 2) rfl)) (fun _ h9 => h9) rfl dX10_countKeys_25 ?_
        refine va_get (D := D) (ci := 2) (v := .int (nI cn2)) (C := RX2) (T := TX2) (N := 3) hx hb hts hin_X2 hown hK hP 3 rfl rfl 0 (by decide) (hts (.fieldLink RX10 121 "ClashFree$Keys" "size" "I") (List.mem_of_getElem? (i := 3) rfl)) (fun _ h9 => h9) rfl dX10_countKeys_28 ?_
        refine lv_iadd hx hb dX10_countKeys_31 ?_
        refine lv_istore_n (lv' := [(1, .int ((0 + (nI cn0)) + (nI cn2))), (2, .int 2), (0, .ref (ox 0))]) hx hb dX10_countKeys_32 rfl hl (by decide) rfl (fun ls hl => ?_)
        refine lv_iinc (v := 3) (lv' := [(2, .int 3), (1, .int ((0 + (nI cn0)) + (nI cn2))), (0, .ref (ox 0))]) hx hb dX10_countKeys_33 hl (k := 1) rfl (by decide) (by decide) rfl (fun ls hl => ?_)
        refine lv_goto (tgt := 4) hx hb dX10_countKeys_36 (by decide) ?_
        refine lv_iload_n hx hb dX10_countKeys_4 rfl (lv_at hl 0 rfl) ?_
        refine lv_iconst (v := 4) hx hb dX10_countKeys_5 (by decide) ?_
        refine lv_icmp_ge (tgt := 39) hx hb dX10_countKeys_6 (by decide) (fun hc => absurd hc (by decide)) (fun hc => ?_)
        refine lv_aload_n hx hb dX10_countKeys_9 rfl (lv_at hl 2 rfl) ?_
        refine va_get (D := D) (ci := 10) (v := .ref (ox 1)) (C := RX10) (T := TX10) (N := 7) hx hb hts hin_X10 hown hK hP 0 rfl rfl 0 (by decide) (hts (.fieldLink RX10 11 "ClashFree" "tables" "[LClashFree$Table;") (List.mem_of_getElem? (i := 1) rfl)) (fun _ h9 => h9) rfl dX10_countKeys_10 ?_
        refine lv_iload_n hx hb dX10_countKeys_13 rfl (lv_at hl 0 rfl) ?_
        refine va_aldq hx hb hK hP 1 0 rfl rfl (show ¬ ((3 : Int32) < 0 ∨ 4 ≤ Int32.toNatClampNeg 3) by decide) dX10_countKeys_14 ?_
        rcases hf3 : ft 3 with _ | b3
        ·
          refine W.eq (g2 := F0 m 15 ls [.null]) (by rw [show Int32.toNatClampNeg 3 = 3 from by decide, hf3]; rfl) ?_
          refine lv_ifnullN (tgt := 33) hx hb dX10_countKeys_15 (by decide) ?_
          refine lv_iinc (v := 4) (lv' := [(2, .int 4), (1, .int ((0 + (nI cn0)) + (nI cn2))), (0, .ref (ox 0))]) hx hb dX10_countKeys_33 hl (k := 0) rfl (by decide) (by decide) rfl (fun ls hl => ?_)
          refine lv_goto (tgt := 4) hx hb dX10_countKeys_36 (by decide) ?_
          refine lv_iload_n hx hb dX10_countKeys_4 rfl (lv_at hl 0 rfl) ?_
          refine lv_iconst (v := 4) hx hb dX10_countKeys_5 (by decide) ?_
          refine lv_icmp_ge (tgt := 39) hx hb dX10_countKeys_6 (by decide) (fun hc => ?_) (fun hc => absurd (by decide) hc)
          refine lv_iload_n hx hb dX10_countKeys_39 rfl (lv_at hl 1 rfl) ?_
          have hc0 : cuF (fun j => (ft j).isSome) Ls 0 = (0, 0) := rfl
          have hc1 : cuF (fun j => (ft j).isSome) Ls 1 = ((0 + 1), (0 + cn0)) := cuF_1 hc0 (by show (ft 0).isSome = true; rw [hf0]; rfl) hn0
          have hc2 : cuF (fun j => (ft j).isSome) Ls 2 = ((0 + 1), (0 + cn0)) := cuF_0 hc1 (by show ¬ (ft 1).isSome = true; rw [hf1]; decide)
          have hc3 : cuF (fun j => (ft j).isSome) Ls 3 = (((0 + 1) + 1), ((0 + cn0) + cn2)) := cuF_1 hc2 (by show (ft 2).isSome = true; rw [hf2]; rfl) hn2
          have hc4 : cuF (fun j => (ft j).isSome) Ls 4 = (((0 + 1) + 1), ((0 + cn0) + cn2)) := cuF_0 hc3 (by show ¬ (ft 3).isSome = true; rw [hf3]; decide)
          exact W.iret (v := (0 + (nI cn0)) + (nI cn2)) hx hb hr (fun t ht hW => ⟨⟨(0 + (nI cn0)) + (nI cn2), (), rfl, by rw [hc4]; show (0 + (nI cn0)) + (nI cn2) = nI ((0 + cn0) + cn2); simp only [nI_add, show (0 : Int32) = nI 0 from rfl, Nat.zero_add], trivial⟩, hS.F ht⟩) hS.2.2 dX10_countKeys_40
        ·
          obtain ⟨o3, tb3, ts3, tg3, tl3, tc3, tr3, tu3, tv3, tw3, cn3, rfl, hm1, hm2, hn3⟩ := hG 3 (by decide) b3 hf3
          have hP : va_P D vwCl [(ox 0, .inr (10, [.ref (ox 1), .ref (ox 2), .int (nI tp), .ref (ob3 0), .ref (og 0), .ref (oq 0), .ref (ow 0)])), (ox 1, .inl (cT, 4, .inr (.inr (.inr (.inr ft))))), (o3 0, .inr (9, gT o3 tb3 ts3 tg3 tl3 tc3 tr3 tu3 tv3 tw3)), (o3 2, .inr (2, [.int (nI cn3), .ref (o3 3), .ref (o3 4)]))] s.heap := va_P.two hP0 hm1 hm2
          refine W.eq (g2 := F0 m 15 ls [.ref (o3 0)]) (by rw [show Int32.toNatClampNeg 3 = 3 from by decide, hf3]; rfl) ?_
          refine lv_ifnull hx hb dX10_countKeys_15 ?_
          refine lv_iload_n hx hb dX10_countKeys_18 rfl (lv_at hl 1 rfl) ?_
          refine lv_aload_n hx hb dX10_countKeys_19 rfl (lv_at hl 2 rfl) ?_
          refine va_get (D := D) (ci := 10) (v := .ref (ox 1)) (C := RX10) (T := TX10) (N := 7) hx hb hts hin_X10 hown hK hP 0 rfl rfl 0 (by decide) (hts (.fieldLink RX10 11 "ClashFree" "tables" "[LClashFree$Table;") (List.mem_of_getElem? (i := 1) rfl)) (fun _ h9 => h9) rfl dX10_countKeys_20 ?_
          refine lv_iload_n hx hb dX10_countKeys_23 rfl (lv_at hl 0 rfl) ?_
          refine va_aldq hx hb hK hP 1 0 rfl rfl (show ¬ ((3 : Int32) < 0 ∨ 4 ≤ Int32.toNatClampNeg 3) by decide) dX10_countKeys_24 ?_
          refine W.eq (g2 := F0 m 25 ls [.ref (o3 0), .int ((0 + (nI cn0)) + (nI cn2))]) (by rw [show Int32.toNatClampNeg 3 = 3 from by decide, hf3]; rfl) ?_
          refine va_get (D := D) (ci := 9) (v := .ref (o3 2)) (C := RX9) (T := TX9) (N := 12) hx hb hts hin_X9 hown hK hP 2 rfl rfl 10 (by decide) (hts (.fieldLink RX10 93 "ClashFree$Table" "keys" "LClashFree$Keys;") (List.mem_of_getElem? (i := 2) rfl)) (fun _ h9 => h9) rfl dX10_countKeys_25 ?_
          refine va_get (D := D) (ci := 2) (v := .int (nI cn3)) (C := RX2) (T := TX2) (N := 3) hx hb hts hin_X2 hown hK hP 3 rfl rfl 0 (by decide) (hts (.fieldLink RX10 121 "ClashFree$Keys" "size" "I") (List.mem_of_getElem? (i := 3) rfl)) (fun _ h9 => h9) rfl dX10_countKeys_28 ?_
          refine lv_iadd hx hb dX10_countKeys_31 ?_
          refine lv_istore_n (lv' := [(1, .int (((0 + (nI cn0)) + (nI cn2)) + (nI cn3))), (2, .int 3), (0, .ref (ox 0))]) hx hb dX10_countKeys_32 rfl hl (by decide) rfl (fun ls hl => ?_)
          refine lv_iinc (v := 4) (lv' := [(2, .int 4), (1, .int (((0 + (nI cn0)) + (nI cn2)) + (nI cn3))), (0, .ref (ox 0))]) hx hb dX10_countKeys_33 hl (k := 1) rfl (by decide) (by decide) rfl (fun ls hl => ?_)
          refine lv_goto (tgt := 4) hx hb dX10_countKeys_36 (by decide) ?_
          refine lv_iload_n hx hb dX10_countKeys_4 rfl (lv_at hl 0 rfl) ?_
          refine lv_iconst (v := 4) hx hb dX10_countKeys_5 (by decide) ?_
          refine lv_icmp_ge (tgt := 39) hx hb dX10_countKeys_6 (by decide) (fun hc => ?_) (fun hc => absurd (by decide) hc)
          refine lv_iload_n hx hb dX10_countKeys_39 rfl (lv_at hl 1 rfl) ?_
          have hc0 : cuF (fun j => (ft j).isSome) Ls 0 = (0, 0) := rfl
          have hc1 : cuF (fun j => (ft j).isSome) Ls 1 = ((0 + 1), (0 + cn0)) := cuF_1 hc0 (by show (ft 0).isSome = true; rw [hf0]; rfl) hn0
          have hc2 : cuF (fun j => (ft j).isSome) Ls 2 = ((0 + 1), (0 + cn0)) := cuF_0 hc1 (by show ¬ (ft 1).isSome = true; rw [hf1]; decide)
          have hc3 : cuF (fun j => (ft j).isSome) Ls 3 = (((0 + 1) + 1), ((0 + cn0) + cn2)) := cuF_1 hc2 (by show (ft 2).isSome = true; rw [hf2]; rfl) hn2
          have hc4 : cuF (fun j => (ft j).isSome) Ls 4 = ((((0 + 1) + 1) + 1), (((0 + cn0) + cn2) + cn3)) := cuF_1 hc3 (by show (ft 3).isSome = true; rw [hf3]; rfl) hn3
          exact W.iret (v := ((0 + (nI cn0)) + (nI cn2)) + (nI cn3)) hx hb hr (fun t ht hW => ⟨⟨((0 + (nI cn0)) + (nI cn2)) + (nI cn3), (), rfl, by rw [hc4]; show ((0 + (nI cn0)) + (nI cn2)) + (nI cn3) = nI (((0 + cn0) + cn2) + cn3); simp only [nI_add, show (0 : Int32) = nI 0 from rfl, Nat.zero_add], trivial⟩, hS.F ht⟩) hS.2.2 dX10_countKeys_40
    ·
      obtain ⟨o1, tb1, ts1, tg1, tl1, tc1, tr1, tu1, tv1, tw1, cn1, rfl, hm1, hm2, hn1⟩ := hG 1 (by decide) b1 hf1
      have hP : va_P D vwCl [(ox 0, .inr (10, [.ref (ox 1), .ref (ox 2), .int (nI tp), .ref (ob3 0), .ref (og 0), .ref (oq 0), .ref (ow 0)])), (ox 1, .inl (cT, 4, .inr (.inr (.inr (.inr ft))))), (o1 0, .inr (9, gT o1 tb1 ts1 tg1 tl1 tc1 tr1 tu1 tv1 tw1)), (o1 2, .inr (2, [.int (nI cn1), .ref (o1 3), .ref (o1 4)]))] s.heap := va_P.two hP0 hm1 hm2
      refine W.eq (g2 := F0 m 15 ls [.ref (o1 0)]) (by rw [show Int32.toNatClampNeg 1 = 1 from by decide, hf1]; rfl) ?_
      refine lv_ifnull hx hb dX10_countKeys_15 ?_
      refine lv_iload_n hx hb dX10_countKeys_18 rfl (lv_at hl 1 rfl) ?_
      refine lv_aload_n hx hb dX10_countKeys_19 rfl (lv_at hl 2 rfl) ?_
      refine va_get (D := D) (ci := 10) (v := .ref (ox 1)) (C := RX10) (T := TX10) (N := 7) hx hb hts hin_X10 hown hK hP 0 rfl rfl 0 (by decide) (hts (.fieldLink RX10 11 "ClashFree" "tables" "[LClashFree$Table;") (List.mem_of_getElem? (i := 1) rfl)) (fun _ h9 => h9) rfl dX10_countKeys_20 ?_
      refine lv_iload_n hx hb dX10_countKeys_23 rfl (lv_at hl 0 rfl) ?_
      refine va_aldq hx hb hK hP 1 0 rfl rfl (show ¬ ((1 : Int32) < 0 ∨ 4 ≤ Int32.toNatClampNeg 1) by decide) dX10_countKeys_24 ?_
      refine W.eq (g2 := F0 m 25 ls [.ref (o1 0), .int (0 + (nI cn0))]) (by rw [show Int32.toNatClampNeg 1 = 1 from by decide, hf1]; rfl) ?_
      refine va_get (D := D) (ci := 9) (v := .ref (o1 2)) (C := RX9) (T := TX9) (N := 12) hx hb hts hin_X9 hown hK hP 2 rfl rfl 10 (by decide) (hts (.fieldLink RX10 93 "ClashFree$Table" "keys" "LClashFree$Keys;") (List.mem_of_getElem? (i := 2) rfl)) (fun _ h9 => h9) rfl dX10_countKeys_25 ?_
      refine va_get (D := D) (ci := 2) (v := .int (nI cn1)) (C := RX2) (T := TX2) (N := 3) hx hb hts hin_X2 hown hK hP 3 rfl rfl 0 (by decide) (hts (.fieldLink RX10 121 "ClashFree$Keys" "size" "I") (List.mem_of_getElem? (i := 3) rfl)) (fun _ h9 => h9) rfl dX10_countKeys_28 ?_
      refine lv_iadd hx hb dX10_countKeys_31 ?_
      refine lv_istore_n (lv' := [(1, .int ((0 + (nI cn0)) + (nI cn1))), (2, .int 1), (0, .ref (ox 0))]) hx hb dX10_countKeys_32 rfl hl (by decide) rfl (fun ls hl => ?_)
      refine lv_iinc (v := 2) (lv' := [(2, .int 2), (1, .int ((0 + (nI cn0)) + (nI cn1))), (0, .ref (ox 0))]) hx hb dX10_countKeys_33 hl (k := 1) rfl (by decide) (by decide) rfl (fun ls hl => ?_)
      refine lv_goto (tgt := 4) hx hb dX10_countKeys_36 (by decide) ?_
      refine lv_iload_n hx hb dX10_countKeys_4 rfl (lv_at hl 0 rfl) ?_
      refine lv_iconst (v := 4) hx hb dX10_countKeys_5 (by decide) ?_
      refine lv_icmp_ge (tgt := 39) hx hb dX10_countKeys_6 (by decide) (fun hc => absurd hc (by decide)) (fun hc => ?_)
      refine lv_aload_n hx hb dX10_countKeys_9 rfl (lv_at hl 2 rfl) ?_
      refine va_get (D := D) (ci := 10) (v := .ref (ox 1)) (C := RX10) (T := TX10) (N := 7) hx hb hts hin_X10 hown hK hP 0 rfl rfl 0 (by decide) (hts (.fieldLink RX10 11 "ClashFree" "tables" "[LClashFree$Table;") (List.mem_of_getElem? (i := 1) rfl)) (fun _ h9 => h9) rfl dX10_countKeys_10 ?_
      refine lv_iload_n hx hb dX10_countKeys_13 rfl (lv_at hl 0 rfl) ?_
      refine va_aldq hx hb hK hP 1 0 rfl rfl (show ¬ ((2 : Int32) < 0 ∨ 4 ≤ Int32.toNatClampNeg 2) by decide) dX10_countKeys_14 ?_
      rcases hf2 : ft 2 with _ | b2
      ·
        refine W.eq (g2 := F0 m 15 ls [.null]) (by rw [show Int32.toNatClampNeg 2 = 2 from by decide, hf2]; rfl) ?_
        refine lv_ifnullN (tgt := 33) hx hb dX10_countKeys_15 (by decide) ?_
        refine lv_iinc (v := 3) (lv' := [(2, .int 3), (1, .int ((0 + (nI cn0)) + (nI cn1))), (0, .ref (ox 0))]) hx hb dX10_countKeys_33 hl (k := 0) rfl (by decide) (by decide) rfl (fun ls hl => ?_)
        refine lv_goto (tgt := 4) hx hb dX10_countKeys_36 (by decide) ?_
        refine lv_iload_n hx hb dX10_countKeys_4 rfl (lv_at hl 0 rfl) ?_
        refine lv_iconst (v := 4) hx hb dX10_countKeys_5 (by decide) ?_
        refine lv_icmp_ge (tgt := 39) hx hb dX10_countKeys_6 (by decide) (fun hc => absurd hc (by decide)) (fun hc => ?_)
        refine lv_aload_n hx hb dX10_countKeys_9 rfl (lv_at hl 2 rfl) ?_
        refine va_get (D := D) (ci := 10) (v := .ref (ox 1)) (C := RX10) (T := TX10) (N := 7) hx hb hts hin_X10 hown hK hP 0 rfl rfl 0 (by decide) (hts (.fieldLink RX10 11 "ClashFree" "tables" "[LClashFree$Table;") (List.mem_of_getElem? (i := 1) rfl)) (fun _ h9 => h9) rfl dX10_countKeys_10 ?_
        refine lv_iload_n hx hb dX10_countKeys_13 rfl (lv_at hl 0 rfl) ?_
        refine va_aldq hx hb hK hP 1 0 rfl rfl (show ¬ ((3 : Int32) < 0 ∨ 4 ≤ Int32.toNatClampNeg 3) by decide) dX10_countKeys_14 ?_
        rcases hf3 : ft 3 with _ | b3
        ·
          refine W.eq (g2 := F0 m 15 ls [.null]) (by rw [show Int32.toNatClampNeg 3 = 3 from by decide, hf3]; rfl) ?_
          refine lv_ifnullN (tgt := 33) hx hb dX10_countKeys_15 (by decide) ?_
          refine lv_iinc (v := 4) (lv' := [(2, .int 4), (1, .int ((0 + (nI cn0)) + (nI cn1))), (0, .ref (ox 0))]) hx hb dX10_countKeys_33 hl (k := 0) rfl (by decide) (by decide) rfl (fun ls hl => ?_)
          refine lv_goto (tgt := 4) hx hb dX10_countKeys_36 (by decide) ?_
          refine lv_iload_n hx hb dX10_countKeys_4 rfl (lv_at hl 0 rfl) ?_
          refine lv_iconst (v := 4) hx hb dX10_countKeys_5 (by decide) ?_
          refine lv_icmp_ge (tgt := 39) hx hb dX10_countKeys_6 (by decide) (fun hc => ?_) (fun hc => absurd (by decide) hc)
          refine lv_iload_n hx hb dX10_countKeys_39 rfl (lv_at hl 1 rfl) ?_
          have hc0 : cuF (fun j => (ft j).isSome) Ls 0 = (0, 0) := rfl
          have hc1 : cuF (fun j => (ft j).isSome) Ls 1 = ((0 + 1), (0 + cn0)) := cuF_1 hc0 (by show (ft 0).isSome = true; rw [hf0]; rfl) hn0
          have hc2 : cuF (fun j => (ft j).isSome) Ls 2 = (((0 + 1) + 1), ((0 + cn0) + cn1)) := cuF_1 hc1 (by show (ft 1).isSome = true; rw [hf1]; rfl) hn1
          have hc3 : cuF (fun j => (ft j).isSome) Ls 3 = (((0 + 1) + 1), ((0 + cn0) + cn1)) := cuF_0 hc2 (by show ¬ (ft 2).isSome = true; rw [hf2]; decide)
          have hc4 : cuF (fun j => (ft j).isSome) Ls 4 = (((0 + 1) + 1), ((0 + cn0) + cn1)) := cuF_0 hc3 (by show ¬ (ft 3).isSome = true; rw [hf3]; decide)
          exact W.iret (v := (0 + (nI cn0)) + (nI cn1)) hx hb hr (fun t ht hW => ⟨⟨(0 + (nI cn0)) + (nI cn1), (), rfl, by rw [hc4]; show (0 + (nI cn0)) + (nI cn1) = nI ((0 + cn0) + cn1); simp only [nI_add, show (0 : Int32) = nI 0 from rfl, Nat.zero_add], trivial⟩, hS.F ht⟩) hS.2.2 dX10_countKeys_40
        ·
          obtain ⟨o3, tb3, ts3, tg3, tl3, tc3, tr3, tu3, tv3, tw3, cn3, rfl, hm1, hm2, hn3⟩ := hG 3 (by decide) b3 hf3
          have hP : va_P D vwCl [(ox 0, .inr (10, [.ref (ox 1), .ref (ox 2), .int (nI tp), .ref (ob3 0), .ref (og 0), .ref (oq 0), .ref (ow 0)])), (ox 1, .inl (cT, 4, .inr (.inr (.inr (.inr ft))))), (o3 0, .inr (9, gT o3 tb3 ts3 tg3 tl3 tc3 tr3 tu3 tv3 tw3)), (o3 2, .inr (2, [.int (nI cn3), .ref (o3 3), .ref (o3 4)]))] s.heap := va_P.two hP0 hm1 hm2
          refine W.eq (g2 := F0 m 15 ls [.ref (o3 0)]) (by rw [show Int32.toNatClampNeg 3 = 3 from by decide, hf3]; rfl) ?_
          refine lv_ifnull hx hb dX10_countKeys_15 ?_
          refine lv_iload_n hx hb dX10_countKeys_18 rfl (lv_at hl 1 rfl) ?_
          refine lv_aload_n hx hb dX10_countKeys_19 rfl (lv_at hl 2 rfl) ?_
          refine va_get (D := D) (ci := 10) (v := .ref (ox 1)) (C := RX10) (T := TX10) (N := 7) hx hb hts hin_X10 hown hK hP 0 rfl rfl 0 (by decide) (hts (.fieldLink RX10 11 "ClashFree" "tables" "[LClashFree$Table;") (List.mem_of_getElem? (i := 1) rfl)) (fun _ h9 => h9) rfl dX10_countKeys_20 ?_
          refine lv_iload_n hx hb dX10_countKeys_23 rfl (lv_at hl 0 rfl) ?_
          refine va_aldq hx hb hK hP 1 0 rfl rfl (show ¬ ((3 : Int32) < 0 ∨ 4 ≤ Int32.toNatClampNeg 3) by decide) dX10_countKeys_24 ?_
          refine W.eq (g2 := F0 m 25 ls [.ref (o3 0), .int ((0 + (nI cn0)) + (nI cn1))]) (by rw [show Int32.toNatClampNeg 3 = 3 from by decide, hf3]; rfl) ?_
          refine va_get (D := D) (ci := 9) (v := .ref (o3 2)) (C := RX9) (T := TX9) (N := 12) hx hb hts hin_X9 hown hK hP 2 rfl rfl 10 (by decide) (hts (.fieldLink RX10 93 "ClashFree$Table" "keys" "LClashFree$Keys;") (List.mem_of_getElem? (i := 2) rfl)) (fun _ h9 => h9) rfl dX10_countKeys_25 ?_
          refine va_get (D := D) (ci := 2) (v := .int (nI cn3)) (C := RX2) (T := TX2) (N := 3) hx hb hts hin_X2 hown hK hP 3 rfl rfl 0 (by decide) (hts (.fieldLink RX10 121 "ClashFree$Keys" "size" "I") (List.mem_of_getElem? (i := 3) rfl)) (fun _ h9 => h9) rfl dX10_countKeys_28 ?_
          refine lv_iadd hx hb dX10_countKeys_31 ?_
          refine lv_istore_n (lv' := [(1, .int (((0 + (nI cn0)) + (nI cn1)) + (nI cn3))), (2, .int 3), (0, .ref (ox 0))]) hx hb dX10_countKeys_32 rfl hl (by decide) rfl (fun ls hl => ?_)
          refine lv_iinc (v := 4) (lv' := [(2, .int 4), (1, .int (((0 + (nI cn0)) + (nI cn1)) + (nI cn3))), (0, .ref (ox 0))]) hx hb dX10_countKeys_33 hl (k := 1) rfl (by decide) (by decide) rfl (fun ls hl => ?_)
          refine lv_goto (tgt := 4) hx hb dX10_countKeys_36 (by decide) ?_
          refine lv_iload_n hx hb dX10_countKeys_4 rfl (lv_at hl 0 rfl) ?_
          refine lv_iconst (v := 4) hx hb dX10_countKeys_5 (by decide) ?_
          refine lv_icmp_ge (tgt := 39) hx hb dX10_countKeys_6 (by decide) (fun hc => ?_) (fun hc => absurd (by decide) hc)
          refine lv_iload_n hx hb dX10_countKeys_39 rfl (lv_at hl 1 rfl) ?_
          have hc0 : cuF (fun j => (ft j).isSome) Ls 0 = (0, 0) := rfl
          have hc1 : cuF (fun j => (ft j).isSome) Ls 1 = ((0 + 1), (0 + cn0)) := cuF_1 hc0 (by show (ft 0).isSome = true; rw [hf0]; rfl) hn0
          have hc2 : cuF (fun j => (ft j).isSome) Ls 2 = (((0 + 1) + 1), ((0 + cn0) + cn1)) := cuF_1 hc1 (by show (ft 1).isSome = true; rw [hf1]; rfl) hn1
          have hc3 : cuF (fun j => (ft j).isSome) Ls 3 = (((0 + 1) + 1), ((0 + cn0) + cn1)) := cuF_0 hc2 (by show ¬ (ft 2).isSome = true; rw [hf2]; decide)
          have hc4 : cuF (fun j => (ft j).isSome) Ls 4 = ((((0 + 1) + 1) + 1), (((0 + cn0) + cn1) + cn3)) := cuF_1 hc3 (by show (ft 3).isSome = true; rw [hf3]; rfl) hn3
          exact W.iret (v := ((0 + (nI cn0)) + (nI cn1)) + (nI cn3)) hx hb hr (fun t ht hW => ⟨⟨((0 + (nI cn0)) + (nI cn1)) + (nI cn3), (), rfl, by rw [hc4]; show ((0 + (nI cn0)) + (nI cn1)) + (nI cn3) = nI (((0 + cn0) + cn1) + cn3); simp only [nI_add, show (0 : Int32) = nI 0 from rfl, Nat.zero_add], trivial⟩, hS.F ht⟩) hS.2.2 dX10_countKeys_40
      ·
        obtain ⟨o2, tb2, ts2, tg2, tl2, tc2, tr2, tu2, tv2, tw2, cn2, rfl, hm1, hm2, hn2⟩ := hG 2 (by decide) b2 hf2
        have hP : va_P D vwCl [(ox 0, .inr (10, [.ref (ox 1), .ref (ox 2), .int (nI tp), .ref (ob3 0), .ref (og 0), .ref (oq 0), .ref (ow 0)])), (ox 1, .inl (cT, 4, .inr (.inr (.inr (.inr ft))))), (o2 0, .inr (9, gT o2 tb2 ts2 tg2 tl2 tc2 tr2 tu2 tv2 tw2)), (o2 2, .inr (2, [.int (nI cn2), .ref (o2 3), .ref (o2 4)]))] s.heap := va_P.two hP0 hm1 hm2
        refine W.eq (g2 := F0 m 15 ls [.ref (o2 0)]) (by rw [show Int32.toNatClampNeg 2 = 2 from by decide, hf2]; rfl) ?_
        refine lv_ifnull hx hb dX10_countKeys_15 ?_
        refine lv_iload_n hx hb dX10_countKeys_18 rfl (lv_at hl 1 rfl) ?_
        refine lv_aload_n hx hb dX10_countKeys_19 rfl (lv_at hl 2 rfl) ?_
        refine va_get (D := D) (ci := 10) (v := .ref (ox 1)) (C := RX10) (T := TX10) (N := 7) hx hb hts hin_X10 hown hK hP 0 rfl rfl 0 (by decide) (hts (.fieldLink RX10 11 "ClashFree" "tables" "[LClashFree$Table;") (List.mem_of_getElem? (i := 1) rfl)) (fun _ h9 => h9) rfl dX10_countKeys_20 ?_
        refine lv_iload_n hx hb dX10_countKeys_23 rfl (lv_at hl 0 rfl) ?_
        refine va_aldq hx hb hK hP 1 0 rfl rfl (show ¬ ((2 : Int32) < 0 ∨ 4 ≤ Int32.toNatClampNeg 2) by decide) dX10_countKeys_24 ?_
        refine W.eq (g2 := F0 m 25 ls [.ref (o2 0), .int ((0 + (nI cn0)) + (nI cn1))]) (by rw [show Int32.toNatClampNeg 2 = 2 from by decide, hf2]; rfl) ?_
        refine va_get (D := D) (ci := 9) (v := .ref (o2 2)) (C := RX9) (T := TX9) (N := 12) hx hb hts hin_X9 hown hK hP 2 rfl rfl 10 (by decide) (hts (.fieldLink RX10 93 "ClashFree$Table" "keys" "LClashFree$Keys;") (List.mem_of_getElem? (i := 2) rfl)) (fun _ h9 => h9) rfl dX10_countKeys_25 ?_
        refine va_get (D := D) (ci := 2) (v := .int (nI cn2)) (C := RX2) (T := TX2) (N := 3) hx hb hts hin_X2 hown hK hP 3 rfl rfl 0 (by decide) (hts (.fieldLink RX10 121 "ClashFree$Keys" "size" "I") (List.mem_of_getElem? (i := 3) rfl)) (fun _ h9 => h9) rfl dX10_countKeys_28 ?_
        refine lv_iadd hx hb dX10_countKeys_31 ?_
        refine lv_istore_n (lv' := [(1, .int (((0 + (nI cn0)) + (nI cn1)) + (nI cn2))), (2, .int 2), (0, .ref (ox 0))]) hx hb dX10_countKeys_32 rfl hl (by decide) rfl (fun ls hl => ?_)
        refine lv_iinc (v := 3) (lv' := [(2, .int 3), (1, .int (((0 + (nI cn0)) + (nI cn1)) + (nI cn2))), (0, .ref (ox 0))]) hx hb dX10_countKeys_33 hl (k := 1) rfl (by decide) (by decide) rfl (fun ls hl => ?_)
        refine lv_goto (tgt := 4) hx hb dX10_countKeys_36 (by decide) ?_
        refine lv_iload_n hx hb dX10_countKeys_4 rfl (lv_at hl 0 rfl) ?_
        refine lv_iconst (v := 4) hx hb dX10_countKeys_5 (by decide) ?_
        refine lv_icmp_ge (tgt := 39) hx hb dX10_countKeys_6 (by decide) (fun hc => absurd hc (by decide)) (fun hc => ?_)
        refine lv_aload_n hx hb dX10_countKeys_9 rfl (lv_at hl 2 rfl) ?_
        refine va_get (D := D) (ci := 10) (v := .ref (ox 1)) (C := RX10) (T := TX10) (N := 7) hx hb hts hin_X10 hown hK hP 0 rfl rfl 0 (by decide) (hts (.fieldLink RX10 11 "ClashFree" "tables" "[LClashFree$Table;") (List.mem_of_getElem? (i := 1) rfl)) (fun _ h9 => h9) rfl dX10_countKeys_10 ?_
        refine lv_iload_n hx hb dX10_countKeys_13 rfl (lv_at hl 0 rfl) ?_
        refine va_aldq hx hb hK hP 1 0 rfl rfl (show ¬ ((3 : Int32) < 0 ∨ 4 ≤ Int32.toNatClampNeg 3) by decide) dX10_countKeys_14 ?_
        rcases hf3 : ft 3 with _ | b3
        ·
          refine W.eq (g2 := F0 m 15 ls [.null]) (by rw [show Int32.toNatClampNeg 3 = 3 from by decide, hf3]; rfl) ?_
          refine lv_ifnullN (tgt := 33) hx hb dX10_countKeys_15 (by decide) ?_
          refine lv_iinc (v := 4) (lv' := [(2, .int 4), (1, .int (((0 + (nI cn0)) + (nI cn1)) + (nI cn2))), (0, .ref (ox 0))]) hx hb dX10_countKeys_33 hl (k := 0) rfl (by decide) (by decide) rfl (fun ls hl => ?_)
          refine lv_goto (tgt := 4) hx hb dX10_countKeys_36 (by decide) ?_
          refine lv_iload_n hx hb dX10_countKeys_4 rfl (lv_at hl 0 rfl) ?_
          refine lv_iconst (v := 4) hx hb dX10_countKeys_5 (by decide) ?_
          refine lv_icmp_ge (tgt := 39) hx hb dX10_countKeys_6 (by decide) (fun hc => ?_) (fun hc => absurd (by decide) hc)
          refine lv_iload_n hx hb dX10_countKeys_39 rfl (lv_at hl 1 rfl) ?_
          have hc0 : cuF (fun j => (ft j).isSome) Ls 0 = (0, 0) := rfl
          have hc1 : cuF (fun j => (ft j).isSome) Ls 1 = ((0 + 1), (0 + cn0)) := cuF_1 hc0 (by show (ft 0).isSome = true; rw [hf0]; rfl) hn0
          have hc2 : cuF (fun j => (ft j).isSome) Ls 2 = (((0 + 1) + 1), ((0 + cn0) + cn1)) := cuF_1 hc1 (by show (ft 1).isSome = true; rw [hf1]; rfl) hn1
          have hc3 : cuF (fun j => (ft j).isSome) Ls 3 = ((((0 + 1) + 1) + 1), (((0 + cn0) + cn1) + cn2)) := cuF_1 hc2 (by show (ft 2).isSome = true; rw [hf2]; rfl) hn2
          have hc4 : cuF (fun j => (ft j).isSome) Ls 4 = ((((0 + 1) + 1) + 1), (((0 + cn0) + cn1) + cn2)) := cuF_0 hc3 (by show ¬ (ft 3).isSome = true; rw [hf3]; decide)
          exact W.iret (v := ((0 + (nI cn0)) + (nI cn1)) + (nI cn2)) hx hb hr (fun t ht hW => ⟨⟨((0 + (nI cn0)) + (nI cn1)) + (nI cn2), (), rfl, by rw [hc4]; show ((0 + (nI cn0)) + (nI cn1)) + (nI cn2) = nI (((0 + cn0) + cn1) + cn2); simp only [nI_add, show (0 : Int32) = nI 0 from rfl, Nat.zero_add], trivial⟩, hS.F ht⟩) hS.2.2 dX10_countKeys_40
        ·
          obtain ⟨o3, tb3, ts3, tg3, tl3, tc3, tr3, tu3, tv3, tw3, cn3, rfl, hm1, hm2, hn3⟩ := hG 3 (by decide) b3 hf3
          have hP : va_P D vwCl [(ox 0, .inr (10, [.ref (ox 1), .ref (ox 2), .int (nI tp), .ref (ob3 0), .ref (og 0), .ref (oq 0), .ref (ow 0)])), (ox 1, .inl (cT, 4, .inr (.inr (.inr (.inr ft))))), (o3 0, .inr (9, gT o3 tb3 ts3 tg3 tl3 tc3 tr3 tu3 tv3 tw3)), (o3 2, .inr (2, [.int (nI cn3), .ref (o3 3), .ref (o3 4)]))] s.heap := va_P.two hP0 hm1 hm2
          refine W.eq (g2 := F0 m 15 ls [.ref (o3 0)]) (by rw [show Int32.toNatClampNeg 3 = 3 from by decide, hf3]; rfl) ?_
          refine lv_ifnull hx hb dX10_countKeys_15 ?_
          refine lv_iload_n hx hb dX10_countKeys_18 rfl (lv_at hl 1 rfl) ?_
          refine lv_aload_n hx hb dX10_countKeys_19 rfl (lv_at hl 2 rfl) ?_
          refine va_get (D := D) (ci := 10) (v := .ref (ox 1)) (C := RX10) (T := TX10) (N := 7) hx hb hts hin_X10 hown hK hP 0 rfl rfl 0 (by decide) (hts (.fieldLink RX10 11 "ClashFree" "tables" "[LClashFree$Table;") (List.mem_of_getElem? (i := 1) rfl)) (fun _ h9 => h9) rfl dX10_countKeys_20 ?_
          refine lv_iload_n hx hb dX10_countKeys_23 rfl (lv_at hl 0 rfl) ?_
          refine va_aldq hx hb hK hP 1 0 rfl rfl (show ¬ ((3 : Int32) < 0 ∨ 4 ≤ Int32.toNatClampNeg 3) by decide) dX10_countKeys_24 ?_
          refine W.eq (g2 := F0 m 25 ls [.ref (o3 0), .int (((0 + (nI cn0)) + (nI cn1)) + (nI cn2))]) (by rw [show Int32.toNatClampNeg 3 = 3 from by decide, hf3]; rfl) ?_
          refine va_get (D := D) (ci := 9) (v := .ref (o3 2)) (C := RX9) (T := TX9) (N := 12) hx hb hts hin_X9 hown hK hP 2 rfl rfl 10 (by decide) (hts (.fieldLink RX10 93 "ClashFree$Table" "keys" "LClashFree$Keys;") (List.mem_of_getElem? (i := 2) rfl)) (fun _ h9 => h9) rfl dX10_countKeys_25 ?_
          refine va_get (D := D) (ci := 2) (v := .int (nI cn3)) (C := RX2) (T := TX2) (N := 3) hx hb hts hin_X2 hown hK hP 3 rfl rfl 0 (by decide) (hts (.fieldLink RX10 121 "ClashFree$Keys" "size" "I") (List.mem_of_getElem? (i := 3) rfl)) (fun _ h9 => h9) rfl dX10_countKeys_28 ?_
          refine lv_iadd hx hb dX10_countKeys_31 ?_
          refine lv_istore_n (lv' := [(1, .int ((((0 + (nI cn0)) + (nI cn1)) + (nI cn2)) + (nI cn3))), (2, .int 3), (0, .ref (ox 0))]) hx hb dX10_countKeys_32 rfl hl (by decide) rfl (fun ls hl => ?_)
          refine lv_iinc (v := 4) (lv' := [(2, .int 4), (1, .int ((((0 + (nI cn0)) + (nI cn1)) + (nI cn2)) + (nI cn3))), (0, .ref (ox 0))]) hx hb dX10_countKeys_33 hl (k := 1) rfl (by decide) (by decide) rfl (fun ls hl => ?_)
          refine lv_goto (tgt := 4) hx hb dX10_countKeys_36 (by decide) ?_
          refine lv_iload_n hx hb dX10_countKeys_4 rfl (lv_at hl 0 rfl) ?_
          refine lv_iconst (v := 4) hx hb dX10_countKeys_5 (by decide) ?_
          refine lv_icmp_ge (tgt := 39) hx hb dX10_countKeys_6 (by decide) (fun hc => ?_) (fun hc => absurd (by decide) hc)
          refine lv_iload_n hx hb dX10_countKeys_39 rfl (lv_at hl 1 rfl) ?_
          have hc0 : cuF (fun j => (ft j).isSome) Ls 0 = (0, 0) := rfl
          have hc1 : cuF (fun j => (ft j).isSome) Ls 1 = ((0 + 1), (0 + cn0)) := cuF_1 hc0 (by show (ft 0).isSome = true; rw [hf0]; rfl) hn0
          have hc2 : cuF (fun j => (ft j).isSome) Ls 2 = (((0 + 1) + 1), ((0 + cn0) + cn1)) := cuF_1 hc1 (by show (ft 1).isSome = true; rw [hf1]; rfl) hn1
          have hc3 : cuF (fun j => (ft j).isSome) Ls 3 = ((((0 + 1) + 1) + 1), (((0 + cn0) + cn1) + cn2)) := cuF_1 hc2 (by show (ft 2).isSome = true; rw [hf2]; rfl) hn2
          have hc4 : cuF (fun j => (ft j).isSome) Ls 4 = (((((0 + 1) + 1) + 1) + 1), ((((0 + cn0) + cn1) + cn2) + cn3)) := cuF_1 hc3 (by show (ft 3).isSome = true; rw [hf3]; rfl) hn3
          exact W.iret (v := (((0 + (nI cn0)) + (nI cn1)) + (nI cn2)) + (nI cn3)) hx hb hr (fun t ht hW => ⟨⟨(((0 + (nI cn0)) + (nI cn1)) + (nI cn2)) + (nI cn3), (), rfl, by rw [hc4]; show (((0 + (nI cn0)) + (nI cn1)) + (nI cn2)) + (nI cn3) = nI ((((0 + cn0) + cn1) + cn2) + cn3); simp only [nI_add, show (0 : Int32) = nI 0 from rfl, Nat.zero_add], trivial⟩, hS.F ht⟩) hS.2.2 dX10_countKeys_40

def own_x_count : List Cond := [.methodLink RX10 345 yX10_countTables, .instanceMethod yX10_countTables, .selects RX10 yX10_countTables yX10_countTables, .initialized RX10, .methodLink RX10 348 yX10_countKeys, .instanceMethod yX10_countKeys, .selects RX10 yX10_countKeys yX10_countKeys, .fieldLink RX10 19 "ClashFree" "taped" "I"]
def wp_x_count : List Cond := .code yX10_count cX10_count 2 (some .int) :: (own_x_count ++ (wp_k_cT ++ (wp_k_cK ++ (wsX100 ++ ([] : List Cond)))))
set_option maxRecDepth 20000 in
theorem inown_x_count : ∀ w ∈ own_x_count, w ∈ lw_tbl := mem_places [1202, 1204, 34, 106, 1206, 1208, 35, 414] (by decide +kernel)
set_option maxRecDepth 20000 in
theorem in_x_count : ∀ w ∈ wp_x_count, w ∈ lw_tbl := List.forall_mem_cons.mpr ⟨List.mem_of_getElem? (i := 1201) (by decide +kernel), List.forall_mem_append.mpr ⟨inown_x_count, List.forall_mem_append.mpr ⟨in_k_cT, List.forall_mem_append.mpr ⟨in_k_cK, List.forall_mem_append.mpr ⟨lwb_X10, fun _ h => absurd h List.not_mem_nil⟩⟩⟩⟩⟩
set_option maxRecDepth 20000 in
theorem good_x_count : wp_x_count.all goodWord = true := by decide +kernel
set_option maxRecDepth 20000 in
theorem g_x_count_k_cT_345 : GoodIn wp_x_count (wsV RX10 345 RX10 yX10_countTables wp_k_cT) := goodIn_sub (List.forall_mem_append.mpr ⟨List.forall_mem_cons.mpr ⟨(List.mem_of_getElem? (i := 1) rfl), List.forall_mem_cons.mpr ⟨(List.mem_of_getElem? (i := 2) rfl), List.forall_mem_cons.mpr ⟨(List.mem_of_getElem? (i := 3) rfl), List.forall_mem_cons.mpr ⟨(List.mem_of_getElem? (i := 4) rfl), fun _ h => absurd h List.not_mem_nil⟩⟩⟩⟩, (fun _ h => (List.mem_cons_of_mem _ (List.mem_append_right _ (List.mem_append_left _ h))))⟩) (by decide +kernel)
set_option maxRecDepth 20000 in
theorem g_x_count_k_cK_348 : GoodIn wp_x_count (wsV RX10 348 RX10 yX10_countKeys wp_k_cK) := goodIn_sub (List.forall_mem_append.mpr ⟨List.forall_mem_cons.mpr ⟨(List.mem_of_getElem? (i := 5) rfl), List.forall_mem_cons.mpr ⟨(List.mem_of_getElem? (i := 6) rfl), List.forall_mem_cons.mpr ⟨(List.mem_of_getElem? (i := 7) rfl), List.forall_mem_cons.mpr ⟨(List.mem_of_getElem? (i := 4) rfl), fun _ h => absurd h List.not_mem_nil⟩⟩⟩⟩, (fun _ h => (List.mem_cons_of_mem _ (List.mem_append_right _ (List.mem_append_right _ (List.mem_append_left _ h)))))⟩) (by decide +kernel)
set_option maxHeartbeats 4000000 in
set_option maxRecDepth 100000 in
theorem x_count (l : Launch) (D : va_G) (sz : Nat) (ox : Nat → Nat) (ob3 : Nat → Nat) (og : Nat → Nat) (oq : Nat → Nat) (ow : Nat → Nat) (cI : ClassId) (cT : ClassId) (tp : Nat) (ft : Nat → Option Nat) (z1 : Int32) (Wt : va_W) (Ls : Nat → List (Nat × Int32)) (hG : ∀ k, k < 4 → ∀ b, ft k = some b → ∃ (o : Nat → Nat) (tb ts tg tl tc tr tu tv tw : Int32) (cn : Nat), b = o 0 ∧ (o 0, .inr (9, gT o tb ts tg tl tc tr tu tv tw)) ∈ Wt ∧ (o 2, .inr (2, [.int (nI cn), .ref (o 3), .ref (o 4)])) ∈ Wt ∧ (Ls k).length = cn) : Met l yX10_count wp_x_count ({ frames := 1, cells := 0, slots := 0, locals := 22 }) (PcRC D [.ref (ox 0), .int z1] sz ((ox 0, .inr (10, [.ref (ox 1), .ref (ox 2), .int (nI tp), .ref (ob3 0), .ref (og 0), .ref (oq 0), .ref (ow 0)])) :: (ox 1, .inl (cT, 4, .inr (.inr (.inr (.inr ft))))) :: Wt) [(cT, .object RX9)]) (va_Qi (fun (r : Int32) (u : Unit) => r = cuA (fun j => (ft j).isSome) Ls (nI tp) z1) (fun (_ : Unit) _ => True) (va_A [] sz)) 0 0 (va_A [] sz) := by
  refine Met.ofW (cc := cX10_count) (maxL := 2) (ret := (some .int)) (by decide) rfl ?_
  intro p e s m args below meth c s₁ B hml hv
  obtain ⟨rfl, hsz, hP, hK, hN⟩ := hv
  have hx := B.exec
  have hb := B.bytes
  have hr := B.returns
  have hts := atoms_spec (ws := wp_x_count) B.pre
  have hin_X10 : ∀ w ∈ wsX100, w ∈ wp_x_count := fun _ h => (List.mem_cons_of_mem _ (List.mem_append_right _ (List.mem_append_right _ (List.mem_append_right _ (List.mem_append_left _ h)))))
  have hown : s.vm.findClass RX10 = some m.cls := findClass_of_methodNamed B.named
  have hlocks := B.notSynchronized
  subst hsz
  generalize hAe : va_A [] s.heap.size = A at ⊢
  have hA : ∀ q : Nat, s.heap.size ≤ q → A q := fun q h => by rw [← hAe]; exact Or.inr h
  have hS : va_S A s.heap s.heap [] := va_S.rf
  have hP : va_P D vwCl ((ox 0, .inr (10, [.ref (ox 1), .ref (ox 2), .int (nI tp), .ref (ob3 0), .ref (og 0), .ref (oq 0), .ref (ow 0)])) :: (ox 1, .inl (cT, 4, .inr (.inr (.inr (.inr ft))))) :: Wt) s.heap := hP
  have hl := lv_entry ([.ref (ox 0), .int z1]) (n := 2) (Nat.le_of_ble_eq_true rfl)
  rw [lg_entry_eq]
  generalize (lg_sl ([.ref (ox 0), .int z1]) ++ List.replicate (2 - (lg_sl ([.ref (ox 0), .int z1])).length) Slot.unset).toArray = ls at hl ⊢
  have hl : lv_has ls 2 [(0, .ref (ox 0)), (1, .int z1)] := hl
  have hP0 := hP
  have hP := hP.sub (ws' := [(ox 0, .inr (10, [.ref (ox 1), .ref (ox 2), .int (nI tp), .ref (ob3 0), .ref (og 0), .ref (oq 0), .ref (ow 0)])), (ox 1, .inl (cT, 4, .inr (.inr (.inr (.inr ft)))))]) [0, 1] rfl
  refine lv_iload_n hx hb dX10_count_0 rfl (lv_at hl 1 rfl) ?_
  by_cases hs1 : z1 = 0
  ·
    subst hs1
    refine lv_tableIn (off := 27) (tgt := 28) hx hb dX10_count_1 (by decide) (by decide) (by decide +kernel) (by decide) ?_
    refine lv_aload_n hx hb dX10_count_28 rfl (lv_at hl 0 rfl) ?_
    have hPc := hP.sub (ws' := [(ox 0, .inr (10, [.ref (ox 1), .ref (ox 2), .int (nI tp), .ref (ob3 0), .ref (og 0), .ref (oq 0), .ref (ow 0)])), (ox 1, .inl (cT, 4, .inr (.inr (.inr (.inr ft)))))]) [0, 1] rfl
    have hKc := hK.sub (tys' := [(cT, .object RX9)]) [0] rfl
    have hFc := va_free0 hS hA
    refine va_calli (va_runV (As := []) (rest := []) ⟨hx, hb, hml, hown, hts⟩ (k_cT l D _ ox ob3 og oq ow cI cT tp ft Ls) (cwV 0 hts g_x_count_k_cT_345 rfl rfl rfl (by decide +kernel) ⟨(Nat.le_of_ble_eq_true rfl), (Nat.le_of_ble_eq_true rfl)⟩) (PcRC_V (q0 := 0) hPc hKc hN rfl rfl) rfl rfl hl.1 rfl (lv_room (Nat.le_of_ble_eq_true rfl)) dX10_count_29 ⟨(Nat.le_of_ble_eq_true rfl), (Nat.le_of_ble_eq_true rfl)⟩) hS (fun q _ h => hFc q h) hFc (fun r2 uu tt H locs htt hvm hw hB hz1 hk1 hS => ?_)
    have hP := va_keep hP hk1
    try dsimp only at hw
    clear hB hz1 hk1 hFc hPc hKc
    have hct3 := hw
    exact W.iret (v := r2) hx hb hr (fun t ht hW => ⟨⟨r2, (), rfl, hct3.trans (Eq.symm (if_pos rfl)), trivial⟩, hS.F ht⟩) hS.2.2 dX10_count_32
  by_cases hs4 : z1 = 1
  ·
    subst hs4
    refine lv_tableIn (off := 32) (tgt := 33) hx hb dX10_count_1 (by decide) (by decide) (by decide +kernel) (by decide) ?_
    refine lv_aload_n hx hb dX10_count_33 rfl (lv_at hl 0 rfl) ?_
    have hPc := hP0
    have hKc := hK.sub (tys' := [(cT, .object RX9)]) [0] rfl
    have hFc := va_free0 hS hA
    refine va_calli (va_runV (As := []) (rest := []) ⟨hx, hb, hml, hown, hts⟩ (k_cK l D _ ox ob3 og oq ow cI cT tp ft Wt Ls hG) (cwV 0 hts g_x_count_k_cK_348 rfl rfl rfl (by decide +kernel) ⟨(Nat.le_of_ble_eq_true rfl), (Nat.le_of_ble_eq_true rfl)⟩) (PcRC_V (q0 := 0) hPc hKc hN rfl rfl) rfl rfl hl.1 rfl (lv_room (Nat.le_of_ble_eq_true rfl)) dX10_count_34 ⟨(Nat.le_of_ble_eq_true rfl), (Nat.le_of_ble_eq_true rfl)⟩) hS (fun q _ h => hFc q h) hFc (fun r5 uu tt H locs htt hvm hw hB hz1 hk1 hS => ?_)
    have hP := va_keep hP hk1
    try dsimp only at hw
    clear hB hz1 hk1 hFc hPc hKc
    have hct6 := hw
    exact W.iret (v := r5) hx hb hr (fun t ht hW => ⟨⟨r5, (), rfl, hct6.trans (Eq.symm (Eq.trans (if_neg (by decide)) (if_pos rfl))), trivial⟩, hS.F ht⟩) hS.2.2 dX10_count_37
  by_cases hs7 : z1 = 2
  ·
    subst hs7
    refine lv_tableIn (off := 37) (tgt := 38) hx hb dX10_count_1 (by decide) (by decide) (by decide +kernel) (by decide) ?_
    refine lv_aload_n hx hb dX10_count_38 rfl (lv_at hl 0 rfl) ?_
    refine va_get (D := D) (ci := 10) (v := .int (nI tp)) (C := RX10) (T := TX10) (N := 7) hx hb hts hin_X10 hown hK hP 0 rfl rfl 2 (by decide) (hts (.fieldLink RX10 19 "ClashFree" "taped" "I") (List.mem_of_getElem? (i := 8) rfl)) (fun _ h9 => h9) rfl dX10_count_39 ?_
    exact W.iret (v := nI tp) hx hb hr (fun t ht hW => ⟨⟨nI tp, (), rfl, (cuA_2 (by decide) (by decide) rfl).symm, trivial⟩, hS.F ht⟩) hS.2.2 dX10_count_42
  refine lv_tableOut (tgt := 43) hx hb dX10_count_1 (by have a0 := sw_ne (n := 0) hs1 (by decide) (by decide); have a1 := sw_ne (n := 1) hs4 (by decide) (by decide); have a2 := sw_ne (n := 2) hs7 (by decide) (by decide); omega) (by decide) ?_
  refine lv_iconst (v := (-1)) hx hb dX10_count_43 (by decide) ?_
  exact W.iret (v := (-1)) hx hb hr (fun t ht hW => ⟨⟨(-1), (), rfl, (cuA_3 hs1 hs4 hs7).symm, trivial⟩, hS.F ht⟩) hS.2.2 dX10_count_44

