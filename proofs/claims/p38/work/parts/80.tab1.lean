theorem dX9_countReads_0 : decode cX9_countReads 0 = .ok (.aload_n 0, 1) := by decide +kernel
theorem dX9_countReads_1 : decode cX9_countReads 1 = .ok (.dup, 1) := by decide +kernel
theorem dX9_countReads_2 : decode cX9_countReads 2 = .ok (.getfield 42, 3) := by decide +kernel
theorem dX9_countReads_5 : decode cX9_countReads 5 = .ok (.aload_n 0, 1) := by decide +kernel
theorem dX9_countReads_6 : decode cX9_countReads 6 = .ok (.getfield 28, 3) := by decide +kernel
theorem dX9_countReads_9 : decode cX9_countReads 9 = .ok (.aload_n 0, 1) := by decide +kernel
theorem dX9_countReads_10 : decode cX9_countReads 10 = .ok (.getfield 28, 3) := by decide +kernel
theorem dX9_countReads_13 : decode cX9_countReads 13 = .ok (.iload_n 1, 1) := by decide +kernel
theorem dX9_countReads_14 : decode cX9_countReads 14 = .ok (.invokevirtual 108, 3) := by decide +kernel
theorem dX9_countReads_17 : decode cX9_countReads 17 = .ok (.invokevirtual 112, 3) := by decide +kernel
theorem dX9_countReads_20 : decode cX9_countReads 20 = .ok (.ifCond .le 7, 3) := by decide +kernel
theorem dX9_countReads_23 : decode cX9_countReads 23 = .ok (.iconst 2, 1) := by decide +kernel
theorem dX9_countReads_24 : decode cX9_countReads 24 = .ok (.goto 4, 3) := by decide +kernel
theorem dX9_countReads_27 : decode cX9_countReads 27 = .ok (.iconst 1, 1) := by decide +kernel
theorem dX9_countReads_28 : decode cX9_countReads 28 = .ok (.iadd, 1) := by decide +kernel
theorem dX9_countReads_29 : decode cX9_countReads 29 = .ok (.putfield 42, 3) := by decide +kernel
theorem dX9_countReads_32 : decode cX9_countReads 32 = .ok (.return_, 1) := by decide +kernel
theorem dX9_isFullFor_0 : decode cX9_isFullFor 0 = .ok (.aload_n 0, 1) := by decide +kernel
theorem dX9_isFullFor_1 : decode cX9_isFullFor 1 = .ok (.getfield 21, 3) := by decide +kernel
theorem dX9_isFullFor_4 : decode cX9_isFullFor 4 = .ok (.getfield 58, 3) := by decide +kernel
theorem dX9_isFullFor_7 : decode cX9_isFullFor 7 = .ok (.sipush 160, 3) := by decide +kernel
theorem dX9_isFullFor_10 : decode cX9_isFullFor 10 = .ok (.if_icmp .lt 18, 3) := by decide +kernel
theorem dX9_isFullFor_13 : decode cX9_isFullFor 13 = .ok (.aload_n 0, 1) := by decide +kernel
theorem dX9_isFullFor_14 : decode cX9_isFullFor 14 = .ok (.getfield 21, 3) := by decide +kernel
theorem dX9_isFullFor_17 : decode cX9_isFullFor 17 = .ok (.iload_n 1, 1) := by decide +kernel
theorem dX9_isFullFor_18 : decode cX9_isFullFor 18 = .ok (.invokevirtual 115, 3) := by decide +kernel
theorem dX9_isFullFor_21 : decode cX9_isFullFor 21 = .ok (.ifCond .ge 7, 3) := by decide +kernel
theorem dX9_isFullFor_24 : decode cX9_isFullFor 24 = .ok (.iconst 1, 1) := by decide +kernel
theorem dX9_isFullFor_25 : decode cX9_isFullFor 25 = .ok (.goto 4, 3) := by decide +kernel
theorem dX9_isFullFor_28 : decode cX9_isFullFor 28 = .ok (.iconst 0, 1) := by decide +kernel
theorem dX9_isFullFor_29 : decode cX9_isFullFor 29 = .ok (.ireturn, 1) := by decide +kernel
theorem dX9_foretell_0 : decode cX9_foretell 0 = .ok (.aload_n 0, 1) := by decide +kernel
theorem dX9_foretell_1 : decode cX9_foretell 1 = .ok (.getfield 21, 3) := by decide +kernel
theorem dX9_foretell_4 : decode cX9_foretell 4 = .ok (.iload_n 1, 1) := by decide +kernel
theorem dX9_foretell_5 : decode cX9_foretell 5 = .ok (.invokevirtual 115, 3) := by decide +kernel
theorem dX9_foretell_8 : decode cX9_foretell 8 = .ok (.ifCond .lt 5, 3) := by decide +kernel
theorem dX9_foretell_11 : decode cX9_foretell 11 = .ok (.iconst 0, 1) := by decide +kernel
theorem dX9_foretell_12 : decode cX9_foretell 12 = .ok (.ireturn, 1) := by decide +kernel
theorem dX9_foretell_13 : decode cX9_foretell 13 = .ok (.aload_n 0, 1) := by decide +kernel
theorem dX9_foretell_14 : decode cX9_foretell 14 = .ok (.getfield 28, 3) := by decide +kernel
theorem dX9_foretell_17 : decode cX9_foretell 17 = .ok (.iload_n 1, 1) := by decide +kernel
theorem dX9_foretell_18 : decode cX9_foretell 18 = .ok (.invokevirtual 108, 3) := by decide +kernel
theorem dX9_foretell_21 : decode cX9_foretell 21 = .ok (.istore_n 2, 1) := by decide +kernel
theorem dX9_foretell_22 : decode cX9_foretell 22 = .ok (.aload_n 0, 1) := by decide +kernel
theorem dX9_foretell_23 : decode cX9_foretell 23 = .ok (.getfield 64, 3) := by decide +kernel
theorem dX9_foretell_26 : decode cX9_foretell 26 = .ok (.iconst 1, 1) := by decide +kernel
theorem dX9_foretell_27 : decode cX9_foretell 27 = .ok (.iadd, 1) := by decide +kernel
theorem dX9_foretell_28 : decode cX9_foretell 28 = .ok (.aload_n 0, 1) := by decide +kernel
theorem dX9_foretell_29 : decode cX9_foretell 29 = .ok (.getfield 61, 3) := by decide +kernel
theorem dX9_foretell_32 : decode cX9_foretell 32 = .ok (.if_icmp .gt 14, 3) := by decide +kernel
theorem dX9_foretell_35 : decode cX9_foretell 35 = .ok (.aload_n 0, 1) := by decide +kernel
theorem dX9_foretell_36 : decode cX9_foretell 36 = .ok (.getfield 28, 3) := by decide +kernel
theorem dX9_foretell_39 : decode cX9_foretell 39 = .ok (.iload_n 2, 1) := by decide +kernel
theorem dX9_foretell_40 : decode cX9_foretell 40 = .ok (.invokevirtual 118, 3) := by decide +kernel
theorem dX9_foretell_43 : decode cX9_foretell 43 = .ok (.ifCond .ne 5, 3) := by decide +kernel
theorem dX9_foretell_46 : decode cX9_foretell 46 = .ok (.iconst 4, 1) := by decide +kernel
theorem dX9_foretell_47 : decode cX9_foretell 47 = .ok (.ireturn, 1) := by decide +kernel
theorem dX9_foretell_48 : decode cX9_foretell 48 = .ok (.aload_n 0, 1) := by decide +kernel
theorem dX9_foretell_49 : decode cX9_foretell 49 = .ok (.getfield 28, 3) := by decide +kernel
theorem dX9_foretell_52 : decode cX9_foretell 52 = .ok (.getfield 122, 3) := by decide +kernel
theorem dX9_foretell_55 : decode cX9_foretell 55 = .ok (.iload_n 2, 1) := by decide +kernel
theorem dX9_foretell_56 : decode cX9_foretell 56 = .ok (.iaload, 1) := by decide +kernel
theorem dX9_foretell_57 : decode cX9_foretell 57 = .ok (.aload_n 0, 1) := by decide +kernel
theorem dX9_foretell_58 : decode cX9_foretell 58 = .ok (.getfield 28, 3) := by decide +kernel
theorem dX9_foretell_61 : decode cX9_foretell 61 = .ok (.getfield 125, 3) := by decide +kernel
theorem dX9_foretell_64 : decode cX9_foretell 64 = .ok (.iload_n 2, 1) := by decide +kernel
theorem dX9_foretell_65 : decode cX9_foretell 65 = .ok (.iaload, 1) := by decide +kernel
theorem dX9_foretell_66 : decode cX9_foretell 66 = .ok (.if_icmp .ge 29, 3) := by decide +kernel
theorem dX9_foretell_69 : decode cX9_foretell 69 = .ok (.aload_n 0, 1) := by decide +kernel
theorem dX9_foretell_70 : decode cX9_foretell 70 = .ok (.getfield 28, 3) := by decide +kernel
theorem dX9_foretell_73 : decode cX9_foretell 73 = .ok (.iload_n 2, 1) := by decide +kernel
theorem dX9_foretell_74 : decode cX9_foretell 74 = .ok (.aload_n 0, 1) := by decide +kernel
theorem dX9_foretell_75 : decode cX9_foretell 75 = .ok (.getfield 28, 3) := by decide +kernel
theorem dX9_foretell_78 : decode cX9_foretell 78 = .ok (.iload_n 1, 1) := by decide +kernel
theorem dX9_foretell_79 : decode cX9_foretell 79 = .ok (.iload_n 2, 1) := by decide +kernel
theorem dX9_foretell_80 : decode cX9_foretell 80 = .ok (.invokevirtual 128, 3) := by decide +kernel
theorem dX9_foretell_83 : decode cX9_foretell 83 = .ok (.invokevirtual 131, 3) := by decide +kernel
theorem dX9_foretell_86 : decode cX9_foretell 86 = .ok (.ifCond .ge 7, 3) := by decide +kernel
theorem dX9_foretell_89 : decode cX9_foretell 89 = .ok (.iconst 1, 1) := by decide +kernel
theorem dX9_foretell_90 : decode cX9_foretell 90 = .ok (.goto 4, 3) := by decide +kernel
theorem dX9_foretell_93 : decode cX9_foretell 93 = .ok (.iconst 2, 1) := by decide +kernel
theorem dX9_foretell_94 : decode cX9_foretell 94 = .ok (.ireturn, 1) := by decide +kernel
theorem dX9_foretell_95 : decode cX9_foretell 95 = .ok (.aload_n 0, 1) := by decide +kernel
theorem dX9_foretell_96 : decode cX9_foretell 96 = .ok (.getfield 28, 3) := by decide +kernel
theorem dX9_foretell_99 : decode cX9_foretell 99 = .ok (.iload_n 2, 1) := by decide +kernel
theorem dX9_foretell_100 : decode cX9_foretell 100 = .ok (.invokevirtual 134, 3) := by decide +kernel
theorem dX9_foretell_103 : decode cX9_foretell 103 = .ok (.istore_n 3, 1) := by decide +kernel
theorem dX9_foretell_104 : decode cX9_foretell 104 = .ok (.aload_n 0, 1) := by decide +kernel
theorem dX9_foretell_105 : decode cX9_foretell 105 = .ok (.getfield 28, 3) := by decide +kernel
theorem dX9_foretell_108 : decode cX9_foretell 108 = .ok (.getfield 137, 3) := by decide +kernel
theorem dX9_foretell_111 : decode cX9_foretell 111 = .ok (.aload_n 0, 1) := by decide +kernel
theorem dX9_foretell_112 : decode cX9_foretell 112 = .ok (.getfield 28, 3) := by decide +kernel
theorem dX9_foretell_115 : decode cX9_foretell 115 = .ok (.iload_n 2, 1) := by decide +kernel
theorem dX9_foretell_116 : decode cX9_foretell 116 = .ok (.invokevirtual 112, 3) := by decide +kernel
theorem dX9_foretell_119 : decode cX9_foretell 119 = .ok (.isub, 1) := by decide +kernel
theorem dX9_foretell_120 : decode cX9_foretell 120 = .ok (.iload_n 3, 1) := by decide +kernel
theorem dX9_foretell_121 : decode cX9_foretell 121 = .ok (.iload_n 3, 1) := by decide +kernel
theorem dX9_foretell_122 : decode cX9_foretell 122 = .ok (.imul, 1) := by decide +kernel
theorem dX9_foretell_123 : decode cX9_foretell 123 = .ok (.iadd, 1) := by decide +kernel
theorem dX9_foretell_124 : decode cX9_foretell 124 = .ok (.istore 4, 2) := by decide +kernel
theorem dX9_foretell_126 : decode cX9_foretell 126 = .ok (.iload 4, 2) := by decide +kernel
theorem dX9_foretell_128 : decode cX9_foretell 128 = .ok (.aload_n 0, 1) := by decide +kernel
theorem dX9_foretell_129 : decode cX9_foretell 129 = .ok (.invokevirtual 86, 3) := by decide +kernel
theorem dX9_foretell_132 : decode cX9_foretell 132 = .ok (.if_icmp .gt 7, 3) := by decide +kernel
theorem dX9_foretell_135 : decode cX9_foretell 135 = .ok (.iconst 3, 1) := by decide +kernel
theorem dX9_foretell_136 : decode cX9_foretell 136 = .ok (.goto 4, 3) := by decide +kernel
theorem dX9_foretell_139 : decode cX9_foretell 139 = .ok (.iconst 4, 1) := by decide +kernel
theorem dX9_foretell_140 : decode cX9_foretell 140 = .ok (.ireturn, 1) := by decide +kernel
def own_k_countReads : List Cond := [.fieldLink RX9 42 "ClashFree$Table" "reads" "I", .fieldLink RX9 28 "ClashFree$Table" "layout" "LClashFree$Layout;", .methodLink RX9 108 yX3_homeOf, .instanceMethod yX3_homeOf, .selects RX3 yX3_homeOf yX3_homeOf, .initialized RX3, .methodLink RX9 112 yX3_roomsOf, .instanceMethod yX3_roomsOf, .selects RX3 yX3_roomsOf yX3_roomsOf]
def wp_k_countReads : List Cond := .code yX9_countReads cX9_countReads 2 none :: (own_k_countReads ++ (wp_k_homeOf ++ (wp_k_roomsOf ++ (wsX90 ++ ([] : List Cond)))))
set_option maxRecDepth 20000 in
theorem inown_k_countReads : ∀ w ∈ own_k_countReads, w ∈ lw_tbl := mem_places [504, 520, 634, 635, 636, 109, 638, 601, 602] (by decide +kernel)
set_option maxRecDepth 20000 in
theorem in_k_countReads : ∀ w ∈ wp_k_countReads, w ∈ lw_tbl := List.forall_mem_cons.mpr ⟨List.mem_of_getElem? (i := 633) (by decide +kernel), List.forall_mem_append.mpr ⟨inown_k_countReads, List.forall_mem_append.mpr ⟨in_k_homeOf, List.forall_mem_append.mpr ⟨in_k_roomsOf, List.forall_mem_append.mpr ⟨lwb_X9, fun _ h => absurd h List.not_mem_nil⟩⟩⟩⟩⟩
set_option maxRecDepth 20000 in
theorem good_k_countReads : wp_k_countReads.all goodWord = true := by decide +kernel
set_option maxRecDepth 20000 in
theorem g_k_countReads_k_homeOf_108 : GoodIn wp_k_countReads (wsV RX9 108 RX3 yX3_homeOf wp_k_homeOf) := goodIn_sub (List.forall_mem_append.mpr ⟨List.forall_mem_cons.mpr ⟨(List.mem_of_getElem? (i := 3) rfl), List.forall_mem_cons.mpr ⟨(List.mem_of_getElem? (i := 4) rfl), List.forall_mem_cons.mpr ⟨(List.mem_of_getElem? (i := 5) rfl), List.forall_mem_cons.mpr ⟨(List.mem_of_getElem? (i := 6) rfl), fun _ h => absurd h List.not_mem_nil⟩⟩⟩⟩, (fun _ h => (List.mem_cons_of_mem _ (List.mem_append_right _ (List.mem_append_left _ h))))⟩) (by decide +kernel)
set_option maxRecDepth 20000 in
theorem g_k_countReads_k_roomsOf_112 : GoodIn wp_k_countReads (wsV RX9 112 RX3 yX3_roomsOf wp_k_roomsOf) := goodIn_sub (List.forall_mem_append.mpr ⟨List.forall_mem_cons.mpr ⟨(List.mem_of_getElem? (i := 7) rfl), List.forall_mem_cons.mpr ⟨(List.mem_of_getElem? (i := 8) rfl), List.forall_mem_cons.mpr ⟨(List.mem_of_getElem? (i := 9) rfl), List.forall_mem_cons.mpr ⟨(List.mem_of_getElem? (i := 6) rfl), fun _ h => absurd h List.not_mem_nil⟩⟩⟩⟩, (fun _ h => (List.mem_cons_of_mem _ (List.mem_append_right _ (List.mem_append_right _ (List.mem_append_left _ h)))))⟩) (by decide +kernel)
set_option maxHeartbeats 4000000 in
set_option maxRecDepth 100000 in
theorem k_countReads (l : Launch) (D : va_G) (sz : Nat) (ob : Nat → Nat) (cI : ClassId) (tb : Int32) (ts : Int32) (tg : Int32) (tl : Int32) (tc : Int32) (tr : Int32) (tu : Int32) (tv : Int32) (tw : Int32) (nb : Nat) (ka : Nat) (kb : Nat) (sm : Int32) (ln : Nat) (ff : Nat → Int32) (kx : Nat) (hnb : nb ≤ 2048) (hn1 : 1 ≤ nb) (hka : ka < 2147483647) (hkb : kb < 2147483647) (hkx : kx < 2147483647) : Met l yX9_countReads wp_k_countReads ({ frames := 2, cells := 0, slots := 0, locals := 44 }) (PcWC D [.ref (ob 0), .int (nI kx)] sz [(ob 0, .inr (9, gT ob tb ts tg tl tc tr tu tv tw)), (ob 5, .inr (3, gY ob (nI nb) (nI ka) (nI kb) sm (nI ln))), (ob 7, .inl (cI, 2048, .inl ff))] [(cI, .int)]) (va_Qv (fun (u : (Int32)) => True) (fun (u : (Int32)) t => va_P D vwCl [(ob 0, .inr (9, gT ob tb ts tg tl tc u tu tv tw)), (ob 5, .inr (3, gY ob (nI nb) (nI ka) (nI kb) sm (nI ln))), (ob 7, .inl (cI, 2048, .inl ff))] t.heap ∧ va_K D vwCl [(cI, .int)] t ∧ va_D (va_A [(ob 0, .inr (9, gT ob tb ts tg tl tc tr tu tv tw)), (ob 5, .inr (3, gY ob (nI nb) (nI ka) (nI kb) sm (nI ln))), (ob 7, .inl (cI, 2048, .inl ff))] sz) [(ob 0, .inr (9, gT ob tb ts tg tl tc u tu tv tw)), (ob 5, .inr (3, gY ob (nI nb) (nI ka) (nI kb) sm (nI ln))), (ob 7, .inl (cI, 2048, .inl ff))]) (va_A [(ob 0, .inr (9, gT ob tb ts tg tl tc tr tu tv tw)), (ob 5, .inr (3, gY ob (nI nb) (nI ka) (nI kb) sm (nI ln))), (ob 7, .inl (cI, 2048, .inl ff))] sz)) 0 0 (va_A [(ob 0, .inr (9, gT ob tb ts tg tl tc tr tu tv tw)), (ob 5, .inr (3, gY ob (nI nb) (nI ka) (nI kb) sm (nI ln))), (ob 7, .inl (cI, 2048, .inl ff))] sz) := by
  refine Met.ofW (cc := cX9_countReads) (maxL := 2) (ret := none) (by decide) rfl ?_
  intro p e s m args below meth c s₁ B hml hv
  obtain ⟨rfl, hsz, hP, hK, hD0, hN⟩ := hv
  have hx := B.exec
  have hb := B.bytes
  have hr := B.returns
  have hts := atoms_spec (ws := wp_k_countReads) B.pre
  have hin_X9 : ∀ w ∈ wsX90, w ∈ wp_k_countReads := fun _ h => (List.mem_cons_of_mem _ (List.mem_append_right _ (List.mem_append_right _ (List.mem_append_right _ (List.mem_append_left _ h)))))
  have hown : s.vm.findClass RX9 = some m.cls := findClass_of_methodNamed B.named
  have hlocks := B.notSynchronized
  subst hsz
  have hD := hD0.self (sz := s.heap.size)
  generalize hAe : va_A [(ob 0, .inr (9, gT ob tb ts tg tl tc tr tu tv tw)), (ob 5, .inr (3, gY ob (nI nb) (nI ka) (nI kb) sm (nI ln))), (ob 7, .inl (cI, 2048, .inl ff))] s.heap.size = A at hD ⊢
  have hA : ∀ q : Nat, s.heap.size ≤ q → A q := fun q h => by rw [← hAe]; exact Or.inr h
  have hS : va_S A s.heap s.heap [] := va_S.rf
  have hP : va_P D vwCl [(ob 0, .inr (9, gT ob tb ts tg tl tc tr tu tv tw)), (ob 5, .inr (3, gY ob (nI nb) (nI ka) (nI kb) sm (nI ln))), (ob 7, .inl (cI, 2048, .inl ff))] s.heap := hP
  have hl := lv_entry ([.ref (ob 0), .int (nI kx)]) (n := 2) (Nat.le_of_ble_eq_true rfl)
  rw [lg_entry_eq]
  generalize (lg_sl ([.ref (ob 0), .int (nI kx)]) ++ List.replicate (2 - (lg_sl ([.ref (ob 0), .int (nI kx)])).length) Slot.unset).toArray = ls at hl ⊢
  have hl : lv_has ls 2 [(0, .ref (ob 0)), (1, .int (nI kx))] := hl
  refine lv_aload_n hx hb dX9_countReads_0 rfl (lv_at hl 0 rfl) ?_
  refine lv_dup hx hb dX9_countReads_1 rfl ?_
  refine va_get (D := D) (ci := 9) (v := .int tr) (C := RX9) (T := TX9) (N := 12) hx hb hts hin_X9 hown hK hP 0 rfl rfl 5 (by decide) (hts (.fieldLink RX9 42 "ClashFree$Table" "reads" "I") (List.mem_of_getElem? (i := 1) rfl)) (fun _ h9 => h9) rfl dX9_countReads_2 ?_
  refine lv_aload_n hx hb dX9_countReads_5 rfl (lv_at hl 0 rfl) ?_
  refine va_get (D := D) (ci := 9) (v := .ref (ob 5)) (C := RX9) (T := TX9) (N := 12) hx hb hts hin_X9 hown hK hP 0 rfl rfl 11 (by decide) (hts (.fieldLink RX9 28 "ClashFree$Table" "layout" "LClashFree$Layout;") (List.mem_of_getElem? (i := 2) rfl)) (fun _ h9 => h9) rfl dX9_countReads_6 ?_
  refine lv_aload_n hx hb dX9_countReads_9 rfl (lv_at hl 0 rfl) ?_
  refine va_get (D := D) (ci := 9) (v := .ref (ob 5)) (C := RX9) (T := TX9) (N := 12) hx hb hts hin_X9 hown hK hP 0 rfl rfl 11 (by decide) (hts (.fieldLink RX9 28 "ClashFree$Table" "layout" "LClashFree$Layout;") (List.mem_of_getElem? (i := 2) rfl)) (fun _ h9 => h9) rfl dX9_countReads_10 ?_
  refine lv_iload_n hx hb dX9_countReads_13 rfl (lv_at hl 1 rfl) ?_
  have hPc := hP.sub (ws' := [(ob 5, .inr (3, gY ob (nI nb) (nI ka) (nI kb) sm (nI ln)))]) [1] rfl
  have hKc := hK.sub (tys' := []) [] rfl
  have hFc := va_free0 hS hA
  refine va_calli (va_runV (As := [.int (nI kx)]) (rest := [.ref (ob 5), .int tr, .ref (ob 0)]) ⟨hx, hb, hml, hown, hts⟩ (k_homeOf l D _ ob cI nb ka kb sm ln kx (by first | assumption | omega) (by first | assumption | omega) (by first | assumption | omega) (by first | assumption | omega) (by first | assumption | omega)) (cwV 1 hts g_k_countReads_k_homeOf_108 rfl rfl rfl (by decide +kernel) ⟨(Nat.le_of_ble_eq_true rfl), (Nat.le_of_ble_eq_true rfl)⟩) (PcRC_V (q0 := 0) hPc hKc hN rfl rfl) rfl rfl hl.1 rfl (lv_room (Nat.le_of_ble_eq_true rfl)) dX9_countReads_14 ⟨(Nat.le_of_ble_eq_true rfl), (Nat.le_of_ble_eq_true rfl)⟩) hS (fun q _ h => hFc q h) hFc (fun r1 uu tt H locs htt hvm hw hB hz1 hk1 hS => ?_)
  have hP := va_keep hP hk1
  try dsimp only at hw
  clear hB hz1 hk1 hFc hPc hKc
  obtain ⟨ho2, eho2, rfl⟩ : ∃ q, q = ((ka * kx + kb) % 2147483647 % nb) ∧ r1 = nI q := ⟨_, rfl, hw⟩
  have hho2 : ho2 < nb := by rw [eho2]; exact Nat.mod_lt _ (by omega)
  have hPc := hP.sub (ws' := [(ob 5, .inr (3, gY ob (nI nb) (nI ka) (nI kb) sm (nI ln))), (ob 7, .inl (cI, 2048, .inl ff))]) [1, 2] rfl
  have hKc := hK.sub (tys' := [(cI, .int)]) [0] rfl
  have hFc := va_free0 hS hA
  refine va_calli (va_runV (As := [.int (nI ho2)]) (rest := [.int tr, .ref (ob 0)]) ⟨hx, hb, hml, hown, hts⟩ (k_roomsOf l D _ ob cI nb ka kb sm ln ff (nI ho2) (by first | assumption | omega)) (cwV 1 hts g_k_countReads_k_roomsOf_112 rfl rfl rfl (by decide +kernel) ⟨(Nat.le_of_ble_eq_true rfl), (Nat.le_of_ble_eq_true rfl)⟩) (PcRC_V (q0 := 0) hPc hKc hN rfl rfl) rfl rfl hl.1 rfl (lv_room (Nat.le_of_ble_eq_true rfl)) dX9_countReads_17 ⟨(Nat.le_of_ble_eq_true rfl), (Nat.le_of_ble_eq_true rfl)⟩) hS (fun q _ h => hFc q h) hFc (fun r3 uu tt H locs htt hvm hw hB hz1 hk1 hS => ?_)
  have hP := va_keep hP hk1
  try dsimp only at hw
  clear hB hz1 hk1 hFc hPc hKc
  have hro_r3 := hw
  refine lv_if_le (tgt := 27) hx hb dX9_countReads_20 (by decide) (fun hc4 => ?_) (fun hc4 => ?_)
  ·
    refine lv_iconst (v := 1) hx hb dX9_countReads_27 (by decide) ?_
    refine lv_iadd hx hb dX9_countReads_28 ?_
    refine lv_topi (fun v5 ev5 => ?_)
    refine va_put (D := D) (ci := 9) (v := .int v5) (ty := .int) (C := RX9) (T := TX9) (N := 12) hx hb hts hin_X9 tyX9 tyX9_ok nmX9 hown hK hP hD hS 0 rfl rfl 5 (by decide) (hts (.fieldLink RX9 42 "ClashFree$Table" "reads" "I") (List.mem_of_getElem? (i := 1) rfl)) (fun _ h9 => h9) rfl (by decide +kernel) rfl rfl (Nat.le_of_ble_eq_true rfl) dX9_countReads_29 (fun H locs hP hD hS => ?_)
    have hP : va_P D vwCl [(ob 0, .inr (9, gT ob tb ts tg tl tc v5 tu tv tw)), (ob 5, .inr (3, gY ob (nI nb) (nI ka) (nI kb) sm (nI ln))), (ob 7, .inl (cI, 2048, .inl ff))] H := hP
    have hD : va_D A [(ob 0, .inr (9, gT ob tb ts tg tl tc v5 tu tv tw)), (ob 5, .inr (3, gY ob (nI nb) (nI ka) (nI kb) sm (nI ln))), (ob 7, .inl (cI, 2048, .inl ff))] := hD
    exact W.vret hx hb hr (fun t ht hW => ⟨⟨v5, rfl, trivial, by rw [ht]; exact hP.sub [0, 1, 2] rfl, va_K.moved hW.alike (hK.sub [0] rfl), hD.sub [0, 1, 2] (by decide) rfl⟩, hS.F ht⟩) hS.2.2 dX9_countReads_32
  ·
    refine lv_iconst (v := 2) hx hb dX9_countReads_23 (by decide) ?_
    refine lv_goto (tgt := 28) hx hb dX9_countReads_24 (by decide) ?_
    refine lv_iadd hx hb dX9_countReads_28 ?_
    refine lv_topi (fun v6 ev6 => ?_)
    refine va_put (D := D) (ci := 9) (v := .int v6) (ty := .int) (C := RX9) (T := TX9) (N := 12) hx hb hts hin_X9 tyX9 tyX9_ok nmX9 hown hK hP hD hS 0 rfl rfl 5 (by decide) (hts (.fieldLink RX9 42 "ClashFree$Table" "reads" "I") (List.mem_of_getElem? (i := 1) rfl)) (fun _ h9 => h9) rfl (by decide +kernel) rfl rfl (Nat.le_of_ble_eq_true rfl) dX9_countReads_29 (fun H locs hP hD hS => ?_)
    have hP : va_P D vwCl [(ob 0, .inr (9, gT ob tb ts tg tl tc v6 tu tv tw)), (ob 5, .inr (3, gY ob (nI nb) (nI ka) (nI kb) sm (nI ln))), (ob 7, .inl (cI, 2048, .inl ff))] H := hP
    have hD : va_D A [(ob 0, .inr (9, gT ob tb ts tg tl tc v6 tu tv tw)), (ob 5, .inr (3, gY ob (nI nb) (nI ka) (nI kb) sm (nI ln))), (ob 7, .inl (cI, 2048, .inl ff))] := hD
    exact W.vret hx hb hr (fun t ht hW => ⟨⟨v6, rfl, trivial, by rw [ht]; exact hP.sub [0, 1, 2] rfl, va_K.moved hW.alike (hK.sub [0] rfl), hD.sub [0, 1, 2] (by decide) rfl⟩, hS.F ht⟩) hS.2.2 dX9_countReads_32

def own_k_isFullFor : List Cond := [.fieldLink RX9 21 "ClashFree$Table" "keys" "LClashFree$Keys;", .fieldLink RX9 58 "ClashFree$Keys" "size" "I", .methodLink RX9 115 yX2_find, .instanceMethod yX2_find, .selects RX2 yX2_find yX2_find, .initialized RX2]
def wp_k_isFullFor : List Cond := .code yX9_isFullFor cX9_isFullFor 2 (some .boolean) :: (own_k_isFullFor ++ (wp_k_find ++ (wsX90 ++ (wsX20 ++ ([] : List Cond)))))
set_option maxRecDepth 20000 in
theorem inown_k_isFullFor : ∀ w ∈ own_k_isFullFor, w ∈ lw_tbl := mem_places [515, 473, 622, 623, 624, 117] (by decide +kernel)
set_option maxRecDepth 20000 in
theorem in_k_isFullFor : ∀ w ∈ wp_k_isFullFor, w ∈ lw_tbl := List.forall_mem_cons.mpr ⟨List.mem_of_getElem? (i := 621) (by decide +kernel), List.forall_mem_append.mpr ⟨inown_k_isFullFor, List.forall_mem_append.mpr ⟨in_k_find, List.forall_mem_append.mpr ⟨lwb_X9, List.forall_mem_append.mpr ⟨lwb_X2, fun _ h => absurd h List.not_mem_nil⟩⟩⟩⟩⟩
set_option maxRecDepth 20000 in
theorem good_k_isFullFor : wp_k_isFullFor.all goodWord = true := by decide +kernel
set_option maxRecDepth 20000 in
theorem g_k_isFullFor_k_find_115 : GoodIn wp_k_isFullFor (wsV RX9 115 RX2 yX2_find wp_k_find) := goodIn_sub (List.forall_mem_append.mpr ⟨List.forall_mem_cons.mpr ⟨(List.mem_of_getElem? (i := 3) rfl), List.forall_mem_cons.mpr ⟨(List.mem_of_getElem? (i := 4) rfl), List.forall_mem_cons.mpr ⟨(List.mem_of_getElem? (i := 5) rfl), List.forall_mem_cons.mpr ⟨(List.mem_of_getElem? (i := 6) rfl), fun _ h => absurd h List.not_mem_nil⟩⟩⟩⟩, (fun _ h => (List.mem_cons_of_mem _ (List.mem_append_right _ (List.mem_append_left _ h))))⟩) (by decide +kernel)
set_option maxHeartbeats 4000000 in
set_option maxRecDepth 100000 in
theorem k_isFullFor (l : Launch) (D : va_G) (sz : Nat) (ob : Nat → Nat) (cI : ClassId) (tb : Int32) (ts : Int32) (tg : Int32) (tl : Int32) (tc : Int32) (tr : Int32) (tu : Int32) (tv : Int32) (tw : Int32) (cn : Nat) (fk : Nat → Int32) (kx : Nat) (hc : cn ≤ 160) : Met l yX9_isFullFor wp_k_isFullFor ({ frames := 2, cells := 0, slots := 0, locals := 45 }) (PcRC D [.ref (ob 0), .int (nI kx)] sz [(ob 0, .inr (9, gT ob tb ts tg tl tc tr tu tv tw)), (ob 2, .inr (2, [.int (nI cn), .ref (ob 3), .ref (ob 4)])), (ob 3, .inl (cI, 160, .inl fk))] [(cI, .int)]) (va_Qi (fun (r : Int32) (u : Unit) => (r = 1 ∧ (160 ≤ cn ∧ ¬ (rkF fk cn (nI kx) < cn ∧ fk (rkF fk cn (nI kx)) = nI kx))) ∨ (r = 0 ∧ (cn < 160 ∨ (rkF fk cn (nI kx) < cn ∧ fk (rkF fk cn (nI kx)) = nI kx)))) (fun (_ : Unit) _ => True) (va_A [] sz)) 0 0 (va_A [] sz) := by
  refine Met.ofW (cc := cX9_isFullFor) (maxL := 2) (ret := (some .boolean)) (by decide) rfl ?_
  intro p e s m args below meth c s₁ B hml hv
  obtain ⟨rfl, hsz, hP, hK, hN⟩ := hv
  have hx := B.exec
  have hb := B.bytes
  have hr := B.returns
  have hts := atoms_spec (ws := wp_k_isFullFor) B.pre
  have hin_X9 : ∀ w ∈ wsX90, w ∈ wp_k_isFullFor := fun _ h => (List.mem_cons_of_mem _ (List.mem_append_right _ (List.mem_append_right _ (List.mem_append_left _ h))))
  have hin_X2 : ∀ w ∈ wsX20, w ∈ wp_k_isFullFor := fun _ h => (List.mem_cons_of_mem _ (List.mem_append_right _ (List.mem_append_right _ (List.mem_append_right _ (List.mem_append_left _ h)))))
  have hown : s.vm.findClass RX9 = some m.cls := findClass_of_methodNamed B.named
  have hlocks := B.notSynchronized
  subst hsz
  generalize hAe : va_A [] s.heap.size = A at ⊢
  have hA : ∀ q : Nat, s.heap.size ≤ q → A q := fun q h => by rw [← hAe]; exact Or.inr h
  have hS : va_S A s.heap s.heap [] := va_S.rf
  have hP : va_P D vwCl [(ob 0, .inr (9, gT ob tb ts tg tl tc tr tu tv tw)), (ob 2, .inr (2, [.int (nI cn), .ref (ob 3), .ref (ob 4)])), (ob 3, .inl (cI, 160, .inl fk))] s.heap := hP
  have hl := lv_entry ([.ref (ob 0), .int (nI kx)]) (n := 2) (Nat.le_of_ble_eq_true rfl)
  rw [lg_entry_eq]
  generalize (lg_sl ([.ref (ob 0), .int (nI kx)]) ++ List.replicate (2 - (lg_sl ([.ref (ob 0), .int (nI kx)])).length) Slot.unset).toArray = ls at hl ⊢
  have hl : lv_has ls 2 [(0, .ref (ob 0)), (1, .int (nI kx))] := hl
  refine lv_aload_n hx hb dX9_isFullFor_0 rfl (lv_at hl 0 rfl) ?_
  refine va_get (D := D) (ci := 9) (v := .ref (ob 2)) (C := RX9) (T := TX9) (N := 12) hx hb hts hin_X9 hown hK hP 0 rfl rfl 10 (by decide) (hts (.fieldLink RX9 21 "ClashFree$Table" "keys" "LClashFree$Keys;") (List.mem_of_getElem? (i := 1) rfl)) (fun _ h9 => h9) rfl dX9_isFullFor_1 ?_
  refine va_get (D := D) (ci := 2) (v := .int (nI cn)) (C := RX2) (T := TX2) (N := 3) hx hb hts hin_X2 hown hK hP 1 rfl rfl 0 (by decide) (hts (.fieldLink RX9 58 "ClashFree$Keys" "size" "I") (List.mem_of_getElem? (i := 2) rfl)) (fun _ h9 => h9) rfl dX9_isFullFor_4 ?_
  refine lv_sipush (v := 160) hx hb dX9_isFullFor_7 (by decide) ?_
  refine lv_icmp_lt (tgt := 28) hx hb dX9_isFullFor_10 (by decide) (fun hc1 => ?_) (fun hc1 => ?_)
  ·
    have hlt : cn < 160 := by
      rcases Nat.lt_or_ge cn 160 with z | z
      · exact z
      · exact absurd hc1 (Int32.not_lt.mpr (nI_le (a := 160) z (by omega)))
    refine lv_iconst (v := 0) hx hb dX9_isFullFor_28 (by decide) ?_
    exact W.zret (v := 0) hx hb hr rfl (fun t ht hW => ⟨⟨0, (), rfl, Or.inr ⟨rfl, Or.inl hlt⟩, trivial⟩, hS.F ht⟩) hS.2.2 dX9_isFullFor_29
  ·
    have hge : 160 ≤ cn := by
      rcases Nat.lt_or_ge cn 160 with z | z
      · exact absurd (nI_lt (b := 160) z (by decide)) hc1
      · exact z
    refine lv_aload_n hx hb dX9_isFullFor_13 rfl (lv_at hl 0 rfl) ?_
    refine va_get (D := D) (ci := 9) (v := .ref (ob 2)) (C := RX9) (T := TX9) (N := 12) hx hb hts hin_X9 hown hK hP 0 rfl rfl 10 (by decide) (hts (.fieldLink RX9 21 "ClashFree$Table" "keys" "LClashFree$Keys;") (List.mem_of_getElem? (i := 1) rfl)) (fun _ h9 => h9) rfl dX9_isFullFor_14 ?_
    refine lv_iload_n hx hb dX9_isFullFor_17 rfl (lv_at hl 1 rfl) ?_
    have hPc := hP.sub (ws' := [(ob 2, .inr (2, [.int (nI cn), .ref (ob 3), .ref (ob 4)])), (ob 3, .inl (cI, 160, .inl fk))]) [1, 2] rfl
    have hKc := hK.sub (tys' := [(cI, .int)]) [0] rfl
    have hFc := va_free0 hS hA
    refine va_calli (va_runV (As := [.int (nI kx)]) (rest := []) ⟨hx, hb, hml, hown, hts⟩ (k_find l D _ ob cI cn fk (nI kx) (by first | assumption | omega)) (cwV 1 hts g_k_isFullFor_k_find_115 rfl rfl rfl (by decide +kernel) ⟨(Nat.le_of_ble_eq_true rfl), (Nat.le_of_ble_eq_true rfl)⟩) (PcRC_V (q0 := 0) hPc hKc hN rfl rfl) rfl rfl hl.1 rfl (lv_room (Nat.le_of_ble_eq_true rfl)) dX9_isFullFor_18 ⟨(Nat.le_of_ble_eq_true rfl), (Nat.le_of_ble_eq_true rfl)⟩) hS (fun q _ h => hFc q h) hFc (fun r2 uu tt H locs htt hvm hw hB hz1 hk1 hS => ?_)
    have hP := va_keep hP hk1
    try dsimp only at hw
    clear hB hz1 hk1 hFc hPc hKc
    rcases hw with ⟨rfl, hF_rk3⟩ | ⟨erk3_, hF_rk3⟩
    ·
      refine lv_if_ge (tgt := 28) hx hb dX9_isFullFor_21 (by decide) (fun hc => absurd hc (by decide)) (fun hc => ?_)
      refine lv_iconst (v := 1) hx hb dX9_isFullFor_24 (by decide) ?_
      refine lv_goto (tgt := 29) hx hb dX9_isFullFor_25 (by decide) ?_
      exact W.zret (v := 1) hx hb hr rfl (fun t ht hW => ⟨⟨1, (), rfl, Or.inl ⟨rfl, hge, hF_rk3⟩, trivial⟩, hS.F ht⟩) hS.2.2 dX9_isFullFor_29
    ·
      obtain ⟨rk3, erk3, rfl⟩ : ∃ q, q = (rkF fk cn (nI kx)) ∧ r2 = nI q := ⟨_, rfl, erk3_⟩
      have hrk3 : rk3 < cn := by rw [erk3]; exact hF_rk3.1
      refine lv_if_ge (tgt := 28) hx hb dX9_isFullFor_21 (by decide) (fun hc => ?_) (fun hc => absurd (nI_pos' (by omega)) hc)
      refine lv_iconst (v := 0) hx hb dX9_isFullFor_28 (by decide) ?_
      exact W.zret (v := 0) hx hb hr rfl (fun t ht hW => ⟨⟨0, (), rfl, Or.inr ⟨rfl, Or.inr hF_rk3⟩, trivial⟩, hS.F ht⟩) hS.2.2 dX9_isFullFor_29

def own_k_foretell : List Cond := [.fieldLink RX9 21 "ClashFree$Table" "keys" "LClashFree$Keys;", .methodLink RX9 115 yX2_find, .instanceMethod yX2_find, .selects RX2 yX2_find yX2_find, .initialized RX2, .fieldLink RX9 28 "ClashFree$Table" "layout" "LClashFree$Layout;", .methodLink RX9 108 yX3_homeOf, .instanceMethod yX3_homeOf, .selects RX3 yX3_homeOf yX3_homeOf, .initialized RX3, .fieldLink RX9 64 "ClashFree$Table" "count" "I", .fieldLink RX9 61 "ClashFree$Table" "limit" "I", .methodLink RX9 118 yX3_isBucket, .instanceMethod yX3_isBucket, .selects RX3 yX3_isBucket yX3_isBucket, .fieldLink RX9 122 "ClashFree$Layout" "held" "[I", .fieldLink RX9 125 "ClashFree$Layout" "roof" "[I", .methodLink RX9 134 yX3_raised, .instanceMethod yX3_raised, .selects RX3 yX3_raised yX3_raised, .fieldLink RX9 137 "ClashFree$Layout" "sum" "I", .methodLink RX9 112 yX3_roomsOf, .instanceMethod yX3_roomsOf, .selects RX3 yX3_roomsOf yX3_roomsOf, .methodLink RX9 86 yX9_mostRooms, .instanceMethod yX9_mostRooms, .selects RX9 yX9_mostRooms yX9_mostRooms, .initialized RX9, .methodLink RX9 128 yX3_roomOf, .instanceMethod yX3_roomOf, .selects RX3 yX3_roomOf yX3_roomOf, .methodLink RX9 131 yX3_tenant, .instanceMethod yX3_tenant, .selects RX3 yX3_tenant yX3_tenant]
def wp_k_foretell : List Cond := .code yX9_foretell cX9_foretell 5 (some .int) :: (own_k_foretell ++ (wp_k_find ++ (wp_k_homeOf ++ (wp_k_isBucket ++ (wp_k_raised ++ (wp_k_roomsOf ++ (wp_k_mostRooms ++ (wp_k_roomOf ++ (wp_k_tenant ++ (wsX90 ++ (wsX30 ++ ([] : List Cond))))))))))))
set_option maxRecDepth 20000 in
theorem inown_k_foretell : ∀ w ∈ own_k_foretell, w ∈ lw_tbl := mem_places [515, 622, 623, 624, 117, 520, 634, 635, 636, 109, 502, 500, 647, 648, 649, 193, 196, 659, 660, 661, 186, 638, 601, 602, 587, 588, 589, 116, 651, 652, 653, 655, 656, 657] (by decide +kernel)
set_option maxRecDepth 20000 in
theorem in_k_foretell : ∀ w ∈ wp_k_foretell, w ∈ lw_tbl := List.forall_mem_cons.mpr ⟨List.mem_of_getElem? (i := 646) (by decide +kernel), List.forall_mem_append.mpr ⟨inown_k_foretell, List.forall_mem_append.mpr ⟨in_k_find, List.forall_mem_append.mpr ⟨in_k_homeOf, List.forall_mem_append.mpr ⟨in_k_isBucket, List.forall_mem_append.mpr ⟨in_k_raised, List.forall_mem_append.mpr ⟨in_k_roomsOf, List.forall_mem_append.mpr ⟨in_k_mostRooms, List.forall_mem_append.mpr ⟨in_k_roomOf, List.forall_mem_append.mpr ⟨in_k_tenant, List.forall_mem_append.mpr ⟨lwb_X9, List.forall_mem_append.mpr ⟨lwb_X3, fun _ h => absurd h List.not_mem_nil⟩⟩⟩⟩⟩⟩⟩⟩⟩⟩⟩⟩
set_option maxRecDepth 20000 in
theorem good_k_foretell : wp_k_foretell.all goodWord = true := by decide +kernel
set_option maxRecDepth 20000 in
theorem g_k_foretell_k_find_115 : GoodIn wp_k_foretell (wsV RX9 115 RX2 yX2_find wp_k_find) := goodIn_sub (List.forall_mem_append.mpr ⟨List.forall_mem_cons.mpr ⟨(List.mem_of_getElem? (i := 2) rfl), List.forall_mem_cons.mpr ⟨(List.mem_of_getElem? (i := 3) rfl), List.forall_mem_cons.mpr ⟨(List.mem_of_getElem? (i := 4) rfl), List.forall_mem_cons.mpr ⟨(List.mem_of_getElem? (i := 5) rfl), fun _ h => absurd h List.not_mem_nil⟩⟩⟩⟩, (fun _ h => (List.mem_cons_of_mem _ (List.mem_append_right _ (List.mem_append_left _ h))))⟩) (by decide +kernel)
set_option maxRecDepth 20000 in
theorem g_k_foretell_k_homeOf_108 : GoodIn wp_k_foretell (wsV RX9 108 RX3 yX3_homeOf wp_k_homeOf) := goodIn_sub (List.forall_mem_append.mpr ⟨List.forall_mem_cons.mpr ⟨(List.mem_of_getElem? (i := 7) rfl), List.forall_mem_cons.mpr ⟨(List.mem_of_getElem? (i := 8) rfl), List.forall_mem_cons.mpr ⟨(List.mem_of_getElem? (i := 9) rfl), List.forall_mem_cons.mpr ⟨(List.mem_of_getElem? (i := 10) rfl), fun _ h => absurd h List.not_mem_nil⟩⟩⟩⟩, (fun _ h => (List.mem_cons_of_mem _ (List.mem_append_right _ (List.mem_append_right _ (List.mem_append_left _ h)))))⟩) (by decide +kernel)
set_option maxRecDepth 20000 in
theorem g_k_foretell_k_isBucket_118 : GoodIn wp_k_foretell (wsV RX9 118 RX3 yX3_isBucket wp_k_isBucket) := goodIn_sub (List.forall_mem_append.mpr ⟨List.forall_mem_cons.mpr ⟨(List.mem_of_getElem? (i := 13) rfl), List.forall_mem_cons.mpr ⟨(List.mem_of_getElem? (i := 14) rfl), List.forall_mem_cons.mpr ⟨(List.mem_of_getElem? (i := 15) rfl), List.forall_mem_cons.mpr ⟨(List.mem_of_getElem? (i := 10) rfl), fun _ h => absurd h List.not_mem_nil⟩⟩⟩⟩, (fun _ h => (List.mem_cons_of_mem _ (List.mem_append_right _ (List.mem_append_right _ (List.mem_append_right _ (List.mem_append_left _ h))))))⟩) (by decide +kernel)
set_option maxRecDepth 20000 in
theorem g_k_foretell_k_raised_134 : GoodIn wp_k_foretell (wsV RX9 134 RX3 yX3_raised wp_k_raised) := goodIn_sub (List.forall_mem_append.mpr ⟨List.forall_mem_cons.mpr ⟨(List.mem_of_getElem? (i := 18) rfl), List.forall_mem_cons.mpr ⟨(List.mem_of_getElem? (i := 19) rfl), List.forall_mem_cons.mpr ⟨(List.mem_of_getElem? (i := 20) rfl), List.forall_mem_cons.mpr ⟨(List.mem_of_getElem? (i := 10) rfl), fun _ h => absurd h List.not_mem_nil⟩⟩⟩⟩, (fun _ h => (List.mem_cons_of_mem _ (List.mem_append_right _ (List.mem_append_right _ (List.mem_append_right _ (List.mem_append_right _ (List.mem_append_left _ h)))))))⟩) (by decide +kernel)
set_option maxRecDepth 20000 in
theorem g_k_foretell_k_roomsOf_112 : GoodIn wp_k_foretell (wsV RX9 112 RX3 yX3_roomsOf wp_k_roomsOf) := goodIn_sub (List.forall_mem_append.mpr ⟨List.forall_mem_cons.mpr ⟨(List.mem_of_getElem? (i := 22) rfl), List.forall_mem_cons.mpr ⟨(List.mem_of_getElem? (i := 23) rfl), List.forall_mem_cons.mpr ⟨(List.mem_of_getElem? (i := 24) rfl), List.forall_mem_cons.mpr ⟨(List.mem_of_getElem? (i := 10) rfl), fun _ h => absurd h List.not_mem_nil⟩⟩⟩⟩, (fun _ h => (List.mem_cons_of_mem _ (List.mem_append_right _ (List.mem_append_right _ (List.mem_append_right _ (List.mem_append_right _ (List.mem_append_right _ (List.mem_append_left _ h))))))))⟩) (by decide +kernel)
set_option maxRecDepth 20000 in
theorem g_k_foretell_k_mostRooms_86 : GoodIn wp_k_foretell (wsV RX9 86 RX9 yX9_mostRooms wp_k_mostRooms) := goodIn_sub (List.forall_mem_append.mpr ⟨List.forall_mem_cons.mpr ⟨(List.mem_of_getElem? (i := 25) rfl), List.forall_mem_cons.mpr ⟨(List.mem_of_getElem? (i := 26) rfl), List.forall_mem_cons.mpr ⟨(List.mem_of_getElem? (i := 27) rfl), List.forall_mem_cons.mpr ⟨(List.mem_of_getElem? (i := 28) rfl), fun _ h => absurd h List.not_mem_nil⟩⟩⟩⟩, (fun _ h => (List.mem_cons_of_mem _ (List.mem_append_right _ (List.mem_append_right _ (List.mem_append_right _ (List.mem_append_right _ (List.mem_append_right _ (List.mem_append_right _ (List.mem_append_left _ h)))))))))⟩) (by decide +kernel)
set_option maxRecDepth 20000 in
theorem g_k_foretell_k_roomOf_128 : GoodIn wp_k_foretell (wsV RX9 128 RX3 yX3_roomOf wp_k_roomOf) := goodIn_sub (List.forall_mem_append.mpr ⟨List.forall_mem_cons.mpr ⟨(List.mem_of_getElem? (i := 29) rfl), List.forall_mem_cons.mpr ⟨(List.mem_of_getElem? (i := 30) rfl), List.forall_mem_cons.mpr ⟨(List.mem_of_getElem? (i := 31) rfl), List.forall_mem_cons.mpr ⟨(List.mem_of_getElem? (i := 10) rfl), fun _ h => absurd h List.not_mem_nil⟩⟩⟩⟩, (fun _ h => (List.mem_cons_of_mem _ (List.mem_append_right _ (List.mem_append_right _ (List.mem_append_right _ (List.mem_append_right _ (List.mem_append_right _ (List.mem_append_right _ (List.mem_append_right _ (List.mem_append_left _ h))))))))))⟩) (by decide +kernel)
set_option maxRecDepth 20000 in
theorem g_k_foretell_k_tenant_131 : GoodIn wp_k_foretell (wsV RX9 131 RX3 yX3_tenant wp_k_tenant) := goodIn_sub (List.forall_mem_append.mpr ⟨List.forall_mem_cons.mpr ⟨(List.mem_of_getElem? (i := 32) rfl), List.forall_mem_cons.mpr ⟨(List.mem_of_getElem? (i := 33) rfl), List.forall_mem_cons.mpr ⟨(List.mem_of_getElem? (i := 34) rfl), List.forall_mem_cons.mpr ⟨(List.mem_of_getElem? (i := 10) rfl), fun _ h => absurd h List.not_mem_nil⟩⟩⟩⟩, (fun _ h => (List.mem_cons_of_mem _ (List.mem_append_right _ (List.mem_append_right _ (List.mem_append_right _ (List.mem_append_right _ (List.mem_append_right _ (List.mem_append_right _ (List.mem_append_right _ (List.mem_append_right _ (List.mem_append_left _ h)))))))))))⟩) (by decide +kernel)
set_option maxHeartbeats 4000000 in
set_option maxRecDepth 100000 in
theorem k_foretell (l : Launch) (D : va_G) (sz : Nat) (ob : Nat → Nat) (cI : ClassId) (tb : Int32) (ts : Int32) (tg : Int32) (tl : Int32) (tc : Int32) (tr : Int32) (tu : Int32) (tv : Int32) (tw : Int32) (cn : Nat) (fk : Nat → Int32) (nb : Nat) (ka : Nat) (kb : Nat) (sm : Int32) (ln : Nat) (fh : Nat → Int32) (ff : Nat → Int32) (fa : Nat → Int32) (fs : Nat → Int32) (fj : Nat → Int32) (fr : Nat → Int32) (kx : Nat) (hc : cn ≤ 160) (hnb : nb ≤ 2048) (hln : ln ≤ 160) (hn1 : 1 ≤ nb) (hka : ka < 2147483647) (hkb : kb < 2147483647) (hkx : kx < 2147483647) : Met l yX9_foretell wp_k_foretell ({ frames := 2, cells := 0, slots := 0, locals := 46 }) (PcRC D [.ref (ob 0), .int (nI kx)] sz [(ob 0, .inr (9, gT ob tb ts tg tl tc tr tu tv tw)), (ob 2, .inr (2, [.int (nI cn), .ref (ob 3), .ref (ob 4)])), (ob 3, .inl (cI, 160, .inl fk)), (ob 5, .inr (3, gY ob (nI nb) (nI ka) (nI kb) sm (nI ln))), (ob 6, .inl (cI, 2048, .inl fh)), (ob 7, .inl (cI, 2048, .inl ff)), (ob 8, .inl (cI, 2048, .inl fa)), (ob 9, .inl (cI, 2048, .inl fs)), (ob 10, .inl (cI, 160, .inl fj)), (ob 11, .inl (cI, 160, .inl fr))] [(cI, .int)]) (va_Qi (fun (r : Int32) (u : Unit) => (r = 0 ∧ (rkF fk cn (nI kx) < cn ∧ fk (rkF fk cn (nI kx)) = nI kx)) ∨ (r = 1 ∧ ¬ (rkF fk cn (nI kx) < cn ∧ fk (rkF fk cn (nI kx)) = nI kx)) ∨ (r = 2 ∧ ¬ (rkF fk cn (nI kx) < cn ∧ fk (rkF fk cn (nI kx)) = nI kx)) ∨ (r = 3 ∧ ¬ (rkF fk cn (nI kx) < cn ∧ fk (rkF fk cn (nI kx)) = nI kx)) ∨ (r = 4 ∧ ¬ (rkF fk cn (nI kx) < cn ∧ fk (rkF fk cn (nI kx)) = nI kx))) (fun (_ : Unit) _ => True) (va_A [] sz)) 0 0 (va_A [] sz) := by
  refine Met.ofW (cc := cX9_foretell) (maxL := 5) (ret := (some .int)) (by decide) rfl ?_
  intro p e s m args below meth c s₁ B hml hv
  obtain ⟨rfl, hsz, hP, hK, hN⟩ := hv
  have hx := B.exec
  have hb := B.bytes
  have hr := B.returns
  have hts := atoms_spec (ws := wp_k_foretell) B.pre
  have hin_X9 : ∀ w ∈ wsX90, w ∈ wp_k_foretell := fun _ h => (List.mem_cons_of_mem _ (List.mem_append_right _ (List.mem_append_right _ (List.mem_append_right _ (List.mem_append_right _ (List.mem_append_right _ (List.mem_append_right _ (List.mem_append_right _ (List.mem_append_right _ (List.mem_append_right _ (List.mem_append_left _ h)))))))))))
  have hin_X3 : ∀ w ∈ wsX30, w ∈ wp_k_foretell := fun _ h => (List.mem_cons_of_mem _ (List.mem_append_right _ (List.mem_append_right _ (List.mem_append_right _ (List.mem_append_right _ (List.mem_append_right _ (List.mem_append_right _ (List.mem_append_right _ (List.mem_append_right _ (List.mem_append_right _ (List.mem_append_right _ (List.mem_append_left _ h))))))))))))
  have hown : s.vm.findClass RX9 = some m.cls := findClass_of_methodNamed B.named
  have hlocks := B.notSynchronized
  subst hsz
  generalize hAe : va_A [] s.heap.size = A at ⊢
  have hA : ∀ q : Nat, s.heap.size ≤ q → A q := fun q h => by rw [← hAe]; exact Or.inr h
  have hS : va_S A s.heap s.heap [] := va_S.rf
  have hP : va_P D vwCl [(ob 0, .inr (9, gT ob tb ts tg tl tc tr tu tv tw)), (ob 2, .inr (2, [.int (nI cn), .ref (ob 3), .ref (ob 4)])), (ob 3, .inl (cI, 160, .inl fk)), (ob 5, .inr (3, gY ob (nI nb) (nI ka) (nI kb) sm (nI ln))), (ob 6, .inl (cI, 2048, .inl fh)), (ob 7, .inl (cI, 2048, .inl ff)), (ob 8, .inl (cI, 2048, .inl fa)), (ob 9, .inl (cI, 2048, .inl fs)), (ob 10, .inl (cI, 160, .inl fj)), (ob 11, .inl (cI, 160, .inl fr))] s.heap := hP
  have hl := lv_entry ([.ref (ob 0), .int (nI kx)]) (n := 5) (Nat.le_of_ble_eq_true rfl)
  rw [lg_entry_eq]
  generalize (lg_sl ([.ref (ob 0), .int (nI kx)]) ++ List.replicate (5 - (lg_sl ([.ref (ob 0), .int (nI kx)])).length) Slot.unset).toArray = ls at hl ⊢
  have hl : lv_has ls 5 [(0, .ref (ob 0)), (1, .int (nI kx))] := hl
  refine lv_aload_n hx hb dX9_foretell_0 rfl (lv_at hl 0 rfl) ?_
  refine va_get (D := D) (ci := 9) (v := .ref (ob 2)) (C := RX9) (T := TX9) (N := 12) hx hb hts hin_X9 hown hK hP 0 rfl rfl 10 (by decide) (hts (.fieldLink RX9 21 "ClashFree$Table" "keys" "LClashFree$Keys;") (List.mem_of_getElem? (i := 1) rfl)) (fun _ h9 => h9) rfl dX9_foretell_1 ?_
  refine lv_iload_n hx hb dX9_foretell_4 rfl (lv_at hl 1 rfl) ?_
  have hPc := hP.sub (ws' := [(ob 2, .inr (2, [.int (nI cn), .ref (ob 3), .ref (ob 4)])), (ob 3, .inl (cI, 160, .inl fk))]) [1, 2] rfl
  have hKc := hK.sub (tys' := [(cI, .int)]) [0] rfl
  have hFc := va_free0 hS hA
  refine va_calli (va_runV (As := [.int (nI kx)]) (rest := []) ⟨hx, hb, hml, hown, hts⟩ (k_find l D _ ob cI cn fk (nI kx) (by first | assumption | omega)) (cwV 1 hts g_k_foretell_k_find_115 rfl rfl rfl (by decide +kernel) ⟨(Nat.le_of_ble_eq_true rfl), (Nat.le_of_ble_eq_true rfl)⟩) (PcRC_V (q0 := 0) hPc hKc hN rfl rfl) rfl rfl hl.1 rfl (lv_room (Nat.le_of_ble_eq_true rfl)) dX9_foretell_5 ⟨(Nat.le_of_ble_eq_true rfl), (Nat.le_of_ble_eq_true rfl)⟩) hS (fun q _ h => hFc q h) hFc (fun r1 uu tt H locs htt hvm hw hB hz1 hk1 hS => ?_)
  have hP := va_keep hP hk1
  try dsimp only at hw
  clear hB hz1 hk1 hFc hPc hKc
  rcases hw with ⟨rfl, hF_rk2⟩ | ⟨erk2_, hF_rk2⟩
  ·
    refine lv_if_lt (tgt := 13) hx hb dX9_foretell_8 (by decide) (fun hc => ?_) (fun hc => absurd (by decide) hc)
    refine lv_aload_n hx hb dX9_foretell_13 rfl (lv_at hl 0 rfl) ?_
    refine va_get (D := D) (ci := 9) (v := .ref (ob 5)) (C := RX9) (T := TX9) (N := 12) hx hb hts hin_X9 hown hK hP 0 rfl rfl 11 (by decide) (hts (.fieldLink RX9 28 "ClashFree$Table" "layout" "LClashFree$Layout;") (List.mem_of_getElem? (i := 6) rfl)) (fun _ h9 => h9) rfl dX9_foretell_14 ?_
    refine lv_iload_n hx hb dX9_foretell_17 rfl (lv_at hl 1 rfl) ?_
    have hPc := hP.sub (ws' := [(ob 5, .inr (3, gY ob (nI nb) (nI ka) (nI kb) sm (nI ln)))]) [3] rfl
    have hKc := hK.sub (tys' := []) [] rfl
    have hFc := va_free0 hS hA
    refine va_calli (va_runV (As := [.int (nI kx)]) (rest := []) ⟨hx, hb, hml, hown, hts⟩ (k_homeOf l D _ ob cI nb ka kb sm ln kx (by first | assumption | omega) (by first | assumption | omega) (by first | assumption | omega) (by first | assumption | omega) (by first | assumption | omega)) (cwV 1 hts g_k_foretell_k_homeOf_108 rfl rfl rfl (by decide +kernel) ⟨(Nat.le_of_ble_eq_true rfl), (Nat.le_of_ble_eq_true rfl)⟩) (PcRC_V (q0 := 0) hPc hKc hN rfl rfl) rfl rfl hl.1 rfl (lv_room (Nat.le_of_ble_eq_true rfl)) dX9_foretell_18 ⟨(Nat.le_of_ble_eq_true rfl), (Nat.le_of_ble_eq_true rfl)⟩) hS (fun q _ h => hFc q h) hFc (fun r3 uu tt H locs htt hvm hw hB hz1 hk1 hS => ?_)
    have hP := va_keep hP hk1
    try dsimp only at hw
    clear hB hz1 hk1 hFc hPc hKc
    obtain ⟨ho4, eho4, rfl⟩ : ∃ q, q = ((ka * kx + kb) % 2147483647 % nb) ∧ r3 = nI q := ⟨_, rfl, hw⟩
    have hho4 : ho4 < nb := by rw [eho4]; exact Nat.mod_lt _ (by omega)
    refine lv_istore_n (lv' := [(2, .int (nI ho4)), (0, .ref (ob 0)), (1, .int (nI kx))]) hx hb dX9_foretell_21 rfl hl (by decide) rfl (fun ls hl => ?_)
    refine lv_aload_n hx hb dX9_foretell_22 rfl (lv_at hl 1 rfl) ?_
    refine va_get (D := D) (ci := 9) (v := .int tc) (C := RX9) (T := TX9) (N := 12) hx hb hts hin_X9 hown hK hP 0 rfl rfl 4 (by decide) (hts (.fieldLink RX9 64 "ClashFree$Table" "count" "I") (List.mem_of_getElem? (i := 11) rfl)) (fun _ h9 => h9) rfl dX9_foretell_23 ?_
    refine lv_iconst (v := 1) hx hb dX9_foretell_26 (by decide) ?_
    refine lv_iadd hx hb dX9_foretell_27 ?_
    refine lv_topi (fun v5 ev5 => ?_)
    refine lv_aload_n hx hb dX9_foretell_28 rfl (lv_at hl 1 rfl) ?_
    refine va_get (D := D) (ci := 9) (v := .int tl) (C := RX9) (T := TX9) (N := 12) hx hb hts hin_X9 hown hK hP 0 rfl rfl 3 (by decide) (hts (.fieldLink RX9 61 "ClashFree$Table" "limit" "I") (List.mem_of_getElem? (i := 12) rfl)) (fun _ h9 => h9) rfl dX9_foretell_29 ?_
    refine lv_icmp_gt (tgt := 46) hx hb dX9_foretell_32 (by decide) (fun hc6 => ?_) (fun hc6 => ?_)
    ·
      refine lv_iconst (v := 4) hx hb dX9_foretell_46 (by decide) ?_
      exact W.iret (v := 4) hx hb hr (fun t ht hW => ⟨⟨4, (), rfl, Or.inr (Or.inr (Or.inr (Or.inr ⟨rfl, hF_rk2⟩))), trivial⟩, hS.F ht⟩) hS.2.2 dX9_foretell_47
    ·
      refine lv_aload_n hx hb dX9_foretell_35 rfl (lv_at hl 1 rfl) ?_
      refine va_get (D := D) (ci := 9) (v := .ref (ob 5)) (C := RX9) (T := TX9) (N := 12) hx hb hts hin_X9 hown hK hP 0 rfl rfl 11 (by decide) (hts (.fieldLink RX9 28 "ClashFree$Table" "layout" "LClashFree$Layout;") (List.mem_of_getElem? (i := 6) rfl)) (fun _ h9 => h9) rfl dX9_foretell_36 ?_
      refine lv_iload_n hx hb dX9_foretell_39 rfl (lv_at hl 0 rfl) ?_
      have hPc := hP.sub (ws' := [(ob 5, .inr (3, gY ob (nI nb) (nI ka) (nI kb) sm (nI ln)))]) [3] rfl
      have hKc := hK.sub (tys' := []) [] rfl
      have hFc := va_free0 hS hA
      refine va_calli (va_runV (As := [.int (nI ho4)]) (rest := []) ⟨hx, hb, hml, hown, hts⟩ (k_isBucket l D _ ob cI nb ka kb sm ln (nI ho4) (by first | assumption | omega)) (cwV 1 hts g_k_foretell_k_isBucket_118 rfl rfl rfl (by decide +kernel) ⟨(Nat.le_of_ble_eq_true rfl), (Nat.le_of_ble_eq_true rfl)⟩) (PcRC_V (q0 := 0) hPc hKc hN rfl rfl) rfl rfl hl.1 rfl (lv_room (Nat.le_of_ble_eq_true rfl)) dX9_foretell_40 ⟨(Nat.le_of_ble_eq_true rfl), (Nat.le_of_ble_eq_true rfl)⟩) hS (fun q _ h => hFc q h) hFc (fun r7 uu tt H locs htt hvm hw hB hz1 hk1 hS => ?_)
      have hP := va_keep hP hk1
      try dsimp only at hw
      clear hB hz1 hk1 hFc hPc hKc
      rcases hw with ⟨rfl, hA_r7⟩ | ⟨rfl, hA_r7⟩
      ·
        have hho2 : ho4 < 2048 := by omega
        refine lv_if_ne (tgt := 48) hx hb dX9_foretell_43 (by decide) (fun hc => ?_) (fun hc => absurd hc (by decide))
        refine lv_aload_n hx hb dX9_foretell_48 rfl (lv_at hl 1 rfl) ?_
        refine va_get (D := D) (ci := 9) (v := .ref (ob 5)) (C := RX9) (T := TX9) (N := 12) hx hb hts hin_X9 hown hK hP 0 rfl rfl 11 (by decide) (hts (.fieldLink RX9 28 "ClashFree$Table" "layout" "LClashFree$Layout;") (List.mem_of_getElem? (i := 6) rfl)) (fun _ h9 => h9) rfl dX9_foretell_49 ?_
        refine va_get (D := D) (ci := 3) (v := .ref (ob 6)) (C := RX3) (T := TX3) (N := 13) hx hb hts hin_X3 hown hK hP 3 rfl rfl 5 (by decide) (hts (.fieldLink RX9 122 "ClashFree$Layout" "held" "[I") (List.mem_of_getElem? (i := 16) rfl)) (fun _ h9 => h9) rfl dX9_foretell_52 ?_
        refine lv_iload_n hx hb dX9_foretell_55 rfl (lv_at hl 0 rfl) ?_
        refine va_iald hx hb hK hP 4 0 rfl rfl (vp_in_nI (by omega) (by decide)) dX9_foretell_56 ?_
        refine lv_topi (fun v8 ev8 => ?_)
        refine lv_aload_n hx hb dX9_foretell_57 rfl (lv_at hl 1 rfl) ?_
        refine va_get (D := D) (ci := 9) (v := .ref (ob 5)) (C := RX9) (T := TX9) (N := 12) hx hb hts hin_X9 hown hK hP 0 rfl rfl 11 (by decide) (hts (.fieldLink RX9 28 "ClashFree$Table" "layout" "LClashFree$Layout;") (List.mem_of_getElem? (i := 6) rfl)) (fun _ h9 => h9) rfl dX9_foretell_58 ?_
        refine va_get (D := D) (ci := 3) (v := .ref (ob 7)) (C := RX3) (T := TX3) (N := 13) hx hb hts hin_X3 hown hK hP 3 rfl rfl 6 (by decide) (hts (.fieldLink RX9 125 "ClashFree$Layout" "roof" "[I") (List.mem_of_getElem? (i := 17) rfl)) (fun _ h9 => h9) rfl dX9_foretell_61 ?_
        refine lv_iload_n hx hb dX9_foretell_64 rfl (lv_at hl 0 rfl) ?_
        refine va_iald hx hb hK hP 5 0 rfl rfl (vp_in_nI (by omega) (by decide)) dX9_foretell_65 ?_
        refine lv_topi (fun v9 ev9 => ?_)
        refine lv_icmp_ge (tgt := 95) hx hb dX9_foretell_66 (by decide) (fun hc10 => ?_) (fun hc10 => ?_)
        ·
          refine lv_aload_n hx hb dX9_foretell_95 rfl (lv_at hl 1 rfl) ?_
          refine va_get (D := D) (ci := 9) (v := .ref (ob 5)) (C := RX9) (T := TX9) (N := 12) hx hb hts hin_X9 hown hK hP 0 rfl rfl 11 (by decide) (hts (.fieldLink RX9 28 "ClashFree$Table" "layout" "LClashFree$Layout;") (List.mem_of_getElem? (i := 6) rfl)) (fun _ h9 => h9) rfl dX9_foretell_96 ?_
          refine lv_iload_n hx hb dX9_foretell_99 rfl (lv_at hl 0 rfl) ?_
          have hPc := hP.sub (ws' := [(ob 5, .inr (3, gY ob (nI nb) (nI ka) (nI kb) sm (nI ln))), (ob 7, .inl (cI, 2048, .inl ff))]) [3, 5] rfl
          have hKc := hK.sub (tys' := [(cI, .int)]) [0] rfl
          have hFc := va_free0 hS hA
          refine va_calli (va_runV (As := [.int (nI ho4)]) (rest := []) ⟨hx, hb, hml, hown, hts⟩ (k_raised l D _ ob cI nb ka kb sm ln ff ho4 (by first | assumption | omega)) (cwV 1 hts g_k_foretell_k_raised_134 rfl rfl rfl (by decide +kernel) ⟨(Nat.le_of_ble_eq_true rfl), (Nat.le_of_ble_eq_true rfl)⟩) (PcRC_V (q0 := 0) hPc hKc hN rfl rfl) rfl rfl hl.1 rfl (lv_room (Nat.le_of_ble_eq_true rfl)) dX9_foretell_100 ⟨(Nat.le_of_ble_eq_true rfl), (Nat.le_of_ble_eq_true rfl)⟩) hS (fun q _ h => hFc q h) hFc (fun r11 uu tt H locs htt hvm hw hB hz1 hk1 hS => ?_)
          have hP := va_keep hP hk1
          try dsimp only at hw
          clear hB hz1 hk1 hFc hPc hKc
          refine lv_istore_n (lv' := [(3, .int r11), (2, .int (nI ho4)), (0, .ref (ob 0)), (1, .int (nI kx))]) hx hb dX9_foretell_103 rfl hl (by decide) rfl (fun ls hl => ?_)
          refine lv_aload_n hx hb dX9_foretell_104 rfl (lv_at hl 2 rfl) ?_
          refine va_get (D := D) (ci := 9) (v := .ref (ob 5)) (C := RX9) (T := TX9) (N := 12) hx hb hts hin_X9 hown hK hP 0 rfl rfl 11 (by decide) (hts (.fieldLink RX9 28 "ClashFree$Table" "layout" "LClashFree$Layout;") (List.mem_of_getElem? (i := 6) rfl)) (fun _ h9 => h9) rfl dX9_foretell_105 ?_
          refine va_get (D := D) (ci := 3) (v := .int sm) (C := RX3) (T := TX3) (N := 13) hx hb hts hin_X3 hown hK hP 3 rfl rfl 3 (by decide) (hts (.fieldLink RX9 137 "ClashFree$Layout" "sum" "I") (List.mem_of_getElem? (i := 21) rfl)) (fun _ h9 => h9) rfl dX9_foretell_108 ?_
          refine lv_aload_n hx hb dX9_foretell_111 rfl (lv_at hl 2 rfl) ?_
          refine va_get (D := D) (ci := 9) (v := .ref (ob 5)) (C := RX9) (T := TX9) (N := 12) hx hb hts hin_X9 hown hK hP 0 rfl rfl 11 (by decide) (hts (.fieldLink RX9 28 "ClashFree$Table" "layout" "LClashFree$Layout;") (List.mem_of_getElem? (i := 6) rfl)) (fun _ h9 => h9) rfl dX9_foretell_112 ?_
          refine lv_iload_n hx hb dX9_foretell_115 rfl (lv_at hl 1 rfl) ?_
          have hPc := hP.sub (ws' := [(ob 5, .inr (3, gY ob (nI nb) (nI ka) (nI kb) sm (nI ln))), (ob 7, .inl (cI, 2048, .inl ff))]) [3, 5] rfl
          have hKc := hK.sub (tys' := [(cI, .int)]) [0] rfl
          have hFc := va_free0 hS hA
          refine va_calli (va_runV (As := [.int (nI ho4)]) (rest := [.int sm]) ⟨hx, hb, hml, hown, hts⟩ (k_roomsOf l D _ ob cI nb ka kb sm ln ff (nI ho4) (by first | assumption | omega)) (cwV 1 hts g_k_foretell_k_roomsOf_112 rfl rfl rfl (by decide +kernel) ⟨(Nat.le_of_ble_eq_true rfl), (Nat.le_of_ble_eq_true rfl)⟩) (PcRC_V (q0 := 0) hPc hKc hN rfl rfl) rfl rfl hl.1 rfl (lv_room (Nat.le_of_ble_eq_true rfl)) dX9_foretell_116 ⟨(Nat.le_of_ble_eq_true rfl), (Nat.le_of_ble_eq_true rfl)⟩) hS (fun q _ h => hFc q h) hFc (fun r12 uu tt H locs htt hvm hw hB hz1 hk1 hS => ?_)
          have hP := va_keep hP hk1
          try dsimp only at hw
          clear hB hz1 hk1 hFc hPc hKc
          have hro_r12 := hw
          refine lv_isub hx hb dX9_foretell_119 ?_
          refine lv_topi (fun v13 ev13 => ?_)
          refine lv_iload_n hx hb dX9_foretell_120 rfl (lv_at hl 0 rfl) ?_
          refine lv_iload_n hx hb dX9_foretell_121 rfl (lv_at hl 0 rfl) ?_
          refine lv_imul hx hb dX9_foretell_122 ?_
          refine lv_topi (fun v14 ev14 => ?_)
          refine lv_iadd hx hb dX9_foretell_123 ?_
          refine lv_topi (fun v15 ev15 => ?_)
          refine lv_istore (lv' := [(4, .int v15), (3, .int r11), (2, .int (nI ho4)), (0, .ref (ob 0)), (1, .int (nI kx))]) hx hb dX9_foretell_124 hl (by decide) rfl (fun ls hl => ?_)
          refine lv_iload hx hb dX9_foretell_126 (lv_at hl 0 rfl) ?_
          refine lv_aload_n hx hb dX9_foretell_128 rfl (lv_at hl 3 rfl) ?_
          have hPc := hP.sub (ws' := [(ob 0, .inr (9, gT ob tb ts tg tl tc tr tu tv tw))]) [0] rfl
          have hKc := hK.sub (tys' := []) [] rfl
          have hFc := va_free0 hS hA
          refine va_calli (va_runV (As := []) (rest := [.int v15]) ⟨hx, hb, hml, hown, hts⟩ (k_mostRooms l D _ ob cI tb ts tg tl tc tr tu tv tw) (cwV 0 hts g_k_foretell_k_mostRooms_86 rfl rfl rfl (by decide +kernel) ⟨(Nat.le_of_ble_eq_true rfl), (Nat.le_of_ble_eq_true rfl)⟩) (PcRC_V (q0 := 0) hPc hKc hN rfl rfl) rfl rfl hl.1 rfl (lv_room (Nat.le_of_ble_eq_true rfl)) dX9_foretell_129 ⟨(Nat.le_of_ble_eq_true rfl), (Nat.le_of_ble_eq_true rfl)⟩) hS (fun q _ h => hFc q h) hFc (fun r16 uu tt H locs htt hvm hw hB hz1 hk1 hS => ?_)
          have hP := va_keep hP hk1
          try dsimp only at hw
          clear hB hz1 hk1 hFc hPc hKc
          refine lv_icmp_gt (tgt := 139) hx hb dX9_foretell_132 (by decide) (fun hc17 => ?_) (fun hc17 => ?_)
          ·
            refine lv_iconst (v := 4) hx hb dX9_foretell_139 (by decide) ?_
            exact W.iret (v := 4) hx hb hr (fun t ht hW => ⟨⟨4, (), rfl, Or.inr (Or.inr (Or.inr (Or.inr ⟨rfl, hF_rk2⟩))), trivial⟩, hS.F ht⟩) hS.2.2 dX9_foretell_140
          ·
            refine lv_iconst (v := 3) hx hb dX9_foretell_135 (by decide) ?_
            refine lv_goto (tgt := 140) hx hb dX9_foretell_136 (by decide) ?_
            exact W.iret (v := 3) hx hb hr (fun t ht hW => ⟨⟨3, (), rfl, Or.inr (Or.inr (Or.inr (Or.inl ⟨rfl, hF_rk2⟩))), trivial⟩, hS.F ht⟩) hS.2.2 dX9_foretell_140
        ·
          refine lv_aload_n hx hb dX9_foretell_69 rfl (lv_at hl 1 rfl) ?_
          refine va_get (D := D) (ci := 9) (v := .ref (ob 5)) (C := RX9) (T := TX9) (N := 12) hx hb hts hin_X9 hown hK hP 0 rfl rfl 11 (by decide) (hts (.fieldLink RX9 28 "ClashFree$Table" "layout" "LClashFree$Layout;") (List.mem_of_getElem? (i := 6) rfl)) (fun _ h9 => h9) rfl dX9_foretell_70 ?_
          refine lv_iload_n hx hb dX9_foretell_73 rfl (lv_at hl 0 rfl) ?_
          refine lv_aload_n hx hb dX9_foretell_74 rfl (lv_at hl 1 rfl) ?_
          refine va_get (D := D) (ci := 9) (v := .ref (ob 5)) (C := RX9) (T := TX9) (N := 12) hx hb hts hin_X9 hown hK hP 0 rfl rfl 11 (by decide) (hts (.fieldLink RX9 28 "ClashFree$Table" "layout" "LClashFree$Layout;") (List.mem_of_getElem? (i := 6) rfl)) (fun _ h9 => h9) rfl dX9_foretell_75 ?_
          refine lv_iload_n hx hb dX9_foretell_78 rfl (lv_at hl 2 rfl) ?_
          refine lv_iload_n hx hb dX9_foretell_79 rfl (lv_at hl 0 rfl) ?_
          have hPc := hP.sub (ws' := [(ob 5, .inr (3, gY ob (nI nb) (nI ka) (nI kb) sm (nI ln))), (ob 7, .inl (cI, 2048, .inl ff)), (ob 8, .inl (cI, 2048, .inl fa)), (ob 9, .inl (cI, 2048, .inl fs))]) [3, 5, 6, 7] rfl
          have hKc := hK.sub (tys' := [(cI, .int)]) [0] rfl
          have hFc := va_free0 hS hA
          refine va_calli (va_runV (As := [.int (nI kx), .int (nI ho4)]) (rest := [.int (nI ho4), .ref (ob 5)]) ⟨hx, hb, hml, hown, hts⟩ (k_roomOf l D _ ob cI nb ka kb sm ln ff fa fs (nI kx) (nI ho4) (by first | assumption | omega)) (cwV 2 hts g_k_foretell_k_roomOf_128 rfl rfl rfl (by decide +kernel) ⟨(Nat.le_of_ble_eq_true rfl), (Nat.le_of_ble_eq_true rfl)⟩) (PcRC_V (q0 := 0) hPc hKc hN rfl rfl) rfl rfl hl.1 rfl (lv_room (Nat.le_of_ble_eq_true rfl)) dX9_foretell_80 ⟨(Nat.le_of_ble_eq_true rfl), (Nat.le_of_ble_eq_true rfl)⟩) hS (fun q _ h => hFc q h) hFc (fun r18 uu tt H locs htt hvm hw hB hz1 hk1 hS => ?_)
          have hP := va_keep hP hk1
          try dsimp only at hw
          clear hB hz1 hk1 hFc hPc hKc
          have hPc := hP.sub (ws' := [(ob 5, .inr (3, gY ob (nI nb) (nI ka) (nI kb) sm (nI ln))), (ob 10, .inl (cI, 160, .inl fj)), (ob 11, .inl (cI, 160, .inl fr))]) [3, 8, 9] rfl
          have hKc := hK.sub (tys' := [(cI, .int)]) [0] rfl
          have hFc := va_free0 hS hA
          refine va_calli (va_runV (As := [.int (nI ho4), .int r18]) (rest := []) ⟨hx, hb, hml, hown, hts⟩ (k_tenant l D _ ob cI nb ka kb sm ln fj fr (nI ho4) r18 (by first | assumption | omega)) (cwV 2 hts g_k_foretell_k_tenant_131 rfl rfl rfl (by decide +kernel) ⟨(Nat.le_of_ble_eq_true rfl), (Nat.le_of_ble_eq_true rfl)⟩) (PcRC_V (q0 := 0) hPc hKc hN rfl rfl) rfl rfl hl.1 rfl (lv_room (Nat.le_of_ble_eq_true rfl)) dX9_foretell_83 ⟨(Nat.le_of_ble_eq_true rfl), (Nat.le_of_ble_eq_true rfl)⟩) hS (fun q _ h => hFc q h) hFc (fun r19 uu tt H locs htt hvm hw hB hz1 hk1 hS => ?_)
          have hP := va_keep hP hk1
          try dsimp only at hw
          clear hB hz1 hk1 hFc hPc hKc
          refine lv_if_ge (tgt := 93) hx hb dX9_foretell_86 (by decide) (fun hc20 => ?_) (fun hc20 => ?_)
          ·
            refine lv_iconst (v := 2) hx hb dX9_foretell_93 (by decide) ?_
            exact W.iret (v := 2) hx hb hr (fun t ht hW => ⟨⟨2, (), rfl, Or.inr (Or.inr (Or.inl ⟨rfl, hF_rk2⟩)), trivial⟩, hS.F ht⟩) hS.2.2 dX9_foretell_94
          ·
            refine lv_iconst (v := 1) hx hb dX9_foretell_89 (by decide) ?_
            refine lv_goto (tgt := 94) hx hb dX9_foretell_90 (by decide) ?_
            exact W.iret (v := 1) hx hb hr (fun t ht hW => ⟨⟨1, (), rfl, Or.inr (Or.inl ⟨rfl, hF_rk2⟩), trivial⟩, hS.F ht⟩) hS.2.2 dX9_foretell_94
      ·
        refine lv_if_ne (tgt := 48) hx hb dX9_foretell_43 (by decide) (fun hc => absurd (by decide) hc) (fun hc => ?_)
        refine lv_iconst (v := 4) hx hb dX9_foretell_46 (by decide) ?_
        exact W.iret (v := 4) hx hb hr (fun t ht hW => ⟨⟨4, (), rfl, Or.inr (Or.inr (Or.inr (Or.inr ⟨rfl, hF_rk2⟩))), trivial⟩, hS.F ht⟩) hS.2.2 dX9_foretell_47
  ·
    obtain ⟨rk2, erk2, rfl⟩ : ∃ q, q = (rkF fk cn (nI kx)) ∧ r1 = nI q := ⟨_, rfl, erk2_⟩
    have hrk2 : rk2 < cn := by rw [erk2]; exact hF_rk2.1
    refine lv_if_lt (tgt := 13) hx hb dX9_foretell_8 (by decide) (fun hc => absurd hc (Int32.not_lt.mpr (nI_pos' (by omega)))) (fun hc => ?_)
    refine lv_iconst (v := 0) hx hb dX9_foretell_11 (by decide) ?_
    exact W.iret (v := 0) hx hb hr (fun t ht hW => ⟨⟨0, (), rfl, Or.inl ⟨rfl, hF_rk2⟩, trivial⟩, hS.F ht⟩) hS.2.2 dX9_foretell_12

