theorem dX10_back_0 : decode cX10_back 0 = .ok (.iload_n 1, 1) := by decide +kernel
theorem dX10_back_1 : decode cX10_back 1 = .ok (.invokestatic 55, 3) := by decide +kernel
theorem dX10_back_4 : decode cX10_back 4 = .ok (.ifCond .ne 6, 3) := by decide +kernel
theorem dX10_back_7 : decode cX10_back 7 = .ok (.bipush (-2), 2) := by decide +kernel
theorem dX10_back_9 : decode cX10_back 9 = .ok (.ireturn, 1) := by decide +kernel
theorem dX10_back_10 : decode cX10_back 10 = .ok (.aload_n 0, 1) := by decide +kernel
theorem dX10_back_11 : decode cX10_back 11 = .ok (.getfield 19, 3) := by decide +kernel
theorem dX10_back_14 : decode cX10_back 14 = .ok (.istore_n 2, 1) := by decide +kernel
theorem dX10_back_15 : decode cX10_back 15 = .ok (.aload_n 0, 1) := by decide +kernel
theorem dX10_back_16 : decode cX10_back 16 = .ok (.iconst 0, 1) := by decide +kernel
theorem dX10_back_17 : decode cX10_back 17 = .ok (.putfield 19, 3) := by decide +kernel
theorem dX10_back_20 : decode cX10_back 20 = .ok (.aload_n 0, 1) := by decide +kernel
theorem dX10_back_21 : decode cX10_back 21 = .ok (.getfield 15, 3) := by decide +kernel
theorem dX10_back_24 : decode cX10_back 24 = .ok (.iload_n 2, 1) := by decide +kernel
theorem dX10_back_25 : decode cX10_back 25 = .ok (.invokestatic 322, 3) := by decide +kernel
theorem dX10_back_28 : decode cX10_back 28 = .ok (.ifCond .ne 5, 3) := by decide +kernel
theorem dX10_back_31 : decode cX10_back 31 = .ok (.iconst (-1), 1) := by decide +kernel
theorem dX10_back_32 : decode cX10_back 32 = .ok (.ireturn, 1) := by decide +kernel
theorem dX10_back_33 : decode cX10_back 33 = .ok (.aload_n 0, 1) := by decide +kernel
theorem dX10_back_34 : decode cX10_back 34 = .ok (.iload_n 1, 1) := by decide +kernel
theorem dX10_back_35 : decode cX10_back 35 = .ok (.invokevirtual 63, 3) := by decide +kernel
theorem dX10_back_38 : decode cX10_back 38 = .ok (.astore_n 3, 1) := by decide +kernel
theorem dX10_back_39 : decode cX10_back 39 = .ok (.aload_n 3, 1) := by decide +kernel
theorem dX10_back_40 : decode cX10_back 40 = .ok (.aload_n 0, 1) := by decide +kernel
theorem dX10_back_41 : decode cX10_back 41 = .ok (.getfield 15, 3) := by decide +kernel
theorem dX10_back_44 : decode cX10_back 44 = .ok (.iconst 0, 1) := by decide +kernel
theorem dX10_back_45 : decode cX10_back 45 = .ok (.iaload, 1) := by decide +kernel
theorem dX10_back_46 : decode cX10_back 46 = .ok (.aload_n 0, 1) := by decide +kernel
theorem dX10_back_47 : decode cX10_back 47 = .ok (.getfield 15, 3) := by decide +kernel
theorem dX10_back_50 : decode cX10_back 50 = .ok (.invokestatic 326, 3) := by decide +kernel
theorem dX10_back_53 : decode cX10_back 53 = .ok (.aload_n 0, 1) := by decide +kernel
theorem dX10_back_54 : decode cX10_back 54 = .ok (.getfield 15, 3) := by decide +kernel
theorem dX10_back_57 : decode cX10_back 57 = .ok (.iconst 3, 1) := by decide +kernel
theorem dX10_back_58 : decode cX10_back 58 = .ok (.iaload, 1) := by decide +kernel
theorem dX10_back_59 : decode cX10_back 59 = .ok (.aload_n 0, 1) := by decide +kernel
theorem dX10_back_60 : decode cX10_back 60 = .ok (.getfield 15, 3) := by decide +kernel
theorem dX10_back_63 : decode cX10_back 63 = .ok (.iconst 4, 1) := by decide +kernel
theorem dX10_back_64 : decode cX10_back 64 = .ok (.invokestatic 330, 3) := by decide +kernel
theorem dX10_back_67 : decode cX10_back 67 = .ok (.invokevirtual 67, 3) := by decide +kernel
theorem dX10_back_70 : decode cX10_back 70 = .ok (.aload_n 0, 1) := by decide +kernel
theorem dX10_back_71 : decode cX10_back 71 = .ok (.getfield 15, 3) := by decide +kernel
theorem dX10_back_74 : decode cX10_back 74 = .ok (.bipush 12, 2) := by decide +kernel
theorem dX10_back_76 : decode cX10_back 76 = .ok (.iaload, 1) := by decide +kernel
theorem dX10_back_77 : decode cX10_back 77 = .ok (.istore 4, 2) := by decide +kernel
theorem dX10_back_79 : decode cX10_back 79 = .ok (.iconst 0, 1) := by decide +kernel
theorem dX10_back_80 : decode cX10_back 80 = .ok (.istore 5, 2) := by decide +kernel
theorem dX10_back_82 : decode cX10_back 82 = .ok (.iload 5, 2) := by decide +kernel
theorem dX10_back_84 : decode cX10_back 84 = .ok (.iload 4, 2) := by decide +kernel
theorem dX10_back_86 : decode cX10_back 86 = .ok (.if_icmp .ge 48, 3) := by decide +kernel
theorem dX10_back_89 : decode cX10_back 89 = .ok (.bipush 13, 2) := by decide +kernel
theorem dX10_back_91 : decode cX10_back 91 = .ok (.bipush 8, 2) := by decide +kernel
theorem dX10_back_93 : decode cX10_back 93 = .ok (.iload 5, 2) := by decide +kernel
theorem dX10_back_95 : decode cX10_back 95 = .ok (.imul, 1) := by decide +kernel
theorem dX10_back_96 : decode cX10_back 96 = .ok (.iadd, 1) := by decide +kernel
theorem dX10_back_97 : decode cX10_back 97 = .ok (.istore 6, 2) := by decide +kernel
theorem dX10_back_99 : decode cX10_back 99 = .ok (.aload_n 3, 1) := by decide +kernel
theorem dX10_back_100 : decode cX10_back 100 = .ok (.getfield 93, 3) := by decide +kernel
theorem dX10_back_103 : decode cX10_back 103 = .ok (.iload 5, 2) := by decide +kernel
theorem dX10_back_105 : decode cX10_back 105 = .ok (.aload_n 0, 1) := by decide +kernel
theorem dX10_back_106 : decode cX10_back 106 = .ok (.getfield 15, 3) := by decide +kernel
theorem dX10_back_109 : decode cX10_back 109 = .ok (.iload 6, 2) := by decide +kernel
theorem dX10_back_111 : decode cX10_back 111 = .ok (.invokestatic 334, 3) := by decide +kernel
theorem dX10_back_114 : decode cX10_back 114 = .ok (.aload_n 0, 1) := by decide +kernel
theorem dX10_back_115 : decode cX10_back 115 = .ok (.getfield 15, 3) := by decide +kernel
theorem dX10_back_118 : decode cX10_back 118 = .ok (.iload 6, 2) := by decide +kernel
theorem dX10_back_120 : decode cX10_back 120 = .ok (.iconst 4, 1) := by decide +kernel
theorem dX10_back_121 : decode cX10_back 121 = .ok (.iadd, 1) := by decide +kernel
theorem dX10_back_122 : decode cX10_back 122 = .ok (.invokestatic 334, 3) := by decide +kernel
theorem dX10_back_125 : decode cX10_back 125 = .ok (.invokevirtual 338, 3) := by decide +kernel
theorem dX10_back_128 : decode cX10_back 128 = .ok (.iinc 5 1, 3) := by decide +kernel
theorem dX10_back_131 : decode cX10_back 131 = .ok (.goto (-49), 3) := by decide +kernel
theorem dX10_back_134 : decode cX10_back 134 = .ok (.aload_n 3, 1) := by decide +kernel
theorem dX10_back_135 : decode cX10_back 135 = .ok (.invokevirtual 71, 3) := by decide +kernel
theorem dX10_back_138 : decode cX10_back 138 = .ok (.iload 4, 2) := by decide +kernel
theorem dX10_back_140 : decode cX10_back 140 = .ok (.ireturn, 1) := by decide +kernel
theorem ge_via {z : Int32} {a b : Nat} (ha : a < 2147483648) (hb : b < 2147483648) (h1 : z ≤ nI a) (h2 : z = nI b) : b ≤ a := by
  subst h2
  exact (nI_leI hb ha).mp h1
theorem RsN_lt {bt : Nat → Nat} {n : Nat} (h : RsN bt n) : ∀ i j, i < j → j < n → keyN bt i < keyN bt j := by
  intro i j hij
  induction j with
  | zero => omega
  | succ j ih =>
    intro hj
    have a := h.2 j hj
    by_cases e : i = j
    · rw [e]
      exact a
    · exact Nat.lt_trans (ih (by omega) (by omega)) a
theorem KvT_app {gk gv uk uv : Nat → Int32} {y : Nat} {K : Nat → Nat} {V : Nat → Int32} (h : KvT gk gv y (tabl y K V)) (h1 : K y < 2147483647) (hl : ∀ j, j < y → K j < K y) (hy : y < 160) (c2 : ∀ k, k ≤ y → uk k = if k < y then gk k else if k = y then nI (K y) else gk (k - 1)) (c3 : ∀ k, k ≤ y → uv k = if k < y then gv k else if k = y then V y else gv (k - 1)) : KvT uk uv (y + 1) (tabl (y + 1) K V) := by
  obtain ⟨h0, K', a1, a2, e⟩ := h
  have e := tabl_inj e
  refine ⟨by omega, K, fun j hj => ?_, fun i j hij hj => ?_, tabl_eq (fun j hj => ⟨rfl, ?_⟩)⟩
  · rw [c2 j (by omega)]
    by_cases q : j < y
    · rw [if_pos q, (e j q).1]
      exact a1 j q
    · obtain rfl : j = y := by omega
      rw [if_neg (Nat.lt_irrefl _), if_pos rfl]
      exact ⟨rfl, h1⟩
  · by_cases q : j < y
    · rw [(e j q).1, (e i (by omega)).1]
      exact a2 i j hij q
    · obtain rfl : j = y := by omega
      exact hl i hij
  · rw [c3 j (by omega)]
    by_cases q : j < y
    · rw [if_pos q, (e j q).2]
    · obtain rfl : j = y := by omega
      rw [if_neg (Nat.lt_irrefl _), if_pos rfl]
def own_n_back : List Cond := [.methodLink RX10 55 yX10_isTableNumber, .static yX10_isTableNumber, .initialized RX10]
def wp_n_back : List Cond := .code yX10_back cX10_back 7 (some .int) :: (own_n_back ++ (wp_k_isTN ++ ([] : List Cond)))
set_option maxRecDepth 20000 in
theorem inown_n_back : ∀ w ∈ own_n_back, w ∈ lw_tbl := mem_places [449, 450, 106] (by decide +kernel)
set_option maxRecDepth 20000 in
theorem in_n_back : ∀ w ∈ wp_n_back, w ∈ lw_tbl := List.forall_mem_cons.mpr ⟨List.mem_of_getElem? (i := 1165) (by decide +kernel), List.forall_mem_append.mpr ⟨inown_n_back, List.forall_mem_append.mpr ⟨in_k_isTN, fun _ h => absurd h List.not_mem_nil⟩⟩⟩
set_option maxRecDepth 20000 in
theorem good_n_back : wp_n_back.all goodWord = true := by decide +kernel
set_option maxRecDepth 20000 in
theorem g_n_back_k_isTN_55 : GoodIn wp_n_back (va_wsS RX10 55 yX10_isTableNumber wp_k_isTN) := goodIn_sub (List.forall_mem_append.mpr ⟨List.forall_mem_cons.mpr ⟨(List.mem_of_getElem? (i := 1) rfl), List.forall_mem_cons.mpr ⟨(List.mem_of_getElem? (i := 2) rfl), List.forall_mem_cons.mpr ⟨(List.mem_of_getElem? (i := 3) rfl), fun _ h => absurd h List.not_mem_nil⟩⟩⟩, (fun _ h => (List.mem_cons_of_mem _ (List.mem_append_right _ (List.mem_append_left _ h))))⟩) (by decide +kernel)
set_option maxHeartbeats 4000000 in
set_option maxRecDepth 100000 in
theorem n_back (l : Launch) (D : va_G) (sz : Nat) (ox : Nat → Nat) (ob3 : Nat → Nat) (og : Nat → Nat) (oq : Nat → Nat) (ow : Nat → Nat) (cI : ClassId) (cT : ClassId) (tp : Nat) (ft : Nat → Option Nat) (z1 : Int32) (hb9 : ¬ (0 ≤ z1 ∧ z1 < 4)) : Met l yX10_back wp_n_back ({ frames := 1, cells := 0, slots := 0, locals := 20 }) (PcRC D [.ref (ox 0), .int z1] sz [(ox 0, .inr (10, [.ref (ox 1), .ref (ox 2), .int (nI tp), .ref (ob3 0), .ref (og 0), .ref (oq 0), .ref (ow 0)])), (ox 1, .inl (cT, 4, .inr (.inr (.inr (.inr ft)))))] [(cT, .object RX9)]) (va_Qi (fun (r : Int32) (u : Unit) => r = -2) (fun (_ : Unit) _ => True) (va_A [] sz)) 0 0 (va_A [] sz) := by
  refine Met.ofW (cc := cX10_back) (maxL := 7) (ret := (some .int)) (by decide) rfl ?_
  intro p e s m args below meth c s₁ B hml hv
  obtain ⟨rfl, hsz, hP, hK, hN⟩ := hv
  have hx := B.exec
  have hb := B.bytes
  have hr := B.returns
  have hts := atoms_spec (ws := wp_n_back) B.pre
  have hown : s.vm.findClass RX10 = some m.cls := findClass_of_methodNamed B.named
  have hlocks := B.notSynchronized
  subst hsz
  generalize hAe : va_A [] s.heap.size = A at ⊢
  have hA : ∀ q : Nat, s.heap.size ≤ q → A q := fun q h => by rw [← hAe]; exact Or.inr h
  have hS : va_S A s.heap s.heap [] := va_S.rf
  have hP : va_P D vwCl [(ox 0, .inr (10, [.ref (ox 1), .ref (ox 2), .int (nI tp), .ref (ob3 0), .ref (og 0), .ref (oq 0), .ref (ow 0)])), (ox 1, .inl (cT, 4, .inr (.inr (.inr (.inr ft)))))] s.heap := hP
  have hl := lv_entry ([.ref (ox 0), .int z1]) (n := 7) (Nat.le_of_ble_eq_true rfl)
  rw [lg_entry_eq]
  generalize (lg_sl ([.ref (ox 0), .int z1]) ++ List.replicate (7 - (lg_sl ([.ref (ox 0), .int z1])).length) Slot.unset).toArray = ls at hl ⊢
  have hl : lv_has ls 7 [(0, .ref (ox 0)), (1, .int z1)] := hl
  refine lv_iload_n hx hb dX10_back_0 rfl (lv_at hl 1 rfl) ?_
  have hPc := hP.sub (ws' := []) [] rfl
  have hKc := hK.sub (tys' := []) [] rfl
  have hFc := va_free0 hS hA
  refine va_calli (va_runS (As := [.int z1]) (rest := []) ⟨hx, hb, hml, hown, hts⟩ (k_isTN l D _ cI z1) (va_cwS 1 hts g_n_back_k_isTN_55 rfl rfl rfl (by decide +kernel) ⟨(Nat.le_of_ble_eq_true rfl), (Nat.le_of_ble_eq_true rfl)⟩) (PcRC_S hPc hKc hN) rfl rfl hl.1 rfl (lv_room (Nat.le_of_ble_eq_true rfl)) dX10_back_1 ⟨(Nat.le_of_ble_eq_true rfl), (Nat.le_of_ble_eq_true rfl)⟩) hS (fun q _ h => hFc q h) hFc (fun r1 uu tt H locs htt hvm hw hB hz1 hk1 hS => ?_)
  have hP := va_keep hP hk1
  try dsimp only at hw
  clear hB hz1 hk1 hFc hPc hKc
  rcases hw with ⟨rfl, hA_r1⟩ | ⟨rfl, hA_r1⟩
  ·
    exact absurd hA_r1 hb9
  ·
    refine lv_if_ne (tgt := 10) hx hb dX10_back_4 (by decide) (fun hc => absurd (by decide) hc) (fun hc => ?_)
    refine lv_bipush (v := (-2)) hx hb dX10_back_7 (by decide) ?_
    exact W.iret (v := (-2)) hx hb hr (fun t ht hW => ⟨⟨(-2), (), rfl, rfl, trivial⟩, hS.F ht⟩) hS.2.2 dX10_back_9

def own_s_back : List Cond := [.fieldLink RX10 93 "ClashFree$Table" "keys" "LClashFree$Keys;", .fieldLink RX10 15 "ClashFree" "tape" "[I", .methodLink RX10 334 yX10_readInt, .static yX10_readInt, .initialized RX10, .methodLink RX10 338 yX2_insert, .instanceMethod yX2_insert, .selects RX2 yX2_insert yX2_insert, .initialized RX2, .methodLink RX10 55 yX10_isTableNumber, .static yX10_isTableNumber, .fieldLink RX10 19 "ClashFree" "taped" "I", .methodLink RX10 322 yX10_isImage, .static yX10_isImage, .methodLink RX10 63 yX10_slot, .instanceMethod yX10_slot, .selects RX10 yX10_slot yX10_slot, .methodLink RX10 326 yX10_spreadOf, .static yX10_spreadOf, .methodLink RX10 330 yX10_readLong, .static yX10_readLong, .methodLink RX10 67 yX9_begin, .instanceMethod yX9_begin, .selects RX9 yX9_begin yX9_begin, .initialized RX9, .methodLink RX10 71 yX9_buildAll, .instanceMethod yX9_buildAll, .selects RX9 yX9_buildAll yX9_buildAll]
def wp_s_back : List Cond := .code yX10_back cX10_back 7 (some .int) :: (own_s_back ++ (wp_k_readInt ++ (wp_k_kinsert ++ (wp_k_isTN ++ (wp_k_isImg ++ (wp_k_slotS ++ (wp_k_spreadOf ++ (wp_k_readLong ++ (wp_k_tbegin ++ (wp_k_buildAll ++ (wsX90 ++ (wsX100 ++ ([] : List Cond)))))))))))))
set_option maxRecDepth 20000 in
theorem inown_s_back : ∀ w ∈ own_s_back, w ∈ lw_tbl := mem_places [518, 413, 1172, 1173, 106, 1180, 673, 674, 117, 449, 450, 414, 1166, 1167, 455, 457, 0, 1169, 1170, 1176, 1177, 548, 549, 550, 116, 556, 557, 558] (by decide +kernel)
set_option maxRecDepth 20000 in
theorem in_s_back : ∀ w ∈ wp_s_back, w ∈ lw_tbl := List.forall_mem_cons.mpr ⟨List.mem_of_getElem? (i := 1165) (by decide +kernel), List.forall_mem_append.mpr ⟨inown_s_back, List.forall_mem_append.mpr ⟨in_k_readInt, List.forall_mem_append.mpr ⟨in_k_kinsert, List.forall_mem_append.mpr ⟨in_k_isTN, List.forall_mem_append.mpr ⟨in_k_isImg, List.forall_mem_append.mpr ⟨in_k_slotS, List.forall_mem_append.mpr ⟨in_k_spreadOf, List.forall_mem_append.mpr ⟨in_k_readLong, List.forall_mem_append.mpr ⟨in_k_tbegin, List.forall_mem_append.mpr ⟨in_k_buildAll, List.forall_mem_append.mpr ⟨lwb_X9, List.forall_mem_append.mpr ⟨lwb_X10, fun _ h => absurd h List.not_mem_nil⟩⟩⟩⟩⟩⟩⟩⟩⟩⟩⟩⟩⟩
set_option maxRecDepth 20000 in
theorem good_s_back : wp_s_back.all goodWord = true := by decide +kernel
set_option maxRecDepth 20000 in
theorem g_s_back_k_readInt_334 : GoodIn wp_s_back (va_wsS RX10 334 yX10_readInt wp_k_readInt) := goodIn_sub (List.forall_mem_append.mpr ⟨List.forall_mem_cons.mpr ⟨(List.mem_of_getElem? (i := 3) rfl), List.forall_mem_cons.mpr ⟨(List.mem_of_getElem? (i := 4) rfl), List.forall_mem_cons.mpr ⟨(List.mem_of_getElem? (i := 5) rfl), fun _ h => absurd h List.not_mem_nil⟩⟩⟩, (fun _ h => (List.mem_cons_of_mem _ (List.mem_append_right _ (List.mem_append_left _ h))))⟩) (by decide +kernel)
set_option maxRecDepth 20000 in
theorem g_s_back_k_kinsert_338 : GoodIn wp_s_back (wsV RX10 338 RX2 yX2_insert wp_k_kinsert) := goodIn_sub (List.forall_mem_append.mpr ⟨List.forall_mem_cons.mpr ⟨(List.mem_of_getElem? (i := 6) rfl), List.forall_mem_cons.mpr ⟨(List.mem_of_getElem? (i := 7) rfl), List.forall_mem_cons.mpr ⟨(List.mem_of_getElem? (i := 8) rfl), List.forall_mem_cons.mpr ⟨(List.mem_of_getElem? (i := 9) rfl), fun _ h => absurd h List.not_mem_nil⟩⟩⟩⟩, (fun _ h => (List.mem_cons_of_mem _ (List.mem_append_right _ (List.mem_append_right _ (List.mem_append_left _ h)))))⟩) (by decide +kernel)
set_option maxRecDepth 20000 in
theorem g_s_back_k_isTN_55 : GoodIn wp_s_back (va_wsS RX10 55 yX10_isTableNumber wp_k_isTN) := goodIn_sub (List.forall_mem_append.mpr ⟨List.forall_mem_cons.mpr ⟨(List.mem_of_getElem? (i := 10) rfl), List.forall_mem_cons.mpr ⟨(List.mem_of_getElem? (i := 11) rfl), List.forall_mem_cons.mpr ⟨(List.mem_of_getElem? (i := 5) rfl), fun _ h => absurd h List.not_mem_nil⟩⟩⟩, (fun _ h => (List.mem_cons_of_mem _ (List.mem_append_right _ (List.mem_append_right _ (List.mem_append_right _ (List.mem_append_left _ h))))))⟩) (by decide +kernel)
set_option maxRecDepth 20000 in
theorem g_s_back_k_isImg_322 : GoodIn wp_s_back (va_wsS RX10 322 yX10_isImage wp_k_isImg) := goodIn_sub (List.forall_mem_append.mpr ⟨List.forall_mem_cons.mpr ⟨(List.mem_of_getElem? (i := 13) rfl), List.forall_mem_cons.mpr ⟨(List.mem_of_getElem? (i := 14) rfl), List.forall_mem_cons.mpr ⟨(List.mem_of_getElem? (i := 5) rfl), fun _ h => absurd h List.not_mem_nil⟩⟩⟩, (fun _ h => (List.mem_cons_of_mem _ (List.mem_append_right _ (List.mem_append_right _ (List.mem_append_right _ (List.mem_append_right _ (List.mem_append_left _ h)))))))⟩) (by decide +kernel)
set_option maxRecDepth 20000 in
theorem g_s_back_k_slotS_63 : GoodIn wp_s_back (wsV RX10 63 RX10 yX10_slot wp_k_slotS) := goodIn_sub (List.forall_mem_append.mpr ⟨List.forall_mem_cons.mpr ⟨(List.mem_of_getElem? (i := 15) rfl), List.forall_mem_cons.mpr ⟨(List.mem_of_getElem? (i := 16) rfl), List.forall_mem_cons.mpr ⟨(List.mem_of_getElem? (i := 17) rfl), List.forall_mem_cons.mpr ⟨(List.mem_of_getElem? (i := 5) rfl), fun _ h => absurd h List.not_mem_nil⟩⟩⟩⟩, (fun _ h => (List.mem_cons_of_mem _ (List.mem_append_right _ (List.mem_append_right _ (List.mem_append_right _ (List.mem_append_right _ (List.mem_append_right _ (List.mem_append_left _ h))))))))⟩) (by decide +kernel)
set_option maxRecDepth 20000 in
theorem g_s_back_k_spreadOf_326 : GoodIn wp_s_back (va_wsS RX10 326 yX10_spreadOf wp_k_spreadOf) := goodIn_sub (List.forall_mem_append.mpr ⟨List.forall_mem_cons.mpr ⟨(List.mem_of_getElem? (i := 18) rfl), List.forall_mem_cons.mpr ⟨(List.mem_of_getElem? (i := 19) rfl), List.forall_mem_cons.mpr ⟨(List.mem_of_getElem? (i := 5) rfl), fun _ h => absurd h List.not_mem_nil⟩⟩⟩, (fun _ h => (List.mem_cons_of_mem _ (List.mem_append_right _ (List.mem_append_right _ (List.mem_append_right _ (List.mem_append_right _ (List.mem_append_right _ (List.mem_append_right _ (List.mem_append_left _ h)))))))))⟩) (by decide +kernel)
set_option maxRecDepth 20000 in
theorem g_s_back_k_readLong_330 : GoodIn wp_s_back (va_wsS RX10 330 yX10_readLong wp_k_readLong) := goodIn_sub (List.forall_mem_append.mpr ⟨List.forall_mem_cons.mpr ⟨(List.mem_of_getElem? (i := 20) rfl), List.forall_mem_cons.mpr ⟨(List.mem_of_getElem? (i := 21) rfl), List.forall_mem_cons.mpr ⟨(List.mem_of_getElem? (i := 5) rfl), fun _ h => absurd h List.not_mem_nil⟩⟩⟩, (fun _ h => (List.mem_cons_of_mem _ (List.mem_append_right _ (List.mem_append_right _ (List.mem_append_right _ (List.mem_append_right _ (List.mem_append_right _ (List.mem_append_right _ (List.mem_append_right _ (List.mem_append_left _ h))))))))))⟩) (by decide +kernel)
set_option maxRecDepth 20000 in
theorem g_s_back_k_tbegin_67 : GoodIn wp_s_back (wsV RX10 67 RX9 yX9_begin wp_k_tbegin) := goodIn_sub (List.forall_mem_append.mpr ⟨List.forall_mem_cons.mpr ⟨(List.mem_of_getElem? (i := 22) rfl), List.forall_mem_cons.mpr ⟨(List.mem_of_getElem? (i := 23) rfl), List.forall_mem_cons.mpr ⟨(List.mem_of_getElem? (i := 24) rfl), List.forall_mem_cons.mpr ⟨(List.mem_of_getElem? (i := 25) rfl), fun _ h => absurd h List.not_mem_nil⟩⟩⟩⟩, (fun _ h => (List.mem_cons_of_mem _ (List.mem_append_right _ (List.mem_append_right _ (List.mem_append_right _ (List.mem_append_right _ (List.mem_append_right _ (List.mem_append_right _ (List.mem_append_right _ (List.mem_append_right _ (List.mem_append_left _ h)))))))))))⟩) (by decide +kernel)
set_option maxRecDepth 20000 in
theorem g_s_back_k_buildAll_71 : GoodIn wp_s_back (wsV RX10 71 RX9 yX9_buildAll wp_k_buildAll) := goodIn_sub (List.forall_mem_append.mpr ⟨List.forall_mem_cons.mpr ⟨(List.mem_of_getElem? (i := 26) rfl), List.forall_mem_cons.mpr ⟨(List.mem_of_getElem? (i := 27) rfl), List.forall_mem_cons.mpr ⟨(List.mem_of_getElem? (i := 28) rfl), List.forall_mem_cons.mpr ⟨(List.mem_of_getElem? (i := 25) rfl), fun _ h => absurd h List.not_mem_nil⟩⟩⟩⟩, (fun _ h => (List.mem_cons_of_mem _ (List.mem_append_right _ (List.mem_append_right _ (List.mem_append_right _ (List.mem_append_right _ (List.mem_append_right _ (List.mem_append_right _ (List.mem_append_right _ (List.mem_append_right _ (List.mem_append_right _ (List.mem_append_left _ h))))))))))))⟩) (by decide +kernel)
set_option maxHeartbeats 4000000 in
set_option maxRecDepth 100000 in
theorem lk_back (l : Launch) {p : Program} {e : Env} {s : State} {m : MethodId} {args : Array Value} {below : List Frame} {meth : Method} {c : Code} {Q : State → Prop} {A : Nat → Prop} (D : va_G) (ox : Nat → Nat) (ob3 : Nat → Nat) (og : Nat → Nat) (oq : Nat → Nat) (ow : Nat → Nat) (ob : Nat → Nat) (cI : ClassId) (cT : ClassId) (ft : Nat → Option Nat) (fT : Nat → Int32) (tb : Int32) (ts : Int32) (tg : Int32) (tl : Int32) (tc : Int32) (tr : Int32) (tu : Int32) (tv : Int32) (tw : Int32) (sd : Int64) (da : Nat) (db : Nat) (pr : Int32) (nb : Nat) (ka : Nat) (kb : Nat) (sm : Int32) (ln : Nat) (fh : Nat → Int32) (ff : Nat → Int32) (fa : Nat → Int32) (fs : Nat → Int32) (fj : Nat → Int32) (fr : Nat → Int32) (fo : Nat → Int32) (fx : Nat → Int32) (bt : Nat → Nat) (hy0 : bt 12 ≤ 160) (h12 : fT 12 ≤ nI (bt 12)) (hbt : TieC fT bt) (h12e : fT 12 = nI (bt 12)) (hkl : ∀ j, j < bt 12 → keyN bt j < 2147483647) (hkr : ∀ i j, i < j → j < bt 12 → keyN bt i < keyN bt j) (hx : p.tables.exec = Jvm.exec) (hb : c.code = cX10_back) (hml : c.maxLocals = 7) (hown : s.vm.findClass RX10 = some m.cls) (hts : ∀ w ∈ wp_s_back, w.before args s = true) (hA : ∀ q, s.heap.size ≤ q → A q) (hK : va_K D vwCl [(cI, .int), (cT, .object RX9)] s) (hN : NC s) (kx134 : ∀ (y : Nat), ∀ (gk : Nat → Int32), ∀ (gv : Nat → Int32), (y ≤ bt 12) → (KyC gk y) → (KvT gk gv y (tabl y (fun j => keyN bt j) (fun j => nI (rdN bt (17 + 8 * j) 4)))) → (bt 12 ≤ y) → ∀ (H : Heap) (locs : List Loc) (ls : Array Slot), va_P D vwCl [(ox 0, .inr (10, [.ref (ox 1), .ref (ox 2), .int 0, .ref (ob3 0), .ref (og 0), .ref (oq 0), .ref (ow 0)])), (ox 1, .inl (cT, 4, .inr (.inr (.inr (.inr ft))))), (ox 2, .inl (cI, 1400, .inl fT)), (ob 0, .inr (9, gT ob tb ts tg tl tc tr tu tv tw)), (ob 1, .inr (0, [.long sd, .int (nI da), .int (nI db), .int pr])), (ob 2, .inr (2, [.int (nI y), .ref (ob 3), .ref (ob 4)])), (ob 3, .inl (cI, 160, .inl gk)), (ob 4, .inl (cI, 160, .inl gv)), (ob 5, .inr (3, gY ob (nI nb) (nI ka) (nI kb) sm (nI ln))), (ob 6, .inl (cI, 2048, .inl fh)), (ob 7, .inl (cI, 2048, .inl ff)), (ob 8, .inl (cI, 2048, .inl fa)), (ob 9, .inl (cI, 2048, .inl fs)), (ob 10, .inl (cI, 160, .inl fj)), (ob 11, .inl (cI, 160, .inl fr)), (ob 12, .inl (cI, 160, .inl fo)), (ob 13, .inl (cI, 2048, .inl fx))] H → va_D A [(ox 0, .inr (10, [.ref (ox 1), .ref (ox 2), .int 0, .ref (ob3 0), .ref (og 0), .ref (oq 0), .ref (ow 0)])), (ox 1, .inl (cT, 4, .inr (.inr (.inr (.inr ft))))), (ox 2, .inl (cI, 1400, .inl fT)), (ob 0, .inr (9, gT ob tb ts tg tl tc tr tu tv tw)), (ob 1, .inr (0, [.long sd, .int (nI da), .int (nI db), .int pr])), (ob 2, .inr (2, [.int (nI y), .ref (ob 3), .ref (ob 4)])), (ob 3, .inl (cI, 160, .inl gk)), (ob 4, .inl (cI, 160, .inl gv)), (ob 5, .inr (3, gY ob (nI nb) (nI ka) (nI kb) sm (nI ln))), (ob 6, .inl (cI, 2048, .inl fh)), (ob 7, .inl (cI, 2048, .inl ff)), (ob 8, .inl (cI, 2048, .inl fa)), (ob 9, .inl (cI, 2048, .inl fs)), (ob 10, .inl (cI, 160, .inl fj)), (ob 11, .inl (cI, 160, .inl fr)), (ob 12, .inl (cI, 160, .inl fo)), (ob 13, .inl (cI, 2048, .inl fx))] → va_S A s.heap H locs → lv_has ls 7 [(4, .int (fT 12)), (3, .ref (ob 0))] → W p l e ({ frames := 8, cells := 0, slots := 0, locals := 300 }) s m args below meth c H locs 0 0 Q (F0 m 134 ls [])) : ∀ (N : Nat), ∀ (y : Nat), ∀ (gk : Nat → Int32), ∀ (gv : Nat → Int32), (y ≤ bt 12) → (KyC gk y) → (KvT gk gv y (tabl y (fun j => keyN bt j) (fun j => nI (rdN bt (17 + 8 * j) 4)))) → bt 12 - y < N → ∀ (H : Heap) (locs : List Loc) (ls : Array Slot), va_P D vwCl [(ox 0, .inr (10, [.ref (ox 1), .ref (ox 2), .int 0, .ref (ob3 0), .ref (og 0), .ref (oq 0), .ref (ow 0)])), (ox 1, .inl (cT, 4, .inr (.inr (.inr (.inr ft))))), (ox 2, .inl (cI, 1400, .inl fT)), (ob 0, .inr (9, gT ob tb ts tg tl tc tr tu tv tw)), (ob 1, .inr (0, [.long sd, .int (nI da), .int (nI db), .int pr])), (ob 2, .inr (2, [.int (nI y), .ref (ob 3), .ref (ob 4)])), (ob 3, .inl (cI, 160, .inl gk)), (ob 4, .inl (cI, 160, .inl gv)), (ob 5, .inr (3, gY ob (nI nb) (nI ka) (nI kb) sm (nI ln))), (ob 6, .inl (cI, 2048, .inl fh)), (ob 7, .inl (cI, 2048, .inl ff)), (ob 8, .inl (cI, 2048, .inl fa)), (ob 9, .inl (cI, 2048, .inl fs)), (ob 10, .inl (cI, 160, .inl fj)), (ob 11, .inl (cI, 160, .inl fr)), (ob 12, .inl (cI, 160, .inl fo)), (ob 13, .inl (cI, 2048, .inl fx))] H → va_D A [(ox 0, .inr (10, [.ref (ox 1), .ref (ox 2), .int 0, .ref (ob3 0), .ref (og 0), .ref (oq 0), .ref (ow 0)])), (ox 1, .inl (cT, 4, .inr (.inr (.inr (.inr ft))))), (ox 2, .inl (cI, 1400, .inl fT)), (ob 0, .inr (9, gT ob tb ts tg tl tc tr tu tv tw)), (ob 1, .inr (0, [.long sd, .int (nI da), .int (nI db), .int pr])), (ob 2, .inr (2, [.int (nI y), .ref (ob 3), .ref (ob 4)])), (ob 3, .inl (cI, 160, .inl gk)), (ob 4, .inl (cI, 160, .inl gv)), (ob 5, .inr (3, gY ob (nI nb) (nI ka) (nI kb) sm (nI ln))), (ob 6, .inl (cI, 2048, .inl fh)), (ob 7, .inl (cI, 2048, .inl ff)), (ob 8, .inl (cI, 2048, .inl fa)), (ob 9, .inl (cI, 2048, .inl fs)), (ob 10, .inl (cI, 160, .inl fj)), (ob 11, .inl (cI, 160, .inl fr)), (ob 12, .inl (cI, 160, .inl fo)), (ob 13, .inl (cI, 2048, .inl fx))] → va_S A s.heap H locs → lv_has ls 7 [(5, .int (nI y)), (4, .int (fT 12)), (3, .ref (ob 0)), (0, .ref (ox 0))] → W p l e ({ frames := 8, cells := 0, slots := 0, locals := 300 }) s m args below meth c H locs 0 0 Q (F0 m 82 ls []) := by
  have hin_X9 : ∀ w ∈ wsX90, w ∈ wp_s_back := fun _ h => (List.mem_cons_of_mem _ (List.mem_append_right _ (List.mem_append_right _ (List.mem_append_right _ (List.mem_append_right _ (List.mem_append_right _ (List.mem_append_right _ (List.mem_append_right _ (List.mem_append_right _ (List.mem_append_right _ (List.mem_append_right _ (List.mem_append_left _ h))))))))))))
  have hin_X10 : ∀ w ∈ wsX100, w ∈ wp_s_back := fun _ h => (List.mem_cons_of_mem _ (List.mem_append_right _ (List.mem_append_right _ (List.mem_append_right _ (List.mem_append_right _ (List.mem_append_right _ (List.mem_append_right _ (List.mem_append_right _ (List.mem_append_right _ (List.mem_append_right _ (List.mem_append_right _ (List.mem_append_right _ (List.mem_append_left _ h)))))))))))))
  intro N
  induction N with
  | zero =>
    intro y gk gv hy1 hky hKl hm
    exact absurd hm (Nat.not_lt_zero _)
  | succ N ih =>
    intro y gk gv hy1 hky hKl hm H locs ls hP hD hS hl
    refine lv_iload hx hb dX10_back_82 (lv_at hl 0 rfl) ?_
    refine lv_iload hx hb dX10_back_84 (lv_at hl 1 rfl) ?_
    refine lv_icmp_ge (tgt := 134) hx hb dX10_back_86 (by decide) (fun hc1 => ?_) (fun hc1 => ?_)
    ·
      have hge : bt 12 ≤ y := ge_via (by omega) (by omega) hc1 h12e
      exact kx134 y gk gv (hy1) (hky) (hKl) (hge) H locs ls (hP.sub [0, 1, 2, 3, 4, 5, 6, 7, 8, 9, 10, 11, 12, 13, 14, 15, 16] rfl) (hD.sub [0, 1, 2, 3, 4, 5, 6, 7, 8, 9, 10, 11, 12, 13, 14, 15, 16] (by decide) rfl) hS (lv_sub hl [1, 2] rfl)
    ·
      have hlt : y < bt 12 := lt_via (by omega) (by omega) hc1 h12
      have hkx := hkl y hlt
      have ekx : rdI fT (13 + 8 * y) = nI (keyN bt y) := rd_tie hbt _
      refine lv_bipush (v := 13) hx hb dX10_back_89 (by decide) ?_
      refine lv_bipush (v := 8) hx hb dX10_back_91 (by decide) ?_
      refine lv_iload hx hb dX10_back_93 (lv_at hl 0 rfl) ?_
      refine lv_imul hx hb dX10_back_95 ?_
      refine lv_topi (fun v2 ev2 => ?_)
      obtain rfl : v2 = nI (8 * y) := ev2.trans (pk_mul 8 y)
      refine lv_iadd hx hb dX10_back_96 ?_
      refine lv_topi (fun v3 ev3 => ?_)
      obtain rfl : v3 = nI (13 + 8 * y) := ev3.trans (nI_add 13 _)
      refine lv_istore (lv' := [(6, .int (nI (13 + 8 * y))), (5, .int (nI y)), (4, .int (fT 12)), (3, .ref (ob 0)), (0, .ref (ox 0))]) hx hb dX10_back_97 hl (by decide) rfl (fun ls hl => ?_)
      refine lv_aload_n hx hb dX10_back_99 rfl (lv_at hl 3 rfl) ?_
      refine va_get (D := D) (ci := 9) (v := .ref (ob 2)) (C := RX9) (T := TX9) (N := 12) hx hb hts hin_X9 hown hK hP 3 rfl rfl 10 (by decide) (hts (.fieldLink RX10 93 "ClashFree$Table" "keys" "LClashFree$Keys;") (List.mem_of_getElem? (i := 1) rfl)) (fun _ h9 => h9) rfl dX10_back_100 ?_
      refine lv_iload hx hb dX10_back_103 (lv_at hl 1 rfl) ?_
      refine lv_aload_n hx hb dX10_back_105 rfl (lv_at hl 4 rfl) ?_
      refine va_get (D := D) (ci := 10) (v := .ref (ox 2)) (C := RX10) (T := TX10) (N := 7) hx hb hts hin_X10 hown hK hP 0 rfl rfl 1 (by decide) (hts (.fieldLink RX10 15 "ClashFree" "tape" "[I") (List.mem_of_getElem? (i := 2) rfl)) (fun _ h9 => h9) rfl dX10_back_106 ?_
      refine lv_iload hx hb dX10_back_109 (lv_at hl 0 rfl) ?_
      have hPc := hP.sub (ws' := [(ox 2, .inl (cI, 1400, .inl fT))]) [2] rfl
      have hKc := hK.sub (tys' := [(cI, .int)]) [0] rfl
      have hFc := va_free0 hS hA
      refine va_calli (va_runS (As := [.ref (ox 2), .int (nI (13 + 8 * y))]) (rest := [.int (nI y), .ref (ob 2)]) ⟨hx, hb, hml, hown, hts⟩ (k_readInt l D _ ox cI fT (13 + 8 * y) (by first | assumption | omega)) (va_cwS 2 hts g_s_back_k_readInt_334 rfl rfl rfl (by decide +kernel) ⟨(Nat.le_of_ble_eq_true rfl), (Nat.le_of_ble_eq_true rfl)⟩) (PcRC_S hPc hKc hN) rfl rfl hl.1 rfl (lv_room (Nat.le_of_ble_eq_true rfl)) dX10_back_111 ⟨(Nat.le_of_ble_eq_true rfl), (Nat.le_of_ble_eq_true rfl)⟩) hS (fun q _ h => hFc q h) hFc (fun r4 uu tt H locs htt hvm hw hB hz1 hk1 hS => ?_)
      have hP := va_keep hP hk1
      try dsimp only at hw
      clear hB hz1 hk1 hFc hPc hKc
      have ev_r4 := hw
      obtain rfl : r4 = nI (keyN bt y) := ev_r4.trans ekx
      refine lv_aload_n hx hb dX10_back_114 rfl (lv_at hl 4 rfl) ?_
      refine va_get (D := D) (ci := 10) (v := .ref (ox 2)) (C := RX10) (T := TX10) (N := 7) hx hb hts hin_X10 hown hK hP 0 rfl rfl 1 (by decide) (hts (.fieldLink RX10 15 "ClashFree" "tape" "[I") (List.mem_of_getElem? (i := 2) rfl)) (fun _ h9 => h9) rfl dX10_back_115 ?_
      refine lv_iload hx hb dX10_back_118 (lv_at hl 0 rfl) ?_
      refine lv_iconst (v := 4) hx hb dX10_back_120 (by decide) ?_
      refine lv_iadd hx hb dX10_back_121 ?_
      refine lv_topi (fun v5 ev5 => ?_)
      obtain rfl : v5 = nI (13 + 8 * y + 4) := ev5.trans (nI_add _ 4)
      have hPc := hP.sub (ws' := [(ox 2, .inl (cI, 1400, .inl fT))]) [2] rfl
      have hKc := hK.sub (tys' := [(cI, .int)]) [0] rfl
      have hFc := va_free0 hS hA
      refine va_calli (va_runS (As := [.ref (ox 2), .int (nI (13 + 8 * y + 4))]) (rest := [.int (nI (keyN bt y)), .int (nI y), .ref (ob 2)]) ⟨hx, hb, hml, hown, hts⟩ (k_readInt l D _ ox cI fT (13 + 8 * y + 4) (by first | assumption | omega)) (va_cwS 2 hts g_s_back_k_readInt_334 rfl rfl rfl (by decide +kernel) ⟨(Nat.le_of_ble_eq_true rfl), (Nat.le_of_ble_eq_true rfl)⟩) (PcRC_S hPc hKc hN) rfl rfl hl.1 rfl (lv_room (Nat.le_of_ble_eq_true rfl)) dX10_back_122 ⟨(Nat.le_of_ble_eq_true rfl), (Nat.le_of_ble_eq_true rfl)⟩) hS (fun q _ h => hFc q h) hFc (fun r6 uu tt H locs htt hvm hw hB hz1 hk1 hS => ?_)
      have hP := va_keep hP hk1
      try dsimp only at hw
      clear hB hz1 hk1 hFc hPc hKc
      have ev_r6 := hw
      obtain rfl : r6 = nI (rdN bt (17 + 8 * y) 4) := ev_r6.trans ((rd_tie hbt _).trans (by rw [show 13 + 8 * y + 4 = 17 + 8 * y by omega]))
      have hPc := hP.sub (ws' := [(ob 2, .inr (2, [.int (nI y), .ref (ob 3), .ref (ob 4)])), (ob 3, .inl (cI, 160, .inl gk)), (ob 4, .inl (cI, 160, .inl gv))]) [5, 6, 7] rfl
      have hKc := hK.sub (tys' := [(cI, .int)]) [0] rfl
      have hDc := hD.sub (ws' := [(ob 2, .inr (2, [.int (nI y), .ref (ob 3), .ref (ob 4)])), (ob 3, .inl (cI, 160, .inl gk)), (ob 4, .inl (cI, 160, .inl gv))]) [5, 6, 7] (by decide) rfl
      have hFc := va_free (wc := [(ob 2, .inr (2, [.int (nI y), .ref (ob 3), .ref (ob 4)])), (ob 3, .inl (cI, 160, .inl gk)), (ob 4, .inl (cI, 160, .inl gv))]) hD hS hA [5, 6, 7] rfl
      refine va_callv (va_runV (As := [.int (nI y), .int (nI (keyN bt y)), .int (nI (rdN bt (17 + 8 * y) 4))]) (rest := []) ⟨hx, hb, hml, hown, hts⟩ (k_kinsert l D _ ob cI y gk gv (nI y) (keyN bt y) (nI (rdN bt (17 + 8 * y) 4)) hky (by first | assumption | omega)) (cwV 3 hts g_s_back_k_kinsert_338 rfl rfl rfl (by decide +kernel) ⟨(Nat.le_of_ble_eq_true rfl), (Nat.le_of_ble_eq_true rfl)⟩) (PcWC_V (q0 := 0) hPc hKc hDc hN rfl rfl) rfl rfl hl.1 rfl (lv_room (Nat.le_of_ble_eq_true rfl)) dX10_back_125 ⟨(Nat.le_of_ble_eq_true rfl), (Nat.le_of_ble_eq_true rfl)⟩) hS (fun q _ h => hFc q h) hFc (fun uu tt H locs htt hvm hw hB hz1 hk1 hS => ?_)
      obtain ⟨w8, w9, w10⟩ := uu
      obtain ⟨hP1, hK1, hD1⟩ := hB
      rw [htt] at hP1
      have hK1 := va_K.moved hvm.symm hK1
      have hP1 : va_P D vwCl [(ob 2, .inr (2, [.int (nI w8), .ref (ob 3), .ref (ob 4)])), (ob 3, .inl (cI, 160, .inl w9)), (ob 4, .inl (cI, 160, .inl w10))] H := hP1
      obtain ⟨hP, hD⟩ := va_join (wr := [(ox 0, .inr (10, [.ref (ox 1), .ref (ox 2), .int 0, .ref (ob3 0), .ref (og 0), .ref (oq 0), .ref (ow 0)])), (ox 1, .inl (cT, 4, .inr (.inr (.inr (.inr ft))))), (ox 2, .inl (cI, 1400, .inl fT)), (ob 0, .inr (9, gT ob tb ts tg tl tc tr tu tv tw)), (ob 1, .inr (0, [.long sd, .int (nI da), .int (nI db), .int pr])), (ob 5, .inr (3, gY ob (nI nb) (nI ka) (nI kb) sm (nI ln))), (ob 6, .inl (cI, 2048, .inl fh)), (ob 7, .inl (cI, 2048, .inl ff)), (ob 8, .inl (cI, 2048, .inl fa)), (ob 9, .inl (cI, 2048, .inl fs)), (ob 10, .inl (cI, 160, .inl fj)), (ob 11, .inl (cI, 160, .inl fr)), (ob 12, .inl (cI, 160, .inl fo)), (ob 13, .inl (cI, 2048, .inl fx))]) (w1 := [(ob 2, .inr (2, [.int (nI w8), .ref (ob 3), .ref (ob 4)])), (ob 3, .inl (cI, 160, .inl w9)), (ob 4, .inl (cI, 160, .inl w10))]) hP hD [5, 6, 7] [0, 1, 2, 3, 4, 8, 9, 10, 11, 12, 13, 14, 15, 16] rfl rfl (by decide) (by decide) hk1 hFc hP1 hD1
      have hP : va_P D vwCl [(ox 0, .inr (10, [.ref (ox 1), .ref (ox 2), .int 0, .ref (ob3 0), .ref (og 0), .ref (oq 0), .ref (ow 0)])), (ox 1, .inl (cT, 4, .inr (.inr (.inr (.inr ft))))), (ox 2, .inl (cI, 1400, .inl fT)), (ob 0, .inr (9, gT ob tb ts tg tl tc tr tu tv tw)), (ob 1, .inr (0, [.long sd, .int (nI da), .int (nI db), .int pr])), (ob 5, .inr (3, gY ob (nI nb) (nI ka) (nI kb) sm (nI ln))), (ob 6, .inl (cI, 2048, .inl fh)), (ob 7, .inl (cI, 2048, .inl ff)), (ob 8, .inl (cI, 2048, .inl fa)), (ob 9, .inl (cI, 2048, .inl fs)), (ob 10, .inl (cI, 160, .inl fj)), (ob 11, .inl (cI, 160, .inl fr)), (ob 12, .inl (cI, 160, .inl fo)), (ob 13, .inl (cI, 2048, .inl fx)), (ob 2, .inr (2, [.int (nI w8), .ref (ob 3), .ref (ob 4)])), (ob 3, .inl (cI, 160, .inl w9)), (ob 4, .inl (cI, 160, .inl w10))] H := hP
      have hD : va_D A [(ox 0, .inr (10, [.ref (ox 1), .ref (ox 2), .int 0, .ref (ob3 0), .ref (og 0), .ref (oq 0), .ref (ow 0)])), (ox 1, .inl (cT, 4, .inr (.inr (.inr (.inr ft))))), (ox 2, .inl (cI, 1400, .inl fT)), (ob 0, .inr (9, gT ob tb ts tg tl tc tr tu tv tw)), (ob 1, .inr (0, [.long sd, .int (nI da), .int (nI db), .int pr])), (ob 5, .inr (3, gY ob (nI nb) (nI ka) (nI kb) sm (nI ln))), (ob 6, .inl (cI, 2048, .inl fh)), (ob 7, .inl (cI, 2048, .inl ff)), (ob 8, .inl (cI, 2048, .inl fa)), (ob 9, .inl (cI, 2048, .inl fs)), (ob 10, .inl (cI, 160, .inl fj)), (ob 11, .inl (cI, 160, .inl fr)), (ob 12, .inl (cI, 160, .inl fo)), (ob 13, .inl (cI, 2048, .inl fx)), (ob 2, .inr (2, [.int (nI w8), .ref (ob 3), .ref (ob 4)])), (ob 3, .inl (cI, 160, .inl w9)), (ob 4, .inl (cI, 160, .inl w10))] := hD
      try dsimp only at hw
      clear hz1 hk1 hFc hPc hKc hDc
      obtain ⟨hKc11, hKc11_v⟩ := hw
      obtain ⟨c1, c2, c3⟩ := hKc11_v y rfl (Nat.le_refl _) (by omega)
      obtain rfl : w8 = y + 1 := c1
      have hP : va_P D vwCl [(ox 0, .inr (10, [.ref (ox 1), .ref (ox 2), .int 0, .ref (ob3 0), .ref (og 0), .ref (oq 0), .ref (ow 0)])), (ox 1, .inl (cT, 4, .inr (.inr (.inr (.inr ft))))), (ox 2, .inl (cI, 1400, .inl fT)), (ob 0, .inr (9, gT ob tb ts tg tl tc tr tu tv tw)), (ob 1, .inr (0, [.long sd, .int (nI da), .int (nI db), .int pr])), (ob 5, .inr (3, gY ob (nI nb) (nI ka) (nI kb) sm (nI ln))), (ob 6, .inl (cI, 2048, .inl fh)), (ob 7, .inl (cI, 2048, .inl ff)), (ob 8, .inl (cI, 2048, .inl fa)), (ob 9, .inl (cI, 2048, .inl fs)), (ob 10, .inl (cI, 160, .inl fj)), (ob 11, .inl (cI, 160, .inl fr)), (ob 12, .inl (cI, 160, .inl fo)), (ob 13, .inl (cI, 2048, .inl fx)), (ob 2, .inr (2, [.int (nI (y + 1)), .ref (ob 3), .ref (ob 4)])), (ob 3, .inl (cI, 160, .inl w9)), (ob 4, .inl (cI, 160, .inl w10))] H := hP
      have hD : va_D A [(ox 0, .inr (10, [.ref (ox 1), .ref (ox 2), .int 0, .ref (ob3 0), .ref (og 0), .ref (oq 0), .ref (ow 0)])), (ox 1, .inl (cT, 4, .inr (.inr (.inr (.inr ft))))), (ox 2, .inl (cI, 1400, .inl fT)), (ob 0, .inr (9, gT ob tb ts tg tl tc tr tu tv tw)), (ob 1, .inr (0, [.long sd, .int (nI da), .int (nI db), .int pr])), (ob 5, .inr (3, gY ob (nI nb) (nI ka) (nI kb) sm (nI ln))), (ob 6, .inl (cI, 2048, .inl fh)), (ob 7, .inl (cI, 2048, .inl ff)), (ob 8, .inl (cI, 2048, .inl fa)), (ob 9, .inl (cI, 2048, .inl fs)), (ob 10, .inl (cI, 160, .inl fj)), (ob 11, .inl (cI, 160, .inl fr)), (ob 12, .inl (cI, 160, .inl fo)), (ob 13, .inl (cI, 2048, .inl fx)), (ob 2, .inr (2, [.int (nI (y + 1)), .ref (ob 3), .ref (ob 4)])), (ob 3, .inl (cI, 160, .inl w9)), (ob 4, .inl (cI, 160, .inl w10))] := hD
      have hK9 := KvT_app (K := fun j => keyN bt j) (V := fun j => nI (rdN bt (17 + 8 * j) 4)) hKl hkx (fun j hj => hkr j y hj hlt) (by omega) c2 c3
      refine lv_iinc (v := nI (y + 1)) (lv' := [(5, .int (nI (y + 1))), (6, .int (nI (13 + 8 * y))), (4, .int (fT 12)), (3, .ref (ob 0)), (0, .ref (ox 0))]) hx hb dX10_back_128 hl (k := 1) rfl (nI_1 _) (by decide) rfl (fun ls hl => ?_)
      refine lv_goto (tgt := 82) hx hb dX10_back_131 (by decide) ?_
      exact ih (y + 1) w9 w10 (by omega) (hKc11) (hK9) (by omega) H locs ls (hP.sub [0, 1, 2, 3, 4, 14, 15, 16, 5, 6, 7, 8, 9, 10, 11, 12, 13] rfl) (hD.sub [0, 1, 2, 3, 4, 14, 15, 16, 5, 6, 7, 8, 9, 10, 11, 12, 13] (by decide) rfl) hS (lv_sub hl [0, 2, 3, 4] rfl)
set_option maxHeartbeats 4000000 in
set_option maxRecDepth 100000 in
theorem s_back (l : Launch) (D : va_G) (sz : Nat) (ox : Nat → Nat) (ob3 : Nat → Nat) (og : Nat → Nat) (oq : Nat → Nat) (ow : Nat → Nat) (ob : Nat → Nat) (cI : ClassId) (cT : ClassId) (tp : Nat) (ft : Nat → Option Nat) (fT : Nat → Int32) (tb : Int32) (ts : Int32) (tg : Int32) (tl : Int32) (tc : Int32) (tr : Int32) (tu : Int32) (tv : Int32) (tw : Int32) (sd : Int64) (da : Nat) (db : Nat) (pr : Int32) (cn : Nat) (fk : Nat → Int32) (fv : Nat → Int32) (nb : Nat) (ka : Nat) (kb : Nat) (sm : Int32) (ln : Nat) (fh : Nat → Int32) (ff : Nat → Int32) (fa : Nat → Int32) (fs : Nat → Int32) (fj : Nat → Int32) (fr : Nat → Int32) (fo : Nat → Int32) (fx : Nat → Int32) (k : Nat) (bt : Nat → Nat) (hk : k < 4) (hft : ft k = some (ob 0)) (hTb : TbI fk fj fh fo cn nb ka kb ln da db) (htp : tp ≤ 1400) (hbt : TieC fT bt) : Met l yX10_back wp_s_back ({ frames := 8, cells := 0, slots := 0, locals := 300 }) (PcWC D [.ref (ox 0), .int (nI k)] sz [(ox 0, .inr (10, [.ref (ox 1), .ref (ox 2), .int (nI tp), .ref (ob3 0), .ref (og 0), .ref (oq 0), .ref (ow 0)])), (ox 1, .inl (cT, 4, .inr (.inr (.inr (.inr ft))))), (ox 2, .inl (cI, 1400, .inl fT)), (ob 0, .inr (9, gT ob tb ts tg tl tc tr tu tv tw)), (ob 1, .inr (0, [.long sd, .int (nI da), .int (nI db), .int pr])), (ob 2, .inr (2, [.int (nI cn), .ref (ob 3), .ref (ob 4)])), (ob 3, .inl (cI, 160, .inl fk)), (ob 4, .inl (cI, 160, .inl fv)), (ob 5, .inr (3, gY ob (nI nb) (nI ka) (nI kb) sm (nI ln))), (ob 6, .inl (cI, 2048, .inl fh)), (ob 7, .inl (cI, 2048, .inl ff)), (ob 8, .inl (cI, 2048, .inl fa)), (ob 9, .inl (cI, 2048, .inl fs)), (ob 10, .inl (cI, 160, .inl fj)), (ob 11, .inl (cI, 160, .inl fr)), (ob 12, .inl (cI, 160, .inl fo)), (ob 13, .inl (cI, 2048, .inl fx))] [(cI, .int), (cT, .object RX9)]) (va_Qi (fun (r : Int32) (u : (Nat) × (Int32) × (Int32) × (Int32) × (Int32) × (Int32) × (Int32) × (Int32) × (Int64) × (Int32) × (Nat) × (Int32) × (Int32) × (Nat) × (Nat) × (Nat) × (Nat) × (Nat) × (Int32) × (Nat) × (Nat → Int32) × (Nat → Int32) × (Nat → Int32) × (Nat → Int32) × (Nat → Int32) × (Nat → Int32) × (Nat → Int32) × (Nat → Int32) × (Nat → Int32) × (Nat → Int32)) => u.1 = 0 ∧ (TbI u.2.2.2.2.2.2.2.2.2.2.2.2.2.2.2.2.2.2.2.2.2.2.2.2.2.2.2.2.1 u.2.2.2.2.2.2.2.2.2.2.2.2.2.2.2.2.2.2.2.2.2.2.2.2.1 u.2.2.2.2.2.2.2.2.2.2.2.2.2.2.2.2.2.2.2.2.1 u.2.2.2.2.2.2.2.2.2.2.2.2.2.2.2.2.2.2.2.2.2.2.2.2.2.2.1 u.2.2.2.2.2.2.2.2.2.2.1 u.2.2.2.2.2.2.2.2.2.2.2.2.2.2.2.1 u.2.2.2.2.2.2.2.2.2.2.2.2.2.2.2.2.1 u.2.2.2.2.2.2.2.2.2.2.2.2.2.2.2.2.2.1 u.2.2.2.2.2.2.2.2.2.2.2.2.2.2.2.2.2.2.2.1 u.2.2.2.2.2.2.2.2.2.2.2.2.2.1 u.2.2.2.2.2.2.2.2.2.2.2.2.2.2.1) ∧ ((IMG bt tp ∧ r = nI (bt 12) ∧ KvT u.2.2.2.2.2.2.2.2.2.2.2.2.2.2.2.2.2.2.2.2.2.2.2.2.2.2.2.2.1 u.2.2.2.2.2.2.2.2.2.2.2.2.2.2.2.2.2.2.2.2.2.2.2.2.2.2.2.2.2 u.2.2.2.2.2.2.2.2.2.2.1 (imL bt)) ∨ (¬ IMG bt tp ∧ r = -1))) (fun (u : (Nat) × (Int32) × (Int32) × (Int32) × (Int32) × (Int32) × (Int32) × (Int32) × (Int64) × (Int32) × (Nat) × (Int32) × (Int32) × (Nat) × (Nat) × (Nat) × (Nat) × (Nat) × (Int32) × (Nat) × (Nat → Int32) × (Nat → Int32) × (Nat → Int32) × (Nat → Int32) × (Nat → Int32) × (Nat → Int32) × (Nat → Int32) × (Nat → Int32) × (Nat → Int32) × (Nat → Int32)) t => va_P D vwCl [(ox 0, .inr (10, [.ref (ox 1), .ref (ox 2), .int (nI u.1), .ref (ob3 0), .ref (og 0), .ref (oq 0), .ref (ow 0)])), (ox 1, .inl (cT, 4, .inr (.inr (.inr (.inr ft))))), (ox 2, .inl (cI, 1400, .inl fT)), (ob 0, .inr (9, gT ob u.2.1 u.2.2.1 u.2.2.2.1 u.2.2.2.2.2.2.2.2.2.2.2.1 u.2.2.2.2.2.2.2.2.2.2.2.2.1 u.2.2.2.2.1 u.2.2.2.2.2.1 u.2.2.2.2.2.2.1 u.2.2.2.2.2.2.2.1)), (ob 1, .inr (0, [.long u.2.2.2.2.2.2.2.2.1, .int (nI u.2.2.2.2.2.2.2.2.2.2.2.2.2.1), .int (nI u.2.2.2.2.2.2.2.2.2.2.2.2.2.2.1), .int u.2.2.2.2.2.2.2.2.2.1])), (ob 2, .inr (2, [.int (nI u.2.2.2.2.2.2.2.2.2.2.1), .ref (ob 3), .ref (ob 4)])), (ob 3, .inl (cI, 160, .inl u.2.2.2.2.2.2.2.2.2.2.2.2.2.2.2.2.2.2.2.2.2.2.2.2.2.2.2.2.1)), (ob 4, .inl (cI, 160, .inl u.2.2.2.2.2.2.2.2.2.2.2.2.2.2.2.2.2.2.2.2.2.2.2.2.2.2.2.2.2)), (ob 5, .inr (3, gY ob (nI u.2.2.2.2.2.2.2.2.2.2.2.2.2.2.2.1) (nI u.2.2.2.2.2.2.2.2.2.2.2.2.2.2.2.2.1) (nI u.2.2.2.2.2.2.2.2.2.2.2.2.2.2.2.2.2.1) u.2.2.2.2.2.2.2.2.2.2.2.2.2.2.2.2.2.2.1 (nI u.2.2.2.2.2.2.2.2.2.2.2.2.2.2.2.2.2.2.2.1))), (ob 6, .inl (cI, 2048, .inl u.2.2.2.2.2.2.2.2.2.2.2.2.2.2.2.2.2.2.2.2.1)), (ob 7, .inl (cI, 2048, .inl u.2.2.2.2.2.2.2.2.2.2.2.2.2.2.2.2.2.2.2.2.2.1)), (ob 8, .inl (cI, 2048, .inl u.2.2.2.2.2.2.2.2.2.2.2.2.2.2.2.2.2.2.2.2.2.2.1)), (ob 9, .inl (cI, 2048, .inl u.2.2.2.2.2.2.2.2.2.2.2.2.2.2.2.2.2.2.2.2.2.2.2.1)), (ob 10, .inl (cI, 160, .inl u.2.2.2.2.2.2.2.2.2.2.2.2.2.2.2.2.2.2.2.2.2.2.2.2.1)), (ob 11, .inl (cI, 160, .inl u.2.2.2.2.2.2.2.2.2.2.2.2.2.2.2.2.2.2.2.2.2.2.2.2.2.1)), (ob 12, .inl (cI, 160, .inl u.2.2.2.2.2.2.2.2.2.2.2.2.2.2.2.2.2.2.2.2.2.2.2.2.2.2.1)), (ob 13, .inl (cI, 2048, .inl u.2.2.2.2.2.2.2.2.2.2.2.2.2.2.2.2.2.2.2.2.2.2.2.2.2.2.2.1))] t.heap ∧ va_K D vwCl [(cI, .int), (cT, .object RX9)] t ∧ va_D (va_A [(ox 0, .inr (10, [.ref (ox 1), .ref (ox 2), .int (nI tp), .ref (ob3 0), .ref (og 0), .ref (oq 0), .ref (ow 0)])), (ox 1, .inl (cT, 4, .inr (.inr (.inr (.inr ft))))), (ox 2, .inl (cI, 1400, .inl fT)), (ob 0, .inr (9, gT ob tb ts tg tl tc tr tu tv tw)), (ob 1, .inr (0, [.long sd, .int (nI da), .int (nI db), .int pr])), (ob 2, .inr (2, [.int (nI cn), .ref (ob 3), .ref (ob 4)])), (ob 3, .inl (cI, 160, .inl fk)), (ob 4, .inl (cI, 160, .inl fv)), (ob 5, .inr (3, gY ob (nI nb) (nI ka) (nI kb) sm (nI ln))), (ob 6, .inl (cI, 2048, .inl fh)), (ob 7, .inl (cI, 2048, .inl ff)), (ob 8, .inl (cI, 2048, .inl fa)), (ob 9, .inl (cI, 2048, .inl fs)), (ob 10, .inl (cI, 160, .inl fj)), (ob 11, .inl (cI, 160, .inl fr)), (ob 12, .inl (cI, 160, .inl fo)), (ob 13, .inl (cI, 2048, .inl fx))] sz) [(ox 0, .inr (10, [.ref (ox 1), .ref (ox 2), .int (nI u.1), .ref (ob3 0), .ref (og 0), .ref (oq 0), .ref (ow 0)])), (ox 1, .inl (cT, 4, .inr (.inr (.inr (.inr ft))))), (ox 2, .inl (cI, 1400, .inl fT)), (ob 0, .inr (9, gT ob u.2.1 u.2.2.1 u.2.2.2.1 u.2.2.2.2.2.2.2.2.2.2.2.1 u.2.2.2.2.2.2.2.2.2.2.2.2.1 u.2.2.2.2.1 u.2.2.2.2.2.1 u.2.2.2.2.2.2.1 u.2.2.2.2.2.2.2.1)), (ob 1, .inr (0, [.long u.2.2.2.2.2.2.2.2.1, .int (nI u.2.2.2.2.2.2.2.2.2.2.2.2.2.1), .int (nI u.2.2.2.2.2.2.2.2.2.2.2.2.2.2.1), .int u.2.2.2.2.2.2.2.2.2.1])), (ob 2, .inr (2, [.int (nI u.2.2.2.2.2.2.2.2.2.2.1), .ref (ob 3), .ref (ob 4)])), (ob 3, .inl (cI, 160, .inl u.2.2.2.2.2.2.2.2.2.2.2.2.2.2.2.2.2.2.2.2.2.2.2.2.2.2.2.2.1)), (ob 4, .inl (cI, 160, .inl u.2.2.2.2.2.2.2.2.2.2.2.2.2.2.2.2.2.2.2.2.2.2.2.2.2.2.2.2.2)), (ob 5, .inr (3, gY ob (nI u.2.2.2.2.2.2.2.2.2.2.2.2.2.2.2.1) (nI u.2.2.2.2.2.2.2.2.2.2.2.2.2.2.2.2.1) (nI u.2.2.2.2.2.2.2.2.2.2.2.2.2.2.2.2.2.1) u.2.2.2.2.2.2.2.2.2.2.2.2.2.2.2.2.2.2.1 (nI u.2.2.2.2.2.2.2.2.2.2.2.2.2.2.2.2.2.2.2.1))), (ob 6, .inl (cI, 2048, .inl u.2.2.2.2.2.2.2.2.2.2.2.2.2.2.2.2.2.2.2.2.1)), (ob 7, .inl (cI, 2048, .inl u.2.2.2.2.2.2.2.2.2.2.2.2.2.2.2.2.2.2.2.2.2.1)), (ob 8, .inl (cI, 2048, .inl u.2.2.2.2.2.2.2.2.2.2.2.2.2.2.2.2.2.2.2.2.2.2.1)), (ob 9, .inl (cI, 2048, .inl u.2.2.2.2.2.2.2.2.2.2.2.2.2.2.2.2.2.2.2.2.2.2.2.1)), (ob 10, .inl (cI, 160, .inl u.2.2.2.2.2.2.2.2.2.2.2.2.2.2.2.2.2.2.2.2.2.2.2.2.1)), (ob 11, .inl (cI, 160, .inl u.2.2.2.2.2.2.2.2.2.2.2.2.2.2.2.2.2.2.2.2.2.2.2.2.2.1)), (ob 12, .inl (cI, 160, .inl u.2.2.2.2.2.2.2.2.2.2.2.2.2.2.2.2.2.2.2.2.2.2.2.2.2.2.1)), (ob 13, .inl (cI, 2048, .inl u.2.2.2.2.2.2.2.2.2.2.2.2.2.2.2.2.2.2.2.2.2.2.2.2.2.2.2.1))]) (va_A [(ox 0, .inr (10, [.ref (ox 1), .ref (ox 2), .int (nI tp), .ref (ob3 0), .ref (og 0), .ref (oq 0), .ref (ow 0)])), (ox 1, .inl (cT, 4, .inr (.inr (.inr (.inr ft))))), (ox 2, .inl (cI, 1400, .inl fT)), (ob 0, .inr (9, gT ob tb ts tg tl tc tr tu tv tw)), (ob 1, .inr (0, [.long sd, .int (nI da), .int (nI db), .int pr])), (ob 2, .inr (2, [.int (nI cn), .ref (ob 3), .ref (ob 4)])), (ob 3, .inl (cI, 160, .inl fk)), (ob 4, .inl (cI, 160, .inl fv)), (ob 5, .inr (3, gY ob (nI nb) (nI ka) (nI kb) sm (nI ln))), (ob 6, .inl (cI, 2048, .inl fh)), (ob 7, .inl (cI, 2048, .inl ff)), (ob 8, .inl (cI, 2048, .inl fa)), (ob 9, .inl (cI, 2048, .inl fs)), (ob 10, .inl (cI, 160, .inl fj)), (ob 11, .inl (cI, 160, .inl fr)), (ob 12, .inl (cI, 160, .inl fo)), (ob 13, .inl (cI, 2048, .inl fx))] sz)) 0 0 (va_A [(ox 0, .inr (10, [.ref (ox 1), .ref (ox 2), .int (nI tp), .ref (ob3 0), .ref (og 0), .ref (oq 0), .ref (ow 0)])), (ox 1, .inl (cT, 4, .inr (.inr (.inr (.inr ft))))), (ox 2, .inl (cI, 1400, .inl fT)), (ob 0, .inr (9, gT ob tb ts tg tl tc tr tu tv tw)), (ob 1, .inr (0, [.long sd, .int (nI da), .int (nI db), .int pr])), (ob 2, .inr (2, [.int (nI cn), .ref (ob 3), .ref (ob 4)])), (ob 3, .inl (cI, 160, .inl fk)), (ob 4, .inl (cI, 160, .inl fv)), (ob 5, .inr (3, gY ob (nI nb) (nI ka) (nI kb) sm (nI ln))), (ob 6, .inl (cI, 2048, .inl fh)), (ob 7, .inl (cI, 2048, .inl ff)), (ob 8, .inl (cI, 2048, .inl fa)), (ob 9, .inl (cI, 2048, .inl fs)), (ob 10, .inl (cI, 160, .inl fj)), (ob 11, .inl (cI, 160, .inl fr)), (ob 12, .inl (cI, 160, .inl fo)), (ob 13, .inl (cI, 2048, .inl fx))] sz) := by
  refine Met.ofW (cc := cX10_back) (maxL := 7) (ret := (some .int)) (by decide) rfl ?_
  intro p e s m args below meth c s₁ B hml hv
  obtain ⟨rfl, hsz, hP, hK, hD0, hN⟩ := hv
  have hx := B.exec
  have hb := B.bytes
  have hr := B.returns
  have hts := atoms_spec (ws := wp_s_back) B.pre
  have hin_X9 : ∀ w ∈ wsX90, w ∈ wp_s_back := fun _ h => (List.mem_cons_of_mem _ (List.mem_append_right _ (List.mem_append_right _ (List.mem_append_right _ (List.mem_append_right _ (List.mem_append_right _ (List.mem_append_right _ (List.mem_append_right _ (List.mem_append_right _ (List.mem_append_right _ (List.mem_append_right _ (List.mem_append_left _ h))))))))))))
  have hin_X10 : ∀ w ∈ wsX100, w ∈ wp_s_back := fun _ h => (List.mem_cons_of_mem _ (List.mem_append_right _ (List.mem_append_right _ (List.mem_append_right _ (List.mem_append_right _ (List.mem_append_right _ (List.mem_append_right _ (List.mem_append_right _ (List.mem_append_right _ (List.mem_append_right _ (List.mem_append_right _ (List.mem_append_right _ (List.mem_append_left _ h)))))))))))))
  have hown : s.vm.findClass RX10 = some m.cls := findClass_of_methodNamed B.named
  have hlocks := B.notSynchronized
  subst hsz
  have hD := hD0.self (sz := s.heap.size)
  generalize hAe : va_A [(ox 0, .inr (10, [.ref (ox 1), .ref (ox 2), .int (nI tp), .ref (ob3 0), .ref (og 0), .ref (oq 0), .ref (ow 0)])), (ox 1, .inl (cT, 4, .inr (.inr (.inr (.inr ft))))), (ox 2, .inl (cI, 1400, .inl fT)), (ob 0, .inr (9, gT ob tb ts tg tl tc tr tu tv tw)), (ob 1, .inr (0, [.long sd, .int (nI da), .int (nI db), .int pr])), (ob 2, .inr (2, [.int (nI cn), .ref (ob 3), .ref (ob 4)])), (ob 3, .inl (cI, 160, .inl fk)), (ob 4, .inl (cI, 160, .inl fv)), (ob 5, .inr (3, gY ob (nI nb) (nI ka) (nI kb) sm (nI ln))), (ob 6, .inl (cI, 2048, .inl fh)), (ob 7, .inl (cI, 2048, .inl ff)), (ob 8, .inl (cI, 2048, .inl fa)), (ob 9, .inl (cI, 2048, .inl fs)), (ob 10, .inl (cI, 160, .inl fj)), (ob 11, .inl (cI, 160, .inl fr)), (ob 12, .inl (cI, 160, .inl fo)), (ob 13, .inl (cI, 2048, .inl fx))] s.heap.size = A at hD ⊢
  have hA : ∀ q : Nat, s.heap.size ≤ q → A q := fun q h => by rw [← hAe]; exact Or.inr h
  have hS : va_S A s.heap s.heap [] := va_S.rf
  have hP : va_P D vwCl [(ox 0, .inr (10, [.ref (ox 1), .ref (ox 2), .int (nI tp), .ref (ob3 0), .ref (og 0), .ref (oq 0), .ref (ow 0)])), (ox 1, .inl (cT, 4, .inr (.inr (.inr (.inr ft))))), (ox 2, .inl (cI, 1400, .inl fT)), (ob 0, .inr (9, gT ob tb ts tg tl tc tr tu tv tw)), (ob 1, .inr (0, [.long sd, .int (nI da), .int (nI db), .int pr])), (ob 2, .inr (2, [.int (nI cn), .ref (ob 3), .ref (ob 4)])), (ob 3, .inl (cI, 160, .inl fk)), (ob 4, .inl (cI, 160, .inl fv)), (ob 5, .inr (3, gY ob (nI nb) (nI ka) (nI kb) sm (nI ln))), (ob 6, .inl (cI, 2048, .inl fh)), (ob 7, .inl (cI, 2048, .inl ff)), (ob 8, .inl (cI, 2048, .inl fa)), (ob 9, .inl (cI, 2048, .inl fs)), (ob 10, .inl (cI, 160, .inl fj)), (ob 11, .inl (cI, 160, .inl fr)), (ob 12, .inl (cI, 160, .inl fo)), (ob 13, .inl (cI, 2048, .inl fx))] s.heap := hP
  have hl := lv_entry ([.ref (ox 0), .int (nI k)]) (n := 7) (Nat.le_of_ble_eq_true rfl)
  rw [lg_entry_eq]
  generalize (lg_sl ([.ref (ox 0), .int (nI k)]) ++ List.replicate (7 - (lg_sl ([.ref (ox 0), .int (nI k)])).length) Slot.unset).toArray = ls at hl ⊢
  have hl : lv_has ls 7 [(0, .ref (ox 0)), (1, .int (nI k))] := hl
  obtain ⟨hky, hL, hO, hn1, hka, hkb, hda, hdb⟩ := id hTb
  have hnb := hL.1
  have hln := hL.2.1
  have hc := hky.1
  have hcz := hky.1
  refine lv_iload_n hx hb dX10_back_0 rfl (lv_at hl 1 rfl) ?_
  have hPc := hP.sub (ws' := []) [] rfl
  have hKc := hK.sub (tys' := []) [] rfl
  have hFc := va_free0 hS hA
  refine va_calli (va_runS (As := [.int (nI k)]) (rest := []) ⟨hx, hb, hml, hown, hts⟩ (k_isTN l D _ cI (nI k)) (va_cwS 1 hts g_s_back_k_isTN_55 rfl rfl rfl (by decide +kernel) ⟨(Nat.le_of_ble_eq_true rfl), (Nat.le_of_ble_eq_true rfl)⟩) (PcRC_S hPc hKc hN) rfl rfl hl.1 rfl (lv_room (Nat.le_of_ble_eq_true rfl)) dX10_back_1 ⟨(Nat.le_of_ble_eq_true rfl), (Nat.le_of_ble_eq_true rfl)⟩) hS (fun q _ h => hFc q h) hFc (fun r1 uu tt H locs htt hvm hw hB hz1 hk1 hS => ?_)
  have hP := va_keep hP hk1
  try dsimp only at hw
  clear hB hz1 hk1 hFc hPc hKc
  rcases hw with ⟨rfl, hA_r1⟩ | ⟨rfl, hA_r1⟩
  ·
    refine lv_if_ne (tgt := 10) hx hb dX10_back_4 (by decide) (fun hc => ?_) (fun hc => absurd hc (by decide))
    refine lv_aload_n hx hb dX10_back_10 rfl (lv_at hl 0 rfl) ?_
    refine va_get (D := D) (ci := 10) (v := .int (nI tp)) (C := RX10) (T := TX10) (N := 7) hx hb hts hin_X10 hown hK hP 0 rfl rfl 2 (by decide) (hts (.fieldLink RX10 19 "ClashFree" "taped" "I") (List.mem_of_getElem? (i := 12) rfl)) (fun _ h9 => h9) rfl dX10_back_11 ?_
    refine lv_istore_n (lv' := [(2, .int (nI tp)), (0, .ref (ox 0)), (1, .int (nI k))]) hx hb dX10_back_14 rfl hl (by decide) rfl (fun ls hl => ?_)
    refine lv_aload_n hx hb dX10_back_15 rfl (lv_at hl 1 rfl) ?_
    refine lv_iconst (v := 0) hx hb dX10_back_16 (by decide) ?_
    refine va_put (D := D) (ci := 10) (v := .int 0) (ty := .int) (C := RX10) (T := TX10) (N := 7) hx hb hts hin_X10 tyX10 tyX10_ok nmX10 hown hK hP hD hS 0 rfl rfl 2 (by decide) (hts (.fieldLink RX10 19 "ClashFree" "taped" "I") (List.mem_of_getElem? (i := 12) rfl)) (fun _ h9 => h9) rfl (by decide +kernel) rfl rfl (Nat.le_of_ble_eq_true rfl) dX10_back_17 (fun H locs hP hD hS => ?_)
    have hP : va_P D vwCl [(ox 0, .inr (10, [.ref (ox 1), .ref (ox 2), .int 0, .ref (ob3 0), .ref (og 0), .ref (oq 0), .ref (ow 0)])), (ox 1, .inl (cT, 4, .inr (.inr (.inr (.inr ft))))), (ox 2, .inl (cI, 1400, .inl fT)), (ob 0, .inr (9, gT ob tb ts tg tl tc tr tu tv tw)), (ob 1, .inr (0, [.long sd, .int (nI da), .int (nI db), .int pr])), (ob 2, .inr (2, [.int (nI cn), .ref (ob 3), .ref (ob 4)])), (ob 3, .inl (cI, 160, .inl fk)), (ob 4, .inl (cI, 160, .inl fv)), (ob 5, .inr (3, gY ob (nI nb) (nI ka) (nI kb) sm (nI ln))), (ob 6, .inl (cI, 2048, .inl fh)), (ob 7, .inl (cI, 2048, .inl ff)), (ob 8, .inl (cI, 2048, .inl fa)), (ob 9, .inl (cI, 2048, .inl fs)), (ob 10, .inl (cI, 160, .inl fj)), (ob 11, .inl (cI, 160, .inl fr)), (ob 12, .inl (cI, 160, .inl fo)), (ob 13, .inl (cI, 2048, .inl fx))] H := hP
    have hD : va_D A [(ox 0, .inr (10, [.ref (ox 1), .ref (ox 2), .int 0, .ref (ob3 0), .ref (og 0), .ref (oq 0), .ref (ow 0)])), (ox 1, .inl (cT, 4, .inr (.inr (.inr (.inr ft))))), (ox 2, .inl (cI, 1400, .inl fT)), (ob 0, .inr (9, gT ob tb ts tg tl tc tr tu tv tw)), (ob 1, .inr (0, [.long sd, .int (nI da), .int (nI db), .int pr])), (ob 2, .inr (2, [.int (nI cn), .ref (ob 3), .ref (ob 4)])), (ob 3, .inl (cI, 160, .inl fk)), (ob 4, .inl (cI, 160, .inl fv)), (ob 5, .inr (3, gY ob (nI nb) (nI ka) (nI kb) sm (nI ln))), (ob 6, .inl (cI, 2048, .inl fh)), (ob 7, .inl (cI, 2048, .inl ff)), (ob 8, .inl (cI, 2048, .inl fa)), (ob 9, .inl (cI, 2048, .inl fs)), (ob 10, .inl (cI, 160, .inl fj)), (ob 11, .inl (cI, 160, .inl fr)), (ob 12, .inl (cI, 160, .inl fo)), (ob 13, .inl (cI, 2048, .inl fx))] := hD
    refine lv_aload_n hx hb dX10_back_20 rfl (lv_at hl 1 rfl) ?_
    refine va_get (D := D) (ci := 10) (v := .ref (ox 2)) (C := RX10) (T := TX10) (N := 7) hx hb hts hin_X10 hown hK hP 0 rfl rfl 1 (by decide) (hts (.fieldLink RX10 15 "ClashFree" "tape" "[I") (List.mem_of_getElem? (i := 2) rfl)) (fun _ h9 => h9) rfl dX10_back_21 ?_
    refine lv_iload_n hx hb dX10_back_24 rfl (lv_at hl 0 rfl) ?_
    have hPc := hP.sub (ws' := [(ox 2, .inl (cI, 1400, .inl fT))]) [2] rfl
    have hKc := hK.sub (tys' := [(cI, .int)]) [0] rfl
    have hFc := va_free0 hS hA
    refine va_calli (va_runS (As := [.ref (ox 2), .int (nI tp)]) (rest := []) ⟨hx, hb, hml, hown, hts⟩ (k_isImg l D _ ox cI fT tp bt htp hbt) (va_cwS 2 hts g_s_back_k_isImg_322 rfl rfl rfl (by decide +kernel) ⟨(Nat.le_of_ble_eq_true rfl), (Nat.le_of_ble_eq_true rfl)⟩) (PcRC_S hPc hKc hN) rfl rfl hl.1 rfl (lv_room (Nat.le_of_ble_eq_true rfl)) dX10_back_25 ⟨(Nat.le_of_ble_eq_true rfl), (Nat.le_of_ble_eq_true rfl)⟩) hS (fun q _ h => hFc q h) hFc (fun r2 uu tt H locs htt hvm hw hB hz1 hk1 hS => ?_)
    have hP := va_keep hP hk1
    try dsimp only at hw
    clear hB hz1 hk1 hFc hPc hKc
    rcases hw with ⟨rfl, hA_r2⟩ | ⟨rfl, hA_r2⟩
    ·
      obtain ⟨⟨y0, hy0, h12, hks⟩, himg⟩ := hA_r2
      refine lv_if_ne (tgt := 33) hx hb dX10_back_28 (by decide) (fun hc => ?_) (fun hc => absurd hc (by decide))
      refine lv_aload_n hx hb dX10_back_33 rfl (lv_at hl 1 rfl) ?_
      refine lv_iload_n hx hb dX10_back_34 rfl (lv_at hl 2 rfl) ?_
      have hPc := hP.sub (ws' := [(ox 0, .inr (10, [.ref (ox 1), .ref (ox 2), .int (nI 0), .ref (ob3 0), .ref (og 0), .ref (oq 0), .ref (ow 0)])), (ox 1, .inl (cT, 4, .inr (.inr (.inr (.inr ft)))))]) [0, 1] rfl
      have hKc := hK.sub (tys' := [(cT, .object RX9)]) [1] rfl
      have hFc := va_free0 hS hA
      refine va_callq (va_runV (As := [.int (nI k)]) (rest := []) ⟨hx, hb, hml, hown, hts⟩ (k_slotS l D _ ox ob3 og oq ow cI cT 0 ft k (ob 0) hk hft) (cwV 1 hts g_s_back_k_slotS_63 rfl rfl rfl (by decide +kernel) ⟨(Nat.le_of_ble_eq_true rfl), (Nat.le_of_ble_eq_true rfl)⟩) (PcRC_V (q0 := 0) hPc hKc hN rfl rfl) rfl rfl hl.1 rfl (lv_room (Nat.le_of_ble_eq_true rfl)) dX10_back_35 ⟨(Nat.le_of_ble_eq_true rfl), (Nat.le_of_ble_eq_true rfl)⟩) hS (fun q _ h => hFc q h) hFc (fun r3 uu tt H locs htt hvm hw hB hz1 hk1 hS => ?_)
      have hP := va_keep hP hk1
      try dsimp only at hw
      clear hB hz1 hk1 hFc hPc hKc
      obtain rfl : r3 = some (ob 0) := hw
      refine W.eq (g2 := F0 m 38 ls [.ref (ob 0)]) rfl ?_
      refine lv_astore_n (lv' := [(3, .ref (ob 0)), (2, .int (nI tp)), (0, .ref (ox 0)), (1, .int (nI k))]) hx hb dX10_back_38 rfl hl (by decide) rfl (fun ls hl => ?_)
      refine lv_aload_n hx hb dX10_back_39 rfl (lv_at hl 0 rfl) ?_
      refine lv_aload_n hx hb dX10_back_40 rfl (lv_at hl 2 rfl) ?_
      refine va_get (D := D) (ci := 10) (v := .ref (ox 2)) (C := RX10) (T := TX10) (N := 7) hx hb hts hin_X10 hown hK hP 0 rfl rfl 1 (by decide) (hts (.fieldLink RX10 15 "ClashFree" "tape" "[I") (List.mem_of_getElem? (i := 2) rfl)) (fun _ h9 => h9) rfl dX10_back_41 ?_
      refine lv_iconst (v := 0) hx hb dX10_back_44 (by decide) ?_
      refine va_iald hx hb hK hP 2 0 rfl rfl (show ¬ ((0 : Int32) < 0 ∨ 1400 ≤ Int32.toNatClampNeg 0) by decide) dX10_back_45 ?_
      refine lv_topi (fun v4 ev4 => ?_)
      obtain rfl : v4 = fT 0 := ev4.trans (rfl)
      refine lv_aload_n hx hb dX10_back_46 rfl (lv_at hl 2 rfl) ?_
      refine va_get (D := D) (ci := 10) (v := .ref (ox 2)) (C := RX10) (T := TX10) (N := 7) hx hb hts hin_X10 hown hK hP 0 rfl rfl 1 (by decide) (hts (.fieldLink RX10 15 "ClashFree" "tape" "[I") (List.mem_of_getElem? (i := 2) rfl)) (fun _ h9 => h9) rfl dX10_back_47 ?_
      have hPc := hP.sub (ws' := [(ox 2, .inl (cI, 1400, .inl fT))]) [2] rfl
      have hKc := hK.sub (tys' := [(cI, .int)]) [0] rfl
      have hFc := va_free0 hS hA
      refine va_calli (va_runS (As := [.ref (ox 2)]) (rest := [.int (fT 0), .ref (ob 0)]) ⟨hx, hb, hml, hown, hts⟩ (k_spreadOf l D _ ox cI fT) (va_cwS 1 hts g_s_back_k_spreadOf_326 rfl rfl rfl (by decide +kernel) ⟨(Nat.le_of_ble_eq_true rfl), (Nat.le_of_ble_eq_true rfl)⟩) (PcRC_S hPc hKc hN) rfl rfl hl.1 rfl (lv_room (Nat.le_of_ble_eq_true rfl)) dX10_back_50 ⟨(Nat.le_of_ble_eq_true rfl), (Nat.le_of_ble_eq_true rfl)⟩) hS (fun q _ h => hFc q h) hFc (fun r5 uu tt H locs htt hvm hw hB hz1 hk1 hS => ?_)
      have hP := va_keep hP hk1
      try dsimp only at hw
      clear hB hz1 hk1 hFc hPc hKc
      have esp := hw
      refine lv_aload_n hx hb dX10_back_53 rfl (lv_at hl 2 rfl) ?_
      refine va_get (D := D) (ci := 10) (v := .ref (ox 2)) (C := RX10) (T := TX10) (N := 7) hx hb hts hin_X10 hown hK hP 0 rfl rfl 1 (by decide) (hts (.fieldLink RX10 15 "ClashFree" "tape" "[I") (List.mem_of_getElem? (i := 2) rfl)) (fun _ h9 => h9) rfl dX10_back_54 ?_
      refine lv_iconst (v := 3) hx hb dX10_back_57 (by decide) ?_
      refine va_iald hx hb hK hP 2 0 rfl rfl (show ¬ ((3 : Int32) < 0 ∨ 1400 ≤ Int32.toNatClampNeg 3) by decide) dX10_back_58 ?_
      refine lv_topi (fun v6 ev6 => ?_)
      obtain rfl : v6 = fT 3 := ev6.trans (rfl)
      refine lv_aload_n hx hb dX10_back_59 rfl (lv_at hl 2 rfl) ?_
      refine va_get (D := D) (ci := 10) (v := .ref (ox 2)) (C := RX10) (T := TX10) (N := 7) hx hb hts hin_X10 hown hK hP 0 rfl rfl 1 (by decide) (hts (.fieldLink RX10 15 "ClashFree" "tape" "[I") (List.mem_of_getElem? (i := 2) rfl)) (fun _ h9 => h9) rfl dX10_back_60 ?_
      refine lv_iconst (v := 4) hx hb dX10_back_63 (by decide) ?_
      have hPc := hP.sub (ws' := [(ox 2, .inl (cI, 1400, .inl fT))]) [2] rfl
      have hKc := hK.sub (tys' := [(cI, .int)]) [0] rfl
      have hFc := va_free0 hS hA
      refine va_calll (va_runS (As := [.ref (ox 2), .int (nI 4)]) (rest := [.int (fT 3), .int r5, .int (fT 0), .ref (ob 0)]) ⟨hx, hb, hml, hown, hts⟩ (k_readLong l D _ ox cI fT 4 (by first | assumption | omega)) (va_cwS 2 hts g_s_back_k_readLong_330 rfl rfl rfl (by decide +kernel) ⟨(Nat.le_of_ble_eq_true rfl), (Nat.le_of_ble_eq_true rfl)⟩) (PcRC_S hPc hKc hN) rfl rfl hl.1 rfl (lv_room (Nat.le_of_ble_eq_true rfl)) dX10_back_64 ⟨(Nat.le_of_ble_eq_true rfl), (Nat.le_of_ble_eq_true rfl)⟩) hS (fun q _ h => hFc q h) hFc (fun r7 uu tt H locs htt hvm hw hB hz1 hk1 hS => ?_)
      have hP := va_keep hP hk1
      try dsimp only at hw
      clear hB hz1 hk1 hFc hPc hKc
      have hPc := hP.sub (ws' := [(ob 0, .inr (9, gT ob tb ts tg tl tc tr tu tv tw)), (ob 1, .inr (0, [.long sd, .int (nI da), .int (nI db), .int pr])), (ob 2, .inr (2, [.int (nI cn), .ref (ob 3), .ref (ob 4)]))]) [3, 4, 5] rfl
      have hKc := hK.sub (tys' := []) [] rfl
      have hDc := hD.sub (ws' := [(ob 0, .inr (9, gT ob tb ts tg tl tc tr tu tv tw)), (ob 1, .inr (0, [.long sd, .int (nI da), .int (nI db), .int pr])), (ob 2, .inr (2, [.int (nI cn), .ref (ob 3), .ref (ob 4)]))]) [3, 4, 5] (by decide) rfl
      have hFc := va_free (wc := [(ob 0, .inr (9, gT ob tb ts tg tl tc tr tu tv tw)), (ob 1, .inr (0, [.long sd, .int (nI da), .int (nI db), .int pr])), (ob 2, .inr (2, [.int (nI cn), .ref (ob 3), .ref (ob 4)]))]) hD hS hA [3, 4, 5] rfl
      refine va_callv (va_runV (As := [.int (fT 0), .int r5, .int (fT 3), .long r7]) (rest := []) ⟨hx, hb, hml, hown, hts⟩ (k_tbegin l D _ ob cI tb ts tg tl tc tr tu tv tw sd da db pr cn (fT 0) r5 (fT 3) r7) (cwV 4 hts g_s_back_k_tbegin_67 rfl rfl rfl (by decide +kernel) ⟨(Nat.le_of_ble_eq_true rfl), (Nat.le_of_ble_eq_true rfl)⟩) (PcWC_V (q0 := 0) hPc hKc hDc hN rfl rfl) rfl rfl hl.1 rfl (lv_room (Nat.le_of_ble_eq_true rfl)) dX10_back_67 ⟨(Nat.le_of_ble_eq_true rfl), (Nat.le_of_ble_eq_true rfl)⟩) hS (fun q _ h => hFc q h) hFc (fun uu tt H locs htt hvm hw hB hz1 hk1 hS => ?_)
      obtain ⟨w9, w10, w11, w12, w13, w14, w15, w16, w17, w18⟩ := uu
      obtain ⟨hP1, hK1, hD1⟩ := hB
      rw [htt] at hP1
      have hK1 := va_K.moved hvm.symm hK1
      have hP1 : va_P D vwCl [(ob 0, .inr (9, gT ob w9 w10 w11 tl tc w12 w13 w14 w15)), (ob 1, .inr (0, [.long w16, .int (nI da), .int (nI db), .int w17])), (ob 2, .inr (2, [.int (nI w18), .ref (ob 3), .ref (ob 4)]))] H := hP1
      obtain ⟨hP, hD⟩ := va_join (wr := [(ox 0, .inr (10, [.ref (ox 1), .ref (ox 2), .int 0, .ref (ob3 0), .ref (og 0), .ref (oq 0), .ref (ow 0)])), (ox 1, .inl (cT, 4, .inr (.inr (.inr (.inr ft))))), (ox 2, .inl (cI, 1400, .inl fT)), (ob 3, .inl (cI, 160, .inl fk)), (ob 4, .inl (cI, 160, .inl fv)), (ob 5, .inr (3, gY ob (nI nb) (nI ka) (nI kb) sm (nI ln))), (ob 6, .inl (cI, 2048, .inl fh)), (ob 7, .inl (cI, 2048, .inl ff)), (ob 8, .inl (cI, 2048, .inl fa)), (ob 9, .inl (cI, 2048, .inl fs)), (ob 10, .inl (cI, 160, .inl fj)), (ob 11, .inl (cI, 160, .inl fr)), (ob 12, .inl (cI, 160, .inl fo)), (ob 13, .inl (cI, 2048, .inl fx))]) (w1 := [(ob 0, .inr (9, gT ob w9 w10 w11 tl tc w12 w13 w14 w15)), (ob 1, .inr (0, [.long w16, .int (nI da), .int (nI db), .int w17])), (ob 2, .inr (2, [.int (nI w18), .ref (ob 3), .ref (ob 4)]))]) hP hD [3, 4, 5] [0, 1, 2, 6, 7, 8, 9, 10, 11, 12, 13, 14, 15, 16] rfl rfl (by decide) (by decide) hk1 hFc hP1 hD1
      have hP : va_P D vwCl [(ox 0, .inr (10, [.ref (ox 1), .ref (ox 2), .int 0, .ref (ob3 0), .ref (og 0), .ref (oq 0), .ref (ow 0)])), (ox 1, .inl (cT, 4, .inr (.inr (.inr (.inr ft))))), (ox 2, .inl (cI, 1400, .inl fT)), (ob 3, .inl (cI, 160, .inl fk)), (ob 4, .inl (cI, 160, .inl fv)), (ob 5, .inr (3, gY ob (nI nb) (nI ka) (nI kb) sm (nI ln))), (ob 6, .inl (cI, 2048, .inl fh)), (ob 7, .inl (cI, 2048, .inl ff)), (ob 8, .inl (cI, 2048, .inl fa)), (ob 9, .inl (cI, 2048, .inl fs)), (ob 10, .inl (cI, 160, .inl fj)), (ob 11, .inl (cI, 160, .inl fr)), (ob 12, .inl (cI, 160, .inl fo)), (ob 13, .inl (cI, 2048, .inl fx)), (ob 0, .inr (9, gT ob w9 w10 w11 tl tc w12 w13 w14 w15)), (ob 1, .inr (0, [.long w16, .int (nI da), .int (nI db), .int w17])), (ob 2, .inr (2, [.int (nI w18), .ref (ob 3), .ref (ob 4)]))] H := hP
      have hD : va_D A [(ox 0, .inr (10, [.ref (ox 1), .ref (ox 2), .int 0, .ref (ob3 0), .ref (og 0), .ref (oq 0), .ref (ow 0)])), (ox 1, .inl (cT, 4, .inr (.inr (.inr (.inr ft))))), (ox 2, .inl (cI, 1400, .inl fT)), (ob 3, .inl (cI, 160, .inl fk)), (ob 4, .inl (cI, 160, .inl fv)), (ob 5, .inr (3, gY ob (nI nb) (nI ka) (nI kb) sm (nI ln))), (ob 6, .inl (cI, 2048, .inl fh)), (ob 7, .inl (cI, 2048, .inl ff)), (ob 8, .inl (cI, 2048, .inl fa)), (ob 9, .inl (cI, 2048, .inl fs)), (ob 10, .inl (cI, 160, .inl fj)), (ob 11, .inl (cI, 160, .inl fr)), (ob 12, .inl (cI, 160, .inl fo)), (ob 13, .inl (cI, 2048, .inl fx)), (ob 0, .inr (9, gT ob w9 w10 w11 tl tc w12 w13 w14 w15)), (ob 1, .inr (0, [.long w16, .int (nI da), .int (nI db), .int w17])), (ob 2, .inr (2, [.int (nI w18), .ref (ob 3), .ref (ob 4)]))] := hD
      try dsimp only at hw
      clear hz1 hk1 hFc hPc hKc hDc
      obtain rfl : w18 = 0 := hw
      have hP : va_P D vwCl [(ox 0, .inr (10, [.ref (ox 1), .ref (ox 2), .int 0, .ref (ob3 0), .ref (og 0), .ref (oq 0), .ref (ow 0)])), (ox 1, .inl (cT, 4, .inr (.inr (.inr (.inr ft))))), (ox 2, .inl (cI, 1400, .inl fT)), (ob 3, .inl (cI, 160, .inl fk)), (ob 4, .inl (cI, 160, .inl fv)), (ob 5, .inr (3, gY ob (nI nb) (nI ka) (nI kb) sm (nI ln))), (ob 6, .inl (cI, 2048, .inl fh)), (ob 7, .inl (cI, 2048, .inl ff)), (ob 8, .inl (cI, 2048, .inl fa)), (ob 9, .inl (cI, 2048, .inl fs)), (ob 10, .inl (cI, 160, .inl fj)), (ob 11, .inl (cI, 160, .inl fr)), (ob 12, .inl (cI, 160, .inl fo)), (ob 13, .inl (cI, 2048, .inl fx)), (ob 0, .inr (9, gT ob w9 w10 w11 tl tc w12 w13 w14 w15)), (ob 1, .inr (0, [.long w16, .int (nI da), .int (nI db), .int w17])), (ob 2, .inr (2, [.int 0, .ref (ob 3), .ref (ob 4)]))] H := hP
      have hD : va_D A [(ox 0, .inr (10, [.ref (ox 1), .ref (ox 2), .int 0, .ref (ob3 0), .ref (og 0), .ref (oq 0), .ref (ow 0)])), (ox 1, .inl (cT, 4, .inr (.inr (.inr (.inr ft))))), (ox 2, .inl (cI, 1400, .inl fT)), (ob 3, .inl (cI, 160, .inl fk)), (ob 4, .inl (cI, 160, .inl fv)), (ob 5, .inr (3, gY ob (nI nb) (nI ka) (nI kb) sm (nI ln))), (ob 6, .inl (cI, 2048, .inl fh)), (ob 7, .inl (cI, 2048, .inl ff)), (ob 8, .inl (cI, 2048, .inl fa)), (ob 9, .inl (cI, 2048, .inl fs)), (ob 10, .inl (cI, 160, .inl fj)), (ob 11, .inl (cI, 160, .inl fr)), (ob 12, .inl (cI, 160, .inl fo)), (ob 13, .inl (cI, 2048, .inl fx)), (ob 0, .inr (9, gT ob w9 w10 w11 tl tc w12 w13 w14 w15)), (ob 1, .inr (0, [.long w16, .int (nI da), .int (nI db), .int w17])), (ob 2, .inr (2, [.int 0, .ref (ob 3), .ref (ob 4)]))] := hD
      refine lv_aload_n hx hb dX10_back_70 rfl (lv_at hl 2 rfl) ?_
      refine va_get (D := D) (ci := 10) (v := .ref (ox 2)) (C := RX10) (T := TX10) (N := 7) hx hb hts hin_X10 hown hK hP 0 rfl rfl 1 (by decide) (hts (.fieldLink RX10 15 "ClashFree" "tape" "[I") (List.mem_of_getElem? (i := 2) rfl)) (fun _ h9 => h9) rfl dX10_back_71 ?_
      refine lv_bipush (v := 12) hx hb dX10_back_74 (by decide) ?_
      refine va_iald hx hb hK hP 2 0 rfl rfl (show ¬ ((12 : Int32) < 0 ∨ 1400 ≤ Int32.toNatClampNeg 12) by decide) dX10_back_76 ?_
      refine lv_topi (fun v19 ev19 => ?_)
      obtain rfl : v19 = fT 12 := ev19.trans (rfl)
      refine lv_istore (lv' := [(4, .int (fT 12)), (3, .ref (ob 0)), (2, .int (nI tp)), (0, .ref (ox 0)), (1, .int (nI k))]) hx hb dX10_back_77 hl (by decide) rfl (fun ls hl => ?_)
      refine lv_iconst (v := 0) hx hb dX10_back_79 (by decide) ?_
      refine lv_istore (lv' := [(5, .int 0), (4, .int (fT 12)), (3, .ref (ob 0)), (2, .int (nI tp)), (0, .ref (ox 0)), (1, .int (nI k))]) hx hb dX10_back_80 hl (by decide) rfl (fun ls hl => ?_)
      have hRs := himg.2.2.2.2.2.1
      refine lk_back l D ox ob3 og oq ow ob cI cT ft fT w9 w10 w11 tl tc w12 w13 w14 w15 w16 da db w17 nb ka kb sm ln fh ff fa fs fj fr fo fx bt (himg.2.1) (by rw [(hbt 12).1]; exact Int32.le_refl _) (hbt) ((hbt 12).1) (hRs.1) (RsN_lt hRs) hx hb hml hown hts hA (hK.sub [0, 1] rfl) hN ?_ (bt 12 + 1) 0 fk fv (Nat.zero_le _) (KyC_0 _) (KvT_0 _ _) (by omega) _ _ _ (hP.sub [0, 1, 2, 14, 15, 16, 3, 4, 5, 6, 7, 8, 9, 10, 11, 12, 13] rfl) (hD.sub [0, 1, 2, 14, 15, 16, 3, 4, 5, 6, 7, 8, 9, 10, 11, 12, 13] (by decide) rfl) hS (lv_sub hl [0, 1, 2, 4] rfl)
      intro y_20 gk_21 gv_22 hy1_23 hky_24 hKl_25 hx26 H locs ls hP hD hS hl
      have hKf : KvT gk_21 gv_22 y_20 (imL bt) := by
        have e9 : y_20 = bt 12 := by omega
        have h9 := hKl_25
        rw [e9] at h9 ⊢
        exact h9
      refine lv_aload_n hx hb dX10_back_134 rfl (lv_at hl 1 rfl) ?_
      have hPc := hP.sub (ws' := [(ob 0, .inr (9, gT ob w9 w10 w11 tl tc w12 w13 w14 w15)), (ob 1, .inr (0, [.long w16, .int (nI da), .int (nI db), .int w17])), (ob 2, .inr (2, [.int (nI y_20), .ref (ob 3), .ref (ob 4)])), (ob 3, .inl (cI, 160, .inl gk_21)), (ob 5, .inr (3, gY ob (nI nb) (nI ka) (nI kb) sm (nI ln))), (ob 6, .inl (cI, 2048, .inl fh)), (ob 7, .inl (cI, 2048, .inl ff)), (ob 8, .inl (cI, 2048, .inl fa)), (ob 9, .inl (cI, 2048, .inl fs)), (ob 10, .inl (cI, 160, .inl fj)), (ob 11, .inl (cI, 160, .inl fr)), (ob 12, .inl (cI, 160, .inl fo)), (ob 13, .inl (cI, 2048, .inl fx))]) [3, 4, 5, 6, 8, 9, 10, 11, 12, 13, 14, 15, 16] rfl
      have hKc := hK.sub (tys' := [(cI, .int)]) [0] rfl
      have hDc := hD.sub (ws' := [(ob 0, .inr (9, gT ob w9 w10 w11 tl tc w12 w13 w14 w15)), (ob 1, .inr (0, [.long w16, .int (nI da), .int (nI db), .int w17])), (ob 2, .inr (2, [.int (nI y_20), .ref (ob 3), .ref (ob 4)])), (ob 3, .inl (cI, 160, .inl gk_21)), (ob 5, .inr (3, gY ob (nI nb) (nI ka) (nI kb) sm (nI ln))), (ob 6, .inl (cI, 2048, .inl fh)), (ob 7, .inl (cI, 2048, .inl ff)), (ob 8, .inl (cI, 2048, .inl fa)), (ob 9, .inl (cI, 2048, .inl fs)), (ob 10, .inl (cI, 160, .inl fj)), (ob 11, .inl (cI, 160, .inl fr)), (ob 12, .inl (cI, 160, .inl fo)), (ob 13, .inl (cI, 2048, .inl fx))]) [3, 4, 5, 6, 8, 9, 10, 11, 12, 13, 14, 15, 16] (by decide) rfl
      have hFc := va_free (wc := [(ob 0, .inr (9, gT ob w9 w10 w11 tl tc w12 w13 w14 w15)), (ob 1, .inr (0, [.long w16, .int (nI da), .int (nI db), .int w17])), (ob 2, .inr (2, [.int (nI y_20), .ref (ob 3), .ref (ob 4)])), (ob 3, .inl (cI, 160, .inl gk_21)), (ob 5, .inr (3, gY ob (nI nb) (nI ka) (nI kb) sm (nI ln))), (ob 6, .inl (cI, 2048, .inl fh)), (ob 7, .inl (cI, 2048, .inl ff)), (ob 8, .inl (cI, 2048, .inl fa)), (ob 9, .inl (cI, 2048, .inl fs)), (ob 10, .inl (cI, 160, .inl fj)), (ob 11, .inl (cI, 160, .inl fr)), (ob 12, .inl (cI, 160, .inl fo)), (ob 13, .inl (cI, 2048, .inl fx))]) hD hS hA [3, 4, 5, 6, 8, 9, 10, 11, 12, 13, 14, 15, 16] rfl
      refine va_callv (va_runV (As := []) (rest := []) ⟨hx, hb, hml, hown, hts⟩ (k_buildAll l D _ ob cI w9 w10 w11 tl tc w12 w13 w14 w15 w16 da db w17 y_20 gk_21 nb ka kb sm ln fh ff fa fs fj fr fo fx hky_24 hL hO) (cwV 0 hts g_s_back_k_buildAll_71 rfl rfl rfl (by decide +kernel) ⟨(Nat.le_of_ble_eq_true rfl), (Nat.le_of_ble_eq_true rfl)⟩) (PcWC_V (q0 := 0) hPc hKc hDc hN rfl rfl) rfl rfl hl.1 rfl (lv_room (Nat.le_of_ble_eq_true rfl)) dX10_back_135 ⟨(Nat.le_of_ble_eq_true rfl), (Nat.le_of_ble_eq_true rfl)⟩) hS (fun q _ h => hFc q h) hFc (fun uu tt H locs htt hvm hw hB hz1 hk1 hS => ?_)
      obtain ⟨w28, w29, w30, w31, w32, w33, w34, w35, w36, w37, w38, w39, w40, w41, w42, w43, w44, w45, w46, w47⟩ := uu
      obtain ⟨hP1, hK1, hD1⟩ := hB
      rw [htt] at hP1
      have hK1 := va_K.moved hvm.symm hK1
      have hP1 : va_P D vwCl [(ob 0, .inr (9, gT ob w9 w10 w11 w28 w29 w12 w13 w14 w30)), (ob 1, .inr (0, [.long w31, .int (nI w32), .int (nI w33), .int w34])), (ob 2, .inr (2, [.int (nI y_20), .ref (ob 3), .ref (ob 4)])), (ob 3, .inl (cI, 160, .inl gk_21)), (ob 5, .inr (3, gY ob (nI w35) (nI w36) (nI w37) w38 (nI w39))), (ob 6, .inl (cI, 2048, .inl w40)), (ob 7, .inl (cI, 2048, .inl w41)), (ob 8, .inl (cI, 2048, .inl w42)), (ob 9, .inl (cI, 2048, .inl w43)), (ob 10, .inl (cI, 160, .inl w44)), (ob 11, .inl (cI, 160, .inl w45)), (ob 12, .inl (cI, 160, .inl w46)), (ob 13, .inl (cI, 2048, .inl w47))] H := hP1
      obtain ⟨hP, hD⟩ := va_join (wr := [(ox 0, .inr (10, [.ref (ox 1), .ref (ox 2), .int 0, .ref (ob3 0), .ref (og 0), .ref (oq 0), .ref (ow 0)])), (ox 1, .inl (cT, 4, .inr (.inr (.inr (.inr ft))))), (ox 2, .inl (cI, 1400, .inl fT)), (ob 4, .inl (cI, 160, .inl gv_22))]) (w1 := [(ob 0, .inr (9, gT ob w9 w10 w11 w28 w29 w12 w13 w14 w30)), (ob 1, .inr (0, [.long w31, .int (nI w32), .int (nI w33), .int w34])), (ob 2, .inr (2, [.int (nI y_20), .ref (ob 3), .ref (ob 4)])), (ob 3, .inl (cI, 160, .inl gk_21)), (ob 5, .inr (3, gY ob (nI w35) (nI w36) (nI w37) w38 (nI w39))), (ob 6, .inl (cI, 2048, .inl w40)), (ob 7, .inl (cI, 2048, .inl w41)), (ob 8, .inl (cI, 2048, .inl w42)), (ob 9, .inl (cI, 2048, .inl w43)), (ob 10, .inl (cI, 160, .inl w44)), (ob 11, .inl (cI, 160, .inl w45)), (ob 12, .inl (cI, 160, .inl w46)), (ob 13, .inl (cI, 2048, .inl w47))]) hP hD [3, 4, 5, 6, 8, 9, 10, 11, 12, 13, 14, 15, 16] [0, 1, 2, 7] rfl rfl (by decide) (by decide) hk1 hFc hP1 hD1
      have hP : va_P D vwCl [(ox 0, .inr (10, [.ref (ox 1), .ref (ox 2), .int 0, .ref (ob3 0), .ref (og 0), .ref (oq 0), .ref (ow 0)])), (ox 1, .inl (cT, 4, .inr (.inr (.inr (.inr ft))))), (ox 2, .inl (cI, 1400, .inl fT)), (ob 4, .inl (cI, 160, .inl gv_22)), (ob 0, .inr (9, gT ob w9 w10 w11 w28 w29 w12 w13 w14 w30)), (ob 1, .inr (0, [.long w31, .int (nI w32), .int (nI w33), .int w34])), (ob 2, .inr (2, [.int (nI y_20), .ref (ob 3), .ref (ob 4)])), (ob 3, .inl (cI, 160, .inl gk_21)), (ob 5, .inr (3, gY ob (nI w35) (nI w36) (nI w37) w38 (nI w39))), (ob 6, .inl (cI, 2048, .inl w40)), (ob 7, .inl (cI, 2048, .inl w41)), (ob 8, .inl (cI, 2048, .inl w42)), (ob 9, .inl (cI, 2048, .inl w43)), (ob 10, .inl (cI, 160, .inl w44)), (ob 11, .inl (cI, 160, .inl w45)), (ob 12, .inl (cI, 160, .inl w46)), (ob 13, .inl (cI, 2048, .inl w47))] H := hP
      have hD : va_D A [(ox 0, .inr (10, [.ref (ox 1), .ref (ox 2), .int 0, .ref (ob3 0), .ref (og 0), .ref (oq 0), .ref (ow 0)])), (ox 1, .inl (cT, 4, .inr (.inr (.inr (.inr ft))))), (ox 2, .inl (cI, 1400, .inl fT)), (ob 4, .inl (cI, 160, .inl gv_22)), (ob 0, .inr (9, gT ob w9 w10 w11 w28 w29 w12 w13 w14 w30)), (ob 1, .inr (0, [.long w31, .int (nI w32), .int (nI w33), .int w34])), (ob 2, .inr (2, [.int (nI y_20), .ref (ob 3), .ref (ob 4)])), (ob 3, .inl (cI, 160, .inl gk_21)), (ob 5, .inr (3, gY ob (nI w35) (nI w36) (nI w37) w38 (nI w39))), (ob 6, .inl (cI, 2048, .inl w40)), (ob 7, .inl (cI, 2048, .inl w41)), (ob 8, .inl (cI, 2048, .inl w42)), (ob 9, .inl (cI, 2048, .inl w43)), (ob 10, .inl (cI, 160, .inl w44)), (ob 11, .inl (cI, 160, .inl w45)), (ob 12, .inl (cI, 160, .inl w46)), (ob 13, .inl (cI, 2048, .inl w47))] := hD
      try dsimp only at hw
      clear hz1 hk1 hFc hPc hKc hDc
      have hTb48 := hw
      obtain ⟨hky48, hL48, hO48, hn148, hka48, hkb48, hda48, hdb48⟩ := id hTb48
      have hnb48 := hL48.1
      have hln48 := hL48.2.1
      have hc48 := hky48.1
      refine lv_iload hx hb dX10_back_138 (lv_at hl 0 rfl) ?_
      exact W.iret (v := fT 12) hx hb hr (fun t ht hW => ⟨⟨fT 12, (0, w9, w10, w11, w12, w13, w14, w30, w31, w34, y_20, w28, w29, w32, w33, w35, w36, w37, w38, w39, w40, w41, w42, w43, w44, w45, w46, w47, gk_21, gv_22), rfl, (by (try dsimp only); first | done | exact ⟨rfl, ⟨hky48, hL48, hO48, hn148, hka48, hkb48, hda48, hdb48⟩, Or.inl ⟨himg, (hbt 12).1, hKf⟩⟩), by rw [ht]; exact hP.sub [0, 1, 2, 4, 5, 6, 7, 3, 8, 9, 10, 11, 12, 13, 14, 15, 16] rfl, va_K.moved hW.alike (hK.sub [0, 1] rfl), hD.sub [0, 1, 2, 4, 5, 6, 7, 3, 8, 9, 10, 11, 12, 13, 14, 15, 16] (by decide) rfl⟩, hS.F ht⟩) hS.2.2 dX10_back_140
    ·
      have hno := hA_r2
      refine lv_if_ne (tgt := 33) hx hb dX10_back_28 (by decide) (fun hc => absurd (by decide) hc) (fun hc => ?_)
      refine lv_iconst (v := (-1)) hx hb dX10_back_31 (by decide) ?_
      exact W.iret (v := (-1)) hx hb hr (fun t ht hW => ⟨⟨(-1), (0, tb, ts, tg, tr, tu, tv, tw, sd, pr, cn, tl, tc, da, db, nb, ka, kb, sm, ln, fh, ff, fa, fs, fj, fr, fo, fx, fk, fv), rfl, (by (try dsimp only); first | done | exact ⟨rfl, hTb, Or.inr ⟨hno, rfl⟩⟩), by rw [ht]; exact hP.sub [0, 1, 2, 3, 4, 5, 6, 7, 8, 9, 10, 11, 12, 13, 14, 15, 16] rfl, va_K.moved hW.alike (hK.sub [0, 1] rfl), hD.sub [0, 1, 2, 3, 4, 5, 6, 7, 8, 9, 10, 11, 12, 13, 14, 15, 16] (by decide) rfl⟩, hS.F ht⟩) hS.2.2 dX10_back_32
  ·
    exact absurd ⟨nI_pos' (by omega), nI_lt (b := 4) hk (by decide)⟩ hA_r1

