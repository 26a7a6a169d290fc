theorem dX6_parse_0 : decode cX6_parse 0 = .ok (.aload_n 0, 1) := by decide +kernel
theorem dX6_parse_1 : decode cX6_parse 1 = .ok (.iconst 0, 1) := by decide +kernel
theorem dX6_parse_2 : decode cX6_parse 2 = .ok (.putfield 32, 3) := by decide +kernel
theorem dX6_parse_5 : decode cX6_parse 5 = .ok (.aload_n 0, 1) := by decide +kernel
theorem dX6_parse_6 : decode cX6_parse 6 = .ok (.getfield 12, 3) := by decide +kernel
theorem dX6_parse_9 : decode cX6_parse 9 = .ok (.iconst 0, 1) := by decide +kernel
theorem dX6_parse_10 : decode cX6_parse 10 = .ok (.putfield 36, 3) := by decide +kernel
theorem dX6_parse_13 : decode cX6_parse 13 = .ok (.aload_n 0, 1) := by decide +kernel
theorem dX6_parse_14 : decode cX6_parse 14 = .ok (.iconst 0, 1) := by decide +kernel
theorem dX6_parse_15 : decode cX6_parse 15 = .ok (.putfield 39, 3) := by decide +kernel
theorem dX6_parse_18 : decode cX6_parse 18 = .ok (.aload_n 0, 1) := by decide +kernel
theorem dX6_parse_19 : decode cX6_parse 19 = .ok (.iconst 0, 1) := by decide +kernel
theorem dX6_parse_20 : decode cX6_parse 20 = .ok (.putfield 42, 3) := by decide +kernel
theorem dX6_parse_23 : decode cX6_parse 23 = .ok (.aload_n 0, 1) := by decide +kernel
theorem dX6_parse_24 : decode cX6_parse 24 = .ok (.iconst 0, 1) := by decide +kernel
theorem dX6_parse_25 : decode cX6_parse 25 = .ok (.putfield 46, 3) := by decide +kernel
theorem dX6_parse_28 : decode cX6_parse 28 = .ok (.aload_n 0, 1) := by decide +kernel
theorem dX6_parse_29 : decode cX6_parse 29 = .ok (.iconst 0, 1) := by decide +kernel
theorem dX6_parse_30 : decode cX6_parse 30 = .ok (.putfield 49, 3) := by decide +kernel
theorem dX6_parse_33 : decode cX6_parse 33 = .ok (.aload_n 0, 1) := by decide +kernel
theorem dX6_parse_34 : decode cX6_parse 34 = .ok (.iconst 0, 1) := by decide +kernel
theorem dX6_parse_35 : decode cX6_parse 35 = .ok (.putfield 52, 3) := by decide +kernel
theorem dX6_parse_38 : decode cX6_parse 38 = .ok (.iload_n 2, 1) := by decide +kernel
theorem dX6_parse_39 : decode cX6_parse 39 = .ok (.sipush 600, 3) := by decide +kernel
theorem dX6_parse_42 : decode cX6_parse 42 = .ok (.if_icmp .le 12, 3) := by decide +kernel
theorem dX6_parse_45 : decode cX6_parse 45 = .ok (.aload_n 0, 1) := by decide +kernel
theorem dX6_parse_46 : decode cX6_parse 46 = .ok (.iconst 1, 1) := by decide +kernel
theorem dX6_parse_47 : decode cX6_parse 47 = .ok (.sipush 600, 3) := by decide +kernel
theorem dX6_parse_50 : decode cX6_parse 50 = .ok (.invokevirtual 55, 3) := by decide +kernel
theorem dX6_parse_53 : decode cX6_parse 53 = .ok (.return_, 1) := by decide +kernel
theorem dX6_parse_54 : decode cX6_parse 54 = .ok (.aload_n 0, 1) := by decide +kernel
theorem dX6_parse_55 : decode cX6_parse 55 = .ok (.getfield 21, 3) := by decide +kernel
theorem dX6_parse_58 : decode cX6_parse 58 = .ok (.aload_n 1, 1) := by decide +kernel
theorem dX6_parse_59 : decode cX6_parse 59 = .ok (.iload_n 2, 1) := by decide +kernel
theorem dX6_parse_60 : decode cX6_parse 60 = .ok (.invokevirtual 59, 3) := by decide +kernel
theorem dX6_parse_63 : decode cX6_parse 63 = .ok (.iconst 0, 1) := by decide +kernel
theorem dX6_parse_64 : decode cX6_parse 64 = .ok (.istore_n 3, 1) := by decide +kernel
theorem dX6_parse_65 : decode cX6_parse 65 = .ok (.iload_n 3, 1) := by decide +kernel
theorem dX6_parse_66 : decode cX6_parse 66 = .ok (.iload_n 2, 1) := by decide +kernel
theorem dX6_parse_67 : decode cX6_parse 67 = .ok (.if_icmp .gt 56, 3) := by decide +kernel
theorem dX6_parse_70 : decode cX6_parse 70 = .ok (.aload_n 0, 1) := by decide +kernel
theorem dX6_parse_71 : decode cX6_parse 71 = .ok (.getfield 39, 3) := by decide +kernel
theorem dX6_parse_74 : decode cX6_parse 74 = .ok (.bipush 6, 2) := by decide +kernel
theorem dX6_parse_76 : decode cX6_parse 76 = .ok (.if_icmp .eq 47, 3) := by decide +kernel
theorem dX6_parse_79 : decode cX6_parse 79 = .ok (.aload_n 0, 1) := by decide +kernel
theorem dX6_parse_80 : decode cX6_parse 80 = .ok (.getfield 21, 3) := by decide +kernel
theorem dX6_parse_83 : decode cX6_parse 83 = .ok (.invokevirtual 63, 3) := by decide +kernel
theorem dX6_parse_86 : decode cX6_parse 86 = .ok (.aload_n 0, 1) := by decide +kernel
theorem dX6_parse_87 : decode cX6_parse 87 = .ok (.aload_n 0, 1) := by decide +kernel
theorem dX6_parse_88 : decode cX6_parse 88 = .ok (.getfield 21, 3) := by decide +kernel
theorem dX6_parse_91 : decode cX6_parse 91 = .ok (.getfield 66, 3) := by decide +kernel
theorem dX6_parse_94 : decode cX6_parse 94 = .ok (.invokevirtual 69, 3) := by decide +kernel
theorem dX6_parse_97 : decode cX6_parse 97 = .ok (.aload_n 0, 1) := by decide +kernel
theorem dX6_parse_98 : decode cX6_parse 98 = .ok (.getfield 32, 3) := by decide +kernel
theorem dX6_parse_101 : decode cX6_parse 101 = .ok (.ifCond .eq 16, 3) := by decide +kernel
theorem dX6_parse_104 : decode cX6_parse 104 = .ok (.aload_n 0, 1) := by decide +kernel
theorem dX6_parse_105 : decode cX6_parse 105 = .ok (.getfield 42, 3) := by decide +kernel
theorem dX6_parse_108 : decode cX6_parse 108 = .ok (.ifCond .ne 9, 3) := by decide +kernel
theorem dX6_parse_111 : decode cX6_parse 111 = .ok (.aload_n 0, 1) := by decide +kernel
theorem dX6_parse_112 : decode cX6_parse 112 = .ok (.bipush 6, 2) := by decide +kernel
theorem dX6_parse_114 : decode cX6_parse 114 = .ok (.putfield 39, 3) := by decide +kernel
theorem dX6_parse_117 : decode cX6_parse 117 = .ok (.iinc 3 1, 3) := by decide +kernel
theorem dX6_parse_120 : decode cX6_parse 120 = .ok (.goto (-55), 3) := by decide +kernel
theorem dX6_parse_123 : decode cX6_parse 123 = .ok (.return_, 1) := by decide +kernel
def own_k_parse : List Cond := [.fieldLink RX6 39 "ClashFree$Parser" "state" "I", .fieldLink RX6 21 "ClashFree$Parser" "scan" "LClashFree$Scanner;", .methodLink RX6 63 yX8_advance, .instanceMethod yX8_advance, .selects RX8 yX8_advance yX8_advance, .initialized RX8, .fieldLink RX6 66 "ClashFree$Scanner" "kind" "I", .methodLink RX6 69 yX6_accept, .instanceMethod yX6_accept, .selects RX6 yX6_accept yX6_accept, .initialized RX6, .fieldLink RX6 32 "ClashFree$Parser" "fault" "I", .fieldLink RX6 42 "ClashFree$Parser" "heading" "Z", .fieldLink RX6 12 "ClashFree$Parser" "program" "LClashFree$Program;", .fieldLink RX6 36 "ClashFree$Program" "size" "I", .fieldLink RX6 46 "ClashFree$Parser" "parens" "I", .fieldLink RX6 49 "ClashFree$Parser" "blocks" "I", .fieldLink RX6 52 "ClashFree$Parser" "waitingSize" "I", .methodLink RX6 59 yX8_begin, .instanceMethod yX8_begin, .selects RX8 yX8_begin yX8_begin, .methodLink RX6 55 yX6_note, .instanceMethod yX6_note, .selects RX6 yX6_note yX6_note]
def wp_k_parse : List Cond := .code yX6_parse cX6_parse 4 none :: (own_k_parse ++ (wp_k_advance ++ (wp_k_accept ++ (wp_k_sbegin ++ (wp_k_note ++ (wsX60 ++ (wsX80 ++ (wsX70 ++ ([] : List Cond)))))))))
set_option maxRecDepth 20000 in
theorem inown_k_parse : ∀ w ∈ own_k_parse, w ∈ lw_tbl := mem_places [336, 335, 924, 925, 926, 113, 308, 1015, 1017, 11, 111, 327, 339, 333, 279, 341, 342, 344, 919, 920, 921, 915, 917, 4] (by decide +kernel)
set_option maxRecDepth 20000 in
theorem in_k_parse : ∀ w ∈ wp_k_parse, w ∈ lw_tbl := List.forall_mem_cons.mpr ⟨List.mem_of_getElem? (i := 914) (by decide +kernel), List.forall_mem_append.mpr ⟨inown_k_parse, List.forall_mem_append.mpr ⟨in_k_advance, List.forall_mem_append.mpr ⟨in_k_accept, List.forall_mem_append.mpr ⟨in_k_sbegin, List.forall_mem_append.mpr ⟨in_k_note, List.forall_mem_append.mpr ⟨lwb_X6, List.forall_mem_append.mpr ⟨lwb_X8, List.forall_mem_append.mpr ⟨lwb_X7, fun _ h => absurd h List.not_mem_nil⟩⟩⟩⟩⟩⟩⟩⟩⟩
set_option maxRecDepth 20000 in
theorem good_k_parse : wp_k_parse.all goodWord = true := by decide +kernel
set_option maxRecDepth 20000 in
theorem g_k_parse_k_advance_63 : GoodIn wp_k_parse (wsV RX6 63 RX8 yX8_advance wp_k_advance) := goodIn_sub (List.forall_mem_append.mpr ⟨List.forall_mem_cons.mpr ⟨(List.mem_of_getElem? (i := 3) rfl), List.forall_mem_cons.mpr ⟨(List.mem_of_getElem? (i := 4) rfl), List.forall_mem_cons.mpr ⟨(List.mem_of_getElem? (i := 5) rfl), List.forall_mem_cons.mpr ⟨(List.mem_of_getElem? (i := 6) rfl), fun _ h => absurd h List.not_mem_nil⟩⟩⟩⟩, (fun _ h => (List.mem_cons_of_mem _ (List.mem_append_right _ (List.mem_append_left _ h))))⟩) (by decide +kernel)
set_option maxRecDepth 20000 in
theorem g_k_parse_k_accept_69 : GoodIn wp_k_parse (wsV RX6 69 RX6 yX6_accept wp_k_accept) := goodIn_sub (List.forall_mem_append.mpr ⟨List.forall_mem_cons.mpr ⟨(List.mem_of_getElem? (i := 8) rfl), List.forall_mem_cons.mpr ⟨(List.mem_of_getElem? (i := 9) rfl), List.forall_mem_cons.mpr ⟨(List.mem_of_getElem? (i := 10) rfl), List.forall_mem_cons.mpr ⟨(List.mem_of_getElem? (i := 11) rfl), fun _ h => absurd h List.not_mem_nil⟩⟩⟩⟩, (fun _ h => (List.mem_cons_of_mem _ (List.mem_append_right _ (List.mem_append_right _ (List.mem_append_left _ h)))))⟩) (by decide +kernel)
set_option maxRecDepth 20000 in
theorem g_k_parse_k_sbegin_59 : GoodIn wp_k_parse (wsV RX6 59 RX8 yX8_begin wp_k_sbegin) := goodIn_sub (List.forall_mem_append.mpr ⟨List.forall_mem_cons.mpr ⟨(List.mem_of_getElem? (i := 19) rfl), List.forall_mem_cons.mpr ⟨(List.mem_of_getElem? (i := 20) rfl), List.forall_mem_cons.mpr ⟨(List.mem_of_getElem? (i := 21) rfl), List.forall_mem_cons.mpr ⟨(List.mem_of_getElem? (i := 6) rfl), fun _ h => absurd h List.not_mem_nil⟩⟩⟩⟩, (fun _ h => (List.mem_cons_of_mem _ (List.mem_append_right _ (List.mem_append_right _ (List.mem_append_right _ (List.mem_append_left _ h))))))⟩) (by decide +kernel)
set_option maxRecDepth 20000 in
theorem g_k_parse_k_note_55 : GoodIn wp_k_parse (wsV RX6 55 RX6 yX6_note wp_k_note) := goodIn_sub (List.forall_mem_append.mpr ⟨List.forall_mem_cons.mpr ⟨(List.mem_of_getElem? (i := 22) rfl), List.forall_mem_cons.mpr ⟨(List.mem_of_getElem? (i := 23) rfl), List.forall_mem_cons.mpr ⟨(List.mem_of_getElem? (i := 24) rfl), List.forall_mem_cons.mpr ⟨(List.mem_of_getElem? (i := 11) rfl), fun _ h => absurd h List.not_mem_nil⟩⟩⟩⟩, (fun _ h => (List.mem_cons_of_mem _ (List.mem_append_right _ (List.mem_append_right _ (List.mem_append_right _ (List.mem_append_right _ (List.mem_append_left _ h)))))))⟩) (by decide +kernel)
set_option maxHeartbeats 4000000 in
set_option maxRecDepth 100000 in
theorem lk_parse (l : Launch) {p : Program} {e : Env} {s : State} {m : MethodId} {args : Array Value} {below : List Frame} {meth : Method} {c : Code} {Q : State → Prop} {A : Nat → Prop} (D : va_G) (adK : Nat → Nat) (adV : Nat → Nat) (oq : Nat → Nat) (ox : Nat → Nat) (cI : ClassId) (fT : Nat → Int32) (tp : Nat) (bt : Nat → Nat) (htp6 : tp ≤ 600) (hbt : TieC fT bt) (hx : p.tables.exec = Jvm.exec) (hb : c.code = cX6_parse) (hml : c.maxLocals = 4) (hown : s.vm.findClass RX6 = some m.cls) (hts : ∀ w ∈ wp_k_parse, w.before args s = true) (hA : ∀ q, s.heap.size ≤ q → A q) (hK : va_K D vwCl [(cI, .int)] s) (hN : NC s) (hST : ST adK adV A s s.heap) (kx123 : ∀ (y : Nat), ∀ (xqf : Int32), ∀ (xqp : Int32), ∀ (xqd : Int32), ∀ (xqs : Int32), ∀ (xqt : Int32), ∀ (xqb : Int32), ∀ (xqh : Int32), ∀ (xqr : Int32), ∀ (xqn : Int32), ∀ (xbk : Nat), ∀ (xwz : Nat), ∀ (gfO : Nat → Int32), ∀ (gfW : Nat → Int32), ∀ (xpz : Nat), ∀ (gfK : Nat → Int32), ∀ (gfN : Nat → Int32), ∀ (gfL : Nat → Int32), ∀ (xta : Nat), ∀ (xbe : Nat), ∀ (xki : Int32), ∀ (xnu : Int32), ∀ (xwo : Int32), ∀ (sg : SM), ∀ (wb : Bool), (y ≤ tp + 1) → (MatS sg xqs xqt xqr xqn xbk gfO xwz gfW xpz gfK gfN gfL) → (xpz + xwz ≤ xbe) → (xbe ≤ tp) → (xwo = if wb = true then 1 else 0) → (PInv bt tp y sg xbe wb xqf) → ((xqf = 0 ∧ readT bt tp = some sg) ∨ (¬ xqf = 0 ∧ readT bt tp = none)) → ∀ (H : Heap) (locs : List Loc) (ls : Array Slot), va_P D vwCl [(oq 0, .inr (6, gPs oq xqf xqp xqd xqs xqt xqb xqh xqr xqn (nI xbk) (nI xwz))), (oq 6, .inl (cI, 5, .inl gfO)), (oq 7, .inl (cI, 600, .inl gfW)), (oq 1, .inr (7, [.int (nI xpz), .ref (oq 2), .ref (oq 3), .ref (oq 4)])), (oq 2, .inl (cI, 600, .inl gfK)), (oq 3, .inl (cI, 600, .inl gfN)), (oq 4, .inl (cI, 600, .inl gfL)), (oq 5, .inr (8, [.ref (ox 2), .int (nI tp), .int (nI xta), .int (nI xbe), .int xki, .int xnu, .int xwo])), (ox 2, .inl (cI, 1400, .inl fT))] H → va_D A [(oq 0, .inr (6, gPs oq xqf xqp xqd xqs xqt xqb xqh xqr xqn (nI xbk) (nI xwz))), (oq 6, .inl (cI, 5, .inl gfO)), (oq 7, .inl (cI, 600, .inl gfW)), (oq 1, .inr (7, [.int (nI xpz), .ref (oq 2), .ref (oq 3), .ref (oq 4)])), (oq 2, .inl (cI, 600, .inl gfK)), (oq 3, .inl (cI, 600, .inl gfN)), (oq 4, .inl (cI, 600, .inl gfL)), (oq 5, .inr (8, [.ref (ox 2), .int (nI tp), .int (nI xta), .int (nI xbe), .int xki, .int xnu, .int xwo])), (ox 2, .inl (cI, 1400, .inl fT))] → va_S A s.heap H locs → lv_has ls 4 [(0, .ref (oq 0))] → W p l e ({ frames := 9, cells := 0, slots := 0, locals := 340 }) s m args below meth c H locs 0 0 Q (F0 m 123 ls [])) : ∀ (N : Nat), ∀ (y : Nat), ∀ (xqf : Int32), ∀ (xqp : Int32), ∀ (xqd : Int32), ∀ (xqs : Int32), ∀ (xqt : Int32), ∀ (xqb : Int32), ∀ (xqh : Int32), ∀ (xqr : Int32), ∀ (xqn : Int32), ∀ (xbk : Nat), ∀ (xwz : Nat), ∀ (gfO : Nat → Int32), ∀ (gfW : Nat → Int32), ∀ (xpz : Nat), ∀ (gfK : Nat → Int32), ∀ (gfN : Nat → Int32), ∀ (gfL : Nat → Int32), ∀ (xta : Nat), ∀ (xbe : Nat), ∀ (xki : Int32), ∀ (xnu : Int32), ∀ (xwo : Int32), ∀ (sg : SM), ∀ (wb : Bool), (y ≤ tp + 1) → (MatS sg xqs xqt xqr xqn xbk gfO xwz gfW xpz gfK gfN gfL) → (xpz + xwz ≤ xbe) → (xbe ≤ tp) → (xwo = if wb = true then 1 else 0) → (PInv bt tp y sg xbe wb xqf) → tp + 1 - y < N → ∀ (H : Heap) (locs : List Loc) (ls : Array Slot), va_P D vwCl [(oq 0, .inr (6, gPs oq xqf xqp xqd xqs xqt xqb xqh xqr xqn (nI xbk) (nI xwz))), (oq 6, .inl (cI, 5, .inl gfO)), (oq 7, .inl (cI, 600, .inl gfW)), (oq 1, .inr (7, [.int (nI xpz), .ref (oq 2), .ref (oq 3), .ref (oq 4)])), (oq 2, .inl (cI, 600, .inl gfK)), (oq 3, .inl (cI, 600, .inl gfN)), (oq 4, .inl (cI, 600, .inl gfL)), (oq 5, .inr (8, [.ref (ox 2), .int (nI tp), .int (nI xta), .int (nI xbe), .int xki, .int xnu, .int xwo])), (ox 2, .inl (cI, 1400, .inl fT))] H → va_D A [(oq 0, .inr (6, gPs oq xqf xqp xqd xqs xqt xqb xqh xqr xqn (nI xbk) (nI xwz))), (oq 6, .inl (cI, 5, .inl gfO)), (oq 7, .inl (cI, 600, .inl gfW)), (oq 1, .inr (7, [.int (nI xpz), .ref (oq 2), .ref (oq 3), .ref (oq 4)])), (oq 2, .inl (cI, 600, .inl gfK)), (oq 3, .inl (cI, 600, .inl gfN)), (oq 4, .inl (cI, 600, .inl gfL)), (oq 5, .inr (8, [.ref (ox 2), .int (nI tp), .int (nI xta), .int (nI xbe), .int xki, .int xnu, .int xwo])), (ox 2, .inl (cI, 1400, .inl fT))] → va_S A s.heap H locs → lv_has ls 4 [(3, .int (nI y)), (0, .ref (oq 0)), (1, .ref (ox 2)), (2, .int (nI tp))] → W p l e ({ frames := 9, cells := 0, slots := 0, locals := 340 }) s m args below meth c H locs 0 0 Q (F0 m 65 ls []) := by
  have hin_X6 : ∀ w ∈ wsX60, w ∈ wp_k_parse := fun _ h => (List.mem_cons_of_mem _ (List.mem_append_right _ (List.mem_append_right _ (List.mem_append_right _ (List.mem_append_right _ (List.mem_append_right _ (List.mem_append_left _ h)))))))
  have hin_X8 : ∀ w ∈ wsX80, w ∈ wp_k_parse := fun _ h => (List.mem_cons_of_mem _ (List.mem_append_right _ (List.mem_append_right _ (List.mem_append_right _ (List.mem_append_right _ (List.mem_append_right _ (List.mem_append_right _ (List.mem_append_left _ h))))))))
  have hin_X7 : ∀ w ∈ wsX70, w ∈ wp_k_parse := fun _ h => (List.mem_cons_of_mem _ (List.mem_append_right _ (List.mem_append_right _ (List.mem_append_right _ (List.mem_append_right _ (List.mem_append_right _ (List.mem_append_right _ (List.mem_append_right _ (List.mem_append_left _ h)))))))))
  intro N
  induction N with
  | zero =>
    intro y xqf xqp xqd xqs xqt xqb xqh xqr xqn xbk xwz gfO gfW xpz gfK gfN gfL xta xbe xki xnu xwo sg wb hy1 hM hpw hbe hwo hinv hm
    exact absurd hm (Nat.not_lt_zero _)
  | succ N ih =>
    intro y xqf xqp xqd xqs xqt xqb xqh xqr xqn xbk xwz gfO gfW xpz gfK gfN gfL xta xbe xki xnu xwo sg wb hy1 hM hpw hbe hwo hinv hm H locs ls hP hD hS hl
    have hzl : tp ≤ 1400 := by omega
    refine lv_iload_n hx hb dX6_parse_65 rfl (lv_at hl 0 rfl) ?_
    refine lv_iload_n hx hb dX6_parse_66 rfl (lv_at hl 3 rfl) ?_
    refine lv_icmp_gt (tgt := 123) hx hb dX6_parse_67 (by decide) (fun hc1 => ?_) (fun hc1 => ?_)
    ·
      have hgt : tp < y := (nI_ltI (by omega) (by omega)).mp hc1
      exact kx123 y xqf xqp xqd xqs xqt xqb xqh xqr xqn xbk xwz gfO gfW xpz gfK gfN gfL xta xbe xki xnu xwo sg wb (hy1) (hM) (hpw) (hbe) (hwo) (hinv) (hinv.fin hbe (Or.inr hgt)) H locs ls (hP.sub [0, 1, 2, 3, 4, 5, 6, 7, 8] rfl) (hD.sub [0, 1, 2, 3, 4, 5, 6, 7, 8] (by decide) rfl) hS (lv_sub hl [1] rfl)
    ·
      have hlt : y ≤ tp := by
        rcases Nat.lt_or_ge tp y with z | z
        · exact absurd (nI_lt z (by omega)) hc1
        · exact z
      refine lv_aload_n hx hb dX6_parse_70 rfl (lv_at hl 1 rfl) ?_
      refine va_get (D := D) (ci := 6) (v := .int xqs) (C := RX6) (T := TX6) (N := 15) hx hb hts hin_X6 hown hK hP 0 rfl rfl 5 (by decide) (hts (.fieldLink RX6 39 "ClashFree$Parser" "state" "I") (List.mem_of_getElem? (i := 1) rfl)) (fun _ h9 => h9) rfl dX6_parse_71 ?_
      refine lv_bipush (v := 6) hx hb dX6_parse_74 (by decide) ?_
      refine lv_icmp_eq (tgt := 123) hx hb dX6_parse_76 (by decide) (fun hc2 => ?_) (fun hc2 => ?_)
      ·
        have h69 := hM.1.2
        have h6 : sg.1 = 6 := (nI_eq (b := 6) (by omega) (by decide)).mp (hM.1.1.symm.trans hc2)
        exact kx123 y xqf xqp xqd xqs xqt xqb xqh xqr xqn xbk xwz gfO gfW xpz gfK gfN gfL xta xbe xki xnu xwo sg wb (hy1) (hM) (hpw) (hbe) (hwo) (hinv) (hinv.fin hbe (Or.inl h6)) H locs ls (hP.sub [0, 1, 2, 3, 4, 5, 6, 7, 8] rfl) (hD.sub [0, 1, 2, 3, 4, 5, 6, 7, 8] (by decide) rfl) hS (lv_sub hl [1] rfl)
      ·
        have h69 := hM.1.2
        have h6 : ¬ sg.1 = 6 := fun q => hc2 (hM.1.1.trans (congrArg nI q))
        refine lv_aload_n hx hb dX6_parse_79 rfl (lv_at hl 1 rfl) ?_
        refine va_get (D := D) (ci := 6) (v := .ref (oq 5)) (C := RX6) (T := TX6) (N := 15) hx hb hts hin_X6 hown hK hP 0 rfl rfl 4 (by decide) (hts (.fieldLink RX6 21 "ClashFree$Parser" "scan" "LClashFree$Scanner;") (List.mem_of_getElem? (i := 2) rfl)) (fun _ h9 => h9) rfl dX6_parse_80 ?_
        have hPc := hP.sub (ws' := [(oq 5, .inr (8, [.ref (ox 2), .int (nI tp), .int (nI xta), .int (nI xbe), .int xki, .int xnu, .int xwo])), (ox 2, .inl (cI, 1400, .inl fT))]) [7, 8] rfl
        have hKc := hK.sub (tys' := [(cI, .int)]) [0] rfl
        have hDc := hD.sub (ws' := [(oq 5, .inr (8, [.ref (ox 2), .int (nI tp), .int (nI xta), .int (nI xbe), .int xki, .int xnu, .int xwo])), (ox 2, .inl (cI, 1400, .inl fT))]) [7, 8] (by decide) rfl
        have hFc := va_free (wc := [(oq 5, .inr (8, [.ref (ox 2), .int (nI tp), .int (nI xta), .int (nI xbe), .int xki, .int xnu, .int xwo])), (ox 2, .inl (cI, 1400, .inl fT))]) hD hS hA [7, 8] rfl
        refine va_callv (va_runV (As := []) (rest := []) ⟨hx, hb, hml, hown, hts⟩ (k_advance l D _ adK adV oq ox cI tp xta xbe xki xnu xwo fT bt wb hzl hbe hbt hwo) (cwV 0 hts g_k_parse_k_advance_63 rfl rfl rfl (by decide +kernel) ⟨(Nat.le_of_ble_eq_true rfl), (Nat.le_of_ble_eq_true rfl)⟩) (PcWS_V (q0 := 0) hPc hKc hDc hN hST hS hFc rfl rfl) rfl rfl hl.1 rfl (lv_room (Nat.le_of_ble_eq_true rfl)) dX6_parse_83 ⟨(Nat.le_of_ble_eq_true rfl), (Nat.le_of_ble_eq_true rfl)⟩) hS (fun q _ h => hFc q h) hFc (fun uu tt H locs htt hvm hw hB hz1 hk1 hS => ?_)
        obtain ⟨w4, w5, w6, w7, w8⟩ := uu
        obtain ⟨hP1, hK1, hD1⟩ := hB
        rw [htt] at hP1
        have hK1 := va_K.moved hvm.symm hK1
        have hP1 : va_P D vwCl [(oq 5, .inr (8, [.ref (ox 2), .int (nI tp), .int (nI w4), .int (nI w5), .int w6, .int w7, .int w8])), (ox 2, .inl (cI, 1400, .inl fT))] H := hP1
        obtain ⟨hP, hD⟩ := va_join (wr := [(oq 0, .inr (6, gPs oq xqf xqp xqd xqs xqt xqb xqh xqr xqn (nI xbk) (nI xwz))), (oq 6, .inl (cI, 5, .inl gfO)), (oq 7, .inl (cI, 600, .inl gfW)), (oq 1, .inr (7, [.int (nI xpz), .ref (oq 2), .ref (oq 3), .ref (oq 4)])), (oq 2, .inl (cI, 600, .inl gfK)), (oq 3, .inl (cI, 600, .inl gfN)), (oq 4, .inl (cI, 600, .inl gfL))]) (w1 := [(oq 5, .inr (8, [.ref (ox 2), .int (nI tp), .int (nI w4), .int (nI w5), .int w6, .int w7, .int w8])), (ox 2, .inl (cI, 1400, .inl fT))]) hP hD [7, 8] [0, 1, 2, 3, 4, 5, 6] rfl rfl (by decide) (by decide) hk1 hFc hP1 hD1
        have hP : va_P D vwCl [(oq 0, .inr (6, gPs oq xqf xqp xqd xqs xqt xqb xqh xqr xqn (nI xbk) (nI xwz))), (oq 6, .inl (cI, 5, .inl gfO)), (oq 7, .inl (cI, 600, .inl gfW)), (oq 1, .inr (7, [.int (nI xpz), .ref (oq 2), .ref (oq 3), .ref (oq 4)])), (oq 2, .inl (cI, 600, .inl gfK)), (oq 3, .inl (cI, 600, .inl gfN)), (oq 4, .inl (cI, 600, .inl gfL)), (oq 5, .inr (8, [.ref (ox 2), .int (nI tp), .int (nI w4), .int (nI w5), .int w6, .int w7, .int w8])), (ox 2, .inl (cI, 1400, .inl fT))] H := hP
        have hD : va_D A [(oq 0, .inr (6, gPs oq xqf xqp xqd xqs xqt xqb xqh xqr xqn (nI xbk) (nI xwz))), (oq 6, .inl (cI, 5, .inl gfO)), (oq 7, .inl (cI, 600, .inl gfW)), (oq 1, .inr (7, [.int (nI xpz), .ref (oq 2), .ref (oq 3), .ref (oq 4)])), (oq 2, .inl (cI, 600, .inl gfK)), (oq 3, .inl (cI, 600, .inl gfN)), (oq 4, .inl (cI, 600, .inl gfL)), (oq 5, .inr (8, [.ref (ox 2), .int (nI tp), .int (nI w4), .int (nI w5), .int w6, .int w7, .int w8])), (ox 2, .inl (cI, 1400, .inl fT))] := hD
        try dsimp only at hw
        clear hz1 hk1 hFc hPc hKc hDc
        obtain ⟨hb9_a, hb9_b, hb9_k, hb9_w, hb9_n⟩ := hw
        have hE9 := tkE_le (bt := bt) hbe
        have hk255 := tkK_le (fun j => (hbt j).2) tp xbe wb
        have hpk : tkK bt tp xbe wb = 0 ∨ xpz + xwz < 600 := by
          rcases Decidable.em (tkK bt tp xbe wb = 0) with z | z
          · exact Or.inl z
          · have := (tk_pos hbe z).1
            exact Or.inr (by omega)
        have hE8 : tkK bt tp xbe wb = 0 ∨ xbe < tkE bt tp xbe := by
          rcases Decidable.em (tkK bt tp xbe wb = 0) with z | z
          · exact Or.inl z
          · exact Or.inr (tk_pos hbe z).1
        have hE7 : xbe ≤ tkE bt tp xbe := Nat.le_trans (tkA_b (bt := bt) hbe).1 (tkE_ge hbe)
        refine lv_aload_n hx hb dX6_parse_86 rfl (lv_at hl 1 rfl) ?_
        refine lv_aload_n hx hb dX6_parse_87 rfl (lv_at hl 1 rfl) ?_
        refine va_get (D := D) (ci := 6) (v := .ref (oq 5)) (C := RX6) (T := TX6) (N := 15) hx hb hts hin_X6 hown hK hP 0 rfl rfl 4 (by decide) (hts (.fieldLink RX6 21 "ClashFree$Parser" "scan" "LClashFree$Scanner;") (List.mem_of_getElem? (i := 2) rfl)) (fun _ h9 => h9) rfl dX6_parse_88 ?_
        refine va_get (D := D) (ci := 8) (v := .int w6) (C := RX8) (T := TX8) (N := 7) hx hb hts hin_X8 hown hK hP 7 rfl rfl 4 (by decide) (hts (.fieldLink RX6 66 "ClashFree$Scanner" "kind" "I") (List.mem_of_getElem? (i := 7) rfl)) (fun _ h9 => h9) rfl dX6_parse_91 ?_
        have hPc := hP.sub (ws' := [(oq 0, .inr (6, gPs oq xqf xqp xqd xqs xqt xqb xqh xqr xqn (nI xbk) (nI xwz))), (oq 6, .inl (cI, 5, .inl gfO)), (oq 7, .inl (cI, 600, .inl gfW)), (oq 1, .inr (7, [.int (nI xpz), .ref (oq 2), .ref (oq 3), .ref (oq 4)])), (oq 2, .inl (cI, 600, .inl gfK)), (oq 3, .inl (cI, 600, .inl gfN)), (oq 4, .inl (cI, 600, .inl gfL)), (oq 5, .inr (8, [.ref (ox 2), .int (nI tp), .int (nI w4), .int (nI w5), .int w6, .int w7, .int w8]))]) [0, 1, 2, 3, 4, 5, 6, 7] rfl
        have hKc := hK.sub (tys' := [(cI, .int)]) [0] rfl
        have hDc := hD.sub (ws' := [(oq 0, .inr (6, gPs oq xqf xqp xqd xqs xqt xqb xqh xqr xqn (nI xbk) (nI xwz))), (oq 6, .inl (cI, 5, .inl gfO)), (oq 7, .inl (cI, 600, .inl gfW)), (oq 1, .inr (7, [.int (nI xpz), .ref (oq 2), .ref (oq 3), .ref (oq 4)])), (oq 2, .inl (cI, 600, .inl gfK)), (oq 3, .inl (cI, 600, .inl gfN)), (oq 4, .inl (cI, 600, .inl gfL)), (oq 5, .inr (8, [.ref (ox 2), .int (nI tp), .int (nI w4), .int (nI w5), .int w6, .int w7, .int w8]))]) [0, 1, 2, 3, 4, 5, 6, 7] (by decide) rfl
        have hFc := va_free (wc := [(oq 0, .inr (6, gPs oq xqf xqp xqd xqs xqt xqb xqh xqr xqn (nI xbk) (nI xwz))), (oq 6, .inl (cI, 5, .inl gfO)), (oq 7, .inl (cI, 600, .inl gfW)), (oq 1, .inr (7, [.int (nI xpz), .ref (oq 2), .ref (oq 3), .ref (oq 4)])), (oq 2, .inl (cI, 600, .inl gfK)), (oq 3, .inl (cI, 600, .inl gfN)), (oq 4, .inl (cI, 600, .inl gfL)), (oq 5, .inr (8, [.ref (ox 2), .int (nI tp), .int (nI w4), .int (nI w5), .int w6, .int w7, .int w8]))]) hD hS hA [0, 1, 2, 3, 4, 5, 6, 7] rfl
        refine va_callv (va_runV (As := [.int w6]) (rest := []) ⟨hx, hb, hml, hown, hts⟩ (k_accept l D _ oq cI xqf xqp xqd xqs xqt xqb xqh xqr xqn xbk xwz gfO gfW xpz gfK gfN gfL (.ref (ox 2)) (nI tp) (nI w4) (nI w5) w6 w7 w8 w6 (tkK bt tp xbe wb) (tkN bt tp xbe) sg hb9_k hk255 (fun q => ⟨hb9_n (tkK_2 q).1 (tkK_2 q).2.1, tkN_le hbe q⟩) hM (by omega) hpk h6) (cwV 1 hts g_k_parse_k_accept_69 rfl rfl rfl (by decide +kernel) ⟨(Nat.le_of_ble_eq_true rfl), (Nat.le_of_ble_eq_true rfl)⟩) (PcWC_V (q0 := 0) hPc hKc hDc hN rfl rfl) rfl rfl hl.1 rfl (lv_room (Nat.le_of_ble_eq_true rfl)) dX6_parse_94 ⟨(Nat.le_of_ble_eq_true rfl), (Nat.le_of_ble_eq_true rfl)⟩) hS (fun q _ h => hFc q h) hFc (fun uu tt H locs htt hvm hw hB hz1 hk1 hS => ?_)
        obtain ⟨w11, w12, w13, w14, w15, w16, w17, w18, w19, w20, w21, w22, w23, w24, w25, w26, w27⟩ := uu
        obtain ⟨hP1, hK1, hD1⟩ := hB
        rw [htt] at hP1
        have hK1 := va_K.moved hvm.symm hK1
        have hP1 : va_P D vwCl [(oq 0, .inr (6, gPs oq w11 w12 w13 w14 w15 w16 w17 w18 w19 (nI w20) (nI w21))), (oq 6, .inl (cI, 5, .inl w22)), (oq 7, .inl (cI, 600, .inl w23)), (oq 1, .inr (7, [.int (nI w24), .ref (oq 2), .ref (oq 3), .ref (oq 4)])), (oq 2, .inl (cI, 600, .inl w25)), (oq 3, .inl (cI, 600, .inl w26)), (oq 4, .inl (cI, 600, .inl w27)), (oq 5, .inr (8, [.ref (ox 2), .int (nI tp), .int (nI w4), .int (nI w5), .int w6, .int w7, .int w8]))] H := hP1
        obtain ⟨hP, hD⟩ := va_join (wr := [(ox 2, .inl (cI, 1400, .inl fT))]) (w1 := [(oq 0, .inr (6, gPs oq w11 w12 w13 w14 w15 w16 w17 w18 w19 (nI w20) (nI w21))), (oq 6, .inl (cI, 5, .inl w22)), (oq 7, .inl (cI, 600, .inl w23)), (oq 1, .inr (7, [.int (nI w24), .ref (oq 2), .ref (oq 3), .ref (oq 4)])), (oq 2, .inl (cI, 600, .inl w25)), (oq 3, .inl (cI, 600, .inl w26)), (oq 4, .inl (cI, 600, .inl w27)), (oq 5, .inr (8, [.ref (ox 2), .int (nI tp), .int (nI w4), .int (nI w5), .int w6, .int w7, .int w8]))]) hP hD [0, 1, 2, 3, 4, 5, 6, 7] [8] rfl rfl (by decide) (by decide) hk1 hFc hP1 hD1
        have hP : va_P D vwCl [(ox 2, .inl (cI, 1400, .inl fT)), (oq 0, .inr (6, gPs oq w11 w12 w13 w14 w15 w16 w17 w18 w19 (nI w20) (nI w21))), (oq 6, .inl (cI, 5, .inl w22)), (oq 7, .inl (cI, 600, .inl w23)), (oq 1, .inr (7, [.int (nI w24), .ref (oq 2), .ref (oq 3), .ref (oq 4)])), (oq 2, .inl (cI, 600, .inl w25)), (oq 3, .inl (cI, 600, .inl w26)), (oq 4, .inl (cI, 600, .inl w27)), (oq 5, .inr (8, [.ref (ox 2), .int (nI tp), .int (nI w4), .int (nI w5), .int w6, .int w7, .int w8]))] H := hP
        have hD : va_D A [(ox 2, .inl (cI, 1400, .inl fT)), (oq 0, .inr (6, gPs oq w11 w12 w13 w14 w15 w16 w17 w18 w19 (nI w20) (nI w21))), (oq 6, .inl (cI, 5, .inl w22)), (oq 7, .inl (cI, 600, .inl w23)), (oq 1, .inr (7, [.int (nI w24), .ref (oq 2), .ref (oq 3), .ref (oq 4)])), (oq 2, .inl (cI, 600, .inl w25)), (oq 3, .inl (cI, 600, .inl w26)), (oq 4, .inl (cI, 600, .inl w27)), (oq 5, .inr (8, [.ref (ox 2), .int (nI tp), .int (nI w4), .int (nI w5), .int w6, .int w7, .int w8]))] := hD
        try dsimp only at hw
        clear hz1 hk1 hFc hPc hKc hDc
        obtain ⟨hacc, hpq⟩ := hw
        obtain ⟨s2, hM2, hI2, hI6⟩ := hinv.step (by omega) h6 hbe hacc
        try dsimp only at hM2
        rw [← hb9_b] at hI2 hI6 hE9 hE8 hE7
        refine lv_aload_n hx hb dX6_parse_97 rfl (lv_at hl 1 rfl) ?_
        refine va_get (D := D) (ci := 6) (v := .int w11) (C := RX6) (T := TX6) (N := 15) hx hb hts hin_X6 hown hK hP 1 rfl rfl 0 (by decide) (hts (.fieldLink RX6 32 "ClashFree$Parser" "fault" "I") (List.mem_of_getElem? (i := 12) rfl)) (fun _ h9 => h9) rfl dX6_parse_98 ?_
        refine lv_if_eq (tgt := 117) hx hb dX6_parse_101 (by decide) (fun hc28 => ?_) (fun hc28 => ?_)
        ·
          refine lv_iinc (v := nI (y + 1)) (lv' := [(3, .int (nI (y + 1))), (0, .ref (oq 0)), (1, .ref (ox 2)), (2, .int (nI tp))]) hx hb dX6_parse_117 hl (k := 0) rfl (nI_1 _) (by decide) rfl (fun ls hl => ?_)
          refine lv_goto (tgt := 65) hx hb dX6_parse_120 (by decide) ?_
          exact ih (y + 1) w11 w12 w13 w14 w15 w16 w17 w18 w19 w20 w21 w22 w23 w24 w25 w26 w27 w4 w5 w6 w7 w8 s2 (tkW bt tp xbe) (by omega) (hM2) (by omega) (by omega) (hb9_w) (hI2) (by omega) H locs ls (hP.sub [1, 2, 3, 4, 5, 6, 7, 8, 0] rfl) (hD.sub [1, 2, 3, 4, 5, 6, 7, 8, 0] (by decide) rfl) hS (lv_sub hl [0, 1, 2, 3] rfl)
        ·
          refine lv_aload_n hx hb dX6_parse_104 rfl (lv_at hl 1 rfl) ?_
          refine va_get (D := D) (ci := 6) (v := .int w17) (C := RX6) (T := TX6) (N := 15) hx hb hts hin_X6 hown hK hP 1 rfl rfl 8 (by decide) (hts (.fieldLink RX6 42 "ClashFree$Parser" "heading" "Z") (List.mem_of_getElem? (i := 13) rfl)) (fun _ h9 => h9) rfl dX6_parse_105 ?_
          refine lv_if_ne (tgt := 117) hx hb dX6_parse_108 (by decide) (fun hc29 => ?_) (fun hc29 => ?_)
          ·
            refine lv_iinc (v := nI (y + 1)) (lv' := [(3, .int (nI (y + 1))), (0, .ref (oq 0)), (1, .ref (ox 2)), (2, .int (nI tp))]) hx hb dX6_parse_117 hl (k := 0) rfl (nI_1 _) (by decide) rfl (fun ls hl => ?_)
            refine lv_goto (tgt := 65) hx hb dX6_parse_120 (by decide) ?_
            exact ih (y + 1) w11 w12 w13 w14 w15 w16 w17 w18 w19 w20 w21 w22 w23 w24 w25 w26 w27 w4 w5 w6 w7 w8 s2 (tkW bt tp xbe) (by omega) (hM2) (by omega) (by omega) (hb9_w) (hI2) (by omega) H locs ls (hP.sub [1, 2, 3, 4, 5, 6, 7, 8, 0] rfl) (hD.sub [1, 2, 3, 4, 5, 6, 7, 8, 0] (by decide) rfl) hS (lv_sub hl [0, 1, 2, 3] rfl)
          ·
            refine lv_aload_n hx hb dX6_parse_111 rfl (lv_at hl 1 rfl) ?_
            refine lv_bipush (v := 6) hx hb dX6_parse_112 (by decide) ?_
            refine va_put (D := D) (ci := 6) (v := .int 6) (ty := .int) (C := RX6) (T := TX6) (N := 15) hx hb hts hin_X6 tyX6 tyX6_ok nmX6 hown hK hP hD hS 1 rfl rfl 5 (by decide) (hts (.fieldLink RX6 39 "ClashFree$Parser" "state" "I") (List.mem_of_getElem? (i := 1) rfl)) (fun _ h9 => h9) rfl (by decide +kernel) rfl rfl (Nat.le_of_ble_eq_true rfl) dX6_parse_114 (fun H locs hP hD hS => ?_)
            have hP : va_P D vwCl [(ox 2, .inl (cI, 1400, .inl fT)), (oq 0, .inr (6, gPs oq w11 w12 w13 6 w15 w16 w17 w18 w19 (nI w20) (nI w21))), (oq 6, .inl (cI, 5, .inl w22)), (oq 7, .inl (cI, 600, .inl w23)), (oq 1, .inr (7, [.int (nI w24), .ref (oq 2), .ref (oq 3), .ref (oq 4)])), (oq 2, .inl (cI, 600, .inl w25)), (oq 3, .inl (cI, 600, .inl w26)), (oq 4, .inl (cI, 600, .inl w27)), (oq 5, .inr (8, [.ref (ox 2), .int (nI tp), .int (nI w4), .int (nI w5), .int w6, .int w7, .int w8]))] H := hP
            have hD : va_D A [(ox 2, .inl (cI, 1400, .inl fT)), (oq 0, .inr (6, gPs oq w11 w12 w13 6 w15 w16 w17 w18 w19 (nI w20) (nI w21))), (oq 6, .inl (cI, 5, .inl w22)), (oq 7, .inl (cI, 600, .inl w23)), (oq 1, .inr (7, [.int (nI w24), .ref (oq 2), .ref (oq 3), .ref (oq 4)])), (oq 2, .inl (cI, 600, .inl w25)), (oq 3, .inl (cI, 600, .inl w26)), (oq 4, .inl (cI, 600, .inl w27)), (oq 5, .inr (8, [.ref (ox 2), .int (nI tp), .int (nI w4), .int (nI w5), .int w6, .int w7, .int w8]))] := hD
            refine lv_iinc (v := nI (y + 1)) (lv' := [(3, .int (nI (y + 1))), (0, .ref (oq 0)), (1, .ref (ox 2)), (2, .int (nI tp))]) hx hb dX6_parse_117 hl (k := 0) rfl (nI_1 _) (by decide) rfl (fun ls hl => ?_)
            refine lv_goto (tgt := 65) hx hb dX6_parse_120 (by decide) ?_
            exact ih (y + 1) w11 w12 w13 6 w15 w16 w17 w18 w19 w20 w21 w22 w23 w24 w25 w26 w27 w4 w5 w6 w7 w8 (6, s2.2) (tkW bt tp xbe) (by omega) (hM2.nst (st := 6) (tt := s2.2.1) (rr := s2.2.2.1) (by decide) (fun q => absurd q (by decide)) (fun q => absurd q (by decide))) (by omega) (by omega) (hb9_w) (hI6 hc28) (by omega) H locs ls (hP.sub [1, 2, 3, 4, 5, 6, 7, 8, 0] rfl) (hD.sub [1, 2, 3, 4, 5, 6, 7, 8, 0] (by decide) rfl) hS (lv_sub hl [0, 1, 2, 3] rfl)
set_option maxHeartbeats 4000000 in
set_option maxRecDepth 100000 in
theorem k_parse (l : Launch) (D : va_G) (sz : Nat) (adK : Nat → Nat) (adV : Nat → Nat) (oq : Nat → Nat) (ox : Nat → Nat) (cI : ClassId) (qf : Int32) (qp : Int32) (qd : Int32) (qs : Int32) (qt : Int32) (qb : Int32) (qh : Int32) (qr : Int32) (qn : Int32) (bk : Nat) (wz : Nat) (fO : Nat → Int32) (fW : Nat → Int32) (pz : Nat) (fK : Nat → Int32) (fN : Nat → Int32) (fL : Nat → Int32) (tx : Value) (zl : Int32) (ta : Int32) (be : Int32) (ki : Int32) (nu : Int32) (wo : Int32) (fT : Nat → Int32) (tp : Nat) (bt : Nat → Nat) (htp2 : tp ≤ 1400) (hbt : TieC fT bt) : Met l yX6_parse wp_k_parse ({ frames := 9, cells := 0, slots := 0, locals := 340 }) (PcWS D  adK adV [.ref (oq 0), .ref (ox 2), .int (nI tp)] sz [(oq 0, .inr (6, gPs oq qf qp qd qs qt qb qh qr qn (nI bk) (nI wz))), (oq 6, .inl (cI, 5, .inl fO)), (oq 7, .inl (cI, 600, .inl fW)), (oq 1, .inr (7, [.int (nI pz), .ref (oq 2), .ref (oq 3), .ref (oq 4)])), (oq 2, .inl (cI, 600, .inl fK)), (oq 3, .inl (cI, 600, .inl fN)), (oq 4, .inl (cI, 600, .inl fL)), (oq 5, .inr (8, [tx, .int zl, .int ta, .int be, .int ki, .int nu, .int wo])), (ox 2, .inl (cI, 1400, .inl fT))] [(cI, .int)]) (va_Qv (fun (u : (Int32) × (Int32) × (Int32) × (Int32) × (Int32) × (Int32) × (Int32) × (Int32) × (Int32) × (Nat) × (Nat) × (Nat → Int32) × (Nat → Int32) × (Nat) × (Nat → Int32) × (Nat → Int32) × (Nat → Int32) × (Value) × (Int32) × (Int32) × (Int32) × (Int32) × (Int32) × (Int32)) => u.2.2.2.2.2.2.2.2.2.1 ≤ 5 ∧ u.2.2.2.2.2.2.2.2.2.2.1 ≤ 600 ∧ u.2.2.2.2.2.2.2.2.2.2.2.2.2.1 ≤ 600 ∧ ((u.1 = 0 ∧ ∃ z, readT bt tp = some z ∧ MatG z.2.2.2.2.2.2.2.2 u.2.2.2.2.2.2.2.2.2.2.2.2.2.1 u.2.2.2.2.2.2.2.2.2.2.2.2.2.2.1 u.2.2.2.2.2.2.2.2.2.2.2.2.2.2.2.1 u.2.2.2.2.2.2.2.2.2.2.2.2.2.2.2.2.1) ∨ (¬ u.1 = 0 ∧ readT bt tp = none))) (fun (u : (Int32) × (Int32) × (Int32) × (Int32) × (Int32) × (Int32) × (Int32) × (Int32) × (Int32) × (Nat) × (Nat) × (Nat → Int32) × (Nat → Int32) × (Nat) × (Nat → Int32) × (Nat → Int32) × (Nat → Int32) × (Value) × (Int32) × (Int32) × (Int32) × (Int32) × (Int32) × (Int32)) t => va_P D vwCl [(oq 0, .inr (6, gPs oq u.1 u.2.1 u.2.2.1 u.2.2.2.1 u.2.2.2.2.1 u.2.2.2.2.2.1 u.2.2.2.2.2.2.1 u.2.2.2.2.2.2.2.1 u.2.2.2.2.2.2.2.2.1 (nI u.2.2.2.2.2.2.2.2.2.1) (nI u.2.2.2.2.2.2.2.2.2.2.1))), (oq 6, .inl (cI, 5, .inl u.2.2.2.2.2.2.2.2.2.2.2.1)), (oq 7, .inl (cI, 600, .inl u.2.2.2.2.2.2.2.2.2.2.2.2.1)), (oq 1, .inr (7, [.int (nI u.2.2.2.2.2.2.2.2.2.2.2.2.2.1), .ref (oq 2), .ref (oq 3), .ref (oq 4)])), (oq 2, .inl (cI, 600, .inl u.2.2.2.2.2.2.2.2.2.2.2.2.2.2.1)), (oq 3, .inl (cI, 600, .inl u.2.2.2.2.2.2.2.2.2.2.2.2.2.2.2.1)), (oq 4, .inl (cI, 600, .inl u.2.2.2.2.2.2.2.2.2.2.2.2.2.2.2.2.1)), (oq 5, .inr (8, [u.2.2.2.2.2.2.2.2.2.2.2.2.2.2.2.2.2.1, .int u.2.2.2.2.2.2.2.2.2.2.2.2.2.2.2.2.2.2.1, .int u.2.2.2.2.2.2.2.2.2.2.2.2.2.2.2.2.2.2.2.1, .int u.2.2.2.2.2.2.2.2.2.2.2.2.2.2.2.2.2.2.2.2.1, .int u.2.2.2.2.2.2.2.2.2.2.2.2.2.2.2.2.2.2.2.2.2.1, .int u.2.2.2.2.2.2.2.2.2.2.2.2.2.2.2.2.2.2.2.2.2.2.1, .int u.2.2.2.2.2.2.2.2.2.2.2.2.2.2.2.2.2.2.2.2.2.2.2])), (ox 2, .inl (cI, 1400, .inl fT))] t.heap ∧ va_K D vwCl [(cI, .int)] t ∧ va_D (va_A [(oq 0, .inr (6, gPs oq qf qp qd qs qt qb qh qr qn (nI bk) (nI wz))), (oq 6, .inl (cI, 5, .inl fO)), (oq 7, .inl (cI, 600, .inl fW)), (oq 1, .inr (7, [.int (nI pz), .ref (oq 2), .ref (oq 3), .ref (oq 4)])), (oq 2, .inl (cI, 600, .inl fK)), (oq 3, .inl (cI, 600, .inl fN)), (oq 4, .inl (cI, 600, .inl fL)), (oq 5, .inr (8, [tx, .int zl, .int ta, .int be, .int ki, .int nu, .int wo])), (ox 2, .inl (cI, 1400, .inl fT))] sz) [(oq 0, .inr (6, gPs oq u.1 u.2.1 u.2.2.1 u.2.2.2.1 u.2.2.2.2.1 u.2.2.2.2.2.1 u.2.2.2.2.2.2.1 u.2.2.2.2.2.2.2.1 u.2.2.2.2.2.2.2.2.1 (nI u.2.2.2.2.2.2.2.2.2.1) (nI u.2.2.2.2.2.2.2.2.2.2.1))), (oq 6, .inl (cI, 5, .inl u.2.2.2.2.2.2.2.2.2.2.2.1)), (oq 7, .inl (cI, 600, .inl u.2.2.2.2.2.2.2.2.2.2.2.2.1)), (oq 1, .inr (7, [.int (nI u.2.2.2.2.2.2.2.2.2.2.2.2.2.1), .ref (oq 2), .ref (oq 3), .ref (oq 4)])), (oq 2, .inl (cI, 600, .inl u.2.2.2.2.2.2.2.2.2.2.2.2.2.2.1)), (oq 3, .inl (cI, 600, .inl u.2.2.2.2.2.2.2.2.2.2.2.2.2.2.2.1)), (oq 4, .inl (cI, 600, .inl u.2.2.2.2.2.2.2.2.2.2.2.2.2.2.2.2.1)), (oq 5, .inr (8, [u.2.2.2.2.2.2.2.2.2.2.2.2.2.2.2.2.2.1, .int u.2.2.2.2.2.2.2.2.2.2.2.2.2.2.2.2.2.2.1, .int u.2.2.2.2.2.2.2.2.2.2.2.2.2.2.2.2.2.2.2.1, .int u.2.2.2.2.2.2.2.2.2.2.2.2.2.2.2.2.2.2.2.2.1, .int u.2.2.2.2.2.2.2.2.2.2.2.2.2.2.2.2.2.2.2.2.2.1, .int u.2.2.2.2.2.2.2.2.2.2.2.2.2.2.2.2.2.2.2.2.2.2.1, .int u.2.2.2.2.2.2.2.2.2.2.2.2.2.2.2.2.2.2.2.2.2.2.2])), (ox 2, .inl (cI, 1400, .inl fT))]) (va_A [(oq 0, .inr (6, gPs oq qf qp qd qs qt qb qh qr qn (nI bk) (nI wz))), (oq 6, .inl (cI, 5, .inl fO)), (oq 7, .inl (cI, 600, .inl fW)), (oq 1, .inr (7, [.int (nI pz), .ref (oq 2), .ref (oq 3), .ref (oq 4)])), (oq 2, .inl (cI, 600, .inl fK)), (oq 3, .inl (cI, 600, .inl fN)), (oq 4, .inl (cI, 600, .inl fL)), (oq 5, .inr (8, [tx, .int zl, .int ta, .int be, .int ki, .int nu, .int wo])), (ox 2, .inl (cI, 1400, .inl fT))] sz)) 0 0 (va_A [(oq 0, .inr (6, gPs oq qf qp qd qs qt qb qh qr qn (nI bk) (nI wz))), (oq 6, .inl (cI, 5, .inl fO)), (oq 7, .inl (cI, 600, .inl fW)), (oq 1, .inr (7, [.int (nI pz), .ref (oq 2), .ref (oq 3), .ref (oq 4)])), (oq 2, .inl (cI, 600, .inl fK)), (oq 3, .inl (cI, 600, .inl fN)), (oq 4, .inl (cI, 600, .inl fL)), (oq 5, .inr (8, [tx, .int zl, .int ta, .int be, .int ki, .int nu, .int wo])), (ox 2, .inl (cI, 1400, .inl fT))] sz) := by
  refine Met.ofW (cc := cX6_parse) (maxL := 4) (ret := none) (by decide) rfl ?_
  intro p e s m args below meth c s₁ B hml hv
  obtain ⟨rfl, hsz, hP, hK, hD0, hN, hST⟩ := hv
  have hx := B.exec
  have hb := B.bytes
  have hr := B.returns
  have hts := atoms_spec (ws := wp_k_parse) B.pre
  have hin_X6 : ∀ w ∈ wsX60, w ∈ wp_k_parse := fun _ h => (List.mem_cons_of_mem _ (List.mem_append_right _ (List.mem_append_right _ (List.mem_append_right _ (List.mem_append_right _ (List.mem_append_right _ (List.mem_append_left _ h)))))))
  have hin_X8 : ∀ w ∈ wsX80, w ∈ wp_k_parse := fun _ h => (List.mem_cons_of_mem _ (List.mem_append_right _ (List.mem_append_right _ (List.mem_append_right _ (List.mem_append_right _ (List.mem_append_right _ (List.mem_append_right _ (List.mem_append_left _ h))))))))
  have hin_X7 : ∀ w ∈ wsX70, w ∈ wp_k_parse := fun _ h => (List.mem_cons_of_mem _ (List.mem_append_right _ (List.mem_append_right _ (List.mem_append_right _ (List.mem_append_right _ (List.mem_append_right _ (List.mem_append_right _ (List.mem_append_right _ (List.mem_append_left _ h)))))))))
  have hown : s.vm.findClass RX6 = some m.cls := findClass_of_methodNamed B.named
  have hlocks := B.notSynchronized
  subst hsz
  have hD := hD0.self (sz := s.heap.size)
  generalize hAe : va_A [(oq 0, .inr (6, gPs oq qf qp qd qs qt qb qh qr qn (nI bk) (nI wz))), (oq 6, .inl (cI, 5, .inl fO)), (oq 7, .inl (cI, 600, .inl fW)), (oq 1, .inr (7, [.int (nI pz), .ref (oq 2), .ref (oq 3), .ref (oq 4)])), (oq 2, .inl (cI, 600, .inl fK)), (oq 3, .inl (cI, 600, .inl fN)), (oq 4, .inl (cI, 600, .inl fL)), (oq 5, .inr (8, [tx, .int zl, .int ta, .int be, .int ki, .int nu, .int wo])), (ox 2, .inl (cI, 1400, .inl fT))] s.heap.size = A at hD hST ⊢
  have hA : ∀ q : Nat, s.heap.size ≤ q → A q := fun q h => by rw [← hAe]; exact Or.inr h
  have hS : va_S A s.heap s.heap [] := va_S.rf
  have hP : va_P D vwCl [(oq 0, .inr (6, gPs oq qf qp qd qs qt qb qh qr qn (nI bk) (nI wz))), (oq 6, .inl (cI, 5, .inl fO)), (oq 7, .inl (cI, 600, .inl fW)), (oq 1, .inr (7, [.int (nI pz), .ref (oq 2), .ref (oq 3), .ref (oq 4)])), (oq 2, .inl (cI, 600, .inl fK)), (oq 3, .inl (cI, 600, .inl fN)), (oq 4, .inl (cI, 600, .inl fL)), (oq 5, .inr (8, [tx, .int zl, .int ta, .int be, .int ki, .int nu, .int wo])), (ox 2, .inl (cI, 1400, .inl fT))] s.heap := hP
  have hl := lv_entry ([.ref (oq 0), .ref (ox 2), .int (nI tp)]) (n := 4) (Nat.le_of_ble_eq_true rfl)
  rw [lg_entry_eq]
  generalize (lg_sl ([.ref (oq 0), .ref (ox 2), .int (nI tp)]) ++ List.replicate (4 - (lg_sl ([.ref (oq 0), .ref (ox 2), .int (nI tp)])).length) Slot.unset).toArray = ls at hl ⊢
  have hl : lv_has ls 4 [(0, .ref (oq 0)), (1, .ref (ox 2)), (2, .int (nI tp))] := hl
  refine lv_aload_n hx hb dX6_parse_0 rfl (lv_at hl 0 rfl) ?_
  refine lv_iconst (v := 0) hx hb dX6_parse_1 (by decide) ?_
  refine va_put (D := D) (ci := 6) (v := .int 0) (ty := .int) (C := RX6) (T := TX6) (N := 15) hx hb hts hin_X6 tyX6 tyX6_ok nmX6 hown hK hP hD hS 0 rfl rfl 0 (by decide) (hts (.fieldLink RX6 32 "ClashFree$Parser" "fault" "I") (List.mem_of_getElem? (i := 12) rfl)) (fun _ h9 => h9) rfl (by decide +kernel) rfl rfl (Nat.le_of_ble_eq_true rfl) dX6_parse_2 (fun H locs hP hD hS => ?_)
  have hP : va_P D vwCl [(oq 0, .inr (6, gPs oq 0 qp qd qs qt qb qh qr qn (nI bk) (nI wz))), (oq 6, .inl (cI, 5, .inl fO)), (oq 7, .inl (cI, 600, .inl fW)), (oq 1, .inr (7, [.int (nI pz), .ref (oq 2), .ref (oq 3), .ref (oq 4)])), (oq 2, .inl (cI, 600, .inl fK)), (oq 3, .inl (cI, 600, .inl fN)), (oq 4, .inl (cI, 600, .inl fL)), (oq 5, .inr (8, [tx, .int zl, .int ta, .int be, .int ki, .int nu, .int wo])), (ox 2, .inl (cI, 1400, .inl fT))] H := hP
  have hD : va_D A [(oq 0, .inr (6, gPs oq 0 qp qd qs qt qb qh qr qn (nI bk) (nI wz))), (oq 6, .inl (cI, 5, .inl fO)), (oq 7, .inl (cI, 600, .inl fW)), (oq 1, .inr (7, [.int (nI pz), .ref (oq 2), .ref (oq 3), .ref (oq 4)])), (oq 2, .inl (cI, 600, .inl fK)), (oq 3, .inl (cI, 600, .inl fN)), (oq 4, .inl (cI, 600, .inl fL)), (oq 5, .inr (8, [tx, .int zl, .int ta, .int be, .int ki, .int nu, .int wo])), (ox 2, .inl (cI, 1400, .inl fT))] := hD
  refine lv_aload_n hx hb dX6_parse_5 rfl (lv_at hl 0 rfl) ?_
  refine va_get (D := D) (ci := 6) (v := .ref (oq 1)) (C := RX6) (T := TX6) (N := 15) hx hb hts hin_X6 hown hK hP 0 rfl rfl 3 (by decide) (hts (.fieldLink RX6 12 "ClashFree$Parser" "program" "LClashFree$Program;") (List.mem_of_getElem? (i := 14) rfl)) (fun _ h9 => h9) rfl dX6_parse_6 ?_
  refine lv_iconst (v := 0) hx hb dX6_parse_9 (by decide) ?_
  refine va_put (D := D) (ci := 7) (v := .int 0) (ty := .int) (C := RX7) (T := TX7) (N := 4) hx hb hts hin_X7 tyX7 tyX7_ok nmX7 hown hK hP hD hS 3 rfl rfl 0 (by decide) (hts (.fieldLink RX6 36 "ClashFree$Program" "size" "I") (List.mem_of_getElem? (i := 15) rfl)) (fun _ h9 => h9) rfl (by decide +kernel) rfl rfl (Nat.le_of_ble_eq_true rfl) dX6_parse_10 (fun H locs hP hD hS => ?_)
  have hP : va_P D vwCl [(oq 0, .inr (6, gPs oq 0 qp qd qs qt qb qh qr qn (nI bk) (nI wz))), (oq 6, .inl (cI, 5, .inl fO)), (oq 7, .inl (cI, 600, .inl fW)), (oq 1, .inr (7, [.int 0, .ref (oq 2), .ref (oq 3), .ref (oq 4)])), (oq 2, .inl (cI, 600, .inl fK)), (oq 3, .inl (cI, 600, .inl fN)), (oq 4, .inl (cI, 600, .inl fL)), (oq 5, .inr (8, [tx, .int zl, .int ta, .int be, .int ki, .int nu, .int wo])), (ox 2, .inl (cI, 1400, .inl fT))] H := hP
  have hD : va_D A [(oq 0, .inr (6, gPs oq 0 qp qd qs qt qb qh qr qn (nI bk) (nI wz))), (oq 6, .inl (cI, 5, .inl fO)), (oq 7, .inl (cI, 600, .inl fW)), (oq 1, .inr (7, [.int 0, .ref (oq 2), .ref (oq 3), .ref (oq 4)])), (oq 2, .inl (cI, 600, .inl fK)), (oq 3, .inl (cI, 600, .inl fN)), (oq 4, .inl (cI, 600, .inl fL)), (oq 5, .inr (8, [tx, .int zl, .int ta, .int be, .int ki, .int nu, .int wo])), (ox 2, .inl (cI, 1400, .inl fT))] := hD
  refine lv_aload_n hx hb dX6_parse_13 rfl (lv_at hl 0 rfl) ?_
  refine lv_iconst (v := 0) hx hb dX6_parse_14 (by decide) ?_
  refine va_put (D := D) (ci := 6) (v := .int 0) (ty := .int) (C := RX6) (T := TX6) (N := 15) hx hb hts hin_X6 tyX6 tyX6_ok nmX6 hown hK hP hD hS 0 rfl rfl 5 (by decide) (hts (.fieldLink RX6 39 "ClashFree$Parser" "state" "I") (List.mem_of_getElem? (i := 1) rfl)) (fun _ h9 => h9) rfl (by decide +kernel) rfl rfl (Nat.le_of_ble_eq_true rfl) dX6_parse_15 (fun H locs hP hD hS => ?_)
  have hP : va_P D vwCl [(oq 0, .inr (6, gPs oq 0 qp qd 0 qt qb qh qr qn (nI bk) (nI wz))), (oq 6, .inl (cI, 5, .inl fO)), (oq 7, .inl (cI, 600, .inl fW)), (oq 1, .inr (7, [.int 0, .ref (oq 2), .ref (oq 3), .ref (oq 4)])), (oq 2, .inl (cI, 600, .inl fK)), (oq 3, .inl (cI, 600, .inl fN)), (oq 4, .inl (cI, 600, .inl fL)), (oq 5, .inr (8, [tx, .int zl, .int ta, .int be, .int ki, .int nu, .int wo])), (ox 2, .inl (cI, 1400, .inl fT))] H := hP
  have hD : va_D A [(oq 0, .inr (6, gPs oq 0 qp qd 0 qt qb qh qr qn (nI bk) (nI wz))), (oq 6, .inl (cI, 5, .inl fO)), (oq 7, .inl (cI, 600, .inl fW)), (oq 1, .inr (7, [.int 0, .ref (oq 2), .ref (oq 3), .ref (oq 4)])), (oq 2, .inl (cI, 600, .inl fK)), (oq 3, .inl (cI, 600, .inl fN)), (oq 4, .inl (cI, 600, .inl fL)), (oq 5, .inr (8, [tx, .int zl, .int ta, .int be, .int ki, .int nu, .int wo])), (ox 2, .inl (cI, 1400, .inl fT))] := hD
  refine lv_aload_n hx hb dX6_parse_18 rfl (lv_at hl 0 rfl) ?_
  refine lv_iconst (v := 0) hx hb dX6_parse_19 (by decide) ?_
  refine va_put (D := D) (ci := 6) (v := .int 0) (ty := .boolean) (C := RX6) (T := TX6) (N := 15) hx hb hts hin_X6 tyX6 tyX6_ok nmX6 hown hK hP hD hS 0 rfl rfl 8 (by decide) (hts (.fieldLink RX6 42 "ClashFree$Parser" "heading" "Z") (List.mem_of_getElem? (i := 13) rfl)) (fun _ h9 => h9) rfl (by decide +kernel) rfl rfl (Nat.le_of_ble_eq_true rfl) dX6_parse_20 (fun H locs hP hD hS => ?_)
  have hP : va_P D vwCl [(oq 0, .inr (6, gPs oq 0 qp qd 0 qt qb 0 qr qn (nI bk) (nI wz))), (oq 6, .inl (cI, 5, .inl fO)), (oq 7, .inl (cI, 600, .inl fW)), (oq 1, .inr (7, [.int 0, .ref (oq 2), .ref (oq 3), .ref (oq 4)])), (oq 2, .inl (cI, 600, .inl fK)), (oq 3, .inl (cI, 600, .inl fN)), (oq 4, .inl (cI, 600, .inl fL)), (oq 5, .inr (8, [tx, .int zl, .int ta, .int be, .int ki, .int nu, .int wo])), (ox 2, .inl (cI, 1400, .inl fT))] H := hP
  have hD : va_D A [(oq 0, .inr (6, gPs oq 0 qp qd 0 qt qb 0 qr qn (nI bk) (nI wz))), (oq 6, .inl (cI, 5, .inl fO)), (oq 7, .inl (cI, 600, .inl fW)), (oq 1, .inr (7, [.int 0, .ref (oq 2), .ref (oq 3), .ref (oq 4)])), (oq 2, .inl (cI, 600, .inl fK)), (oq 3, .inl (cI, 600, .inl fN)), (oq 4, .inl (cI, 600, .inl fL)), (oq 5, .inr (8, [tx, .int zl, .int ta, .int be, .int ki, .int nu, .int wo])), (ox 2, .inl (cI, 1400, .inl fT))] := hD
  refine lv_aload_n hx hb dX6_parse_23 rfl (lv_at hl 0 rfl) ?_
  refine lv_iconst (v := 0) hx hb dX6_parse_24 (by decide) ?_
  refine va_put (D := D) (ci := 6) (v := .int 0) (ty := .int) (C := RX6) (T := TX6) (N := 15) hx hb hts hin_X6 tyX6 tyX6_ok nmX6 hown hK hP hD hS 0 rfl rfl 10 (by decide) (hts (.fieldLink RX6 46 "ClashFree$Parser" "parens" "I") (List.mem_of_getElem? (i := 16) rfl)) (fun _ h9 => h9) rfl (by decide +kernel) rfl rfl (Nat.le_of_ble_eq_true rfl) dX6_parse_25 (fun H locs hP hD hS => ?_)
  have hP : va_P D vwCl [(oq 0, .inr (6, gPs oq 0 qp qd 0 qt qb 0 qr 0 (nI bk) (nI wz))), (oq 6, .inl (cI, 5, .inl fO)), (oq 7, .inl (cI, 600, .inl fW)), (oq 1, .inr (7, [.int 0, .ref (oq 2), .ref (oq 3), .ref (oq 4)])), (oq 2, .inl (cI, 600, .inl fK)), (oq 3, .inl (cI, 600, .inl fN)), (oq 4, .inl (cI, 600, .inl fL)), (oq 5, .inr (8, [tx, .int zl, .int ta, .int be, .int ki, .int nu, .int wo])), (ox 2, .inl (cI, 1400, .inl fT))] H := hP
  have hD : va_D A [(oq 0, .inr (6, gPs oq 0 qp qd 0 qt qb 0 qr 0 (nI bk) (nI wz))), (oq 6, .inl (cI, 5, .inl fO)), (oq 7, .inl (cI, 600, .inl fW)), (oq 1, .inr (7, [.int 0, .ref (oq 2), .ref (oq 3), .ref (oq 4)])), (oq 2, .inl (cI, 600, .inl fK)), (oq 3, .inl (cI, 600, .inl fN)), (oq 4, .inl (cI, 600, .inl fL)), (oq 5, .inr (8, [tx, .int zl, .int ta, .int be, .int ki, .int nu, .int wo])), (ox 2, .inl (cI, 1400, .inl fT))] := hD
  refine lv_aload_n hx hb dX6_parse_28 rfl (lv_at hl 0 rfl) ?_
  refine lv_iconst (v := 0) hx hb dX6_parse_29 (by decide) ?_
  refine va_put (D := D) (ci := 6) (v := .int 0) (ty := .int) (C := RX6) (T := TX6) (N := 15) hx hb hts hin_X6 tyX6 tyX6_ok nmX6 hown hK hP hD hS 0 rfl rfl 11 (by decide) (hts (.fieldLink RX6 49 "ClashFree$Parser" "blocks" "I") (List.mem_of_getElem? (i := 17) rfl)) (fun _ h9 => h9) rfl (by decide +kernel) rfl rfl (Nat.le_of_ble_eq_true rfl) dX6_parse_30 (fun H locs hP hD hS => ?_)
  have hP : va_P D vwCl [(oq 0, .inr (6, gPs oq 0 qp qd 0 qt qb 0 qr 0 0 (nI wz))), (oq 6, .inl (cI, 5, .inl fO)), (oq 7, .inl (cI, 600, .inl fW)), (oq 1, .inr (7, [.int 0, .ref (oq 2), .ref (oq 3), .ref (oq 4)])), (oq 2, .inl (cI, 600, .inl fK)), (oq 3, .inl (cI, 600, .inl fN)), (oq 4, .inl (cI, 600, .inl fL)), (oq 5, .inr (8, [tx, .int zl, .int ta, .int be, .int ki, .int nu, .int wo])), (ox 2, .inl (cI, 1400, .inl fT))] H := hP
  have hD : va_D A [(oq 0, .inr (6, gPs oq 0 qp qd 0 qt qb 0 qr 0 0 (nI wz))), (oq 6, .inl (cI, 5, .inl fO)), (oq 7, .inl (cI, 600, .inl fW)), (oq 1, .inr (7, [.int 0, .ref (oq 2), .ref (oq 3), .ref (oq 4)])), (oq 2, .inl (cI, 600, .inl fK)), (oq 3, .inl (cI, 600, .inl fN)), (oq 4, .inl (cI, 600, .inl fL)), (oq 5, .inr (8, [tx, .int zl, .int ta, .int be, .int ki, .int nu, .int wo])), (ox 2, .inl (cI, 1400, .inl fT))] := hD
  refine lv_aload_n hx hb dX6_parse_33 rfl (lv_at hl 0 rfl) ?_
  refine lv_iconst (v := 0) hx hb dX6_parse_34 (by decide) ?_
  refine va_put (D := D) (ci := 6) (v := .int 0) (ty := .int) (C := RX6) (T := TX6) (N := 15) hx hb hts hin_X6 tyX6 tyX6_ok nmX6 hown hK hP hD hS 0 rfl rfl 13 (by decide) (hts (.fieldLink RX6 52 "ClashFree$Parser" "waitingSize" "I") (List.mem_of_getElem? (i := 18) rfl)) (fun _ h9 => h9) rfl (by decide +kernel) rfl rfl (Nat.le_of_ble_eq_true rfl) dX6_parse_35 (fun H locs hP hD hS => ?_)
  have hP : va_P D vwCl [(oq 0, .inr (6, gPs oq 0 qp qd 0 qt qb 0 qr 0 0 0)), (oq 6, .inl (cI, 5, .inl fO)), (oq 7, .inl (cI, 600, .inl fW)), (oq 1, .inr (7, [.int 0, .ref (oq 2), .ref (oq 3), .ref (oq 4)])), (oq 2, .inl (cI, 600, .inl fK)), (oq 3, .inl (cI, 600, .inl fN)), (oq 4, .inl (cI, 600, .inl fL)), (oq 5, .inr (8, [tx, .int zl, .int ta, .int be, .int ki, .int nu, .int wo])), (ox 2, .inl (cI, 1400, .inl fT))] H := hP
  have hD : va_D A [(oq 0, .inr (6, gPs oq 0 qp qd 0 qt qb 0 qr 0 0 0)), (oq 6, .inl (cI, 5, .inl fO)), (oq 7, .inl (cI, 600, .inl fW)), (oq 1, .inr (7, [.int 0, .ref (oq 2), .ref (oq 3), .ref (oq 4)])), (oq 2, .inl (cI, 600, .inl fK)), (oq 3, .inl (cI, 600, .inl fN)), (oq 4, .inl (cI, 600, .inl fL)), (oq 5, .inr (8, [tx, .int zl, .int ta, .int be, .int ki, .int nu, .int wo])), (ox 2, .inl (cI, 1400, .inl fT))] := hD
  refine lv_iload_n hx hb dX6_parse_38 rfl (lv_at hl 2 rfl) ?_
  refine lv_sipush (v := 600) hx hb dX6_parse_39 (by decide) ?_
  refine lv_icmp_le (tgt := 54) hx hb dX6_parse_42 (by decide) (fun hc1 => ?_) (fun hc1 => ?_)
  ·
    have htp6 : tp ≤ 600 := (nI_leI (b := 600) (by omega) (by decide)).mp hc1
    refine lv_aload_n hx hb dX6_parse_54 rfl (lv_at hl 0 rfl) ?_
    refine va_get (D := D) (ci := 6) (v := .ref (oq 5)) (C := RX6) (T := TX6) (N := 15) hx hb hts hin_X6 hown hK hP 0 rfl rfl 4 (by decide) (hts (.fieldLink RX6 21 "ClashFree$Parser" "scan" "LClashFree$Scanner;") (List.mem_of_getElem? (i := 2) rfl)) (fun _ h9 => h9) rfl dX6_parse_55 ?_
    refine lv_aload_n hx hb dX6_parse_58 rfl (lv_at hl 1 rfl) ?_
    refine lv_iload_n hx hb dX6_parse_59 rfl (lv_at hl 2 rfl) ?_
    have hPc := hP.sub (ws' := [(oq 5, .inr (8, [tx, .int zl, .int ta, .int be, .int ki, .int nu, .int wo])), (ox 2, .inl (cI, 1400, .inl fT))]) [7, 8] rfl
    have hKc := hK.sub (tys' := [(cI, .int)]) [0] rfl
    have hDc := hD.sub (ws' := [(oq 5, .inr (8, [tx, .int zl, .int ta, .int be, .int ki, .int nu, .int wo])), (ox 2, .inl (cI, 1400, .inl fT))]) [7, 8] (by decide) rfl
    have hFc := va_free (wc := [(oq 5, .inr (8, [tx, .int zl, .int ta, .int be, .int ki, .int nu, .int wo])), (ox 2, .inl (cI, 1400, .inl fT))]) hD hS hA [7, 8] rfl
    refine va_callv (va_runV (As := [.ref (ox 2), .int (nI tp)]) (rest := []) ⟨hx, hb, hml, hown, hts⟩ (k_sbegin l D _ oq ox cI tx zl ta be ki nu wo fT tp (by first | assumption | omega)) (cwV 2 hts g_k_parse_k_sbegin_59 rfl rfl rfl (by decide +kernel) ⟨(Nat.le_of_ble_eq_true rfl), (Nat.le_of_ble_eq_true rfl)⟩) (PcWC_V (q0 := 0) hPc hKc hDc hN rfl rfl) rfl rfl hl.1 rfl (lv_room (Nat.le_of_ble_eq_true rfl)) dX6_parse_60 ⟨(Nat.le_of_ble_eq_true rfl), (Nat.le_of_ble_eq_true rfl)⟩) hS (fun q _ h => hFc q h) hFc (fun uu tt H locs htt hvm hw hB hz1 hk1 hS => ?_)
    obtain ⟨w3, w4, w5, w6, w7, w8⟩ := uu
    obtain ⟨hP1, hK1, hD1⟩ := hB
    rw [htt] at hP1
    have hK1 := va_K.moved hvm.symm hK1
    have hP1 : va_P D vwCl [(oq 5, .inr (8, [w3, .int w4, .int w5, .int w6, .int w7, .int nu, .int w8])), (ox 2, .inl (cI, 1400, .inl fT))] H := hP1
    obtain ⟨hP, hD⟩ := va_join (wr := [(oq 0, .inr (6, gPs oq 0 qp qd 0 qt qb 0 qr 0 0 0)), (oq 6, .inl (cI, 5, .inl fO)), (oq 7, .inl (cI, 600, .inl fW)), (oq 1, .inr (7, [.int 0, .ref (oq 2), .ref (oq 3), .ref (oq 4)])), (oq 2, .inl (cI, 600, .inl fK)), (oq 3, .inl (cI, 600, .inl fN)), (oq 4, .inl (cI, 600, .inl fL))]) (w1 := [(oq 5, .inr (8, [w3, .int w4, .int w5, .int w6, .int w7, .int nu, .int w8])), (ox 2, .inl (cI, 1400, .inl fT))]) hP hD [7, 8] [0, 1, 2, 3, 4, 5, 6] rfl rfl (by decide) (by decide) hk1 hFc hP1 hD1
    have hP : va_P D vwCl [(oq 0, .inr (6, gPs oq 0 qp qd 0 qt qb 0 qr 0 0 0)), (oq 6, .inl (cI, 5, .inl fO)), (oq 7, .inl (cI, 600, .inl fW)), (oq 1, .inr (7, [.int 0, .ref (oq 2), .ref (oq 3), .ref (oq 4)])), (oq 2, .inl (cI, 600, .inl fK)), (oq 3, .inl (cI, 600, .inl fN)), (oq 4, .inl (cI, 600, .inl fL)), (oq 5, .inr (8, [w3, .int w4, .int w5, .int w6, .int w7, .int nu, .int w8])), (ox 2, .inl (cI, 1400, .inl fT))] H := hP
    have hD : va_D A [(oq 0, .inr (6, gPs oq 0 qp qd 0 qt qb 0 qr 0 0 0)), (oq 6, .inl (cI, 5, .inl fO)), (oq 7, .inl (cI, 600, .inl fW)), (oq 1, .inr (7, [.int 0, .ref (oq 2), .ref (oq 3), .ref (oq 4)])), (oq 2, .inl (cI, 600, .inl fK)), (oq 3, .inl (cI, 600, .inl fN)), (oq 4, .inl (cI, 600, .inl fL)), (oq 5, .inr (8, [w3, .int w4, .int w5, .int w6, .int w7, .int nu, .int w8])), (ox 2, .inl (cI, 1400, .inl fT))] := hD
    try dsimp only at hw
    clear hz1 hk1 hFc hPc hKc hDc
    obtain ⟨hsb9_1, hsb9_2, hsb9_3, hsb9_4, hsb9_5⟩ := hw
    obtain rfl : w3 = .ref (ox 2) := hsb9_1
    obtain rfl : w4 = nI tp := hsb9_2
    obtain rfl : w5 = 0 := hsb9_3
    obtain rfl : w6 = 0 := hsb9_4
    have hP : va_P D vwCl [(oq 0, .inr (6, gPs oq 0 qp qd 0 qt qb 0 qr 0 0 0)), (oq 6, .inl (cI, 5, .inl fO)), (oq 7, .inl (cI, 600, .inl fW)), (oq 1, .inr (7, [.int 0, .ref (oq 2), .ref (oq 3), .ref (oq 4)])), (oq 2, .inl (cI, 600, .inl fK)), (oq 3, .inl (cI, 600, .inl fN)), (oq 4, .inl (cI, 600, .inl fL)), (oq 5, .inr (8, [.ref (ox 2), .int (nI tp), .int (nI 0), .int (nI 0), .int w7, .int nu, .int w8])), (ox 2, .inl (cI, 1400, .inl fT))] H := hP
    have hD : va_D A [(oq 0, .inr (6, gPs oq 0 qp qd 0 qt qb 0 qr 0 0 0)), (oq 6, .inl (cI, 5, .inl fO)), (oq 7, .inl (cI, 600, .inl fW)), (oq 1, .inr (7, [.int 0, .ref (oq 2), .ref (oq 3), .ref (oq 4)])), (oq 2, .inl (cI, 600, .inl fK)), (oq 3, .inl (cI, 600, .inl fN)), (oq 4, .inl (cI, 600, .inl fL)), (oq 5, .inr (8, [.ref (ox 2), .int (nI tp), .int (nI 0), .int (nI 0), .int w7, .int nu, .int w8])), (ox 2, .inl (cI, 1400, .inl fT))] := hD
    refine lv_iconst (v := 0) hx hb dX6_parse_63 (by decide) ?_
    refine lv_istore_n (lv' := [(3, .int 0), (0, .ref (oq 0)), (1, .ref (ox 2)), (2, .int (nI tp))]) hx hb dX6_parse_64 rfl hl (by decide) rfl (fun ls hl => ?_)
    refine lk_parse l D adK adV oq ox cI fT tp bt (htp6) (hbt) hx hb hml hown hts hA (hK.sub [0] rfl) hN hST ?_ (tp + 2) 0 0 qp qd 0 qt qb 0 qr 0 0 0 fO fW 0 fK fN fL 0 0 w7 nu w8 sm0 false (Nat.zero_le _) (MatS_0) (Nat.le_refl _) (Nat.zero_le _) (hsb9_5) (PInv_0 htp6) (by omega) _ _ _ (hP.sub [0, 1, 2, 3, 4, 5, 6, 7, 8] rfl) (hD.sub [0, 1, 2, 3, 4, 5, 6, 7, 8] (by decide) rfl) hS (lv_sub hl [0, 1, 2, 3] rfl)
    intro y_10 xqf_11 xqp_12 xqd_13 xqs_14 xqt_15 xqb_16 xqh_17 xqr_18 xqn_19 xbk_20 xwz_21 gfO_22 gfW_23 xpz_24 gfK_25 gfN_26 gfL_27 xta_28 xbe_29 xki_30 xnu_31 xwo_32 sg_33 wb_34 hy1_35 hM_36 hpw_37 hbe_38 hwo_39 hinv_40 hx41 H locs ls hP hD hS hl
    exact W.vret hx hb hr (fun t ht hW => ⟨⟨(xqf_11, xqp_12, xqd_13, xqs_14, xqt_15, xqb_16, xqh_17, xqr_18, xqn_19, xbk_20, xwz_21, gfO_22, gfW_23, xpz_24, gfK_25, gfN_26, gfL_27, (.ref (ox 2)), (nI tp), (nI xta_28), (nI xbe_29), xki_30, xnu_31, xwo_32), rfl, (by (try dsimp only); first | done | exact ⟨hM_36.2.2.2.2.1.2.1, by omega, by omega, hx41.imp (fun q => ⟨q.1, _, q.2, hM_36.2.2.2.2.2.2⟩) (fun q => q)⟩), by rw [ht]; exact hP.sub [0, 1, 2, 3, 4, 5, 6, 7, 8] rfl, va_K.moved hW.alike (hK.sub [0] rfl), hD.sub [0, 1, 2, 3, 4, 5, 6, 7, 8] (by decide) rfl⟩, hS.F ht⟩) hS.2.2 dX6_parse_123
  ·
    have htp6 : ¬ tp ≤ 600 := fun q => hc1 (nI_le (b := 600) q (by decide))
    refine lv_aload_n hx hb dX6_parse_45 rfl (lv_at hl 0 rfl) ?_
    refine lv_iconst (v := 1) hx hb dX6_parse_46 (by decide) ?_
    refine lv_sipush (v := 600) hx hb dX6_parse_47 (by decide) ?_
    have hPc := hP.sub (ws' := [(oq 0, .inr (6, gPs oq 0 qp qd 0 qt qb 0 qr 0 (nI 0) (nI 0)))]) [0] rfl
    have hKc := hK.sub (tys' := []) [] rfl
    have hDc := hD.sub (ws' := [(oq 0, .inr (6, gPs oq 0 qp qd 0 qt qb 0 qr 0 (nI 0) (nI 0)))]) [0] (by decide) rfl
    have hFc := va_free (wc := [(oq 0, .inr (6, gPs oq 0 qp qd 0 qt qb 0 qr 0 (nI 0) (nI 0)))]) hD hS hA [0] rfl
    refine va_callv (va_runV (As := [.int 1, .int 600]) (rest := []) ⟨hx, hb, hml, hown, hts⟩ (k_note l D _ oq cI 0 qp qd 0 qt qb 0 qr 0 0 0 1 600 (by decide)) (cwV 2 hts g_k_parse_k_note_55 rfl rfl rfl (by decide +kernel) ⟨(Nat.le_of_ble_eq_true rfl), (Nat.le_of_ble_eq_true rfl)⟩) (PcWC_V (q0 := 0) hPc hKc hDc hN rfl rfl) rfl rfl hl.1 rfl (lv_room (Nat.le_of_ble_eq_true rfl)) dX6_parse_50 ⟨(Nat.le_of_ble_eq_true rfl), (Nat.le_of_ble_eq_true rfl)⟩) hS (fun q _ h => hFc q h) hFc (fun uu tt H locs htt hvm hw hB hz1 hk1 hS => ?_)
    obtain ⟨w43, w44, w45⟩ := uu
    obtain ⟨hP1, hK1, hD1⟩ := hB
    rw [htt] at hP1
    have hK1 := va_K.moved hvm.symm hK1
    have hP1 : va_P D vwCl [(oq 0, .inr (6, gPs oq w43 w44 w45 0 qt qb 0 qr 0 (nI 0) (nI 0)))] H := hP1
    obtain ⟨hP, hD⟩ := va_join (wr := [(oq 6, .inl (cI, 5, .inl fO)), (oq 7, .inl (cI, 600, .inl fW)), (oq 1, .inr (7, [.int 0, .ref (oq 2), .ref (oq 3), .ref (oq 4)])), (oq 2, .inl (cI, 600, .inl fK)), (oq 3, .inl (cI, 600, .inl fN)), (oq 4, .inl (cI, 600, .inl fL)), (oq 5, .inr (8, [tx, .int zl, .int ta, .int be, .int ki, .int nu, .int wo])), (ox 2, .inl (cI, 1400, .inl fT))]) (w1 := [(oq 0, .inr (6, gPs oq w43 w44 w45 0 qt qb 0 qr 0 (nI 0) (nI 0)))]) hP hD [0] [1, 2, 3, 4, 5, 6, 7, 8] rfl rfl (by decide) (by decide) hk1 hFc hP1 hD1
    have hP : va_P D vwCl [(oq 6, .inl (cI, 5, .inl fO)), (oq 7, .inl (cI, 600, .inl fW)), (oq 1, .inr (7, [.int 0, .ref (oq 2), .ref (oq 3), .ref (oq 4)])), (oq 2, .inl (cI, 600, .inl fK)), (oq 3, .inl (cI, 600, .inl fN)), (oq 4, .inl (cI, 600, .inl fL)), (oq 5, .inr (8, [tx, .int zl, .int ta, .int be, .int ki, .int nu, .int wo])), (ox 2, .inl (cI, 1400, .inl fT)), (oq 0, .inr (6, gPs oq w43 w44 w45 0 qt qb 0 qr 0 (nI 0) (nI 0)))] H := hP
    have hD : va_D A [(oq 6, .inl (cI, 5, .inl fO)), (oq 7, .inl (cI, 600, .inl fW)), (oq 1, .inr (7, [.int 0, .ref (oq 2), .ref (oq 3), .ref (oq 4)])), (oq 2, .inl (cI, 600, .inl fK)), (oq 3, .inl (cI, 600, .inl fN)), (oq 4, .inl (cI, 600, .inl fL)), (oq 5, .inr (8, [tx, .int zl, .int ta, .int be, .int ki, .int nu, .int wo])), (ox 2, .inl (cI, 1400, .inl fT)), (oq 0, .inr (6, gPs oq w43 w44 w45 0 qt qb 0 qr 0 (nI 0) (nI 0)))] := hD
    try dsimp only at hw
    clear hz1 hk1 hFc hPc hKc hDc
    have hnt46 := hw
    exact W.vret hx hb hr (fun t ht hW => ⟨⟨(w43, w44, w45, 0, qt, qb, 0, qr, 0, 0, 0, fO, fW, 0, fK, fN, fL, tx, zl, ta, be, ki, nu, wo), rfl, (by (try dsimp only); first | done | exact ⟨by omega, by omega, by omega, Or.inr ⟨hnt46, if_neg htp6⟩⟩), by rw [ht]; exact hP.sub [8, 0, 1, 2, 3, 4, 5, 6, 7] rfl, va_K.moved hW.alike (hK.sub [0] rfl), hD.sub [8, 0, 1, 2, 3, 4, 5, 6, 7] (by decide) rfl⟩, hS.F ht⟩) hS.2.2 dX6_parse_53

