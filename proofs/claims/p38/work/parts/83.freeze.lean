theorem dX5_freeze_0 : decode cX5_freeze 0 = .ok (.iconst 1, 1) := by decide +kernel
theorem dX5_freeze_1 : decode cX5_freeze 1 = .ok (.aload_n 1, 1) := by decide +kernel
theorem dX5_freeze_2 : decode cX5_freeze 2 = .ok (.getfield 93, 3) := by decide +kernel
theorem dX5_freeze_5 : decode cX5_freeze 5 = .ok (.invokestatic 96, 3) := by decide +kernel
theorem dX5_freeze_8 : decode cX5_freeze 8 = .ok (.istore 4, 2) := by decide +kernel
theorem dX5_freeze_10 : decode cX5_freeze 10 = .ok (.iconst 0, 1) := by decide +kernel
theorem dX5_freeze_11 : decode cX5_freeze 11 = .ok (.istore 5, 2) := by decide +kernel
theorem dX5_freeze_13 : decode cX5_freeze 13 = .ok (.aload_n 0, 1) := by decide +kernel
theorem dX5_freeze_14 : decode cX5_freeze 14 = .ok (.getfield 12, 3) := by decide +kernel
theorem dX5_freeze_17 : decode cX5_freeze 17 = .ok (.lload_n 2, 1) := by decide +kernel
theorem dX5_freeze_18 : decode cX5_freeze 18 = .ok (.invokevirtual 41, 3) := by decide +kernel
theorem dX5_freeze_21 : decode cX5_freeze 21 = .ok (.iconst 0, 1) := by decide +kernel
theorem dX5_freeze_22 : decode cX5_freeze 22 = .ok (.istore 6, 2) := by decide +kernel
theorem dX5_freeze_24 : decode cX5_freeze 24 = .ok (.iload 6, 2) := by decide +kernel
theorem dX5_freeze_26 : decode cX5_freeze 26 = .ok (.sipush 1000, 3) := by decide +kernel
theorem dX5_freeze_29 : decode cX5_freeze 29 = .ok (.if_icmp .ge 61, 3) := by decide +kernel
theorem dX5_freeze_32 : decode cX5_freeze 32 = .ok (.iload 5, 2) := by decide +kernel
theorem dX5_freeze_34 : decode cX5_freeze 34 = .ok (.ifCond .ne 56, 3) := by decide +kernel
theorem dX5_freeze_37 : decode cX5_freeze 37 = .ok (.aload_n 0, 1) := by decide +kernel
theorem dX5_freeze_38 : decode cX5_freeze 38 = .ok (.getfield 12, 3) := by decide +kernel
theorem dX5_freeze_41 : decode cX5_freeze 41 = .ok (.invokevirtual 45, 3) := by decide +kernel
theorem dX5_freeze_44 : decode cX5_freeze 44 = .ok (.aload_n 0, 1) := by decide +kernel
theorem dX5_freeze_45 : decode cX5_freeze 45 = .ok (.getfield 21, 3) := by decide +kernel
theorem dX5_freeze_48 : decode cX5_freeze 48 = .ok (.aload_n 1, 1) := by decide +kernel
theorem dX5_freeze_49 : decode cX5_freeze 49 = .ok (.aload_n 0, 1) := by decide +kernel
theorem dX5_freeze_50 : decode cX5_freeze 50 = .ok (.getfield 12, 3) := by decide +kernel
theorem dX5_freeze_53 : decode cX5_freeze 53 = .ok (.getfield 54, 3) := by decide +kernel
theorem dX5_freeze_56 : decode cX5_freeze 56 = .ok (.aload_n 0, 1) := by decide +kernel
theorem dX5_freeze_57 : decode cX5_freeze 57 = .ok (.getfield 12, 3) := by decide +kernel
theorem dX5_freeze_60 : decode cX5_freeze 60 = .ok (.getfield 58, 3) := by decide +kernel
theorem dX5_freeze_63 : decode cX5_freeze 63 = .ok (.iload 4, 2) := by decide +kernel
theorem dX5_freeze_65 : decode cX5_freeze 65 = .ok (.invokevirtual 25, 3) := by decide +kernel
theorem dX5_freeze_68 : decode cX5_freeze 68 = .ok (.iconst 3, 1) := by decide +kernel
theorem dX5_freeze_69 : decode cX5_freeze 69 = .ok (.aload_n 1, 1) := by decide +kernel
theorem dX5_freeze_70 : decode cX5_freeze 70 = .ok (.getfield 93, 3) := by decide +kernel
theorem dX5_freeze_73 : decode cX5_freeze 73 = .ok (.imul, 1) := by decide +kernel
theorem dX5_freeze_74 : decode cX5_freeze 74 = .ok (.if_icmp .gt 7, 3) := by decide +kernel
theorem dX5_freeze_77 : decode cX5_freeze 77 = .ok (.iconst 1, 1) := by decide +kernel
theorem dX5_freeze_78 : decode cX5_freeze 78 = .ok (.goto 4, 3) := by decide +kernel
theorem dX5_freeze_81 : decode cX5_freeze 81 = .ok (.iconst 0, 1) := by decide +kernel
theorem dX5_freeze_82 : decode cX5_freeze 82 = .ok (.istore 5, 2) := by decide +kernel
theorem dX5_freeze_84 : decode cX5_freeze 84 = .ok (.iinc 6 1, 3) := by decide +kernel
theorem dX5_freeze_87 : decode cX5_freeze 87 = .ok (.goto (-63), 3) := by decide +kernel
theorem dX5_freeze_90 : decode cX5_freeze 90 = .ok (.iload 5, 2) := by decide +kernel
theorem dX5_freeze_92 : decode cX5_freeze 92 = .ok (.ifCond .ne 5, 3) := by decide +kernel
theorem dX5_freeze_95 : decode cX5_freeze 95 = .ok (.iconst 0, 1) := by decide +kernel
theorem dX5_freeze_96 : decode cX5_freeze 96 = .ok (.ireturn, 1) := by decide +kernel
theorem dX5_freeze_97 : decode cX5_freeze 97 = .ok (.aload_n 0, 1) := by decide +kernel
theorem dX5_freeze_98 : decode cX5_freeze 98 = .ok (.aload_n 0, 1) := by decide +kernel
theorem dX5_freeze_99 : decode cX5_freeze 99 = .ok (.getfield 12, 3) := by decide +kernel
theorem dX5_freeze_102 : decode cX5_freeze 102 = .ok (.getfield 102, 3) := by decide +kernel
theorem dX5_freeze_105 : decode cX5_freeze 105 = .ok (.putfield 105, 3) := by decide +kernel
theorem dX5_freeze_108 : decode cX5_freeze 108 = .ok (.aload_n 0, 1) := by decide +kernel
theorem dX5_freeze_109 : decode cX5_freeze 109 = .ok (.getfield 21, 3) := by decide +kernel
theorem dX5_freeze_112 : decode cX5_freeze 112 = .ok (.iconst 1, 1) := by decide +kernel
theorem dX5_freeze_113 : decode cX5_freeze 113 = .ok (.invokevirtual 108, 3) := by decide +kernel
theorem dX5_freeze_116 : decode cX5_freeze 116 = .ok (.iconst 0, 1) := by decide +kernel
theorem dX5_freeze_117 : decode cX5_freeze 117 = .ok (.istore 6, 2) := by decide +kernel
theorem dX5_freeze_119 : decode cX5_freeze 119 = .ok (.iload 6, 2) := by decide +kernel
theorem dX5_freeze_121 : decode cX5_freeze 121 = .ok (.iload 4, 2) := by decide +kernel
theorem dX5_freeze_123 : decode cX5_freeze 123 = .ok (.if_icmp .ge 33, 3) := by decide +kernel
theorem dX5_freeze_126 : decode cX5_freeze 126 = .ok (.aload_n 0, 1) := by decide +kernel
theorem dX5_freeze_127 : decode cX5_freeze 127 = .ok (.getfield 21, 3) := by decide +kernel
theorem dX5_freeze_130 : decode cX5_freeze 130 = .ok (.aload_n 1, 1) := by decide +kernel
theorem dX5_freeze_131 : decode cX5_freeze 131 = .ok (.aload_n 0, 1) := by decide +kernel
theorem dX5_freeze_132 : decode cX5_freeze 132 = .ok (.getfield 12, 3) := by decide +kernel
theorem dX5_freeze_135 : decode cX5_freeze 135 = .ok (.iload 6, 2) := by decide +kernel
theorem dX5_freeze_137 : decode cX5_freeze 137 = .ok (.aload_n 0, 1) := by decide +kernel
theorem dX5_freeze_138 : decode cX5_freeze 138 = .ok (.getfield 21, 3) := by decide +kernel
theorem dX5_freeze_141 : decode cX5_freeze 141 = .ok (.getfield 112, 3) := by decide +kernel
theorem dX5_freeze_144 : decode cX5_freeze 144 = .ok (.iload 6, 2) := by decide +kernel
theorem dX5_freeze_146 : decode cX5_freeze 146 = .ok (.iaload, 1) := by decide +kernel
theorem dX5_freeze_147 : decode cX5_freeze 147 = .ok (.invokevirtual 115, 3) := by decide +kernel
theorem dX5_freeze_150 : decode cX5_freeze 150 = .ok (.iinc 6 1, 3) := by decide +kernel
theorem dX5_freeze_153 : decode cX5_freeze 153 = .ok (.goto (-34), 3) := by decide +kernel
theorem dX5_freeze_156 : decode cX5_freeze 156 = .ok (.iconst 1, 1) := by decide +kernel
theorem dX5_freeze_157 : decode cX5_freeze 157 = .ok (.ireturn, 1) := by decide +kernel
theorem dX5_edgeRoom_0 : decode cX5_edgeRoom 0 = .ok (.iconst (-1), 1) := by decide +kernel
theorem dX5_edgeRoom_1 : decode cX5_edgeRoom 1 = .ok (.istore_n 2, 1) := by decide +kernel
theorem dX5_edgeRoom_2 : decode cX5_edgeRoom 2 = .ok (.iconst 0, 1) := by decide +kernel
theorem dX5_edgeRoom_3 : decode cX5_edgeRoom 3 = .ok (.istore_n 3, 1) := by decide +kernel
theorem dX5_edgeRoom_4 : decode cX5_edgeRoom 4 = .ok (.iload_n 3, 1) := by decide +kernel
theorem dX5_edgeRoom_5 : decode cX5_edgeRoom 5 = .ok (.aload_n 0, 1) := by decide +kernel
theorem dX5_edgeRoom_6 : decode cX5_edgeRoom 6 = .ok (.getfield 21, 3) := by decide +kernel
theorem dX5_edgeRoom_9 : decode cX5_edgeRoom 9 = .ok (.getfield 119, 3) := by decide +kernel
theorem dX5_edgeRoom_12 : decode cX5_edgeRoom 12 = .ok (.if_icmp .ge 41, 3) := by decide +kernel
theorem dX5_edgeRoom_15 : decode cX5_edgeRoom 15 = .ok (.aload_n 0, 1) := by decide +kernel
theorem dX5_edgeRoom_16 : decode cX5_edgeRoom 16 = .ok (.getfield 21, 3) := by decide +kernel
theorem dX5_edgeRoom_19 : decode cX5_edgeRoom 19 = .ok (.iload_n 3, 1) := by decide +kernel
theorem dX5_edgeRoom_20 : decode cX5_edgeRoom 20 = .ok (.invokevirtual 120, 3) := by decide +kernel
theorem dX5_edgeRoom_23 : decode cX5_edgeRoom 23 = .ok (.istore 4, 2) := by decide +kernel
theorem dX5_edgeRoom_25 : decode cX5_edgeRoom 25 = .ok (.iload_n 2, 1) := by decide +kernel
theorem dX5_edgeRoom_26 : decode cX5_edgeRoom 26 = .ok (.ifCond .lt 18, 3) := by decide +kernel
theorem dX5_edgeRoom_29 : decode cX5_edgeRoom 29 = .ok (.iload 4, 2) := by decide +kernel
theorem dX5_edgeRoom_31 : decode cX5_edgeRoom 31 = .ok (.iload_n 2, 1) := by decide +kernel
theorem dX5_edgeRoom_32 : decode cX5_edgeRoom 32 = .ok (.if_icmp .le 7, 3) := by decide +kernel
theorem dX5_edgeRoom_35 : decode cX5_edgeRoom 35 = .ok (.iconst 1, 1) := by decide +kernel
theorem dX5_edgeRoom_36 : decode cX5_edgeRoom 36 = .ok (.goto 4, 3) := by decide +kernel
theorem dX5_edgeRoom_39 : decode cX5_edgeRoom 39 = .ok (.iconst 0, 1) := by decide +kernel
theorem dX5_edgeRoom_40 : decode cX5_edgeRoom 40 = .ok (.iload_n 1, 1) := by decide +kernel
theorem dX5_edgeRoom_41 : decode cX5_edgeRoom 41 = .ok (.if_icmp .ne 6, 3) := by decide +kernel
theorem dX5_edgeRoom_44 : decode cX5_edgeRoom 44 = .ok (.iload 4, 2) := by decide +kernel
theorem dX5_edgeRoom_46 : decode cX5_edgeRoom 46 = .ok (.istore_n 2, 1) := by decide +kernel
theorem dX5_edgeRoom_47 : decode cX5_edgeRoom 47 = .ok (.iinc 3 1, 3) := by decide +kernel
theorem dX5_edgeRoom_50 : decode cX5_edgeRoom 50 = .ok (.goto (-46), 3) := by decide +kernel
theorem dX5_edgeRoom_53 : decode cX5_edgeRoom 53 = .ok (.iload_n 2, 1) := by decide +kernel
theorem dX5_edgeRoom_54 : decode cX5_edgeRoom 54 = .ok (.ireturn, 1) := by decide +kernel
def own_k_freeze : List Cond := [.fieldLink RX5 12 "ClashFree$Paper" "draw" "LClashFree$Draw;", .methodLink RX5 45 yX0_pair, .instanceMethod yX0_pair, .selects RX0 yX0_pair yX0_pair, .initialized RX0, .fieldLink RX5 21 "ClashFree$Paper" "layout" "LClashFree$Layout;", .fieldLink RX5 54 "ClashFree$Draw" "a" "I", .fieldLink RX5 58 "ClashFree$Draw" "b" "I", .methodLink RX5 25 yX3_deal, .instanceMethod yX3_deal, .selects RX3 yX3_deal yX3_deal, .initialized RX3, .fieldLink RX5 93 "ClashFree$Keys" "size" "I", .fieldLink RX5 112 "ClashFree$Layout" "next" "[I", .methodLink RX5 115 yX3_buildBucket, .instanceMethod yX3_buildBucket, .selects RX3 yX3_buildBucket yX3_buildBucket, .methodLink RX5 96 Lib.Math.max.name, .static Lib.Math.max.name, .initialized "java/lang/Math", .code Lib.Math.max.name Lib.Math.max.code 2 (some .int), .methodLink RX5 41 yX0_begin, .instanceMethod yX0_begin, .selects RX0 yX0_begin yX0_begin, .fieldLink RX5 102 "ClashFree$Draw" "pairs" "I", .fieldLink RX5 105 "ClashFree$Paper" "outerPairs" "I", .methodLink RX5 108 yX3_settle, .instanceMethod yX3_settle, .selects RX3 yX3_settle yX3_settle]
def wp_k_freeze : List Cond := .code yX5_freeze cX5_freeze 7 (some .boolean) :: (own_k_freeze ++ (wp_k_pair ++ (wp_k_deal ++ (wp_k_bb ++ (wp_k_dbegin ++ (wp_k_settle ++ (wsX50 ++ (wsX00 ++ (wsX20 ++ (wsX30 ++ ([] : List Cond)))))))))))
set_option maxRecDepth 20000 in
theorem inown_k_freeze : ∀ w ∈ own_k_freeze, w ∈ lw_tbl := mem_places [238, 822, 564, 565, 108, 240, 151, 154, 810, 572, 573, 109, 475, 210, 863, 597, 598, 861, 561, 118, 562, 821, 553, 554, 159, 242, 862, 593, 594] (by decide +kernel)
set_option maxRecDepth 20000 in
theorem in_k_freeze : ∀ w ∈ wp_k_freeze, w ∈ lw_tbl := List.forall_mem_cons.mpr ⟨List.mem_of_getElem? (i := 860) (by decide +kernel), List.forall_mem_append.mpr ⟨inown_k_freeze, List.forall_mem_append.mpr ⟨in_k_pair, List.forall_mem_append.mpr ⟨in_k_deal, List.forall_mem_append.mpr ⟨in_k_bb, List.forall_mem_append.mpr ⟨in_k_dbegin, List.forall_mem_append.mpr ⟨in_k_settle, List.forall_mem_append.mpr ⟨lwb_X5, List.forall_mem_append.mpr ⟨lwb_X0, List.forall_mem_append.mpr ⟨lwb_X2, List.forall_mem_append.mpr ⟨lwb_X3, fun _ h => absurd h List.not_mem_nil⟩⟩⟩⟩⟩⟩⟩⟩⟩⟩⟩
set_option maxRecDepth 20000 in
theorem good_k_freeze : wp_k_freeze.all goodWord = true := by decide +kernel
set_option maxRecDepth 20000 in
theorem g_k_freeze_k_pair_45 : GoodIn wp_k_freeze (wsV RX5 45 RX0 yX0_pair wp_k_pair) := goodIn_sub (List.forall_mem_append.mpr ⟨List.forall_mem_cons.mpr ⟨(List.mem_of_getElem? (i := 2) rfl), List.forall_mem_cons.mpr ⟨(List.mem_of_getElem? (i := 3) rfl), List.forall_mem_cons.mpr ⟨(List.mem_of_getElem? (i := 4) rfl), List.forall_mem_cons.mpr ⟨(List.mem_of_getElem? (i := 5) rfl), fun _ h => absurd h List.not_mem_nil⟩⟩⟩⟩, (fun _ h => (List.mem_cons_of_mem _ (List.mem_append_right _ (List.mem_append_left _ h))))⟩) (by decide +kernel)
set_option maxRecDepth 20000 in
theorem g_k_freeze_k_deal_25 : GoodIn wp_k_freeze (wsV RX5 25 RX3 yX3_deal wp_k_deal) := goodIn_sub (List.forall_mem_append.mpr ⟨List.forall_mem_cons.mpr ⟨(List.mem_of_getElem? (i := 9) rfl), List.forall_mem_cons.mpr ⟨(List.mem_of_getElem? (i := 10) rfl), List.forall_mem_cons.mpr ⟨(List.mem_of_getElem? (i := 11) rfl), List.forall_mem_cons.mpr ⟨(List.mem_of_getElem? (i := 12) rfl), fun _ h => absurd h List.not_mem_nil⟩⟩⟩⟩, (fun _ h => (List.mem_cons_of_mem _ (List.mem_append_right _ (List.mem_append_right _ (List.mem_append_left _ h)))))⟩) (by decide +kernel)
set_option maxRecDepth 20000 in
theorem g_k_freeze_k_bb_115 : GoodIn wp_k_freeze (wsV RX5 115 RX3 yX3_buildBucket wp_k_bb) := goodIn_sub (List.forall_mem_append.mpr ⟨List.forall_mem_cons.mpr ⟨(List.mem_of_getElem? (i := 15) rfl), List.forall_mem_cons.mpr ⟨(List.mem_of_getElem? (i := 16) rfl), List.forall_mem_cons.mpr ⟨(List.mem_of_getElem? (i := 17) rfl), List.forall_mem_cons.mpr ⟨(List.mem_of_getElem? (i := 12) rfl), fun _ h => absurd h List.not_mem_nil⟩⟩⟩⟩, (fun _ h => (List.mem_cons_of_mem _ (List.mem_append_right _ (List.mem_append_right _ (List.mem_append_right _ (List.mem_append_left _ h))))))⟩) (by decide +kernel)
set_option maxRecDepth 20000 in
theorem g_k_freeze_k_dbegin_41 : GoodIn wp_k_freeze (wsV RX5 41 RX0 yX0_begin wp_k_dbegin) := goodIn_sub (List.forall_mem_append.mpr ⟨List.forall_mem_cons.mpr ⟨(List.mem_of_getElem? (i := 22) rfl), List.forall_mem_cons.mpr ⟨(List.mem_of_getElem? (i := 23) rfl), List.forall_mem_cons.mpr ⟨(List.mem_of_getElem? (i := 24) rfl), List.forall_mem_cons.mpr ⟨(List.mem_of_getElem? (i := 5) rfl), fun _ h => absurd h List.not_mem_nil⟩⟩⟩⟩, (fun _ h => (List.mem_cons_of_mem _ (List.mem_append_right _ (List.mem_append_right _ (List.mem_append_right _ (List.mem_append_right _ (List.mem_append_left _ h)))))))⟩) (by decide +kernel)
set_option maxRecDepth 20000 in
theorem g_k_freeze_k_settle_108 : GoodIn wp_k_freeze (wsV RX5 108 RX3 yX3_settle wp_k_settle) := goodIn_sub (List.forall_mem_append.mpr ⟨List.forall_mem_cons.mpr ⟨(List.mem_of_getElem? (i := 27) rfl), List.forall_mem_cons.mpr ⟨(List.mem_of_getElem? (i := 28) rfl), List.forall_mem_cons.mpr ⟨(List.mem_of_getElem? (i := 29) rfl), List.forall_mem_cons.mpr ⟨(List.mem_of_getElem? (i := 12) rfl), fun _ h => absurd h List.not_mem_nil⟩⟩⟩⟩, (fun _ h => (List.mem_cons_of_mem _ (List.mem_append_right _ (List.mem_append_right _ (List.mem_append_right _ (List.mem_append_right _ (List.mem_append_right _ (List.mem_append_left _ h))))))))⟩) (by decide +kernel)
set_option maxHeartbeats 4000000 in
set_option maxRecDepth 100000 in
theorem lk_fz1 (l : Launch) {p : Program} {e : Env} {s : State} {m : MethodId} {args : Array Value} {below : List Frame} {meth : Method} {c : Code} {Q : State → Prop} {A : Nat → Prop} (D : va_G) (ob : Nat → Nat) (oc : Nat → Nat) (cI : ClassId) (po : Int32) (sm : Int32) (ff : Nat → Int32) (fa : Nat → Int32) (fs : Nat → Int32) (fr : Nat → Int32) (fo : Nat → Int32) (fx : Nat → Int32) (cn : Nat) (fk : Nat → Int32) (nn : Nat) (hKc : KyC fk cn) (hx : p.tables.exec = Jvm.exec) (hb : c.code = cX5_freeze) (hml : c.maxLocals = 7) (hown : s.vm.findClass RX5 = some m.cls) (hts : ∀ w ∈ wp_k_freeze, w.before args s = true) (hA : ∀ q, s.heap.size ≤ q → A q) (hK : va_K D vwCl [(cI, .int)] s) (hN : NC s) (kx90 : ∀ (y : Nat), ∀ (wi : Int32), ∀ (n1 : Nat), ∀ (xa : Nat), ∀ (xb : Nat), ∀ (xl : Nat), ∀ (gh : Nat → Int32), ∀ (gj : Nat → Int32), ∀ (sd : Int64), ∀ (ea : Nat), ∀ (eb : Nat), ∀ (pq : Int32), (y ≤ 1000) → (LyH gj gh n1 xl) → (wi = 0 ∨ (ea < 2147483647 ∧ eb < 2147483647)) → ∀ (H : Heap) (locs : List Loc) (ls : Array Slot), va_P D vwCl [(ob 0, .inr (5, [.ref (ob 1), .ref (ob 5), .int po])), (ob 1, .inr (0, [.long sd, .int (nI ea), .int (nI eb), .int pq])), (ob 5, .inr (3, gY ob (nI n1) (nI xa) (nI xb) sm (nI xl))), (ob 6, .inl (cI, 2048, .inl gh)), (ob 7, .inl (cI, 2048, .inl ff)), (ob 8, .inl (cI, 2048, .inl fa)), (ob 9, .inl (cI, 2048, .inl fs)), (ob 10, .inl (cI, 160, .inl gj)), (ob 11, .inl (cI, 160, .inl fr)), (ob 12, .inl (cI, 160, .inl fo)), (ob 13, .inl (cI, 2048, .inl fx)), (oc 2, .inr (2, [.int (nI cn), .ref (oc 3), .ref (oc 4)])), (oc 3, .inl (cI, 160, .inl fk))] H → va_D A [(ob 0, .inr (5, [.ref (ob 1), .ref (ob 5), .int po])), (ob 1, .inr (0, [.long sd, .int (nI ea), .int (nI eb), .int pq])), (ob 5, .inr (3, gY ob (nI n1) (nI xa) (nI xb) sm (nI xl))), (ob 6, .inl (cI, 2048, .inl gh)), (ob 7, .inl (cI, 2048, .inl ff)), (ob 8, .inl (cI, 2048, .inl fa)), (ob 9, .inl (cI, 2048, .inl fs)), (ob 10, .inl (cI, 160, .inl gj)), (ob 11, .inl (cI, 160, .inl fr)), (ob 12, .inl (cI, 160, .inl fo)), (ob 13, .inl (cI, 2048, .inl fx)), (oc 2, .inr (2, [.int (nI cn), .ref (oc 3), .ref (oc 4)])), (oc 3, .inl (cI, 160, .inl fk))] → va_S A s.heap H locs → lv_has ls 7 [(5, .int wi), (4, .int (nI nn)), (0, .ref (ob 0)), (1, .ref (oc 2))] → W p l e ({ frames := 4, cells := 0, slots := 0, locals := 150 }) s m args below meth c H locs 0 0 Q (F0 m 90 ls [])) : ∀ (N : Nat), ∀ (y : Nat), ∀ (wi : Int32), ∀ (n1 : Nat), ∀ (xa : Nat), ∀ (xb : Nat), ∀ (xl : Nat), ∀ (gh : Nat → Int32), ∀ (gj : Nat → Int32), ∀ (sd : Int64), ∀ (ea : Nat), ∀ (eb : Nat), ∀ (pq : Int32), (y ≤ 1000) → (LyH gj gh n1 xl) → (wi = 0 ∨ (ea < 2147483647 ∧ eb < 2147483647)) → 1000 - y < N → ∀ (H : Heap) (locs : List Loc) (ls : Array Slot), va_P D vwCl [(ob 0, .inr (5, [.ref (ob 1), .ref (ob 5), .int po])), (ob 1, .inr (0, [.long sd, .int (nI ea), .int (nI eb), .int pq])), (ob 5, .inr (3, gY ob (nI n1) (nI xa) (nI xb) sm (nI xl))), (ob 6, .inl (cI, 2048, .inl gh)), (ob 7, .inl (cI, 2048, .inl ff)), (ob 8, .inl (cI, 2048, .inl fa)), (ob 9, .inl (cI, 2048, .inl fs)), (ob 10, .inl (cI, 160, .inl gj)), (ob 11, .inl (cI, 160, .inl fr)), (ob 12, .inl (cI, 160, .inl fo)), (ob 13, .inl (cI, 2048, .inl fx)), (oc 2, .inr (2, [.int (nI cn), .ref (oc 3), .ref (oc 4)])), (oc 3, .inl (cI, 160, .inl fk))] H → va_D A [(ob 0, .inr (5, [.ref (ob 1), .ref (ob 5), .int po])), (ob 1, .inr (0, [.long sd, .int (nI ea), .int (nI eb), .int pq])), (ob 5, .inr (3, gY ob (nI n1) (nI xa) (nI xb) sm (nI xl))), (ob 6, .inl (cI, 2048, .inl gh)), (ob 7, .inl (cI, 2048, .inl ff)), (ob 8, .inl (cI, 2048, .inl fa)), (ob 9, .inl (cI, 2048, .inl fs)), (ob 10, .inl (cI, 160, .inl gj)), (ob 11, .inl (cI, 160, .inl fr)), (ob 12, .inl (cI, 160, .inl fo)), (ob 13, .inl (cI, 2048, .inl fx)), (oc 2, .inr (2, [.int (nI cn), .ref (oc 3), .ref (oc 4)])), (oc 3, .inl (cI, 160, .inl fk))] → va_S A s.heap H locs → lv_has ls 7 [(6, .int (nI y)), (5, .int wi), (4, .int (nI nn)), (0, .ref (ob 0)), (1, .ref (oc 2))] → W p l e ({ frames := 4, cells := 0, slots := 0, locals := 150 }) s m args below meth c H locs 0 0 Q (F0 m 24 ls []) := by
  have hin_X5 : ∀ w ∈ wsX50, w ∈ wp_k_freeze := fun _ h => (List.mem_cons_of_mem _ (List.mem_append_right _ (List.mem_append_right _ (List.mem_append_right _ (List.mem_append_right _ (List.mem_append_right _ (List.mem_append_right _ (List.mem_append_left _ h))))))))
  have hin_X0 : ∀ w ∈ wsX00, w ∈ wp_k_freeze := fun _ h => (List.mem_cons_of_mem _ (List.mem_append_right _ (List.mem_append_right _ (List.mem_append_right _ (List.mem_append_right _ (List.mem_append_right _ (List.mem_append_right _ (List.mem_append_right _ (List.mem_append_left _ h)))))))))
  have hin_X2 : ∀ w ∈ wsX20, w ∈ wp_k_freeze := fun _ h => (List.mem_cons_of_mem _ (List.mem_append_right _ (List.mem_append_right _ (List.mem_append_right _ (List.mem_append_right _ (List.mem_append_right _ (List.mem_append_right _ (List.mem_append_right _ (List.mem_append_right _ (List.mem_append_left _ h))))))))))
  have hin_X3 : ∀ w ∈ wsX30, w ∈ wp_k_freeze := fun _ h => (List.mem_cons_of_mem _ (List.mem_append_right _ (List.mem_append_right _ (List.mem_append_right _ (List.mem_append_right _ (List.mem_append_right _ (List.mem_append_right _ (List.mem_append_right _ (List.mem_append_right _ (List.mem_append_right _ (List.mem_append_left _ h)))))))))))
  intro N
  induction N with
  | zero =>
    intro y wi n1 xa xb xl gh gj sd ea eb pq hy1 hLl hdd hm
    exact absurd hm (Nat.not_lt_zero _)
  | succ N ih =>
    intro y wi n1 xa xb xl gh gj sd ea eb pq hy1 hLl hdd hm H locs ls hP hD hS hl
    have hky := hKc
    refine lv_iload hx hb dX5_freeze_24 (lv_at hl 0 rfl) ?_
    refine lv_sipush (v := 1000) hx hb dX5_freeze_26 (by decide) ?_
    refine lv_icmp_ge (tgt := 90) hx hb dX5_freeze_29 (by decide) (fun hc1 => ?_) (fun hc1 => ?_)
    ·
      have hlt : 1000 ≤ y := (nI_leI (by omega) (by omega)).mp hc1
      exact kx90 y wi n1 xa xb xl gh gj sd ea eb pq (hy1) (hLl) (hdd) H locs ls (hP.sub [0, 1, 2, 3, 4, 5, 6, 7, 8, 9, 10, 11, 12] rfl) (hD.sub [0, 1, 2, 3, 4, 5, 6, 7, 8, 9, 10, 11, 12] (by decide) rfl) hS (lv_sub hl [1, 2, 3, 4] rfl)
    ·
      have hlt : y < 1000 := by
        rcases Nat.lt_or_ge y (1000) with z | z
        · exact z
        · exact absurd (nI_le z (by omega)) hc1
      refine lv_iload hx hb dX5_freeze_32 (lv_at hl 1 rfl) ?_
      refine lv_if_ne (tgt := 90) hx hb dX5_freeze_34 (by decide) (fun hc2 => ?_) (fun hc2 => ?_)
      ·
        exact kx90 y wi n1 xa xb xl gh gj sd ea eb pq (hy1) (hLl) (hdd) H locs ls (hP.sub [0, 1, 2, 3, 4, 5, 6, 7, 8, 9, 10, 11, 12] rfl) (hD.sub [0, 1, 2, 3, 4, 5, 6, 7, 8, 9, 10, 11, 12] (by decide) rfl) hS (lv_sub hl [1, 2, 3, 4] rfl)
      ·
        refine lv_aload_n hx hb dX5_freeze_37 rfl (lv_at hl 3 rfl) ?_
        refine va_get (D := D) (ci := 5) (v := .ref (ob 1)) (C := RX5) (T := TX5) (N := 3) hx hb hts hin_X5 hown hK hP 0 rfl rfl 0 (by decide) (hts (.fieldLink RX5 12 "ClashFree$Paper" "draw" "LClashFree$Draw;") (List.mem_of_getElem? (i := 1) rfl)) (fun _ h9 => h9) rfl dX5_freeze_38 ?_
        have hPc := hP.sub (ws' := [(ob 1, .inr (0, [.long sd, .int (nI ea), .int (nI eb), .int pq]))]) [1] rfl
        have hKc := hK.sub (tys' := []) [] rfl
        have hDc := hD.sub (ws' := [(ob 1, .inr (0, [.long sd, .int (nI ea), .int (nI eb), .int pq]))]) [1] (by decide) rfl
        have hFc := va_free (wc := [(ob 1, .inr (0, [.long sd, .int (nI ea), .int (nI eb), .int pq]))]) hD hS hA [1] rfl
        refine va_callv (va_runV (As := []) (rest := []) ⟨hx, hb, hml, hown, hts⟩ (k_pair l D _ ob cI sd ea eb pq) (cwV 0 hts g_k_freeze_k_pair_45 rfl rfl rfl (by decide +kernel) ⟨(Nat.le_of_ble_eq_true rfl), (Nat.le_of_ble_eq_true rfl)⟩) (PcWC_V (q0 := 0) hPc hKc hDc hN rfl rfl) rfl rfl hl.1 rfl (lv_room (Nat.le_of_ble_eq_true rfl)) dX5_freeze_41 ⟨(Nat.le_of_ble_eq_true rfl), (Nat.le_of_ble_eq_true rfl)⟩) hS (fun q _ h => hFc q h) hFc (fun uu tt H locs htt hvm hw hB hz1 hk1 hS => ?_)
        obtain ⟨w4, w5, w6, w7⟩ := uu
        obtain ⟨hP1, hK1, hD1⟩ := hB
        rw [htt] at hP1
        have hK1 := va_K.moved hvm.symm hK1
        have hP1 : va_P D vwCl [(ob 1, .inr (0, [.long w4, .int (nI w5), .int (nI w6), .int w7]))] H := hP1
        obtain ⟨hP, hD⟩ := va_join (wr := [(ob 0, .inr (5, [.ref (ob 1), .ref (ob 5), .int po])), (ob 5, .inr (3, gY ob (nI n1) (nI xa) (nI xb) sm (nI xl))), (ob 6, .inl (cI, 2048, .inl gh)), (ob 7, .inl (cI, 2048, .inl ff)), (ob 8, .inl (cI, 2048, .inl fa)), (ob 9, .inl (cI, 2048, .inl fs)), (ob 10, .inl (cI, 160, .inl gj)), (ob 11, .inl (cI, 160, .inl fr)), (ob 12, .inl (cI, 160, .inl fo)), (ob 13, .inl (cI, 2048, .inl fx)), (oc 2, .inr (2, [.int (nI cn), .ref (oc 3), .ref (oc 4)])), (oc 3, .inl (cI, 160, .inl fk))]) (w1 := [(ob 1, .inr (0, [.long w4, .int (nI w5), .int (nI w6), .int w7]))]) hP hD [1] [0, 2, 3, 4, 5, 6, 7, 8, 9, 10, 11, 12] rfl rfl (by decide) (by decide) hk1 hFc hP1 hD1
        have hP : va_P D vwCl [(ob 0, .inr (5, [.ref (ob 1), .ref (ob 5), .int po])), (ob 5, .inr (3, gY ob (nI n1) (nI xa) (nI xb) sm (nI xl))), (ob 6, .inl (cI, 2048, .inl gh)), (ob 7, .inl (cI, 2048, .inl ff)), (ob 8, .inl (cI, 2048, .inl fa)), (ob 9, .inl (cI, 2048, .inl fs)), (ob 10, .inl (cI, 160, .inl gj)), (ob 11, .inl (cI, 160, .inl fr)), (ob 12, .inl (cI, 160, .inl fo)), (ob 13, .inl (cI, 2048, .inl fx)), (oc 2, .inr (2, [.int (nI cn), .ref (oc 3), .ref (oc 4)])), (oc 3, .inl (cI, 160, .inl fk)), (ob 1, .inr (0, [.long w4, .int (nI w5), .int (nI w6), .int w7]))] H := hP
        have hD : va_D A [(ob 0, .inr (5, [.ref (ob 1), .ref (ob 5), .int po])), (ob 5, .inr (3, gY ob (nI n1) (nI xa) (nI xb) sm (nI xl))), (ob 6, .inl (cI, 2048, .inl gh)), (ob 7, .inl (cI, 2048, .inl ff)), (ob 8, .inl (cI, 2048, .inl fa)), (ob 9, .inl (cI, 2048, .inl fs)), (ob 10, .inl (cI, 160, .inl gj)), (ob 11, .inl (cI, 160, .inl fr)), (ob 12, .inl (cI, 160, .inl fo)), (ob 13, .inl (cI, 2048, .inl fx)), (oc 2, .inr (2, [.int (nI cn), .ref (oc 3), .ref (oc 4)])), (oc 3, .inl (cI, 160, .inl fk)), (ob 1, .inr (0, [.long w4, .int (nI w5), .int (nI w6), .int w7]))] := hD
        try dsimp only at hw
        clear hz1 hk1 hFc hPc hKc hDc
        obtain ⟨hd8_a, hd8_b⟩ := hw
        refine lv_aload_n hx hb dX5_freeze_44 rfl (lv_at hl 3 rfl) ?_
        refine va_get (D := D) (ci := 5) (v := .ref (ob 5)) (C := RX5) (T := TX5) (N := 3) hx hb hts hin_X5 hown hK hP 0 rfl rfl 1 (by decide) (hts (.fieldLink RX5 21 "ClashFree$Paper" "layout" "LClashFree$Layout;") (List.mem_of_getElem? (i := 6) rfl)) (fun _ h9 => h9) rfl dX5_freeze_45 ?_
        refine lv_aload_n hx hb dX5_freeze_48 rfl (lv_at hl 4 rfl) ?_
        refine lv_aload_n hx hb dX5_freeze_49 rfl (lv_at hl 3 rfl) ?_
        refine va_get (D := D) (ci := 5) (v := .ref (ob 1)) (C := RX5) (T := TX5) (N := 3) hx hb hts hin_X5 hown hK hP 0 rfl rfl 0 (by decide) (hts (.fieldLink RX5 12 "ClashFree$Paper" "draw" "LClashFree$Draw;") (List.mem_of_getElem? (i := 1) rfl)) (fun _ h9 => h9) rfl dX5_freeze_50 ?_
        refine va_get (D := D) (ci := 0) (v := .int (nI w5)) (C := RX0) (T := TX0) (N := 4) hx hb hts hin_X0 hown hK hP 12 rfl rfl 1 (by decide) (hts (.fieldLink RX5 54 "ClashFree$Draw" "a" "I") (List.mem_of_getElem? (i := 7) rfl)) (fun _ h9 => h9) rfl dX5_freeze_53 ?_
        refine lv_aload_n hx hb dX5_freeze_56 rfl (lv_at hl 3 rfl) ?_
        refine va_get (D := D) (ci := 5) (v := .ref (ob 1)) (C := RX5) (T := TX5) (N := 3) hx hb hts hin_X5 hown hK hP 0 rfl rfl 0 (by decide) (hts (.fieldLink RX5 12 "ClashFree$Paper" "draw" "LClashFree$Draw;") (List.mem_of_getElem? (i := 1) rfl)) (fun _ h9 => h9) rfl dX5_freeze_57 ?_
        refine va_get (D := D) (ci := 0) (v := .int (nI w6)) (C := RX0) (T := TX0) (N := 4) hx hb hts hin_X0 hown hK hP 12 rfl rfl 2 (by decide) (hts (.fieldLink RX5 58 "ClashFree$Draw" "b" "I") (List.mem_of_getElem? (i := 8) rfl)) (fun _ h9 => h9) rfl dX5_freeze_60 ?_
        refine lv_iload hx hb dX5_freeze_63 (lv_at hl 2 rfl) ?_
        have hPc := hP.sub (ws' := [(ob 5, .inr (3, gY ob (nI n1) (nI xa) (nI xb) sm (nI xl))), (ob 6, .inl (cI, 2048, .inl gh)), (ob 10, .inl (cI, 160, .inl gj)), (oc 2, .inr (2, [.int (nI cn), .ref (oc 3), .ref (oc 4)])), (oc 3, .inl (cI, 160, .inl fk))]) [1, 2, 6, 10, 11] rfl
        have hKc := hK.sub (tys' := [(cI, .int)]) [0] rfl
        have hDc := hD.sub (ws' := [(ob 5, .inr (3, gY ob (nI n1) (nI xa) (nI xb) sm (nI xl))), (ob 6, .inl (cI, 2048, .inl gh)), (ob 10, .inl (cI, 160, .inl gj)), (oc 2, .inr (2, [.int (nI cn), .ref (oc 3), .ref (oc 4)])), (oc 3, .inl (cI, 160, .inl fk))]) [1, 2, 6, 10, 11] (by decide) rfl
        have hFc := va_free (wc := [(ob 5, .inr (3, gY ob (nI n1) (nI xa) (nI xb) sm (nI xl))), (ob 6, .inl (cI, 2048, .inl gh)), (ob 10, .inl (cI, 160, .inl gj)), (oc 2, .inr (2, [.int (nI cn), .ref (oc 3), .ref (oc 4)])), (oc 3, .inl (cI, 160, .inl fk))]) hD hS hA [1, 2, 6, 10, 11] rfl
        refine va_calli (va_runV (As := [.ref (oc 2), .int (nI w5), .int (nI w6), .int (nI nn)]) (rest := []) ⟨hx, hb, hml, hown, hts⟩ (k_deal l D _ ob oc cI n1 xa xb sm xl gh gj cn fk w5 w6 (nI nn) hLl hky hd8_a hd8_b) (cwV 4 hts g_k_freeze_k_deal_25 rfl rfl rfl (by decide +kernel) ⟨(Nat.le_of_ble_eq_true rfl), (Nat.le_of_ble_eq_true rfl)⟩) (PcWC_V (q0 := 0) hPc hKc hDc hN rfl rfl) rfl rfl hl.1 rfl (lv_room (Nat.le_of_ble_eq_true rfl)) dX5_freeze_65 ⟨(Nat.le_of_ble_eq_true rfl), (Nat.le_of_ble_eq_true rfl)⟩) hS (fun q _ h => hFc q h) hFc (fun r9 uu tt H locs htt hvm hw hB hz1 hk1 hS => ?_)
        obtain ⟨w10, w11, w12, w13, w14, w15⟩ := uu
        obtain ⟨hP1, hK1, hD1⟩ := hB
        rw [htt] at hP1
        have hK1 := va_K.moved hvm.symm hK1
        have hP1 : va_P D vwCl [(ob 5, .inr (3, gY ob (nI w10) (nI w11) (nI w12) sm (nI w13))), (ob 6, .inl (cI, 2048, .inl w14)), (ob 10, .inl (cI, 160, .inl w15)), (oc 2, .inr (2, [.int (nI cn), .ref (oc 3), .ref (oc 4)])), (oc 3, .inl (cI, 160, .inl fk))] H := hP1
        obtain ⟨hP, hD⟩ := va_join (wr := [(ob 0, .inr (5, [.ref (ob 1), .ref (ob 5), .int po])), (ob 7, .inl (cI, 2048, .inl ff)), (ob 8, .inl (cI, 2048, .inl fa)), (ob 9, .inl (cI, 2048, .inl fs)), (ob 11, .inl (cI, 160, .inl fr)), (ob 12, .inl (cI, 160, .inl fo)), (ob 13, .inl (cI, 2048, .inl fx)), (ob 1, .inr (0, [.long w4, .int (nI w5), .int (nI w6), .int w7]))]) (w1 := [(ob 5, .inr (3, gY ob (nI w10) (nI w11) (nI w12) sm (nI w13))), (ob 6, .inl (cI, 2048, .inl w14)), (ob 10, .inl (cI, 160, .inl w15)), (oc 2, .inr (2, [.int (nI cn), .ref (oc 3), .ref (oc 4)])), (oc 3, .inl (cI, 160, .inl fk))]) hP hD [1, 2, 6, 10, 11] [0, 3, 4, 5, 7, 8, 9, 12] rfl rfl (by decide) (by decide) hk1 hFc hP1 hD1
        have hP : va_P D vwCl [(ob 0, .inr (5, [.ref (ob 1), .ref (ob 5), .int po])), (ob 7, .inl (cI, 2048, .inl ff)), (ob 8, .inl (cI, 2048, .inl fa)), (ob 9, .inl (cI, 2048, .inl fs)), (ob 11, .inl (cI, 160, .inl fr)), (ob 12, .inl (cI, 160, .inl fo)), (ob 13, .inl (cI, 2048, .inl fx)), (ob 1, .inr (0, [.long w4, .int (nI w5), .int (nI w6), .int w7])), (ob 5, .inr (3, gY ob (nI w10) (nI w11) (nI w12) sm (nI w13))), (ob 6, .inl (cI, 2048, .inl w14)), (ob 10, .inl (cI, 160, .inl w15)), (oc 2, .inr (2, [.int (nI cn), .ref (oc 3), .ref (oc 4)])), (oc 3, .inl (cI, 160, .inl fk))] H := hP
        have hD : va_D A [(ob 0, .inr (5, [.ref (ob 1), .ref (ob 5), .int po])), (ob 7, .inl (cI, 2048, .inl ff)), (ob 8, .inl (cI, 2048, .inl fa)), (ob 9, .inl (cI, 2048, .inl fs)), (ob 11, .inl (cI, 160, .inl fr)), (ob 12, .inl (cI, 160, .inl fo)), (ob 13, .inl (cI, 2048, .inl fx)), (ob 1, .inr (0, [.long w4, .int (nI w5), .int (nI w6), .int w7])), (ob 5, .inr (3, gY ob (nI w10) (nI w11) (nI w12) sm (nI w13))), (ob 6, .inl (cI, 2048, .inl w14)), (ob 10, .inl (cI, 160, .inl w15)), (oc 2, .inr (2, [.int (nI cn), .ref (oc 3), .ref (oc 4)])), (oc 3, .inl (cI, 160, .inl fk))] := hD
        try dsimp only at hw
        clear hz1 hk1 hFc hPc hKc hDc
        obtain ⟨hL16, hL16_1, hL16_a, hL16_b, hL16_c⟩ := hw
        have hL16_n := hL16.1
        have hL16_l := hL16.2.1
        refine lv_iconst (v := 3) hx hb dX5_freeze_68 (by decide) ?_
        refine lv_aload_n hx hb dX5_freeze_69 rfl (lv_at hl 4 rfl) ?_
        refine va_get (D := D) (ci := 2) (v := .int (nI cn)) (C := RX2) (T := TX2) (N := 3) hx hb hts hin_X2 hown hK hP 11 rfl rfl 0 (by decide) (hts (.fieldLink RX5 93 "ClashFree$Keys" "size" "I") (List.mem_of_getElem? (i := 13) rfl)) (fun _ h9 => h9) rfl dX5_freeze_70 ?_
        refine lv_imul hx hb dX5_freeze_73 ?_
        refine lv_topi (fun v17 ev17 => ?_)
        refine lv_icmp_gt (tgt := 81) hx hb dX5_freeze_74 (by decide) (fun hc18 => ?_) (fun hc18 => ?_)
        ·
          refine lv_iconst (v := 0) hx hb dX5_freeze_81 (by decide) ?_
          refine lv_istore (lv' := [(5, .int 0), (6, .int (nI y)), (4, .int (nI nn)), (0, .ref (ob 0)), (1, .ref (oc 2))]) hx hb dX5_freeze_82 hl (by decide) rfl (fun ls hl => ?_)
          refine lv_iinc (v := nI (y + 1)) (lv' := [(6, .int (nI (y + 1))), (5, .int 0), (4, .int (nI nn)), (0, .ref (ob 0)), (1, .ref (oc 2))]) hx hb dX5_freeze_84 hl (k := 1) rfl (nI_1 _) (by decide) rfl (fun ls hl => ?_)
          refine lv_goto (tgt := 24) hx hb dX5_freeze_87 (by decide) ?_
          exact ih (y + 1) 0 w10 w11 w12 w13 w14 w15 w4 w5 w6 w7 (by omega) (hL16) (Or.inr ⟨hd8_a, hd8_b⟩) (by omega) H locs ls (hP.sub [0, 7, 8, 9, 1, 2, 3, 10, 4, 5, 6, 11, 12] rfl) (hD.sub [0, 7, 8, 9, 1, 2, 3, 10, 4, 5, 6, 11, 12] (by decide) rfl) hS (lv_sub hl [0, 1, 2, 3, 4] rfl)
        ·
          refine lv_iconst (v := 1) hx hb dX5_freeze_77 (by decide) ?_
          refine lv_goto (tgt := 82) hx hb dX5_freeze_78 (by decide) ?_
          refine lv_istore (lv' := [(5, .int 1), (6, .int (nI y)), (4, .int (nI nn)), (0, .ref (ob 0)), (1, .ref (oc 2))]) hx hb dX5_freeze_82 hl (by decide) rfl (fun ls hl => ?_)
          refine lv_iinc (v := nI (y + 1)) (lv' := [(6, .int (nI (y + 1))), (5, .int 1), (4, .int (nI nn)), (0, .ref (ob 0)), (1, .ref (oc 2))]) hx hb dX5_freeze_84 hl (k := 1) rfl (nI_1 _) (by decide) rfl (fun ls hl => ?_)
          refine lv_goto (tgt := 24) hx hb dX5_freeze_87 (by decide) ?_
          exact ih (y + 1) 1 w10 w11 w12 w13 w14 w15 w4 w5 w6 w7 (by omega) (hL16) (Or.inr ⟨hd8_a, hd8_b⟩) (by omega) H locs ls (hP.sub [0, 7, 8, 9, 1, 2, 3, 10, 4, 5, 6, 11, 12] rfl) (hD.sub [0, 7, 8, 9, 1, 2, 3, 10, 4, 5, 6, 11, 12] (by decide) rfl) hS (lv_sub hl [0, 1, 2, 3, 4] rfl)
set_option maxHeartbeats 4000000 in
set_option maxRecDepth 100000 in
theorem lk_fz2 (l : Launch) {p : Program} {e : Env} {s : State} {m : MethodId} {args : Array Value} {below : List Frame} {meth : Method} {c : Code} {Q : State → Prop} {A : Nat → Prop} (D : va_G) (ob : Nat → Nat) (oc : Nat → Nat) (cI : ClassId) (po : Int32) (nb : Nat) (ka : Nat) (kb : Nat) (sm : Int32) (ln : Nat) (fh : Nat → Int32) (ff : Nat → Int32) (fj : Nat → Int32) (fo : Nat → Int32) (fx : Nat → Int32) (cn : Nat) (fk : Nat → Int32) (nn : Nat) (hln : ln ≤ 160) (hO : OrC fo) (hnb : nb ≤ 2048) (hnn : nn ≤ 160) (hx : p.tables.exec = Jvm.exec) (hb : c.code = cX5_freeze) (hml : c.maxLocals = 7) (hown : s.vm.findClass RX5 = some m.cls) (hts : ∀ w ∈ wp_k_freeze, w.before args s = true) (hA : ∀ q, s.heap.size ≤ q → A q) (hK : va_K D vwCl [(cI, .int)] s) (hN : NC s) (kx156 : ∀ (y : Nat), ∀ (ga : Nat → Int32), ∀ (gs : Nat → Int32), ∀ (gr : Nat → Int32), ∀ (sd : Int64), ∀ (ea : Nat), ∀ (eb : Nat), ∀ (pq : Int32), (y ≤ nn) → (ea < 2147483647) → (eb < 2147483647) → ∀ (H : Heap) (locs : List Loc) (ls : Array Slot), va_P D vwCl [(ob 0, .inr (5, [.ref (ob 1), .ref (ob 5), .int po])), (ob 1, .inr (0, [.long sd, .int (nI ea), .int (nI eb), .int pq])), (ob 5, .inr (3, gY ob (nI nb) (nI ka) (nI kb) sm (nI ln))), (ob 6, .inl (cI, 2048, .inl fh)), (ob 7, .inl (cI, 2048, .inl ff)), (ob 8, .inl (cI, 2048, .inl ga)), (ob 9, .inl (cI, 2048, .inl gs)), (ob 10, .inl (cI, 160, .inl fj)), (ob 11, .inl (cI, 160, .inl gr)), (ob 12, .inl (cI, 160, .inl fo)), (ob 13, .inl (cI, 2048, .inl fx)), (oc 2, .inr (2, [.int (nI cn), .ref (oc 3), .ref (oc 4)])), (oc 3, .inl (cI, 160, .inl fk))] H → va_D A [(ob 0, .inr (5, [.ref (ob 1), .ref (ob 5), .int po])), (ob 1, .inr (0, [.long sd, .int (nI ea), .int (nI eb), .int pq])), (ob 5, .inr (3, gY ob (nI nb) (nI ka) (nI kb) sm (nI ln))), (ob 6, .inl (cI, 2048, .inl fh)), (ob 7, .inl (cI, 2048, .inl ff)), (ob 8, .inl (cI, 2048, .inl ga)), (ob 9, .inl (cI, 2048, .inl gs)), (ob 10, .inl (cI, 160, .inl fj)), (ob 11, .inl (cI, 160, .inl gr)), (ob 12, .inl (cI, 160, .inl fo)), (ob 13, .inl (cI, 2048, .inl fx)), (oc 2, .inr (2, [.int (nI cn), .ref (oc 3), .ref (oc 4)])), (oc 3, .inl (cI, 160, .inl fk))] → va_S A s.heap H locs → lv_has ls 7 [(0, .ref (ob 0))] → W p l e ({ frames := 4, cells := 0, slots := 0, locals := 150 }) s m args below meth c H locs 0 0 Q (F0 m 156 ls [])) : ∀ (N : Nat), ∀ (y : Nat), ∀ (ga : Nat → Int32), ∀ (gs : Nat → Int32), ∀ (gr : Nat → Int32), ∀ (sd : Int64), ∀ (ea : Nat), ∀ (eb : Nat), ∀ (pq : Int32), (y ≤ nn) → (ea < 2147483647) → (eb < 2147483647) → nn - y < N → ∀ (H : Heap) (locs : List Loc) (ls : Array Slot), va_P D vwCl [(ob 0, .inr (5, [.ref (ob 1), .ref (ob 5), .int po])), (ob 1, .inr (0, [.long sd, .int (nI ea), .int (nI eb), .int pq])), (ob 5, .inr (3, gY ob (nI nb) (nI ka) (nI kb) sm (nI ln))), (ob 6, .inl (cI, 2048, .inl fh)), (ob 7, .inl (cI, 2048, .inl ff)), (ob 8, .inl (cI, 2048, .inl ga)), (ob 9, .inl (cI, 2048, .inl gs)), (ob 10, .inl (cI, 160, .inl fj)), (ob 11, .inl (cI, 160, .inl gr)), (ob 12, .inl (cI, 160, .inl fo)), (ob 13, .inl (cI, 2048, .inl fx)), (oc 2, .inr (2, [.int (nI cn), .ref (oc 3), .ref (oc 4)])), (oc 3, .inl (cI, 160, .inl fk))] H → va_D A [(ob 0, .inr (5, [.ref (ob 1), .ref (ob 5), .int po])), (ob 1, .inr (0, [.long sd, .int (nI ea), .int (nI eb), .int pq])), (ob 5, .inr (3, gY ob (nI nb) (nI ka) (nI kb) sm (nI ln))), (ob 6, .inl (cI, 2048, .inl fh)), (ob 7, .inl (cI, 2048, .inl ff)), (ob 8, .inl (cI, 2048, .inl ga)), (ob 9, .inl (cI, 2048, .inl gs)), (ob 10, .inl (cI, 160, .inl fj)), (ob 11, .inl (cI, 160, .inl gr)), (ob 12, .inl (cI, 160, .inl fo)), (ob 13, .inl (cI, 2048, .inl fx)), (oc 2, .inr (2, [.int (nI cn), .ref (oc 3), .ref (oc 4)])), (oc 3, .inl (cI, 160, .inl fk))] → va_S A s.heap H locs → lv_has ls 7 [(6, .int (nI y)), (4, .int (nI nn)), (0, .ref (ob 0)), (1, .ref (oc 2))] → W p l e ({ frames := 4, cells := 0, slots := 0, locals := 150 }) s m args below meth c H locs 0 0 Q (F0 m 119 ls []) := by
  have hin_X5 : ∀ w ∈ wsX50, w ∈ wp_k_freeze := fun _ h => (List.mem_cons_of_mem _ (List.mem_append_right _ (List.mem_append_right _ (List.mem_append_right _ (List.mem_append_right _ (List.mem_append_right _ (List.mem_append_right _ (List.mem_append_left _ h))))))))
  have hin_X0 : ∀ w ∈ wsX00, w ∈ wp_k_freeze := fun _ h => (List.mem_cons_of_mem _ (List.mem_append_right _ (List.mem_append_right _ (List.mem_append_right _ (List.mem_append_right _ (List.mem_append_right _ (List.mem_append_right _ (List.mem_append_right _ (List.mem_append_left _ h)))))))))
  have hin_X2 : ∀ w ∈ wsX20, w ∈ wp_k_freeze := fun _ h => (List.mem_cons_of_mem _ (List.mem_append_right _ (List.mem_append_right _ (List.mem_append_right _ (List.mem_append_right _ (List.mem_append_right _ (List.mem_append_right _ (List.mem_append_right _ (List.mem_append_right _ (List.mem_append_left _ h))))))))))
  have hin_X3 : ∀ w ∈ wsX30, w ∈ wp_k_freeze := fun _ h => (List.mem_cons_of_mem _ (List.mem_append_right _ (List.mem_append_right _ (List.mem_append_right _ (List.mem_append_right _ (List.mem_append_right _ (List.mem_append_right _ (List.mem_append_right _ (List.mem_append_right _ (List.mem_append_right _ (List.mem_append_left _ h)))))))))))
  intro N
  induction N with
  | zero =>
    intro y ga gs gr sd ea eb pq hy1 hea heb hm
    exact absurd hm (Nat.not_lt_zero _)
  | succ N ih =>
    intro y ga gs gr sd ea eb pq hy1 hea heb hm H locs ls hP hD hS hl
    refine lv_iload hx hb dX5_freeze_119 (lv_at hl 0 rfl) ?_
    refine lv_iload hx hb dX5_freeze_121 (lv_at hl 1 rfl) ?_
    refine lv_icmp_ge (tgt := 156) hx hb dX5_freeze_123 (by decide) (fun hc1 => ?_) (fun hc1 => ?_)
    ·
      have hlt : nn ≤ y := (nI_leI (by omega) (by omega)).mp hc1
      exact kx156 y ga gs gr sd ea eb pq (hy1) (hea) (heb) H locs ls (hP.sub [0, 1, 2, 3, 4, 5, 6, 7, 8, 9, 10, 11, 12] rfl) (hD.sub [0, 1, 2, 3, 4, 5, 6, 7, 8, 9, 10, 11, 12] (by decide) rfl) hS (lv_sub hl [2] rfl)
    ·
      have hlt : y < nn := by
        rcases Nat.lt_or_ge y (nn) with z | z
        · exact z
        · exact absurd (nI_le z (by omega)) hc1
      refine lv_aload_n hx hb dX5_freeze_126 rfl (lv_at hl 2 rfl) ?_
      refine va_get (D := D) (ci := 5) (v := .ref (ob 5)) (C := RX5) (T := TX5) (N := 3) hx hb hts hin_X5 hown hK hP 0 rfl rfl 1 (by decide) (hts (.fieldLink RX5 21 "ClashFree$Paper" "layout" "LClashFree$Layout;") (List.mem_of_getElem? (i := 6) rfl)) (fun _ h9 => h9) rfl dX5_freeze_127 ?_
      refine lv_aload_n hx hb dX5_freeze_130 rfl (lv_at hl 3 rfl) ?_
      refine lv_aload_n hx hb dX5_freeze_131 rfl (lv_at hl 2 rfl) ?_
      refine va_get (D := D) (ci := 5) (v := .ref (ob 1)) (C := RX5) (T := TX5) (N := 3) hx hb hts hin_X5 hown hK hP 0 rfl rfl 0 (by decide) (hts (.fieldLink RX5 12 "ClashFree$Paper" "draw" "LClashFree$Draw;") (List.mem_of_getElem? (i := 1) rfl)) (fun _ h9 => h9) rfl dX5_freeze_132 ?_
      refine lv_iload hx hb dX5_freeze_135 (lv_at hl 0 rfl) ?_
      refine lv_aload_n hx hb dX5_freeze_137 rfl (lv_at hl 2 rfl) ?_
      refine va_get (D := D) (ci := 5) (v := .ref (ob 5)) (C := RX5) (T := TX5) (N := 3) hx hb hts hin_X5 hown hK hP 0 rfl rfl 1 (by decide) (hts (.fieldLink RX5 21 "ClashFree$Paper" "layout" "LClashFree$Layout;") (List.mem_of_getElem? (i := 6) rfl)) (fun _ h9 => h9) rfl dX5_freeze_138 ?_
      refine va_get (D := D) (ci := 3) (v := .ref (ob 13)) (C := RX3) (T := TX3) (N := 13) hx hb hts hin_X3 hown hK hP 2 rfl rfl 12 (by decide) (hts (.fieldLink RX5 112 "ClashFree$Layout" "next" "[I") (List.mem_of_getElem? (i := 14) rfl)) (fun _ h9 => h9) rfl dX5_freeze_141 ?_
      refine lv_iload hx hb dX5_freeze_144 (lv_at hl 0 rfl) ?_
      refine va_iald hx hb hK hP 10 0 rfl rfl (vp_in_nI (by omega) (by decide)) dX5_freeze_146 ?_
      refine lv_topi (fun v2 ev2 => ?_)
      have hPc := hP.sub (ws' := [(ob 5, .inr (3, gY ob (nI nb) (nI ka) (nI kb) sm (nI ln))), (ob 6, .inl (cI, 2048, .inl fh)), (ob 7, .inl (cI, 2048, .inl ff)), (ob 8, .inl (cI, 2048, .inl ga)), (ob 9, .inl (cI, 2048, .inl gs)), (ob 11, .inl (cI, 160, .inl gr)), (ob 12, .inl (cI, 160, .inl fo)), (ob 1, .inr (0, [.long sd, .int (nI ea), .int (nI eb), .int pq])), (oc 2, .inr (2, [.int (nI cn), .ref (oc 3), .ref (oc 4)])), (oc 3, .inl (cI, 160, .inl fk))]) [2, 3, 4, 5, 6, 8, 9, 1, 11, 12] rfl
      have hKc := hK.sub (tys' := [(cI, .int)]) [0] rfl
      have hDc := hD.sub (ws' := [(ob 5, .inr (3, gY ob (nI nb) (nI ka) (nI kb) sm (nI ln))), (ob 6, .inl (cI, 2048, .inl fh)), (ob 7, .inl (cI, 2048, .inl ff)), (ob 8, .inl (cI, 2048, .inl ga)), (ob 9, .inl (cI, 2048, .inl gs)), (ob 11, .inl (cI, 160, .inl gr)), (ob 12, .inl (cI, 160, .inl fo)), (ob 1, .inr (0, [.long sd, .int (nI ea), .int (nI eb), .int pq])), (oc 2, .inr (2, [.int (nI cn), .ref (oc 3), .ref (oc 4)])), (oc 3, .inl (cI, 160, .inl fk))]) [2, 3, 4, 5, 6, 8, 9, 1, 11, 12] (by decide) rfl
      have hFc := va_free (wc := [(ob 5, .inr (3, gY ob (nI nb) (nI ka) (nI kb) sm (nI ln))), (ob 6, .inl (cI, 2048, .inl fh)), (ob 7, .inl (cI, 2048, .inl ff)), (ob 8, .inl (cI, 2048, .inl ga)), (ob 9, .inl (cI, 2048, .inl gs)), (ob 11, .inl (cI, 160, .inl gr)), (ob 12, .inl (cI, 160, .inl fo)), (ob 1, .inr (0, [.long sd, .int (nI ea), .int (nI eb), .int pq])), (oc 2, .inr (2, [.int (nI cn), .ref (oc 3), .ref (oc 4)])), (oc 3, .inl (cI, 160, .inl fk))]) hD hS hA [2, 3, 4, 5, 6, 8, 9, 1, 11, 12] rfl
      refine va_callv (va_runV (As := [.ref (oc 2), .ref (ob 1), .int (nI y), .int v2]) (rest := []) ⟨hx, hb, hml, hown, hts⟩ (k_bb l D _ ob oc cI nb ka kb sm ln fh ff ga gs gr fo sd ea eb pq cn fk (nI y) v2 hnb hln hO hea heb) (cwV 4 hts g_k_freeze_k_bb_115 rfl rfl rfl (by decide +kernel) ⟨(Nat.le_of_ble_eq_true rfl), (Nat.le_of_ble_eq_true rfl)⟩) (PcWC_V (q0 := 0) hPc hKc hDc hN rfl rfl) rfl rfl hl.1 rfl (lv_room (Nat.le_of_ble_eq_true rfl)) dX5_freeze_147 ⟨(Nat.le_of_ble_eq_true rfl), (Nat.le_of_ble_eq_true rfl)⟩) hS (fun q _ h => hFc q h) hFc (fun uu tt H locs htt hvm hw hB hz1 hk1 hS => ?_)
      obtain ⟨w4, w5, w6, w7, w8, w9, w10⟩ := uu
      obtain ⟨hP1, hK1, hD1⟩ := hB
      rw [htt] at hP1
      have hK1 := va_K.moved hvm.symm hK1
      have hP1 : va_P D vwCl [(ob 5, .inr (3, gY ob (nI nb) (nI ka) (nI kb) sm (nI ln))), (ob 6, .inl (cI, 2048, .inl fh)), (ob 7, .inl (cI, 2048, .inl ff)), (ob 8, .inl (cI, 2048, .inl w4)), (ob 9, .inl (cI, 2048, .inl w5)), (ob 11, .inl (cI, 160, .inl w6)), (ob 12, .inl (cI, 160, .inl fo)), (ob 1, .inr (0, [.long w7, .int (nI w8), .int (nI w9), .int w10])), (oc 2, .inr (2, [.int (nI cn), .ref (oc 3), .ref (oc 4)])), (oc 3, .inl (cI, 160, .inl fk))] H := hP1
      obtain ⟨hP, hD⟩ := va_join (wr := [(ob 0, .inr (5, [.ref (ob 1), .ref (ob 5), .int po])), (ob 10, .inl (cI, 160, .inl fj)), (ob 13, .inl (cI, 2048, .inl fx))]) (w1 := [(ob 5, .inr (3, gY ob (nI nb) (nI ka) (nI kb) sm (nI ln))), (ob 6, .inl (cI, 2048, .inl fh)), (ob 7, .inl (cI, 2048, .inl ff)), (ob 8, .inl (cI, 2048, .inl w4)), (ob 9, .inl (cI, 2048, .inl w5)), (ob 11, .inl (cI, 160, .inl w6)), (ob 12, .inl (cI, 160, .inl fo)), (ob 1, .inr (0, [.long w7, .int (nI w8), .int (nI w9), .int w10])), (oc 2, .inr (2, [.int (nI cn), .ref (oc 3), .ref (oc 4)])), (oc 3, .inl (cI, 160, .inl fk))]) hP hD [2, 3, 4, 5, 6, 8, 9, 1, 11, 12] [0, 7, 10] rfl rfl (by decide) (by decide) hk1 hFc hP1 hD1
      have hP : va_P D vwCl [(ob 0, .inr (5, [.ref (ob 1), .ref (ob 5), .int po])), (ob 10, .inl (cI, 160, .inl fj)), (ob 13, .inl (cI, 2048, .inl fx)), (ob 5, .inr (3, gY ob (nI nb) (nI ka) (nI kb) sm (nI ln))), (ob 6, .inl (cI, 2048, .inl fh)), (ob 7, .inl (cI, 2048, .inl ff)), (ob 8, .inl (cI, 2048, .inl w4)), (ob 9, .inl (cI, 2048, .inl w5)), (ob 11, .inl (cI, 160, .inl w6)), (ob 12, .inl (cI, 160, .inl fo)), (ob 1, .inr (0, [.long w7, .int (nI w8), .int (nI w9), .int w10])), (oc 2, .inr (2, [.int (nI cn), .ref (oc 3), .ref (oc 4)])), (oc 3, .inl (cI, 160, .inl fk))] H := hP
      have hD : va_D A [(ob 0, .inr (5, [.ref (ob 1), .ref (ob 5), .int po])), (ob 10, .inl (cI, 160, .inl fj)), (ob 13, .inl (cI, 2048, .inl fx)), (ob 5, .inr (3, gY ob (nI nb) (nI ka) (nI kb) sm (nI ln))), (ob 6, .inl (cI, 2048, .inl fh)), (ob 7, .inl (cI, 2048, .inl ff)), (ob 8, .inl (cI, 2048, .inl w4)), (ob 9, .inl (cI, 2048, .inl w5)), (ob 11, .inl (cI, 160, .inl w6)), (ob 12, .inl (cI, 160, .inl fo)), (ob 1, .inr (0, [.long w7, .int (nI w8), .int (nI w9), .int w10])), (oc 2, .inr (2, [.int (nI cn), .ref (oc 3), .ref (oc 4)])), (oc 3, .inl (cI, 160, .inl fk))] := hD
      try dsimp only at hw
      clear hz1 hk1 hFc hPc hKc hDc
      obtain ⟨hd11_a, hd11_b⟩ := hw
      refine lv_iinc (v := nI (y + 1)) (lv' := [(6, .int (nI (y + 1))), (4, .int (nI nn)), (0, .ref (ob 0)), (1, .ref (oc 2))]) hx hb dX5_freeze_150 hl (k := 0) rfl (nI_1 _) (by decide) rfl (fun ls hl => ?_)
      refine lv_goto (tgt := 119) hx hb dX5_freeze_153 (by decide) ?_
      exact ih (y + 1) w4 w5 w6 w7 w8 w9 w10 (by omega) (hd11_a) (hd11_b) (by omega) H locs ls (hP.sub [0, 10, 3, 4, 5, 6, 7, 1, 8, 9, 2, 11, 12] rfl) (hD.sub [0, 10, 3, 4, 5, 6, 7, 1, 8, 9, 2, 11, 12] (by decide) rfl) hS (lv_sub hl [0, 1, 2, 3] rfl)
set_option maxHeartbeats 4000000 in
set_option maxRecDepth 100000 in
theorem k_freeze (l : Launch) (D : va_G) (sz : Nat) (ob : Nat → Nat) (oc : Nat → Nat) (cI : ClassId) (po : Int32) (sd : Int64) (da : Nat) (db : Nat) (pr : Int32) (nb : Nat) (ka : Nat) (kb : Nat) (sm : Int32) (ln : Nat) (fh : Nat → Int32) (ff : Nat → Int32) (fa : Nat → Int32) (fs : Nat → Int32) (fj : Nat → Int32) (fr : Nat → Int32) (fo : Nat → Int32) (fx : Nat → Int32) (cn : Nat) (fk : Nat → Int32) (y2 : Int64) (hL : LyH fj fh nb ln) (hO : OrC fo) (hKc : KyC fk cn) : Met l yX5_freeze wp_k_freeze ({ frames := 4, cells := 0, slots := 0, locals := 150 }) (PcWC D [.ref (ob 0), .ref (oc 2), .long y2] sz [(ob 0, .inr (5, [.ref (ob 1), .ref (ob 5), .int po])), (ob 1, .inr (0, [.long sd, .int (nI da), .int (nI db), .int pr])), (ob 5, .inr (3, gY ob (nI nb) (nI ka) (nI kb) sm (nI ln))), (ob 6, .inl (cI, 2048, .inl fh)), (ob 7, .inl (cI, 2048, .inl ff)), (ob 8, .inl (cI, 2048, .inl fa)), (ob 9, .inl (cI, 2048, .inl fs)), (ob 10, .inl (cI, 160, .inl fj)), (ob 11, .inl (cI, 160, .inl fr)), (ob 12, .inl (cI, 160, .inl fo)), (ob 13, .inl (cI, 2048, .inl fx)), (oc 2, .inr (2, [.int (nI cn), .ref (oc 3), .ref (oc 4)])), (oc 3, .inl (cI, 160, .inl fk))] [(cI, .int)]) (va_Qi (fun (r : Int32) (u : (Int32) × (Int64) × (Nat) × (Nat) × (Int32) × (Nat) × (Nat) × (Nat) × (Int32) × (Nat) × (Nat → Int32) × (Nat → Int32) × (Nat → Int32) × (Nat → Int32) × (Nat → Int32) × (Nat → Int32) × (Nat → Int32) × (Nat → Int32)) => (r = 0 ∨ r = 1) ∧ LyH u.2.2.2.2.2.2.2.2.2.2.2.2.2.2.1 u.2.2.2.2.2.2.2.2.2.2.1 u.2.2.2.2.2.1 u.2.2.2.2.2.2.2.2.2.1 ∧ OrC u.2.2.2.2.2.2.2.2.2.2.2.2.2.2.2.2.1) (fun (u : (Int32) × (Int64) × (Nat) × (Nat) × (Int32) × (Nat) × (Nat) × (Nat) × (Int32) × (Nat) × (Nat → Int32) × (Nat → Int32) × (Nat → Int32) × (Nat → Int32) × (Nat → Int32) × (Nat → Int32) × (Nat → Int32) × (Nat → Int32)) t => va_P D vwCl [(ob 0, .inr (5, [.ref (ob 1), .ref (ob 5), .int u.1])), (ob 1, .inr (0, [.long u.2.1, .int (nI u.2.2.1), .int (nI u.2.2.2.1), .int u.2.2.2.2.1])), (ob 5, .inr (3, gY ob (nI u.2.2.2.2.2.1) (nI u.2.2.2.2.2.2.1) (nI u.2.2.2.2.2.2.2.1) u.2.2.2.2.2.2.2.2.1 (nI u.2.2.2.2.2.2.2.2.2.1))), (ob 6, .inl (cI, 2048, .inl u.2.2.2.2.2.2.2.2.2.2.1)), (ob 7, .inl (cI, 2048, .inl u.2.2.2.2.2.2.2.2.2.2.2.1)), (ob 8, .inl (cI, 2048, .inl u.2.2.2.2.2.2.2.2.2.2.2.2.1)), (ob 9, .inl (cI, 2048, .inl u.2.2.2.2.2.2.2.2.2.2.2.2.2.1)), (ob 10, .inl (cI, 160, .inl u.2.2.2.2.2.2.2.2.2.2.2.2.2.2.1)), (ob 11, .inl (cI, 160, .inl u.2.2.2.2.2.2.2.2.2.2.2.2.2.2.2.1)), (ob 12, .inl (cI, 160, .inl u.2.2.2.2.2.2.2.2.2.2.2.2.2.2.2.2.1)), (ob 13, .inl (cI, 2048, .inl u.2.2.2.2.2.2.2.2.2.2.2.2.2.2.2.2.2)), (oc 2, .inr (2, [.int (nI cn), .ref (oc 3), .ref (oc 4)])), (oc 3, .inl (cI, 160, .inl fk))] t.heap ∧ va_K D vwCl [(cI, .int)] t ∧ va_D (va_A [(ob 0, .inr (5, [.ref (ob 1), .ref (ob 5), .int po])), (ob 1, .inr (0, [.long sd, .int (nI da), .int (nI db), .int pr])), (ob 5, .inr (3, gY ob (nI nb) (nI ka) (nI kb) sm (nI ln))), (ob 6, .inl (cI, 2048, .inl fh)), (ob 7, .inl (cI, 2048, .inl ff)), (ob 8, .inl (cI, 2048, .inl fa)), (ob 9, .inl (cI, 2048, .inl fs)), (ob 10, .inl (cI, 160, .inl fj)), (ob 11, .inl (cI, 160, .inl fr)), (ob 12, .inl (cI, 160, .inl fo)), (ob 13, .inl (cI, 2048, .inl fx)), (oc 2, .inr (2, [.int (nI cn), .ref (oc 3), .ref (oc 4)])), (oc 3, .inl (cI, 160, .inl fk))] sz) [(ob 0, .inr (5, [.ref (ob 1), .ref (ob 5), .int u.1])), (ob 1, .inr (0, [.long u.2.1, .int (nI u.2.2.1), .int (nI u.2.2.2.1), .int u.2.2.2.2.1])), (ob 5, .inr (3, gY ob (nI u.2.2.2.2.2.1) (nI u.2.2.2.2.2.2.1) (nI u.2.2.2.2.2.2.2.1) u.2.2.2.2.2.2.2.2.1 (nI u.2.2.2.2.2.2.2.2.2.1))), (ob 6, .inl (cI, 2048, .inl u.2.2.2.2.2.2.2.2.2.2.1)), (ob 7, .inl (cI, 2048, .inl u.2.2.2.2.2.2.2.2.2.2.2.1)), (ob 8, .inl (cI, 2048, .inl u.2.2.2.2.2.2.2.2.2.2.2.2.1)), (ob 9, .inl (cI, 2048, .inl u.2.2.2.2.2.2.2.2.2.2.2.2.2.1)), (ob 10, .inl (cI, 160, .inl u.2.2.2.2.2.2.2.2.2.2.2.2.2.2.1)), (ob 11, .inl (cI, 160, .inl u.2.2.2.2.2.2.2.2.2.2.2.2.2.2.2.1)), (ob 12, .inl (cI, 160, .inl u.2.2.2.2.2.2.2.2.2.2.2.2.2.2.2.2.1)), (ob 13, .inl (cI, 2048, .inl u.2.2.2.2.2.2.2.2.2.2.2.2.2.2.2.2.2)), (oc 2, .inr (2, [.int (nI cn), .ref (oc 3), .ref (oc 4)])), (oc 3, .inl (cI, 160, .inl fk))]) (va_A [(ob 0, .inr (5, [.ref (ob 1), .ref (ob 5), .int po])), (ob 1, .inr (0, [.long sd, .int (nI da), .int (nI db), .int pr])), (ob 5, .inr (3, gY ob (nI nb) (nI ka) (nI kb) sm (nI ln))), (ob 6, .inl (cI, 2048, .inl fh)), (ob 7, .inl (cI, 2048, .inl ff)), (ob 8, .inl (cI, 2048, .inl fa)), (ob 9, .inl (cI, 2048, .inl fs)), (ob 10, .inl (cI, 160, .inl fj)), (ob 11, .inl (cI, 160, .inl fr)), (ob 12, .inl (cI, 160, .inl fo)), (ob 13, .inl (cI, 2048, .inl fx)), (oc 2, .inr (2, [.int (nI cn), .ref (oc 3), .ref (oc 4)])), (oc 3, .inl (cI, 160, .inl fk))] sz)) 0 0 (va_A [(ob 0, .inr (5, [.ref (ob 1), .ref (ob 5), .int po])), (ob 1, .inr (0, [.long sd, .int (nI da), .int (nI db), .int pr])), (ob 5, .inr (3, gY ob (nI nb) (nI ka) (nI kb) sm (nI ln))), (ob 6, .inl (cI, 2048, .inl fh)), (ob 7, .inl (cI, 2048, .inl ff)), (ob 8, .inl (cI, 2048, .inl fa)), (ob 9, .inl (cI, 2048, .inl fs)), (ob 10, .inl (cI, 160, .inl fj)), (ob 11, .inl (cI, 160, .inl fr)), (ob 12, .inl (cI, 160, .inl fo)), (ob 13, .inl (cI, 2048, .inl fx)), (oc 2, .inr (2, [.int (nI cn), .ref (oc 3), .ref (oc 4)])), (oc 3, .inl (cI, 160, .inl fk))] sz) := by
  refine Met.ofW (cc := cX5_freeze) (maxL := 7) (ret := (some .boolean)) (by decide) rfl ?_
  intro p e s m args below meth c s₁ B hml hv
  obtain ⟨rfl, hsz, hP, hK, hD0, hN⟩ := hv
  have hx := B.exec
  have hb := B.bytes
  have hr := B.returns
  have hts := atoms_spec (ws := wp_k_freeze) B.pre
  have hin_X5 : ∀ w ∈ wsX50, w ∈ wp_k_freeze := fun _ h => (List.mem_cons_of_mem _ (List.mem_append_right _ (List.mem_append_right _ (List.mem_append_right _ (List.mem_append_right _ (List.mem_append_right _ (List.mem_append_right _ (List.mem_append_left _ h))))))))
  have hin_X0 : ∀ w ∈ wsX00, w ∈ wp_k_freeze := fun _ h => (List.mem_cons_of_mem _ (List.mem_append_right _ (List.mem_append_right _ (List.mem_append_right _ (List.mem_append_right _ (List.mem_append_right _ (List.mem_append_right _ (List.mem_append_right _ (List.mem_append_left _ h)))))))))
  have hin_X2 : ∀ w ∈ wsX20, w ∈ wp_k_freeze := fun _ h => (List.mem_cons_of_mem _ (List.mem_append_right _ (List.mem_append_right _ (List.mem_append_right _ (List.mem_append_right _ (List.mem_append_right _ (List.mem_append_right _ (List.mem_append_right _ (List.mem_append_right _ (List.mem_append_left _ h))))))))))
  have hin_X3 : ∀ w ∈ wsX30, w ∈ wp_k_freeze := fun _ h => (List.mem_cons_of_mem _ (List.mem_append_right _ (List.mem_append_right _ (List.mem_append_right _ (List.mem_append_right _ (List.mem_append_right _ (List.mem_append_right _ (List.mem_append_right _ (List.mem_append_right _ (List.mem_append_right _ (List.mem_append_left _ h)))))))))))
  have hown : s.vm.findClass RX5 = some m.cls := findClass_of_methodNamed B.named
  have hlocks := B.notSynchronized
  subst hsz
  have hD := hD0.self (sz := s.heap.size)
  generalize hAe : va_A [(ob 0, .inr (5, [.ref (ob 1), .ref (ob 5), .int po])), (ob 1, .inr (0, [.long sd, .int (nI da), .int (nI db), .int pr])), (ob 5, .inr (3, gY ob (nI nb) (nI ka) (nI kb) sm (nI ln))), (ob 6, .inl (cI, 2048, .inl fh)), (ob 7, .inl (cI, 2048, .inl ff)), (ob 8, .inl (cI, 2048, .inl fa)), (ob 9, .inl (cI, 2048, .inl fs)), (ob 10, .inl (cI, 160, .inl fj)), (ob 11, .inl (cI, 160, .inl fr)), (ob 12, .inl (cI, 160, .inl fo)), (ob 13, .inl (cI, 2048, .inl fx)), (oc 2, .inr (2, [.int (nI cn), .ref (oc 3), .ref (oc 4)])), (oc 3, .inl (cI, 160, .inl fk))] s.heap.size = A at hD ⊢
  have hA : ∀ q : Nat, s.heap.size ≤ q → A q := fun q h => by rw [← hAe]; exact Or.inr h
  have hS : va_S A s.heap s.heap [] := va_S.rf
  have hP : va_P D vwCl [(ob 0, .inr (5, [.ref (ob 1), .ref (ob 5), .int po])), (ob 1, .inr (0, [.long sd, .int (nI da), .int (nI db), .int pr])), (ob 5, .inr (3, gY ob (nI nb) (nI ka) (nI kb) sm (nI ln))), (ob 6, .inl (cI, 2048, .inl fh)), (ob 7, .inl (cI, 2048, .inl ff)), (ob 8, .inl (cI, 2048, .inl fa)), (ob 9, .inl (cI, 2048, .inl fs)), (ob 10, .inl (cI, 160, .inl fj)), (ob 11, .inl (cI, 160, .inl fr)), (ob 12, .inl (cI, 160, .inl fo)), (ob 13, .inl (cI, 2048, .inl fx)), (oc 2, .inr (2, [.int (nI cn), .ref (oc 3), .ref (oc 4)])), (oc 3, .inl (cI, 160, .inl fk))] s.heap := hP
  have hl := lv_entry ([.ref (ob 0), .ref (oc 2), .long y2]) (n := 7) (Nat.le_of_ble_eq_true rfl)
  rw [lg_entry_eq]
  generalize (lg_sl ([.ref (ob 0), .ref (oc 2), .long y2]) ++ List.replicate (7 - (lg_sl ([.ref (ob 0), .ref (oc 2), .long y2])).length) Slot.unset).toArray = ls at hl ⊢
  have hl : lv_has ls 7 [(0, .ref (ob 0)), (1, .ref (oc 2)), (2, .long y2)] := hl
  have hcn := hKc.1
  refine lv_iconst (v := 1) hx hb dX5_freeze_0 (by decide) ?_
  refine lv_aload_n hx hb dX5_freeze_1 rfl (lv_at hl 1 rfl) ?_
  refine va_get (D := D) (ci := 2) (v := .int (nI cn)) (C := RX2) (T := TX2) (N := 3) hx hb hts hin_X2 hown hK hP 11 rfl rfl 0 (by decide) (hts (.fieldLink RX5 93 "ClashFree$Keys" "size" "I") (List.mem_of_getElem? (i := 13) rfl)) (fun _ h9 => h9) rfl dX5_freeze_2 ?_
  refine va_mmax hx hb (hml.trans hl.1.symm) hown (hts (.methodLink RX5 96 Lib.Math.max.name) (List.mem_of_getElem? (i := 18) rfl)) (hts (.static Lib.Math.max.name) (List.mem_of_getElem? (i := 19) rfl)) (hts (.initialized "java/lang/Math") (List.mem_of_getElem? (i := 20) rfl)) (hts (.code Lib.Math.max.name Lib.Math.max.code 2 (some .int)) (List.mem_of_getElem? (i := 21) rfl)) (Nat.le_of_ble_eq_true rfl) (Nat.le_of_ble_eq_true rfl) (Nat.le_of_ble_eq_true rfl) (Nat.le_of_ble_eq_true rfl) dX5_freeze_5 ?_
  refine lv_topi (fun v1 ev1 => ?_)
  obtain ⟨nn, hnn, rfl⟩ : ∃ q, q ≤ 160 ∧ v1 = nI q := by
    rcases Nat.lt_or_ge 1 cn with z | z
    · exact ⟨cn, hcn, ev1.trans (if_pos (show (1 : Int32) < nI cn from nI_lt (a := 1) z (by omega)))⟩
    · exact ⟨1, by omega, ev1.trans (if_neg (show ¬ (1 : Int32) < nI cn from Int32.not_lt.mpr (nI_le (b := 1) z (by decide))))⟩
  refine lv_istore (lv' := [(4, .int (nI nn)), (0, .ref (ob 0)), (1, .ref (oc 2)), (2, .long y2)]) hx hb dX5_freeze_8 hl (by decide) rfl (fun ls hl => ?_)
  refine lv_iconst (v := 0) hx hb dX5_freeze_10 (by decide) ?_
  refine lv_istore (lv' := [(5, .int 0), (4, .int (nI nn)), (0, .ref (ob 0)), (1, .ref (oc 2)), (2, .long y2)]) hx hb dX5_freeze_11 hl (by decide) rfl (fun ls hl => ?_)
  refine lv_aload_n hx hb dX5_freeze_13 rfl (lv_at hl 2 rfl) ?_
  refine va_get (D := D) (ci := 5) (v := .ref (ob 1)) (C := RX5) (T := TX5) (N := 3) hx hb hts hin_X5 hown hK hP 0 rfl rfl 0 (by decide) (hts (.fieldLink RX5 12 "ClashFree$Paper" "draw" "LClashFree$Draw;") (List.mem_of_getElem? (i := 1) rfl)) (fun _ h9 => h9) rfl dX5_freeze_14 ?_
  refine lv_lload_n hx hb dX5_freeze_17 rfl (lv_at hl 4 rfl) ?_
  have hPc := hP.sub (ws' := [(ob 1, .inr (0, [.long sd, .int (nI da), .int (nI db), .int pr]))]) [1] rfl
  have hKc := hK.sub (tys' := []) [] rfl
  have hDc := hD.sub (ws' := [(ob 1, .inr (0, [.long sd, .int (nI da), .int (nI db), .int pr]))]) [1] (by decide) rfl
  have hFc := va_free (wc := [(ob 1, .inr (0, [.long sd, .int (nI da), .int (nI db), .int pr]))]) hD hS hA [1] rfl
  refine va_callv (va_runV (As := [.long y2]) (rest := []) ⟨hx, hb, hml, hown, hts⟩ (k_dbegin l D _ ob cI sd da db pr y2) (cwV 1 hts g_k_freeze_k_dbegin_41 rfl rfl rfl (by decide +kernel) ⟨(Nat.le_of_ble_eq_true rfl), (Nat.le_of_ble_eq_true rfl)⟩) (PcWC_V (q0 := 0) hPc hKc hDc hN rfl rfl) rfl rfl hl.1 rfl (lv_room (Nat.le_of_ble_eq_true rfl)) dX5_freeze_18 ⟨(Nat.le_of_ble_eq_true rfl), (Nat.le_of_ble_eq_true rfl)⟩) hS (fun q _ h => hFc q h) hFc (fun uu tt H locs htt hvm hw hB hz1 hk1 hS => ?_)
  obtain ⟨w3, w4⟩ := uu
  obtain ⟨hP1, hK1, hD1⟩ := hB
  rw [htt] at hP1
  have hK1 := va_K.moved hvm.symm hK1
  have hP1 : va_P D vwCl [(ob 1, .inr (0, [.long w3, .int (nI da), .int (nI db), .int w4]))] H := hP1
  obtain ⟨hP, hD⟩ := va_join (wr := [(ob 0, .inr (5, [.ref (ob 1), .ref (ob 5), .int po])), (ob 5, .inr (3, gY ob (nI nb) (nI ka) (nI kb) sm (nI ln))), (ob 6, .inl (cI, 2048, .inl fh)), (ob 7, .inl (cI, 2048, .inl ff)), (ob 8, .inl (cI, 2048, .inl fa)), (ob 9, .inl (cI, 2048, .inl fs)), (ob 10, .inl (cI, 160, .inl fj)), (ob 11, .inl (cI, 160, .inl fr)), (ob 12, .inl (cI, 160, .inl fo)), (ob 13, .inl (cI, 2048, .inl fx)), (oc 2, .inr (2, [.int (nI cn), .ref (oc 3), .ref (oc 4)])), (oc 3, .inl (cI, 160, .inl fk))]) (w1 := [(ob 1, .inr (0, [.long w3, .int (nI da), .int (nI db), .int w4]))]) hP hD [1] [0, 2, 3, 4, 5, 6, 7, 8, 9, 10, 11, 12] rfl rfl (by decide) (by decide) hk1 hFc hP1 hD1
  have hP : va_P D vwCl [(ob 0, .inr (5, [.ref (ob 1), .ref (ob 5), .int po])), (ob 5, .inr (3, gY ob (nI nb) (nI ka) (nI kb) sm (nI ln))), (ob 6, .inl (cI, 2048, .inl fh)), (ob 7, .inl (cI, 2048, .inl ff)), (ob 8, .inl (cI, 2048, .inl fa)), (ob 9, .inl (cI, 2048, .inl fs)), (ob 10, .inl (cI, 160, .inl fj)), (ob 11, .inl (cI, 160, .inl fr)), (ob 12, .inl (cI, 160, .inl fo)), (ob 13, .inl (cI, 2048, .inl fx)), (oc 2, .inr (2, [.int (nI cn), .ref (oc 3), .ref (oc 4)])), (oc 3, .inl (cI, 160, .inl fk)), (ob 1, .inr (0, [.long w3, .int (nI da), .int (nI db), .int w4]))] H := hP
  have hD : va_D A [(ob 0, .inr (5, [.ref (ob 1), .ref (ob 5), .int po])), (ob 5, .inr (3, gY ob (nI nb) (nI ka) (nI kb) sm (nI ln))), (ob 6, .inl (cI, 2048, .inl fh)), (ob 7, .inl (cI, 2048, .inl ff)), (ob 8, .inl (cI, 2048, .inl fa)), (ob 9, .inl (cI, 2048, .inl fs)), (ob 10, .inl (cI, 160, .inl fj)), (ob 11, .inl (cI, 160, .inl fr)), (ob 12, .inl (cI, 160, .inl fo)), (ob 13, .inl (cI, 2048, .inl fx)), (oc 2, .inr (2, [.int (nI cn), .ref (oc 3), .ref (oc 4)])), (oc 3, .inl (cI, 160, .inl fk)), (ob 1, .inr (0, [.long w3, .int (nI da), .int (nI db), .int w4]))] := hD
  try dsimp only at hw
  clear hz1 hk1 hFc hPc hKc hDc
  clear hw
  refine lv_iconst (v := 0) hx hb dX5_freeze_21 (by decide) ?_
  refine lv_istore (lv' := [(6, .int 0), (5, .int 0), (4, .int (nI nn)), (0, .ref (ob 0)), (1, .ref (oc 2)), (2, .long y2)]) hx hb dX5_freeze_22 hl (by decide) rfl (fun ls hl => ?_)
  refine lk_fz1 l D ob oc cI po sm ff fa fs fr fo fx cn fk nn (hKc) hx hb hml hown hts hA (hK.sub [0] rfl) hN ?_ (1001) 0 0 nb ka kb ln fh fj w3 da db w4 (by omega) (hL) (Or.inl rfl) (by omega) _ _ _ (hP.sub [0, 12, 1, 2, 3, 4, 5, 6, 7, 8, 9, 10, 11] rfl) (hD.sub [0, 12, 1, 2, 3, 4, 5, 6, 7, 8, 9, 10, 11] (by decide) rfl) hS (lv_sub hl [0, 1, 2, 3, 4] rfl)
  intro y_5 wi_6 n1_7 xa_8 xb_9 xl_10 gh_11 gj_12 sd_13 ea_14 eb_15 pq_16 hy1_17 hLl_18 hdd_19 H locs ls hP hD hS hl
  refine lv_iload hx hb dX5_freeze_90 (lv_at hl 0 rfl) ?_
  refine lv_if_ne (tgt := 97) hx hb dX5_freeze_92 (by decide) (fun hc20 => ?_) (fun hc20 => ?_)
  ·
    obtain ⟨hea, heb⟩ := (hdd_19).resolve_left hc20
    have hLn := hLl_18.1
    have hLl := hLl_18.2.1
    refine lv_aload_n hx hb dX5_freeze_97 rfl (lv_at hl 2 rfl) ?_
    refine lv_aload_n hx hb dX5_freeze_98 rfl (lv_at hl 2 rfl) ?_
    refine va_get (D := D) (ci := 5) (v := .ref (ob 1)) (C := RX5) (T := TX5) (N := 3) hx hb hts hin_X5 hown hK hP 0 rfl rfl 0 (by decide) (hts (.fieldLink RX5 12 "ClashFree$Paper" "draw" "LClashFree$Draw;") (List.mem_of_getElem? (i := 1) rfl)) (fun _ h9 => h9) rfl dX5_freeze_99 ?_
    refine va_get (D := D) (ci := 0) (v := .int pq_16) (C := RX0) (T := TX0) (N := 4) hx hb hts hin_X0 hown hK hP 1 rfl rfl 3 (by decide) (hts (.fieldLink RX5 102 "ClashFree$Draw" "pairs" "I") (List.mem_of_getElem? (i := 25) rfl)) (fun _ h9 => h9) rfl dX5_freeze_102 ?_
    refine va_put (D := D) (ci := 5) (v := .int pq_16) (ty := .int) (C := RX5) (T := TX5) (N := 3) hx hb hts hin_X5 tyX5 tyX5_ok nmX5 hown hK hP hD hS 0 rfl rfl 2 (by decide) (hts (.fieldLink RX5 105 "ClashFree$Paper" "outerPairs" "I") (List.mem_of_getElem? (i := 26) rfl)) (fun _ h9 => h9) rfl (by decide +kernel) rfl rfl (Nat.le_of_ble_eq_true rfl) dX5_freeze_105 (fun H locs hP hD hS => ?_)
    have hP : va_P D vwCl [(ob 0, .inr (5, [.ref (ob 1), .ref (ob 5), .int pq_16])), (ob 1, .inr (0, [.long sd_13, .int (nI ea_14), .int (nI eb_15), .int pq_16])), (ob 5, .inr (3, gY ob (nI n1_7) (nI xa_8) (nI xb_9) sm (nI xl_10))), (ob 6, .inl (cI, 2048, .inl gh_11)), (ob 7, .inl (cI, 2048, .inl ff)), (ob 8, .inl (cI, 2048, .inl fa)), (ob 9, .inl (cI, 2048, .inl fs)), (ob 10, .inl (cI, 160, .inl gj_12)), (ob 11, .inl (cI, 160, .inl fr)), (ob 12, .inl (cI, 160, .inl fo)), (ob 13, .inl (cI, 2048, .inl fx)), (oc 2, .inr (2, [.int (nI cn), .ref (oc 3), .ref (oc 4)])), (oc 3, .inl (cI, 160, .inl fk))] H := hP
    have hD : va_D A [(ob 0, .inr (5, [.ref (ob 1), .ref (ob 5), .int pq_16])), (ob 1, .inr (0, [.long sd_13, .int (nI ea_14), .int (nI eb_15), .int pq_16])), (ob 5, .inr (3, gY ob (nI n1_7) (nI xa_8) (nI xb_9) sm (nI xl_10))), (ob 6, .inl (cI, 2048, .inl gh_11)), (ob 7, .inl (cI, 2048, .inl ff)), (ob 8, .inl (cI, 2048, .inl fa)), (ob 9, .inl (cI, 2048, .inl fs)), (ob 10, .inl (cI, 160, .inl gj_12)), (ob 11, .inl (cI, 160, .inl fr)), (ob 12, .inl (cI, 160, .inl fo)), (ob 13, .inl (cI, 2048, .inl fx)), (oc 2, .inr (2, [.int (nI cn), .ref (oc 3), .ref (oc 4)])), (oc 3, .inl (cI, 160, .inl fk))] := hD
    refine lv_aload_n hx hb dX5_freeze_108 rfl (lv_at hl 2 rfl) ?_
    refine va_get (D := D) (ci := 5) (v := .ref (ob 5)) (C := RX5) (T := TX5) (N := 3) hx hb hts hin_X5 hown hK hP 0 rfl rfl 1 (by decide) (hts (.fieldLink RX5 21 "ClashFree$Paper" "layout" "LClashFree$Layout;") (List.mem_of_getElem? (i := 6) rfl)) (fun _ h9 => h9) rfl dX5_freeze_109 ?_
    refine lv_iconst (v := 1) hx hb dX5_freeze_112 (by decide) ?_
    have hPc := hP.sub (ws' := [(ob 5, .inr (3, gY ob (nI n1_7) (nI xa_8) (nI xb_9) sm (nI xl_10))), (ob 6, .inl (cI, 2048, .inl gh_11)), (ob 7, .inl (cI, 2048, .inl ff)), (ob 10, .inl (cI, 160, .inl gj_12)), (ob 12, .inl (cI, 160, .inl fo)), (ob 13, .inl (cI, 2048, .inl fx))]) [2, 3, 4, 7, 9, 10] rfl
    have hKc := hK.sub (tys' := [(cI, .int)]) [0] rfl
    have hDc := hD.sub (ws' := [(ob 5, .inr (3, gY ob (nI n1_7) (nI xa_8) (nI xb_9) sm (nI xl_10))), (ob 6, .inl (cI, 2048, .inl gh_11)), (ob 7, .inl (cI, 2048, .inl ff)), (ob 10, .inl (cI, 160, .inl gj_12)), (ob 12, .inl (cI, 160, .inl fo)), (ob 13, .inl (cI, 2048, .inl fx))]) [2, 3, 4, 7, 9, 10] (by decide) rfl
    have hFc := va_free (wc := [(ob 5, .inr (3, gY ob (nI n1_7) (nI xa_8) (nI xb_9) sm (nI xl_10))), (ob 6, .inl (cI, 2048, .inl gh_11)), (ob 7, .inl (cI, 2048, .inl ff)), (ob 10, .inl (cI, 160, .inl gj_12)), (ob 12, .inl (cI, 160, .inl fo)), (ob 13, .inl (cI, 2048, .inl fx))]) hD hS hA [2, 3, 4, 7, 9, 10] rfl
    refine va_callv (va_runV (As := [.int 1]) (rest := []) ⟨hx, hb, hml, hown, hts⟩ (k_settle l D _ ob cI n1_7 xa_8 xb_9 sm xl_10 gh_11 ff gj_12 fo fx 1 hLl_18 hO) (cwV 1 hts g_k_freeze_k_settle_108 rfl rfl rfl (by decide +kernel) ⟨(Nat.le_of_ble_eq_true rfl), (Nat.le_of_ble_eq_true rfl)⟩) (PcWC_V (q0 := 0) hPc hKc hDc hN rfl rfl) rfl rfl hl.1 rfl (lv_room (Nat.le_of_ble_eq_true rfl)) dX5_freeze_113 ⟨(Nat.le_of_ble_eq_true rfl), (Nat.le_of_ble_eq_true rfl)⟩) hS (fun q _ h => hFc q h) hFc (fun uu tt H locs htt hvm hw hB hz1 hk1 hS => ?_)
    obtain ⟨w22, w23, w24, w25⟩ := uu
    obtain ⟨hP1, hK1, hD1⟩ := hB
    rw [htt] at hP1
    have hK1 := va_K.moved hvm.symm hK1
    have hP1 : va_P D vwCl [(ob 5, .inr (3, gY ob (nI n1_7) (nI xa_8) (nI xb_9) w22 (nI xl_10))), (ob 6, .inl (cI, 2048, .inl gh_11)), (ob 7, .inl (cI, 2048, .inl w23)), (ob 10, .inl (cI, 160, .inl gj_12)), (ob 12, .inl (cI, 160, .inl w24)), (ob 13, .inl (cI, 2048, .inl w25))] H := hP1
    obtain ⟨hP, hD⟩ := va_join (wr := [(ob 0, .inr (5, [.ref (ob 1), .ref (ob 5), .int pq_16])), (ob 1, .inr (0, [.long sd_13, .int (nI ea_14), .int (nI eb_15), .int pq_16])), (ob 8, .inl (cI, 2048, .inl fa)), (ob 9, .inl (cI, 2048, .inl fs)), (ob 11, .inl (cI, 160, .inl fr)), (oc 2, .inr (2, [.int (nI cn), .ref (oc 3), .ref (oc 4)])), (oc 3, .inl (cI, 160, .inl fk))]) (w1 := [(ob 5, .inr (3, gY ob (nI n1_7) (nI xa_8) (nI xb_9) w22 (nI xl_10))), (ob 6, .inl (cI, 2048, .inl gh_11)), (ob 7, .inl (cI, 2048, .inl w23)), (ob 10, .inl (cI, 160, .inl gj_12)), (ob 12, .inl (cI, 160, .inl w24)), (ob 13, .inl (cI, 2048, .inl w25))]) hP hD [2, 3, 4, 7, 9, 10] [0, 1, 5, 6, 8, 11, 12] rfl rfl (by decide) (by decide) hk1 hFc hP1 hD1
    have hP : va_P D vwCl [(ob 0, .inr (5, [.ref (ob 1), .ref (ob 5), .int pq_16])), (ob 1, .inr (0, [.long sd_13, .int (nI ea_14), .int (nI eb_15), .int pq_16])), (ob 8, .inl (cI, 2048, .inl fa)), (ob 9, .inl (cI, 2048, .inl fs)), (ob 11, .inl (cI, 160, .inl fr)), (oc 2, .inr (2, [.int (nI cn), .ref (oc 3), .ref (oc 4)])), (oc 3, .inl (cI, 160, .inl fk)), (ob 5, .inr (3, gY ob (nI n1_7) (nI xa_8) (nI xb_9) w22 (nI xl_10))), (ob 6, .inl (cI, 2048, .inl gh_11)), (ob 7, .inl (cI, 2048, .inl w23)), (ob 10, .inl (cI, 160, .inl gj_12)), (ob 12, .inl (cI, 160, .inl w24)), (ob 13, .inl (cI, 2048, .inl w25))] H := hP
    have hD : va_D A [(ob 0, .inr (5, [.ref (ob 1), .ref (ob 5), .int pq_16])), (ob 1, .inr (0, [.long sd_13, .int (nI ea_14), .int (nI eb_15), .int pq_16])), (ob 8, .inl (cI, 2048, .inl fa)), (ob 9, .inl (cI, 2048, .inl fs)), (ob 11, .inl (cI, 160, .inl fr)), (oc 2, .inr (2, [.int (nI cn), .ref (oc 3), .ref (oc 4)])), (oc 3, .inl (cI, 160, .inl fk)), (ob 5, .inr (3, gY ob (nI n1_7) (nI xa_8) (nI xb_9) w22 (nI xl_10))), (ob 6, .inl (cI, 2048, .inl gh_11)), (ob 7, .inl (cI, 2048, .inl w23)), (ob 10, .inl (cI, 160, .inl gj_12)), (ob 12, .inl (cI, 160, .inl w24)), (ob 13, .inl (cI, 2048, .inl w25))] := hD
    try dsimp only at hw
    clear hz1 hk1 hFc hPc hKc hDc
    have hO26 := hw
    refine lv_iconst (v := 0) hx hb dX5_freeze_116 (by decide) ?_
    refine lv_istore (lv' := [(6, .int 0), (5, .int wi_6), (4, .int (nI nn)), (0, .ref (ob 0)), (1, .ref (oc 2))]) hx hb dX5_freeze_117 hl (by decide) rfl (fun ls hl => ?_)
    refine lk_fz2 l D ob oc cI pq_16 n1_7 xa_8 xb_9 w22 xl_10 gh_11 w23 gj_12 w24 w25 cn fk nn (hLl) (hO26) (hLn) (hnn) hx hb hml hown hts hA (hK.sub [0] rfl) hN ?_ (nn + 1) 0 fa fs fr sd_13 ea_14 eb_15 pq_16 (Nat.zero_le _) (hea) (heb) (by omega) _ _ _ (hP.sub [0, 1, 7, 8, 9, 2, 3, 10, 4, 11, 12, 5, 6] rfl) (hD.sub [0, 1, 7, 8, 9, 2, 3, 10, 4, 11, 12, 5, 6] (by decide) rfl) hS (lv_sub hl [0, 2, 3, 4] rfl)
    intro y_27 ga_28 gs_29 gr_30 sd_31 ea_32 eb_33 pq_34 hy1_35 hea_36 heb_37 H locs ls hP hD hS hl
    refine lv_iconst (v := 1) hx hb dX5_freeze_156 (by decide) ?_
    exact W.zret (v := 1) hx hb hr rfl (fun t ht hW => ⟨⟨1, (pq_16, sd_31, ea_32, eb_33, pq_34, n1_7, xa_8, xb_9, w22, xl_10, gh_11, w23, ga_28, gs_29, gj_12, gr_30, w24, w25), rfl, (by (try dsimp only); first | done | exact ⟨Or.inr rfl, hLl_18, hO26⟩), by rw [ht]; exact hP.sub [0, 1, 2, 3, 4, 5, 6, 7, 8, 9, 10, 11, 12] rfl, va_K.moved hW.alike (hK.sub [0] rfl), hD.sub [0, 1, 2, 3, 4, 5, 6, 7, 8, 9, 10, 11, 12] (by decide) rfl⟩, hS.F ht⟩) hS.2.2 dX5_freeze_157
  ·
    refine lv_iconst (v := 0) hx hb dX5_freeze_95 (by decide) ?_
    exact W.zret (v := 0) hx hb hr rfl (fun t ht hW => ⟨⟨0, (po, sd_13, ea_14, eb_15, pq_16, n1_7, xa_8, xb_9, sm, xl_10, gh_11, ff, fa, fs, gj_12, fr, fo, fx), rfl, (by (try dsimp only); first | done | exact ⟨Or.inl rfl, hLl_18, hO⟩), by rw [ht]; exact hP.sub [0, 1, 2, 3, 4, 5, 6, 7, 8, 9, 10, 11, 12] rfl, va_K.moved hW.alike (hK.sub [0] rfl), hD.sub [0, 1, 2, 3, 4, 5, 6, 7, 8, 9, 10, 11, 12] (by decide) rfl⟩, hS.F ht⟩) hS.2.2 dX5_freeze_96

def own_k_edge : List Cond := [.fieldLink RX5 21 "ClashFree$Paper" "layout" "LClashFree$Layout;", .fieldLink RX5 119 "ClashFree$Layout" "size" "I", .methodLink RX5 120 yX3_roomOfAll, .instanceMethod yX3_roomOfAll, .selects RX3 yX3_roomOfAll yX3_roomOfAll, .initialized RX3]
def wp_k_edge : List Cond := .code yX5_edgeRoom cX5_edgeRoom 5 (some .int) :: (own_k_edge ++ (wp_k_roomOfAll ++ (wsX50 ++ (wsX30 ++ ([] : List Cond)))))
set_option maxRecDepth 20000 in
theorem inown_k_edge : ∀ w ∈ own_k_edge, w ∈ lw_tbl := mem_places [240, 190, 869, 870, 871, 109] (by decide +kernel)
set_option maxRecDepth 20000 in
theorem in_k_edge : ∀ w ∈ wp_k_edge, w ∈ lw_tbl := List.forall_mem_cons.mpr ⟨List.mem_of_getElem? (i := 868) (by decide +kernel), List.forall_mem_append.mpr ⟨inown_k_edge, List.forall_mem_append.mpr ⟨in_k_roomOfAll, List.forall_mem_append.mpr ⟨lwb_X5, List.forall_mem_append.mpr ⟨lwb_X3, fun _ h => absurd h List.not_mem_nil⟩⟩⟩⟩⟩
set_option maxRecDepth 20000 in
theorem good_k_edge : wp_k_edge.all goodWord = true := by decide +kernel
set_option maxRecDepth 20000 in
theorem g_k_edge_k_roomOfAll_120 : GoodIn wp_k_edge (wsV RX5 120 RX3 yX3_roomOfAll wp_k_roomOfAll) := goodIn_sub (List.forall_mem_append.mpr ⟨List.forall_mem_cons.mpr ⟨(List.mem_of_getElem? (i := 3) rfl), List.forall_mem_cons.mpr ⟨(List.mem_of_getElem? (i := 4) rfl), List.forall_mem_cons.mpr ⟨(List.mem_of_getElem? (i := 5) rfl), List.forall_mem_cons.mpr ⟨(List.mem_of_getElem? (i := 6) rfl), fun _ h => absurd h List.not_mem_nil⟩⟩⟩⟩, (fun _ h => (List.mem_cons_of_mem _ (List.mem_append_right _ (List.mem_append_left _ h))))⟩) (by decide +kernel)
set_option maxHeartbeats 4000000 in
set_option maxRecDepth 100000 in
theorem lk_edge (l : Launch) {p : Program} {e : Env} {s : State} {m : MethodId} {args : Array Value} {below : List Frame} {meth : Method} {c : Code} {Q : State → Prop} {A : Nat → Prop} (D : va_G) (ob : Nat → Nat) (cI : ClassId) (po : Int32) (nb : Nat) (ka : Nat) (kb : Nat) (sm : Int32) (ln : Nat) (fh : Nat → Int32) (ff : Nat → Int32) (fj : Nat → Int32) (fr : Nat → Int32) (z1 : Int32) (hL : LyH fj fh nb ln) (hln : ln ≤ 160) (hx : p.tables.exec = Jvm.exec) (hb : c.code = cX5_edgeRoom) (hml : c.maxLocals = 5) (hown : s.vm.findClass RX5 = some m.cls) (hts : ∀ w ∈ wp_k_edge, w.before args s = true) (hA : ∀ q, s.heap.size ≤ q → A q) (hK : va_K D vwCl [(cI, .int)] s) (hN : NC s) (kx53 : ∀ (y : Nat), ∀ (su : Int32), (y ≤ ln) → ∀ (H : Heap) (locs : List Loc) (ls : Array Slot), va_P D vwCl [(ob 0, .inr (5, [.ref (ob 1), .ref (ob 5), .int po])), (ob 5, .inr (3, gY ob (nI nb) (nI ka) (nI kb) sm (nI ln))), (ob 6, .inl (cI, 2048, .inl fh)), (ob 7, .inl (cI, 2048, .inl ff)), (ob 10, .inl (cI, 160, .inl fj)), (ob 11, .inl (cI, 160, .inl fr))] H → va_S A s.heap H locs → lv_has ls 5 [(2, .int su)] → W p l e ({ frames := 1, cells := 0, slots := 0, locals := 40 }) s m args below meth c H locs 0 0 Q (F0 m 53 ls [])) : ∀ (N : Nat), ∀ (y : Nat), ∀ (su : Int32), (y ≤ ln) → ln - y < N → ∀ (H : Heap) (locs : List Loc) (ls : Array Slot), va_P D vwCl [(ob 0, .inr (5, [.ref (ob 1), .ref (ob 5), .int po])), (ob 5, .inr (3, gY ob (nI nb) (nI ka) (nI kb) sm (nI ln))), (ob 6, .inl (cI, 2048, .inl fh)), (ob 7, .inl (cI, 2048, .inl ff)), (ob 10, .inl (cI, 160, .inl fj)), (ob 11, .inl (cI, 160, .inl fr))] H → va_S A s.heap H locs → lv_has ls 5 [(3, .int (nI y)), (2, .int su), (0, .ref (ob 0)), (1, .int z1)] → W p l e ({ frames := 1, cells := 0, slots := 0, locals := 40 }) s m args below meth c H locs 0 0 Q (F0 m 4 ls []) := by
  have hin_X5 : ∀ w ∈ wsX50, w ∈ wp_k_edge := fun _ h => (List.mem_cons_of_mem _ (List.mem_append_right _ (List.mem_append_right _ (List.mem_append_left _ h))))
  have hin_X3 : ∀ w ∈ wsX30, w ∈ wp_k_edge := fun _ h => (List.mem_cons_of_mem _ (List.mem_append_right _ (List.mem_append_right _ (List.mem_append_right _ (List.mem_append_left _ h)))))
  intro N
  induction N with
  | zero =>
    intro y su hy1 hm
    exact absurd hm (Nat.not_lt_zero _)
  | succ N ih =>
    intro y su hy1 hm H locs ls hP hS hl
    refine lv_iload_n hx hb dX5_edgeRoom_4 rfl (lv_at hl 0 rfl) ?_
    refine lv_aload_n hx hb dX5_edgeRoom_5 rfl (lv_at hl 2 rfl) ?_
    refine va_get (D := D) (ci := 5) (v := .ref (ob 5)) (C := RX5) (T := TX5) (N := 3) hx hb hts hin_X5 hown hK hP 0 rfl rfl 1 (by decide) (hts (.fieldLink RX5 21 "ClashFree$Paper" "layout" "LClashFree$Layout;") (List.mem_of_getElem? (i := 1) rfl)) (fun _ h9 => h9) rfl dX5_edgeRoom_6 ?_
    refine va_get (D := D) (ci := 3) (v := .int (nI ln)) (C := RX3) (T := TX3) (N := 13) hx hb hts hin_X3 hown hK hP 1 rfl rfl 4 (by decide) (hts (.fieldLink RX5 119 "ClashFree$Layout" "size" "I") (List.mem_of_getElem? (i := 2) rfl)) (fun _ h9 => h9) rfl dX5_edgeRoom_9 ?_
    refine lv_icmp_ge (tgt := 53) hx hb dX5_edgeRoom_12 (by decide) (fun hc1 => ?_) (fun hc1 => ?_)
    ·
      have hlt : ln ≤ y := (nI_leI (by omega) (by omega)).mp hc1
      exact kx53 y su (hy1) H locs ls (hP.sub [0, 1, 2, 3, 4, 5] rfl) hS (lv_sub hl [1] rfl)
    ·
      have hlt : y < ln := by
        rcases Nat.lt_or_ge y (ln) with z | z
        · exact z
        · exact absurd (nI_le z (by omega)) hc1
      refine lv_aload_n hx hb dX5_edgeRoom_15 rfl (lv_at hl 2 rfl) ?_
      refine va_get (D := D) (ci := 5) (v := .ref (ob 5)) (C := RX5) (T := TX5) (N := 3) hx hb hts hin_X5 hown hK hP 0 rfl rfl 1 (by decide) (hts (.fieldLink RX5 21 "ClashFree$Paper" "layout" "LClashFree$Layout;") (List.mem_of_getElem? (i := 1) rfl)) (fun _ h9 => h9) rfl dX5_edgeRoom_16 ?_
      refine lv_iload_n hx hb dX5_edgeRoom_19 rfl (lv_at hl 0 rfl) ?_
      have hPc := hP.sub (ws' := [(ob 5, .inr (3, gY ob (nI nb) (nI ka) (nI kb) sm (nI ln))), (ob 6, .inl (cI, 2048, .inl fh)), (ob 7, .inl (cI, 2048, .inl ff)), (ob 10, .inl (cI, 160, .inl fj)), (ob 11, .inl (cI, 160, .inl fr))]) [1, 2, 3, 4, 5] rfl
      have hKc := hK.sub (tys' := [(cI, .int)]) [0] rfl
      have hFc := va_free0 hS hA
      refine va_calli (va_runV (As := [.int (nI y)]) (rest := []) ⟨hx, hb, hml, hown, hts⟩ (k_roomOfAll l D _ ob cI nb ka kb sm ln fh ff fj fr (nI y) hL) (cwV 1 hts g_k_edge_k_roomOfAll_120 rfl rfl rfl (by decide +kernel) ⟨(Nat.le_of_ble_eq_true rfl), (Nat.le_of_ble_eq_true rfl)⟩) (PcRC_V (q0 := 0) hPc hKc hN rfl rfl) rfl rfl hl.1 rfl (lv_room (Nat.le_of_ble_eq_true rfl)) dX5_edgeRoom_20 ⟨(Nat.le_of_ble_eq_true rfl), (Nat.le_of_ble_eq_true rfl)⟩) hS (fun q _ h => hFc q h) hFc (fun r2 uu tt H locs htt hvm hw hB hz1 hk1 hS => ?_)
      have hP := va_keep hP hk1
      try dsimp only at hw
      clear hB hz1 hk1 hFc hPc hKc
      refine lv_istore (lv' := [(4, .int r2), (3, .int (nI y)), (2, .int su), (0, .ref (ob 0)), (1, .int z1)]) hx hb dX5_edgeRoom_23 hl (by decide) rfl (fun ls hl => ?_)
      refine lv_iload_n hx hb dX5_edgeRoom_25 rfl (lv_at hl 2 rfl) ?_
      refine lv_if_lt (tgt := 44) hx hb dX5_edgeRoom_26 (by decide) (fun hc3 => ?_) (fun hc3 => ?_)
      ·
        refine lv_iload hx hb dX5_edgeRoom_44 (lv_at hl 0 rfl) ?_
        refine lv_istore_n (lv' := [(2, .int r2), (4, .int r2), (3, .int (nI y)), (0, .ref (ob 0)), (1, .int z1)]) hx hb dX5_edgeRoom_46 rfl hl (by decide) rfl (fun ls hl => ?_)
        refine lv_iinc (v := nI (y + 1)) (lv' := [(3, .int (nI (y + 1))), (2, .int r2), (4, .int r2), (0, .ref (ob 0)), (1, .int z1)]) hx hb dX5_edgeRoom_47 hl (k := 2) rfl (nI_1 _) (by decide) rfl (fun ls hl => ?_)
        refine lv_goto (tgt := 4) hx hb dX5_edgeRoom_50 (by decide) ?_
        exact ih (y + 1) r2 (by omega) (by omega) H locs ls (hP.sub [0, 1, 2, 3, 4, 5] rfl) hS (lv_sub hl [0, 1, 3, 4] rfl)
      ·
        refine lv_iload hx hb dX5_edgeRoom_29 (lv_at hl 0 rfl) ?_
        refine lv_iload_n hx hb dX5_edgeRoom_31 rfl (lv_at hl 2 rfl) ?_
        refine lv_icmp_le (tgt := 39) hx hb dX5_edgeRoom_32 (by decide) (fun hc4 => ?_) (fun hc4 => ?_)
        ·
          refine lv_iconst (v := 0) hx hb dX5_edgeRoom_39 (by decide) ?_
          refine lv_iload_n hx hb dX5_edgeRoom_40 rfl (lv_at hl 4 rfl) ?_
          refine lv_icmp_ne (tgt := 47) hx hb dX5_edgeRoom_41 (by decide) (fun hc5 => ?_) (fun hc5 => ?_)
          ·
            refine lv_iinc (v := nI (y + 1)) (lv' := [(3, .int (nI (y + 1))), (4, .int r2), (2, .int su), (0, .ref (ob 0)), (1, .int z1)]) hx hb dX5_edgeRoom_47 hl (k := 1) rfl (nI_1 _) (by decide) rfl (fun ls hl => ?_)
            refine lv_goto (tgt := 4) hx hb dX5_edgeRoom_50 (by decide) ?_
            exact ih (y + 1) su (by omega) (by omega) H locs ls (hP.sub [0, 1, 2, 3, 4, 5] rfl) hS (lv_sub hl [0, 2, 3, 4] rfl)
          ·
            refine lv_iload hx hb dX5_edgeRoom_44 (lv_at hl 0 rfl) ?_
            refine lv_istore_n (lv' := [(2, .int r2), (4, .int r2), (3, .int (nI y)), (0, .ref (ob 0)), (1, .int z1)]) hx hb dX5_edgeRoom_46 rfl hl (by decide) rfl (fun ls hl => ?_)
            refine lv_iinc (v := nI (y + 1)) (lv' := [(3, .int (nI (y + 1))), (2, .int r2), (4, .int r2), (0, .ref (ob 0)), (1, .int z1)]) hx hb dX5_edgeRoom_47 hl (k := 2) rfl (nI_1 _) (by decide) rfl (fun ls hl => ?_)
            refine lv_goto (tgt := 4) hx hb dX5_edgeRoom_50 (by decide) ?_
            exact ih (y + 1) r2 (by omega) (by omega) H locs ls (hP.sub [0, 1, 2, 3, 4, 5] rfl) hS (lv_sub hl [0, 1, 3, 4] rfl)
        ·
          refine lv_iconst (v := 1) hx hb dX5_edgeRoom_35 (by decide) ?_
          refine lv_goto (tgt := 40) hx hb dX5_edgeRoom_36 (by decide) ?_
          refine lv_iload_n hx hb dX5_edgeRoom_40 rfl (lv_at hl 4 rfl) ?_
          refine lv_icmp_ne (tgt := 47) hx hb dX5_edgeRoom_41 (by decide) (fun hc6 => ?_) (fun hc6 => ?_)
          ·
            refine lv_iinc (v := nI (y + 1)) (lv' := [(3, .int (nI (y + 1))), (4, .int r2), (2, .int su), (0, .ref (ob 0)), (1, .int z1)]) hx hb dX5_edgeRoom_47 hl (k := 1) rfl (nI_1 _) (by decide) rfl (fun ls hl => ?_)
            refine lv_goto (tgt := 4) hx hb dX5_edgeRoom_50 (by decide) ?_
            exact ih (y + 1) su (by omega) (by omega) H locs ls (hP.sub [0, 1, 2, 3, 4, 5] rfl) hS (lv_sub hl [0, 2, 3, 4] rfl)
          ·
            refine lv_iload hx hb dX5_edgeRoom_44 (lv_at hl 0 rfl) ?_
            refine lv_istore_n (lv' := [(2, .int r2), (4, .int r2), (3, .int (nI y)), (0, .ref (ob 0)), (1, .int z1)]) hx hb dX5_edgeRoom_46 rfl hl (by decide) rfl (fun ls hl => ?_)
            refine lv_iinc (v := nI (y + 1)) (lv' := [(3, .int (nI (y + 1))), (2, .int r2), (4, .int r2), (0, .ref (ob 0)), (1, .int z1)]) hx hb dX5_edgeRoom_47 hl (k := 2) rfl (nI_1 _) (by decide) rfl (fun ls hl => ?_)
            refine lv_goto (tgt := 4) hx hb dX5_edgeRoom_50 (by decide) ?_
            exact ih (y + 1) r2 (by omega) (by omega) H locs ls (hP.sub [0, 1, 2, 3, 4, 5] rfl) hS (lv_sub hl [0, 1, 3, 4] rfl)
set_option maxHeartbeats 4000000 in
set_option maxRecDepth 100000 in
theorem k_edge (l : Launch) (D : va_G) (sz : Nat) (ob : Nat → Nat) (cI : ClassId) (po : Int32) (nb : Nat) (ka : Nat) (kb : Nat) (sm : Int32) (ln : Nat) (fh : Nat → Int32) (ff : Nat → Int32) (fj : Nat → Int32) (fr : Nat → Int32) (z1 : Int32) (hL : LyH fj fh nb ln) : Met l yX5_edgeRoom wp_k_edge ({ frames := 1, cells := 0, slots := 0, locals := 40 }) (PcRC D [.ref (ob 0), .int z1] sz [(ob 0, .inr (5, [.ref (ob 1), .ref (ob 5), .int po])), (ob 5, .inr (3, gY ob (nI nb) (nI ka) (nI kb) sm (nI ln))), (ob 6, .inl (cI, 2048, .inl fh)), (ob 7, .inl (cI, 2048, .inl ff)), (ob 10, .inl (cI, 160, .inl fj)), (ob 11, .inl (cI, 160, .inl fr))] [(cI, .int)]) (va_Qi (fun (r : Int32) (u : Unit) => True) (fun (_ : Unit) _ => True) (va_A [] sz)) 0 0 (va_A [] sz) := by
  refine Met.ofW (cc := cX5_edgeRoom) (maxL := 5) (ret := (some .int)) (by decide) rfl ?_
  intro p e s m args below meth c s₁ B hml hv
  obtain ⟨rfl, hsz, hP, hK, hN⟩ := hv
  have hx := B.exec
  have hb := B.bytes
  have hr := B.returns
  have hts := atoms_spec (ws := wp_k_edge) B.pre
  have hin_X5 : ∀ w ∈ wsX50, w ∈ wp_k_edge := fun _ h => (List.mem_cons_of_mem _ (List.mem_append_right _ (List.mem_append_right _ (List.mem_append_left _ h))))
  have hin_X3 : ∀ w ∈ wsX30, w ∈ wp_k_edge := fun _ h => (List.mem_cons_of_mem _ (List.mem_append_right _ (List.mem_append_right _ (List.mem_append_right _ (List.mem_append_left _ h)))))
  have hown : s.vm.findClass RX5 = some m.cls := findClass_of_methodNamed B.named
  have hlocks := B.notSynchronized
  subst hsz
  generalize hAe : va_A [] s.heap.size = A at ⊢
  have hA : ∀ q : Nat, s.heap.size ≤ q → A q := fun q h => by rw [← hAe]; exact Or.inr h
  have hS : va_S A s.heap s.heap [] := va_S.rf
  have hP : va_P D vwCl [(ob 0, .inr (5, [.ref (ob 1), .ref (ob 5), .int po])), (ob 5, .inr (3, gY ob (nI nb) (nI ka) (nI kb) sm (nI ln))), (ob 6, .inl (cI, 2048, .inl fh)), (ob 7, .inl (cI, 2048, .inl ff)), (ob 10, .inl (cI, 160, .inl fj)), (ob 11, .inl (cI, 160, .inl fr))] s.heap := hP
  have hl := lv_entry ([.ref (ob 0), .int z1]) (n := 5) (Nat.le_of_ble_eq_true rfl)
  rw [lg_entry_eq]
  generalize (lg_sl ([.ref (ob 0), .int z1]) ++ List.replicate (5 - (lg_sl ([.ref (ob 0), .int z1])).length) Slot.unset).toArray = ls at hl ⊢
  have hl : lv_has ls 5 [(0, .ref (ob 0)), (1, .int z1)] := hl
  refine lv_iconst (v := (-1)) hx hb dX5_edgeRoom_0 (by decide) ?_
  refine lv_istore_n (lv' := [(2, .int (-1)), (0, .ref (ob 0)), (1, .int z1)]) hx hb dX5_edgeRoom_1 rfl hl (by decide) rfl (fun ls hl => ?_)
  refine lv_iconst (v := 0) hx hb dX5_edgeRoom_2 (by decide) ?_
  refine lv_istore_n (lv' := [(3, .int 0), (2, .int (-1)), (0, .ref (ob 0)), (1, .int z1)]) hx hb dX5_edgeRoom_3 rfl hl (by decide) rfl (fun ls hl => ?_)
  refine lk_edge l D ob cI po nb ka kb sm ln fh ff fj fr z1 (hL) (hL.2.1) hx hb hml hown hts hA (hK.sub [0] rfl) hN ?_ (ln + 1) 0 (-1) (Nat.zero_le _) (by omega) _ _ _ (hP.sub [0, 1, 2, 3, 4, 5] rfl) hS (lv_sub hl [0, 1, 2, 3] rfl)
  intro y_1 su_2 hy1_3 H locs ls hP hS hl
  refine lv_iload_n hx hb dX5_edgeRoom_53 rfl (lv_at hl 0 rfl) ?_
  exact W.iret (v := su_2) hx hb hr (fun t ht hW => ⟨⟨su_2, (), rfl, trivial, trivial⟩, hS.F ht⟩) hS.2.2 dX5_edgeRoom_54

