theorem dX11_buildsBucket_0 : decode cX11_buildsBucket 0 = .ok (.aload_n 0, 1) := by decide +kernel
theorem dX11_buildsBucket_1 : decode cX11_buildsBucket 1 = .ok (.iload_n 1, 1) := by decide +kernel
theorem dX11_buildsBucket_2 : decode cX11_buildsBucket 2 = .ok (.iload_n 2, 1) := by decide +kernel
theorem dX11_buildsBucket_3 : decode cX11_buildsBucket 3 = .ok (.invokevirtual 137, 3) := by decide +kernel
theorem dX11_buildsBucket_6 : decode cX11_buildsBucket 6 = .ok (.ifCond .ne 4, 3) := by decide +kernel
theorem dX11_buildsBucket_9 : decode cX11_buildsBucket 9 = .ok (.return_, 1) := by decide +kernel
theorem dX11_buildsBucket_10 : decode cX11_buildsBucket 10 = .ok (.iconst 1, 1) := by decide +kernel
theorem dX11_buildsBucket_11 : decode cX11_buildsBucket 11 = .ok (.istore_n 3, 1) := by decide +kernel
theorem dX11_buildsBucket_12 : decode cX11_buildsBucket 12 = .ok (.iload_n 3, 1) := by decide +kernel
theorem dX11_buildsBucket_13 : decode cX11_buildsBucket 13 = .ok (.ifCond .eq 33, 3) := by decide +kernel
theorem dX11_buildsBucket_16 : decode cX11_buildsBucket 16 = .ok (.aload_n 0, 1) := by decide +kernel
theorem dX11_buildsBucket_17 : decode cX11_buildsBucket 17 = .ok (.invokevirtual 141, 3) := by decide +kernel
theorem dX11_buildsBucket_20 : decode cX11_buildsBucket 20 = .ok (.aload_n 0, 1) := by decide +kernel
theorem dX11_buildsBucket_21 : decode cX11_buildsBucket 21 = .ok (.iload_n 1, 1) := by decide +kernel
theorem dX11_buildsBucket_22 : decode cX11_buildsBucket 22 = .ok (.iload_n 2, 1) := by decide +kernel
theorem dX11_buildsBucket_23 : decode cX11_buildsBucket 23 = .ok (.aload_n 0, 1) := by decide +kernel
theorem dX11_buildsBucket_24 : decode cX11_buildsBucket 24 = .ok (.getfield 117, 3) := by decide +kernel
theorem dX11_buildsBucket_27 : decode cX11_buildsBucket 27 = .ok (.aload_n 0, 1) := by decide +kernel
theorem dX11_buildsBucket_28 : decode cX11_buildsBucket 28 = .ok (.getfield 120, 3) := by decide +kernel
theorem dX11_buildsBucket_31 : decode cX11_buildsBucket 31 = .ok (.invokevirtual 144, 3) := by decide +kernel
theorem dX11_buildsBucket_34 : decode cX11_buildsBucket 34 = .ok (.ifCond .le 7, 3) := by decide +kernel
theorem dX11_buildsBucket_37 : decode cX11_buildsBucket 37 = .ok (.iconst 1, 1) := by decide +kernel
theorem dX11_buildsBucket_38 : decode cX11_buildsBucket 38 = .ok (.goto 4, 3) := by decide +kernel
theorem dX11_buildsBucket_41 : decode cX11_buildsBucket 41 = .ok (.iconst 0, 1) := by decide +kernel
theorem dX11_buildsBucket_42 : decode cX11_buildsBucket 42 = .ok (.istore_n 3, 1) := by decide +kernel
theorem dX11_buildsBucket_43 : decode cX11_buildsBucket 43 = .ok (.goto (-31), 3) := by decide +kernel
theorem dX11_buildsBucket_46 : decode cX11_buildsBucket 46 = .ok (.aload_n 0, 1) := by decide +kernel
theorem dX11_buildsBucket_47 : decode cX11_buildsBucket 47 = .ok (.getfield 36, 3) := by decide +kernel
theorem dX11_buildsBucket_50 : decode cX11_buildsBucket 50 = .ok (.sipush 2048, 3) := by decide +kernel
theorem dX11_buildsBucket_53 : decode cX11_buildsBucket 53 = .ok (.iload_n 1, 1) := by decide +kernel
theorem dX11_buildsBucket_54 : decode cX11_buildsBucket 54 = .ok (.imul, 1) := by decide +kernel
theorem dX11_buildsBucket_55 : decode cX11_buildsBucket 55 = .ok (.iload_n 2, 1) := by decide +kernel
theorem dX11_buildsBucket_56 : decode cX11_buildsBucket 56 = .ok (.iadd, 1) := by decide +kernel
theorem dX11_buildsBucket_57 : decode cX11_buildsBucket 57 = .ok (.aload_n 0, 1) := by decide +kernel
theorem dX11_buildsBucket_58 : decode cX11_buildsBucket 58 = .ok (.getfield 117, 3) := by decide +kernel
theorem dX11_buildsBucket_61 : decode cX11_buildsBucket 61 = .ok (.lastore, 1) := by decide +kernel
theorem dX11_buildsBucket_62 : decode cX11_buildsBucket 62 = .ok (.aload_n 0, 1) := by decide +kernel
theorem dX11_buildsBucket_63 : decode cX11_buildsBucket 63 = .ok (.getfield 39, 3) := by decide +kernel
theorem dX11_buildsBucket_66 : decode cX11_buildsBucket 66 = .ok (.sipush 2048, 3) := by decide +kernel
theorem dX11_buildsBucket_69 : decode cX11_buildsBucket 69 = .ok (.iload_n 1, 1) := by decide +kernel
theorem dX11_buildsBucket_70 : decode cX11_buildsBucket 70 = .ok (.imul, 1) := by decide +kernel
theorem dX11_buildsBucket_71 : decode cX11_buildsBucket 71 = .ok (.iload_n 2, 1) := by decide +kernel
theorem dX11_buildsBucket_72 : decode cX11_buildsBucket 72 = .ok (.iadd, 1) := by decide +kernel
theorem dX11_buildsBucket_73 : decode cX11_buildsBucket 73 = .ok (.aload_n 0, 1) := by decide +kernel
theorem dX11_buildsBucket_74 : decode cX11_buildsBucket 74 = .ok (.getfield 120, 3) := by decide +kernel
theorem dX11_buildsBucket_77 : decode cX11_buildsBucket 77 = .ok (.lastore, 1) := by decide +kernel
theorem dX11_buildsBucket_78 : decode cX11_buildsBucket 78 = .ok (.sipush 160, 3) := by decide +kernel
theorem dX11_buildsBucket_81 : decode cX11_buildsBucket 81 = .ok (.iload_n 1, 1) := by decide +kernel
theorem dX11_buildsBucket_82 : decode cX11_buildsBucket 82 = .ok (.imul, 1) := by decide +kernel
theorem dX11_buildsBucket_83 : decode cX11_buildsBucket 83 = .ok (.istore 4, 2) := by decide +kernel
theorem dX11_buildsBucket_85 : decode cX11_buildsBucket 85 = .ok (.iload 4, 2) := by decide +kernel
theorem dX11_buildsBucket_87 : decode cX11_buildsBucket 87 = .ok (.sipush 160, 3) := by decide +kernel
theorem dX11_buildsBucket_90 : decode cX11_buildsBucket 90 = .ok (.iload_n 1, 1) := by decide +kernel
theorem dX11_buildsBucket_91 : decode cX11_buildsBucket 91 = .ok (.imul, 1) := by decide +kernel
theorem dX11_buildsBucket_92 : decode cX11_buildsBucket 92 = .ok (.aload_n 0, 1) := by decide +kernel
theorem dX11_buildsBucket_93 : decode cX11_buildsBucket 93 = .ok (.iload_n 1, 1) := by decide +kernel
theorem dX11_buildsBucket_94 : decode cX11_buildsBucket 94 = .ok (.invokevirtual 95, 3) := by decide +kernel
theorem dX11_buildsBucket_97 : decode cX11_buildsBucket 97 = .ok (.iadd, 1) := by decide +kernel
theorem dX11_buildsBucket_98 : decode cX11_buildsBucket 98 = .ok (.if_icmp .ge 40, 3) := by decide +kernel
theorem dX11_buildsBucket_101 : decode cX11_buildsBucket 101 = .ok (.aload_n 0, 1) := by decide +kernel
theorem dX11_buildsBucket_102 : decode cX11_buildsBucket 102 = .ok (.getfield 24, 3) := by decide +kernel
theorem dX11_buildsBucket_105 : decode cX11_buildsBucket 105 = .ok (.iload 4, 2) := by decide +kernel
theorem dX11_buildsBucket_107 : decode cX11_buildsBucket 107 = .ok (.iaload, 1) := by decide +kernel
theorem dX11_buildsBucket_108 : decode cX11_buildsBucket 108 = .ok (.iload_n 2, 1) := by decide +kernel
theorem dX11_buildsBucket_109 : decode cX11_buildsBucket 109 = .ok (.if_icmp .ne 23, 3) := by decide +kernel
theorem dX11_buildsBucket_112 : decode cX11_buildsBucket 112 = .ok (.aload_n 0, 1) := by decide +kernel
theorem dX11_buildsBucket_113 : decode cX11_buildsBucket 113 = .ok (.getfield 27, 3) := by decide +kernel
theorem dX11_buildsBucket_116 : decode cX11_buildsBucket 116 = .ok (.iload 4, 2) := by decide +kernel
theorem dX11_buildsBucket_118 : decode cX11_buildsBucket 118 = .ok (.aload_n 0, 1) := by decide +kernel
theorem dX11_buildsBucket_119 : decode cX11_buildsBucket 119 = .ok (.iload_n 1, 1) := by decide +kernel
theorem dX11_buildsBucket_120 : decode cX11_buildsBucket 120 = .ok (.iload_n 2, 1) := by decide +kernel
theorem dX11_buildsBucket_121 : decode cX11_buildsBucket 121 = .ok (.aload_n 0, 1) := by decide +kernel
theorem dX11_buildsBucket_122 : decode cX11_buildsBucket 122 = .ok (.getfield 17, 3) := by decide +kernel
theorem dX11_buildsBucket_125 : decode cX11_buildsBucket 125 = .ok (.iload 4, 2) := by decide +kernel
theorem dX11_buildsBucket_127 : decode cX11_buildsBucket 127 = .ok (.iaload, 1) := by decide +kernel
theorem dX11_buildsBucket_128 : decode cX11_buildsBucket 128 = .ok (.invokevirtual 148, 3) := by decide +kernel
theorem dX11_buildsBucket_131 : decode cX11_buildsBucket 131 = .ok (.iastore, 1) := by decide +kernel
theorem dX11_buildsBucket_132 : decode cX11_buildsBucket 132 = .ok (.iinc 4 1, 3) := by decide +kernel
theorem dX11_buildsBucket_135 : decode cX11_buildsBucket 135 = .ok (.goto (-50), 3) := by decide +kernel
theorem dX11_buildsBucket_138 : decode cX11_buildsBucket 138 = .ok (.return_, 1) := by decide +kernel
def own_c_buildsBucket : List Cond := [.methodLink RX11 141 yX11_drawsPair, .instanceMethod yX11_drawsPair, .selects RX11 yX11_drawsPair yX11_drawsPair, .initialized RX11, .fieldLink RX11 117 "ClashFreeModel" "pairA" "J", .fieldLink RX11 120 "ClashFreeModel" "pairB" "J", .methodLink RX11 144 yX11_clashes, .instanceMethod yX11_clashes, .selects RX11 yX11_clashes yX11_clashes, .methodLink RX11 95 yX11_manyOf, .instanceMethod yX11_manyOf, .selects RX11 yX11_manyOf yX11_manyOf, .fieldLink RX11 24 "ClashFreeModel" "inBucket" "[I", .fieldLink RX11 27 "ClashFreeModel" "inRoom" "[I", .fieldLink RX11 17 "ClashFreeModel" "keys" "[I", .methodLink RX11 148 yX11_roomOf, .instanceMethod yX11_roomOf, .selects RX11 yX11_roomOf yX11_roomOf, .methodLink RX11 137 yX11_roomsOf, .instanceMethod yX11_roomsOf, .selects RX11 yX11_roomsOf yX11_roomsOf, .fieldLink RX11 36 "ClashFreeModel" "as" "[J", .fieldLink RX11 39 "ClashFreeModel" "bs" "[J"]
def wp_c_buildsBucket : List Cond := .code yX11_buildsBucket cX11_buildsBucket 5 none :: (own_c_buildsBucket ++ (wp_c_drawsPair ++ (wp_c_clashes ++ (wp_c_manyOf ++ (wp_c_roomOf ++ (wp_c_roomsOf ++ (wsX110 ++ ([] : List Cond))))))))
set_option maxRecDepth 20000 in
theorem inown_c_buildsBucket : ∀ w ∈ own_c_buildsBucket, w ∈ lw_tbl := mem_places [1410, 1412, 43, 115, 1229, 1230, 1446, 1448, 50, 1396, 1398, 40, 1222, 1223, 1220, 1450, 1452, 51, 1437, 1439, 48, 1226, 1227] (by decide +kernel)
set_option maxRecDepth 20000 in
theorem in_c_buildsBucket : ∀ w ∈ wp_c_buildsBucket, w ∈ lw_tbl := List.forall_mem_cons.mpr ⟨List.mem_of_getElem? (i := 1445) (by decide +kernel), List.forall_mem_append.mpr ⟨inown_c_buildsBucket, List.forall_mem_append.mpr ⟨in_c_drawsPair, List.forall_mem_append.mpr ⟨in_c_clashes, List.forall_mem_append.mpr ⟨in_c_manyOf, List.forall_mem_append.mpr ⟨in_c_roomOf, List.forall_mem_append.mpr ⟨in_c_roomsOf, List.forall_mem_append.mpr ⟨lwb_X11, fun _ h => absurd h List.not_mem_nil⟩⟩⟩⟩⟩⟩⟩⟩
set_option maxRecDepth 20000 in
theorem good_c_buildsBucket : wp_c_buildsBucket.all goodWord = true := by decide +kernel
set_option maxRecDepth 20000 in
theorem g_c_buildsBucket_c_drawsPair_141 : GoodIn wp_c_buildsBucket (wsV RX11 141 RX11 yX11_drawsPair wp_c_drawsPair) := goodIn_sub (List.forall_mem_append.mpr ⟨List.forall_mem_cons.mpr ⟨(List.mem_of_getElem? (i := 1) rfl), List.forall_mem_cons.mpr ⟨(List.mem_of_getElem? (i := 2) rfl), List.forall_mem_cons.mpr ⟨(List.mem_of_getElem? (i := 3) rfl), List.forall_mem_cons.mpr ⟨(List.mem_of_getElem? (i := 4) rfl), fun _ h => absurd h List.not_mem_nil⟩⟩⟩⟩, (fun _ h => (List.mem_cons_of_mem _ (List.mem_append_right _ (List.mem_append_left _ h))))⟩) (by decide +kernel)
set_option maxRecDepth 20000 in
theorem g_c_buildsBucket_c_clashes_144 : GoodIn wp_c_buildsBucket (wsV RX11 144 RX11 yX11_clashes wp_c_clashes) := goodIn_sub (List.forall_mem_append.mpr ⟨List.forall_mem_cons.mpr ⟨(List.mem_of_getElem? (i := 7) rfl), List.forall_mem_cons.mpr ⟨(List.mem_of_getElem? (i := 8) rfl), List.forall_mem_cons.mpr ⟨(List.mem_of_getElem? (i := 9) rfl), List.forall_mem_cons.mpr ⟨(List.mem_of_getElem? (i := 4) rfl), fun _ h => absurd h List.not_mem_nil⟩⟩⟩⟩, (fun _ h => (List.mem_cons_of_mem _ (List.mem_append_right _ (List.mem_append_right _ (List.mem_append_left _ h)))))⟩) (by decide +kernel)
set_option maxRecDepth 20000 in
theorem g_c_buildsBucket_c_manyOf_95 : GoodIn wp_c_buildsBucket (wsV RX11 95 RX11 yX11_manyOf wp_c_manyOf) := goodIn_sub (List.forall_mem_append.mpr ⟨List.forall_mem_cons.mpr ⟨(List.mem_of_getElem? (i := 10) rfl), List.forall_mem_cons.mpr ⟨(List.mem_of_getElem? (i := 11) rfl), List.forall_mem_cons.mpr ⟨(List.mem_of_getElem? (i := 12) rfl), List.forall_mem_cons.mpr ⟨(List.mem_of_getElem? (i := 4) rfl), fun _ h => absurd h List.not_mem_nil⟩⟩⟩⟩, (fun _ h => (List.mem_cons_of_mem _ (List.mem_append_right _ (List.mem_append_right _ (List.mem_append_right _ (List.mem_append_left _ h))))))⟩) (by decide +kernel)
set_option maxRecDepth 20000 in
theorem g_c_buildsBucket_c_roomOf_148 : GoodIn wp_c_buildsBucket (wsV RX11 148 RX11 yX11_roomOf wp_c_roomOf) := goodIn_sub (List.forall_mem_append.mpr ⟨List.forall_mem_cons.mpr ⟨(List.mem_of_getElem? (i := 16) rfl), List.forall_mem_cons.mpr ⟨(List.mem_of_getElem? (i := 17) rfl), List.forall_mem_cons.mpr ⟨(List.mem_of_getElem? (i := 18) rfl), List.forall_mem_cons.mpr ⟨(List.mem_of_getElem? (i := 4) rfl), fun _ h => absurd h List.not_mem_nil⟩⟩⟩⟩, (fun _ h => (List.mem_cons_of_mem _ (List.mem_append_right _ (List.mem_append_right _ (List.mem_append_right _ (List.mem_append_right _ (List.mem_append_left _ h)))))))⟩) (by decide +kernel)
set_option maxRecDepth 20000 in
theorem g_c_buildsBucket_c_roomsOf_137 : GoodIn wp_c_buildsBucket (wsV RX11 137 RX11 yX11_roomsOf wp_c_roomsOf) := goodIn_sub (List.forall_mem_append.mpr ⟨List.forall_mem_cons.mpr ⟨(List.mem_of_getElem? (i := 19) rfl), List.forall_mem_cons.mpr ⟨(List.mem_of_getElem? (i := 20) rfl), List.forall_mem_cons.mpr ⟨(List.mem_of_getElem? (i := 21) rfl), List.forall_mem_cons.mpr ⟨(List.mem_of_getElem? (i := 4) rfl), fun _ h => absurd h List.not_mem_nil⟩⟩⟩⟩, (fun _ h => (List.mem_cons_of_mem _ (List.mem_append_right _ (List.mem_append_right _ (List.mem_append_right _ (List.mem_append_right _ (List.mem_append_right _ (List.mem_append_left _ h))))))))⟩) (by decide +kernel)
set_option maxHeartbeats 4000000 in
set_option maxRecDepth 100000 in
theorem lp_bb1 (l : Launch) {p : Program} {e : Env} {s : State} {m : MethodId} {args : Array Value} {below : List Frame} {meth : Method} {c : Code} {Q : State → Prop} {A : Nat → Prop} (D : va_G) (h0 : Nat) (a : Nat → Nat) (cm : Nat → ClassId) (i : Nat → Int32) (g : Nat → Int64) (fn : Nat → Int64) (fk : Nat → Int32) (fb : Nat → Int32) (fr : Nat → Int32) (ff : Nat → Int32) (fa : Nat → Int64) (fs : Nat → Int64) (k : Nat) (j : Nat) (cn : Nat) (K : Nat → Nat) (J : Nat → Nat) (rf : Nat) (cc : Nat) (hk : k < 5) (hj : j < 2048) (h1 : fn (17 * k + 1) = lN cn) (hcn : cn ≤ 160) (hKy : KyS k fk cn K) (hBk : BkS k fb cn 2048 J) (hrf : ff (2048 * k + j) = nI rf) (hr1 : rf ≤ 320) (hr0 : 0 < rf) (hc1 : cc < 2147483646) (hcc : ∀ x y, x < y → y < cn → J x = j → J y = j → badA (rf * rf) (K y - K x) cc = false) (hx : p.tables.exec = Jvm.exec) (hb : c.code = cX11_buildsBucket) (hml : c.maxLocals = 5) (hown : s.vm.findClass RX11 = some m.cls) (hts : ∀ w ∈ wp_c_buildsBucket, w.before args s = true) (hA : ∀ q, s.heap.size ≤ q → A q) (hK : va_K D vwCl [(cm 3, .long), (cm 4, .int), (cm 6, .int), (cm 7, .int), (cm 8, .int), (cm 10, .long), (cm 11, .long)] s) (kx46 : ∀ (qy : Nat), ∀ (sd : Int64), ∀ (pa : Int64), ∀ (pb : Int64), ∀ (dr : Int32), (∃ n, n < 2147483647 ∧ pa = lN n) → (∃ n, n < 2147483647 ∧ pb = lN n) → ∀ (H : Heap) (locs : List Loc) (ls : Array Slot), va_P D vwCl [(h0, .inr (11, gM a (upd i 15 dr) (vp_updL (vp_updL (vp_updL (fun _ => 0) 12 sd) 13 pa) 14 pb))), (a 3, .inl (cm 3, 85, .inr (.inl fn))), (a 4, .inl (cm 4, 800, .inl fk)), (a 6, .inl (cm 6, 800, .inl fb)), (a 7, .inl (cm 7, 800, .inl fr)), (a 8, .inl (cm 8, 10240, .inl ff)), (a 10, .inl (cm 10, 10240, .inr (.inl fa))), (a 11, .inl (cm 11, 10240, .inr (.inl fs)))] H → va_D A [(h0, .inr (11, gM a (upd i 15 dr) (vp_updL (vp_updL (vp_updL (fun _ => 0) 12 sd) 13 pa) 14 pb))), (a 3, .inl (cm 3, 85, .inr (.inl fn))), (a 4, .inl (cm 4, 800, .inl fk)), (a 6, .inl (cm 6, 800, .inl fb)), (a 7, .inl (cm 7, 800, .inl fr)), (a 8, .inl (cm 8, 10240, .inl ff)), (a 10, .inl (cm 10, 10240, .inr (.inl fa))), (a 11, .inl (cm 11, 10240, .inr (.inl fs)))] → va_S A s.heap H locs → lv_has ls 5 [(0, .ref h0), (1, .int (nI k)), (2, .int (nI j))] → W p l e ({ frames := 5, cells := 0, slots := 0, locals := 130 }) s m args below meth c H locs 0 0 Q (F0 m 46 ls [])) : ∀ (N : Nat), ∀ (qy : Nat), ∀ (sd : Int64), ∀ (pa : Int64), ∀ (pb : Int64), ∀ (dr : Int32), (RQ qy sd cc) → qy < N → ∀ (H : Heap) (locs : List Loc) (ls : Array Slot), va_P D vwCl [(h0, .inr (11, gM a (upd i 15 dr) (vp_updL (vp_updL (vp_updL (fun _ => 0) 12 sd) 13 pa) 14 pb))), (a 3, .inl (cm 3, 85, .inr (.inl fn))), (a 4, .inl (cm 4, 800, .inl fk)), (a 6, .inl (cm 6, 800, .inl fb)), (a 7, .inl (cm 7, 800, .inl fr)), (a 8, .inl (cm 8, 10240, .inl ff)), (a 10, .inl (cm 10, 10240, .inr (.inl fa))), (a 11, .inl (cm 11, 10240, .inr (.inl fs)))] H → va_D A [(h0, .inr (11, gM a (upd i 15 dr) (vp_updL (vp_updL (vp_updL (fun _ => 0) 12 sd) 13 pa) 14 pb))), (a 3, .inl (cm 3, 85, .inr (.inl fn))), (a 4, .inl (cm 4, 800, .inl fk)), (a 6, .inl (cm 6, 800, .inl fb)), (a 7, .inl (cm 7, 800, .inl fr)), (a 8, .inl (cm 8, 10240, .inl ff)), (a 10, .inl (cm 10, 10240, .inr (.inl fa))), (a 11, .inl (cm 11, 10240, .inr (.inl fs)))] → va_S A s.heap H locs → lv_has ls 5 [(3, .int 1), (0, .ref h0), (1, .int (nI k)), (2, .int (nI j))] → W p l e ({ frames := 5, cells := 0, slots := 0, locals := 130 }) s m args below meth c H locs 0 0 Q (F0 m 12 ls []) := by
  have hin_X11 : ∀ w ∈ wsX110, w ∈ wp_c_buildsBucket := fun _ h => (List.mem_cons_of_mem _ (List.mem_append_right _ (List.mem_append_right _ (List.mem_append_right _ (List.mem_append_right _ (List.mem_append_right _ (List.mem_append_right _ (List.mem_append_left _ h))))))))
  intro N
  induction N with
  | zero =>
    intro qy sd pa pb dr hq hm
    exact absurd hm (Nat.not_lt_zero _)
  | succ N ih =>
    intro qy sd pa pb dr hq hm H locs ls hP hD hS hl
    refine lv_iload_n hx hb dX11_buildsBucket_12 rfl (lv_at hl 0 rfl) ?_
    refine lv_if_eq (tgt := 46) hx hb dX11_buildsBucket_13 (by decide) (fun hc => absurd hc (by decide)) (fun hc => ?_)
    refine lv_aload_n hx hb dX11_buildsBucket_16 rfl (lv_at hl 1 rfl) ?_
    have hPc := hP.sub (ws' := [(h0, .inr (11, gM a (upd i 15 dr) (vp_updL (vp_updL (vp_updL (fun _ => 0) 12 sd) 13 pa) 14 pb)))]) [0] rfl
    have hKc := hK.sub (tys' := []) [] rfl
    have hDc := hD.sub (ws' := [(h0, .inr (11, gM a (upd i 15 dr) (vp_updL (vp_updL (vp_updL (fun _ => 0) 12 sd) 13 pa) 14 pb)))]) [0] (by decide) rfl
    have hFc := va_free (wc := [(h0, .inr (11, gM a (upd i 15 dr) (vp_updL (vp_updL (vp_updL (fun _ => 0) 12 sd) 13 pa) 14 pb)))]) hD hS hA [0] rfl
    refine va_callv (va_runV (As := []) (rest := []) ⟨hx, hb, hml, hown, hts⟩ (c_drawsPair l D _ h0 a cm (upd i 15 dr) (vp_updL (vp_updL (vp_updL (fun _ => 0) 12 sd) 13 pa) 14 pb)) (cwV 0 hts g_c_buildsBucket_c_drawsPair_141 rfl rfl rfl (by decide +kernel) ⟨(Nat.le_of_ble_eq_true rfl), (Nat.le_of_ble_eq_true rfl)⟩) (PcW_V (q0 := 0) hPc hKc hDc rfl rfl) rfl rfl hl.1 rfl (lv_room (Nat.le_of_ble_eq_true rfl)) dX11_buildsBucket_17 ⟨(Nat.le_of_ble_eq_true rfl), (Nat.le_of_ble_eq_true rfl)⟩) hS (fun q _ h => hFc q h) hFc (fun uu tt H locs htt hvm hw hB hz1 hk1 hS => ?_)
    obtain ⟨w2, w3, w4, w5⟩ := uu
    obtain ⟨hP1, hK1, hD1⟩ := hB
    rw [htt] at hP1
    have hK1 := va_K.moved hvm.symm hK1
    have hP1 : va_P D vwCl [(h0, .inr (11, gM a (upd i 15 w5) (vp_updL (vp_updL (vp_updL (fun _ => 0) 12 w2) 13 w3) 14 w4)))] H := hP1
    obtain ⟨hP, hD⟩ := va_join (wr := [(a 3, .inl (cm 3, 85, .inr (.inl fn))), (a 4, .inl (cm 4, 800, .inl fk)), (a 6, .inl (cm 6, 800, .inl fb)), (a 7, .inl (cm 7, 800, .inl fr)), (a 8, .inl (cm 8, 10240, .inl ff)), (a 10, .inl (cm 10, 10240, .inr (.inl fa))), (a 11, .inl (cm 11, 10240, .inr (.inl fs)))]) (w1 := [(h0, .inr (11, gM a (upd i 15 w5) (vp_updL (vp_updL (vp_updL (fun _ => 0) 12 w2) 13 w3) 14 w4)))]) hP hD [0] [1, 2, 3, 4, 5, 6, 7] rfl rfl (by decide) (by decide) hk1 hFc hP1 hD1
    have hP : va_P D vwCl [(a 3, .inl (cm 3, 85, .inr (.inl fn))), (a 4, .inl (cm 4, 800, .inl fk)), (a 6, .inl (cm 6, 800, .inl fb)), (a 7, .inl (cm 7, 800, .inl fr)), (a 8, .inl (cm 8, 10240, .inl ff)), (a 10, .inl (cm 10, 10240, .inr (.inl fa))), (a 11, .inl (cm 11, 10240, .inr (.inl fs))), (h0, .inr (11, gM a (upd i 15 w5) (vp_updL (vp_updL (vp_updL (fun _ => 0) 12 w2) 13 w3) 14 w4)))] H := hP
    have hD : va_D A [(a 3, .inl (cm 3, 85, .inr (.inl fn))), (a 4, .inl (cm 4, 800, .inl fk)), (a 6, .inl (cm 6, 800, .inl fb)), (a 7, .inl (cm 7, 800, .inl fr)), (a 8, .inl (cm 8, 10240, .inl ff)), (a 10, .inl (cm 10, 10240, .inr (.inl fa))), (a 11, .inl (cm 11, 10240, .inr (.inl fs))), (h0, .inr (11, gM a (upd i 15 w5) (vp_updL (vp_updL (vp_updL (fun _ => 0) 12 w2) 13 w3) 14 w4)))] := hD
    try dsimp only at hw
    clear hz1 hk1 hFc hPc hKc hDc
    obtain ⟨es_r1, ⟨ka6, kb7, e2, e3, hka6, hkb7, eka6⟩, ed_r1⟩ := hw
    have es_r1 : w2 = sdn sd := es_r1
    have eka6 : ka6 = aOf sd := eka6
    have ed_r1 : w5 = dr + 1 := ed_r1
    obtain rfl : w3 = lN ka6 := e2
    obtain rfl : w4 = lN kb7 := e3
    have hP : va_P D vwCl [(a 3, .inl (cm 3, 85, .inr (.inl fn))), (a 4, .inl (cm 4, 800, .inl fk)), (a 6, .inl (cm 6, 800, .inl fb)), (a 7, .inl (cm 7, 800, .inl fr)), (a 8, .inl (cm 8, 10240, .inl ff)), (a 10, .inl (cm 10, 10240, .inr (.inl fa))), (a 11, .inl (cm 11, 10240, .inr (.inl fs))), (h0, .inr (11, gM a (upd i 15 w5) (vp_updL (vp_updL (vp_updL (fun _ => 0) 12 w2) 13 (lN ka6)) 14 (lN kb7))))] H := hP
    have hD : va_D A [(a 3, .inl (cm 3, 85, .inr (.inl fn))), (a 4, .inl (cm 4, 800, .inl fk)), (a 6, .inl (cm 6, 800, .inl fb)), (a 7, .inl (cm 7, 800, .inl fr)), (a 8, .inl (cm 8, 10240, .inl ff)), (a 10, .inl (cm 10, 10240, .inr (.inl fa))), (a 11, .inl (cm 11, 10240, .inr (.inl fs))), (h0, .inr (11, gM a (upd i 15 w5) (vp_updL (vp_updL (vp_updL (fun _ => 0) 12 w2) 13 (lN ka6)) 14 (lN kb7))))] := hD
    refine lv_aload_n hx hb dX11_buildsBucket_20 rfl (lv_at hl 1 rfl) ?_
    refine lv_iload_n hx hb dX11_buildsBucket_21 rfl (lv_at hl 2 rfl) ?_
    refine lv_iload_n hx hb dX11_buildsBucket_22 rfl (lv_at hl 3 rfl) ?_
    refine lv_aload_n hx hb dX11_buildsBucket_23 rfl (lv_at hl 1 rfl) ?_
    refine va_get (D := D) (ci := 11) (v := .long (lN ka6)) (C := RX11) (T := TX11) (N := 47) hx hb hts hin_X11 hown hK hP 7 rfl rfl 13 (by decide) (hts (.fieldLink RX11 117 "ClashFreeModel" "pairA" "J") (List.mem_of_getElem? (i := 5) rfl)) (fun _ h9 => h9) rfl dX11_buildsBucket_24 ?_
    refine lv_aload_n hx hb dX11_buildsBucket_27 rfl (lv_at hl 1 rfl) ?_
    refine va_get (D := D) (ci := 11) (v := .long (lN kb7)) (C := RX11) (T := TX11) (N := 47) hx hb hts hin_X11 hown hK hP 7 rfl rfl 14 (by decide) (hts (.fieldLink RX11 120 "ClashFreeModel" "pairB" "J") (List.mem_of_getElem? (i := 6) rfl)) (fun _ h9 => h9) rfl dX11_buildsBucket_28 ?_
    have hPc := hP.sub (ws' := [(h0, .inr (11, gM a (upd i 15 w5) (vp_updL (vp_updL (vp_updL (fun _ => 0) 12 w2) 13 (lN ka6)) 14 (lN kb7)))), (a 3, .inl (cm 3, 85, .inr (.inl fn))), (a 4, .inl (cm 4, 800, .inl fk)), (a 6, .inl (cm 6, 800, .inl fb)), (a 8, .inl (cm 8, 10240, .inl ff))]) [7, 0, 1, 2, 4] rfl
    have hKc := hK.sub (tys' := [(cm 3, .long), (cm 4, .int), (cm 6, .int), (cm 8, .int)]) [0, 1, 2, 4] rfl
    have hFc := va_free0 hS hA
    refine va_calli (va_runV (As := [.int (nI k), .int (nI j), .long (lN ka6), .long (lN kb7)]) (rest := []) ⟨hx, hb, hml, hown, hts⟩ (c_clashes l D _ h0 a cm (upd i 15 w5) (vp_updL (vp_updL (vp_updL (fun _ => 0) 12 w2) 13 (lN ka6)) 14 (lN kb7)) fn fk fb ff k j cn K J rf ka6 kb7 (by first | assumption | omega) (by first | assumption | omega) h1 (by first | assumption | omega) hKy hBk hrf (by first | assumption | omega) (by first | assumption | omega) (by first | assumption | omega) (by first | assumption | omega)) (cwV 4 hts g_c_buildsBucket_c_clashes_144 rfl rfl rfl (by decide +kernel) ⟨(Nat.le_of_ble_eq_true rfl), (Nat.le_of_ble_eq_true rfl)⟩) (PcR_V (q0 := 0) hPc hKc rfl rfl) rfl rfl hl.1 rfl (lv_room (Nat.le_of_ble_eq_true rfl)) dX11_buildsBucket_31 ⟨(Nat.le_of_ble_eq_true rfl), (Nat.le_of_ble_eq_true rfl)⟩) hS (fun q _ h => hFc q h) hFc (fun r8 uu tt H locs htt hvm hw hB hz1 hk1 hS => ?_)
    have hP := va_keep hP hk1
    try dsimp only at hw
    clear hB hz1 hk1 hFc hPc hKc
    have hcl_r8 := hw
    refine lv_if_le (tgt := 41) hx hb dX11_buildsBucket_34 (by decide) (fun hc9 => ?_) (fun hc9 => ?_)
    ·
      refine lv_iconst (v := 0) hx hb dX11_buildsBucket_41 (by decide) ?_
      refine lv_istore_n (lv' := [(3, .int 0), (0, .ref h0), (1, .int (nI k)), (2, .int (nI j))]) hx hb dX11_buildsBucket_42 rfl hl (by decide) rfl (fun ls hl => ?_)
      refine lv_goto (tgt := 12) hx hb dX11_buildsBucket_43 (by decide) ?_
      refine lv_iload_n hx hb dX11_buildsBucket_12 rfl (lv_at hl 0 rfl) ?_
      refine lv_if_eq (tgt := 46) hx hb dX11_buildsBucket_13 (by decide) (fun hc => ?_) (fun hc => absurd (by decide) hc)
      exact kx46 0 w2 (lN ka6) (lN kb7) w5 (⟨_, hka6, rfl⟩) (⟨_, hkb7, rfl⟩) H locs ls (hP.sub [7, 0, 1, 2, 3, 4, 5, 6] rfl) (hD.sub [7, 0, 1, 2, 3, 4, 5, 6] (by decide) rfl) hS (lv_sub hl [1, 2, 3] rfl)
    ·
      refine lv_iconst (v := 1) hx hb dX11_buildsBucket_37 (by decide) ?_
      refine lv_goto (tgt := 42) hx hb dX11_buildsBucket_38 (by decide) ?_
      refine lv_istore_n (lv' := [(3, .int 1), (0, .ref h0), (1, .int (nI k)), (2, .int (nI j))]) hx hb dX11_buildsBucket_42 rfl hl (by decide) rfl (fun ls hl => ?_)
      refine lv_goto (tgt := 12) hx hb dX11_buildsBucket_43 (by decide) ?_
      obtain ⟨qq, rfl⟩ : ∃ qq, qy = qq + 1 := by
        cases qy with
        | zero =>
          exfalso
          have e1 : ka6 = cc + 1 := eka6.trans (RQ_0 hq hc1)
          subst e1
          exact hc9 (by rw [hcl_r8 (bb_nc hKy.2 hcc)]; decide)
        | succ qq => exact ⟨qq, rfl⟩
      exact ih qq w2 (lN ka6) (lN kb7) w5 (by rw [es_r1]; exact RQ_s hq) (by omega) H locs ls (hP.sub [7, 0, 1, 2, 3, 4, 5, 6] rfl) (hD.sub [7, 0, 1, 2, 3, 4, 5, 6] (by decide) rfl) hS (lv_sub hl [0, 1, 2, 3] rfl)
set_option maxHeartbeats 4000000 in
set_option maxRecDepth 100000 in
theorem lp_bb2 (l : Launch) {p : Program} {e : Env} {s : State} {m : MethodId} {args : Array Value} {below : List Frame} {meth : Method} {c : Code} {Q : State → Prop} {A : Nat → Prop} (D : va_G) (h0 : Nat) (a : Nat → Nat) (cm : Nat → ClassId) (i : Nat → Int32) (g : Nat → Int64) (fn : Nat → Int64) (fk : Nat → Int32) (fb : Nat → Int32) (ff : Nat → Int32) (fa : Nat → Int64) (fs : Nat → Int64) (k : Nat) (j : Nat) (cn : Nat) (K : Nat → Nat) (J : Nat → Nat) (rf : Nat) (hk : k < 5) (hj : j < 2048) (h1 : fn (17 * k + 1) = lN cn) (hcn : cn ≤ 160) (hKy : KyS k fk cn K) (hBk : BkS k fb cn 2048 J) (hrf : ff (2048 * k + j) = nI rf) (hr1 : rf ≤ 320) (hr0 : 0 < rf) (hfa : RngL fa) (hfs : RngL fs) (hx : p.tables.exec = Jvm.exec) (hb : c.code = cX11_buildsBucket) (hml : c.maxLocals = 5) (hown : s.vm.findClass RX11 = some m.cls) (hts : ∀ w ∈ wp_c_buildsBucket, w.before args s = true) (hA : ∀ q, s.heap.size ≤ q → A q) (hK : va_K D vwCl [(cm 3, .long), (cm 4, .int), (cm 6, .int), (cm 7, .int), (cm 8, .int), (cm 10, .long), (cm 11, .long)] s) (kx138 : ∀ (x : Nat), ∀ (fr : Nat → Int32), (x ≤ cn) → ∀ (H : Heap) (locs : List Loc) (ls : Array Slot), va_P D vwCl [(h0, .inr (11, gM a i g)), (a 3, .inl (cm 3, 85, .inr (.inl fn))), (a 4, .inl (cm 4, 800, .inl fk)), (a 6, .inl (cm 6, 800, .inl fb)), (a 7, .inl (cm 7, 800, .inl fr)), (a 8, .inl (cm 8, 10240, .inl ff)), (a 10, .inl (cm 10, 10240, .inr (.inl fa))), (a 11, .inl (cm 11, 10240, .inr (.inl fs)))] H → va_D A [(h0, .inr (11, gM a i g)), (a 3, .inl (cm 3, 85, .inr (.inl fn))), (a 4, .inl (cm 4, 800, .inl fk)), (a 6, .inl (cm 6, 800, .inl fb)), (a 7, .inl (cm 7, 800, .inl fr)), (a 8, .inl (cm 8, 10240, .inl ff)), (a 10, .inl (cm 10, 10240, .inr (.inl fa))), (a 11, .inl (cm 11, 10240, .inr (.inl fs)))] → va_S A s.heap H locs → lv_has ls 5 [(0, .ref h0)] → W p l e ({ frames := 5, cells := 0, slots := 0, locals := 130 }) s m args below meth c H locs 0 0 Q (F0 m 138 ls [])) : ∀ (N : Nat), ∀ (x : Nat), ∀ (fr : Nat → Int32), (x ≤ cn) → cn - x < N → ∀ (H : Heap) (locs : List Loc) (ls : Array Slot), va_P D vwCl [(h0, .inr (11, gM a i g)), (a 3, .inl (cm 3, 85, .inr (.inl fn))), (a 4, .inl (cm 4, 800, .inl fk)), (a 6, .inl (cm 6, 800, .inl fb)), (a 7, .inl (cm 7, 800, .inl fr)), (a 8, .inl (cm 8, 10240, .inl ff)), (a 10, .inl (cm 10, 10240, .inr (.inl fa))), (a 11, .inl (cm 11, 10240, .inr (.inl fs)))] H → va_D A [(h0, .inr (11, gM a i g)), (a 3, .inl (cm 3, 85, .inr (.inl fn))), (a 4, .inl (cm 4, 800, .inl fk)), (a 6, .inl (cm 6, 800, .inl fb)), (a 7, .inl (cm 7, 800, .inl fr)), (a 8, .inl (cm 8, 10240, .inl ff)), (a 10, .inl (cm 10, 10240, .inr (.inl fa))), (a 11, .inl (cm 11, 10240, .inr (.inl fs)))] → va_S A s.heap H locs → lv_has ls 5 [(4, .int (nI (160 * k + x))), (0, .ref h0), (1, .int (nI k)), (2, .int (nI j))] → W p l e ({ frames := 5, cells := 0, slots := 0, locals := 130 }) s m args below meth c H locs 0 0 Q (F0 m 85 ls []) := by
  have hin_X11 : ∀ w ∈ wsX110, w ∈ wp_c_buildsBucket := fun _ h => (List.mem_cons_of_mem _ (List.mem_append_right _ (List.mem_append_right _ (List.mem_append_right _ (List.mem_append_right _ (List.mem_append_right _ (List.mem_append_right _ (List.mem_append_left _ h))))))))
  intro N
  induction N with
  | zero =>
    intro x fr hx2 hm
    exact absurd hm (Nat.not_lt_zero _)
  | succ N ih =>
    intro x fr hx2 hm H locs ls hP hD hS hl
    have hKl : ∀ z, z < cn → K z < 2147483647 := fun z a => (hKy.1 z a).2
    refine lv_iload hx hb dX11_buildsBucket_85 (lv_at hl 0 rfl) ?_
    refine lv_sipush (v := 160) hx hb dX11_buildsBucket_87 (by decide) ?_
    refine lv_iload_n hx hb dX11_buildsBucket_90 rfl (lv_at hl 2 rfl) ?_
    refine lv_imul hx hb dX11_buildsBucket_91 ?_
    refine lv_aload_n hx hb dX11_buildsBucket_92 rfl (lv_at hl 1 rfl) ?_
    refine lv_iload_n hx hb dX11_buildsBucket_93 rfl (lv_at hl 2 rfl) ?_
    have hPc := hP.sub (ws' := [(h0, .inr (11, gM a i g)), (a 3, .inl (cm 3, 85, .inr (.inl fn)))]) [0, 1] rfl
    have hKc := hK.sub (tys' := [(cm 3, .long)]) [0] rfl
    have hFc := va_free0 hS hA
    refine va_calli (va_runV (As := [.int (nI k)]) (rest := [.int (160 * (nI k)), .int (nI (160 * k + x))]) ⟨hx, hb, hml, hown, hts⟩ (c_manyOf l D _ h0 a cm i g fn k cn (by first | assumption | omega) h1) (cwV 1 hts g_c_buildsBucket_c_manyOf_95 rfl rfl rfl (by decide +kernel) ⟨(Nat.le_of_ble_eq_true rfl), (Nat.le_of_ble_eq_true rfl)⟩) (PcR_V (q0 := 0) hPc hKc rfl rfl) rfl rfl hl.1 rfl (lv_room (Nat.le_of_ble_eq_true rfl)) dX11_buildsBucket_94 ⟨(Nat.le_of_ble_eq_true rfl), (Nat.le_of_ble_eq_true rfl)⟩) hS (fun q _ h => hFc q h) hFc (fun r1 uu tt H locs htt hvm hw hB hz1 hk1 hS => ?_)
    have hP := va_keep hP hk1
    try dsimp only at hw
    clear hB hz1 hk1 hFc hPc hKc
    obtain rfl : r1 = nI cn := hw
    refine lv_iadd hx hb dX11_buildsBucket_97 ?_
    refine lv_topi (fun v2 ev2 => ?_)
    obtain rfl : v2 = nI (160 * k + cn) := ev2.trans (ix160 k _)
    refine lv_icmp_ge (tgt := 138) hx hb dX11_buildsBucket_98 (by decide) (fun hc3 => ?_) (fun hc3 => ?_)
    ·
      have hge_x : cn ≤ x := by
        have := (nI_leI (a := 160 * k + cn) (b := 160 * k + x) (by omega) (by omega)).mp hc3
        omega
      exact kx138 x fr (hx2) H locs ls (hP.sub [0, 1, 2, 3, 4, 5, 6, 7] rfl) (hD.sub [0, 1, 2, 3, 4, 5, 6, 7] (by decide) rfl) hS (lv_sub hl [1] rfl)
    ·
      have hlt_x : x < cn := by
        rcases Nat.lt_or_ge x cn with z | z
        · exact z
        · exact absurd (nI_le (show 160 * k + cn ≤ 160 * k + x by omega) (by omega)) hc3
      refine lv_aload_n hx hb dX11_buildsBucket_101 rfl (lv_at hl 1 rfl) ?_
      refine va_get (D := D) (ci := 11) (v := .ref (a 6)) (C := RX11) (T := TX11) (N := 47) hx hb hts hin_X11 hown hK hP 0 rfl rfl 6 (by decide) (hts (.fieldLink RX11 24 "ClashFreeModel" "inBucket" "[I") (List.mem_of_getElem? (i := 13) rfl)) (fun _ h9 => h9) rfl dX11_buildsBucket_102 ?_
      refine lv_iload hx hb dX11_buildsBucket_105 (lv_at hl 0 rfl) ?_
      refine va_iald hx hb hK hP 3 2 rfl rfl (vp_in_nI (by omega) (by decide)) dX11_buildsBucket_107 ?_
      refine lv_topi (fun v4 ev4 => ?_)
      obtain rfl : v4 = nI (J x) := ev4.trans (by rw [nI_clamp (by omega)]; exact (hBk _ (by omega)).1)
      refine lv_iload_n hx hb dX11_buildsBucket_108 rfl (lv_at hl 3 rfl) ?_
      refine lv_icmp_ne (tgt := 132) hx hb dX11_buildsBucket_109 (by decide) (fun hc5 => ?_) (fun hc5 => ?_)
      ·
        refine lv_iinc (v := nI (160 * k + (x + 1))) (lv' := [(4, .int (nI (160 * k + (x + 1)))), (0, .ref h0), (1, .int (nI k)), (2, .int (nI j))]) hx hb dX11_buildsBucket_132 hl (k := 0) rfl (nI_1 _) (by decide) rfl (fun ls hl => ?_)
        refine lv_goto (tgt := 85) hx hb dX11_buildsBucket_135 (by decide) ?_
        exact ih (x + 1) fr (by omega) (by omega) H locs ls (hP.sub [0, 1, 2, 3, 4, 5, 6, 7] rfl) (hD.sub [0, 1, 2, 3, 4, 5, 6, 7] (by decide) rfl) hS (lv_sub hl [0, 1, 2, 3] rfl)
      ·
        refine lv_aload_n hx hb dX11_buildsBucket_112 rfl (lv_at hl 1 rfl) ?_
        refine va_get (D := D) (ci := 11) (v := .ref (a 7)) (C := RX11) (T := TX11) (N := 47) hx hb hts hin_X11 hown hK hP 0 rfl rfl 7 (by decide) (hts (.fieldLink RX11 27 "ClashFreeModel" "inRoom" "[I") (List.mem_of_getElem? (i := 14) rfl)) (fun _ h9 => h9) rfl dX11_buildsBucket_113 ?_
        refine lv_iload hx hb dX11_buildsBucket_116 (lv_at hl 0 rfl) ?_
        refine lv_aload_n hx hb dX11_buildsBucket_118 rfl (lv_at hl 1 rfl) ?_
        refine lv_iload_n hx hb dX11_buildsBucket_119 rfl (lv_at hl 2 rfl) ?_
        refine lv_iload_n hx hb dX11_buildsBucket_120 rfl (lv_at hl 3 rfl) ?_
        refine lv_aload_n hx hb dX11_buildsBucket_121 rfl (lv_at hl 1 rfl) ?_
        refine va_get (D := D) (ci := 11) (v := .ref (a 4)) (C := RX11) (T := TX11) (N := 47) hx hb hts hin_X11 hown hK hP 0 rfl rfl 4 (by decide) (hts (.fieldLink RX11 17 "ClashFreeModel" "keys" "[I") (List.mem_of_getElem? (i := 15) rfl)) (fun _ h9 => h9) rfl dX11_buildsBucket_122 ?_
        refine lv_iload hx hb dX11_buildsBucket_125 (lv_at hl 0 rfl) ?_
        refine va_iald hx hb hK hP 2 1 rfl rfl (vp_in_nI (by omega) (by decide)) dX11_buildsBucket_127 ?_
        refine lv_topi (fun v6 ev6 => ?_)
        obtain rfl : v6 = nI (K x) := ev6.trans (by rw [nI_clamp (by omega)]; exact (hKy.1 _ (by omega)).1)
        have hPc := hP.sub (ws' := [(h0, .inr (11, gM a i g)), (a 8, .inl (cm 8, 10240, .inl ff)), (a 10, .inl (cm 10, 10240, .inr (.inl fa))), (a 11, .inl (cm 11, 10240, .inr (.inl fs)))]) [0, 5, 6, 7] rfl
        have hKc := hK.sub (tys' := [(cm 8, .int), (cm 10, .long), (cm 11, .long)]) [4, 5, 6] rfl
        have hFc := va_free0 hS hA
        refine va_calli (va_runV (As := [.int (nI k), .int (nI j), .int (nI (K x))]) (rest := [.int (nI (160 * k + x)), .ref (a 7)]) ⟨hx, hb, hml, hown, hts⟩ (c_roomOf l D _ h0 a cm i g ff fa fs k j (K x) rf (by first | assumption | omega) (by first | assumption | omega) (by first | assumption | omega | exact hKl _ (by omega)) hrf (by first | assumption | omega) (by first | assumption | omega) (by first | assumption | omega) (by first | assumption | omega)) (cwV 3 hts g_c_buildsBucket_c_roomOf_148 rfl rfl rfl (by decide +kernel) ⟨(Nat.le_of_ble_eq_true rfl), (Nat.le_of_ble_eq_true rfl)⟩) (PcR_V (q0 := 0) hPc hKc rfl rfl) rfl rfl hl.1 rfl (lv_room (Nat.le_of_ble_eq_true rfl)) dX11_buildsBucket_128 ⟨(Nat.le_of_ble_eq_true rfl), (Nat.le_of_ble_eq_true rfl)⟩) hS (fun q _ h => hFc q h) hFc (fun r7 uu tt H locs htt hvm hw hB hz1 hk1 hS => ?_)
        have hP := va_keep hP hk1
        try dsimp only at hw
        clear hB hz1 hk1 hFc hPc hKc
        refine va_iast hx hb hK hP hD hS 4 3 rfl rfl (vp_in_nI (by omega) (by decide)) dX11_buildsBucket_131 (fun H locs hP hD hS => ?_)
        have hP : va_P D vwCl [(h0, .inr (11, gM a i g)), (a 3, .inl (cm 3, 85, .inr (.inl fn))), (a 4, .inl (cm 4, 800, .inl fk)), (a 6, .inl (cm 6, 800, .inl fb)), (a 7, .inl (cm 7, 800, .inl (upd fr (Int32.toNatClampNeg (nI (160 * k + x))) r7))), (a 8, .inl (cm 8, 10240, .inl ff)), (a 10, .inl (cm 10, 10240, .inr (.inl fa))), (a 11, .inl (cm 11, 10240, .inr (.inl fs)))] H := hP
        have hD : va_D A [(h0, .inr (11, gM a i g)), (a 3, .inl (cm 3, 85, .inr (.inl fn))), (a 4, .inl (cm 4, 800, .inl fk)), (a 6, .inl (cm 6, 800, .inl fb)), (a 7, .inl (cm 7, 800, .inl (upd fr (Int32.toNatClampNeg (nI (160 * k + x))) r7))), (a 8, .inl (cm 8, 10240, .inl ff)), (a 10, .inl (cm 10, 10240, .inr (.inl fa))), (a 11, .inl (cm 11, 10240, .inr (.inl fs)))] := hD
        generalize upd fr (Int32.toNatClampNeg (nI (160 * k + x))) r7 = g8 at hP hD
        refine lv_iinc (v := nI (160 * k + (x + 1))) (lv' := [(4, .int (nI (160 * k + (x + 1)))), (0, .ref h0), (1, .int (nI k)), (2, .int (nI j))]) hx hb dX11_buildsBucket_132 hl (k := 0) rfl (nI_1 _) (by decide) rfl (fun ls hl => ?_)
        refine lv_goto (tgt := 85) hx hb dX11_buildsBucket_135 (by decide) ?_
        exact ih (x + 1) g8 (by omega) (by omega) H locs ls (hP.sub [0, 1, 2, 3, 4, 5, 6, 7] rfl) (hD.sub [0, 1, 2, 3, 4, 5, 6, 7] (by decide) rfl) hS (lv_sub hl [0, 1, 2, 3] rfl)
set_option maxHeartbeats 4000000 in
set_option maxRecDepth 100000 in
theorem c_buildsBucket (l : Launch) (D : va_G) (sz : Nat) (h0 : Nat) (a : Nat → Nat) (cm : Nat → ClassId) (i : Nat → Int32) (g : Nat → Int64) (fn : Nat → Int64) (fk : Nat → Int32) (fb : Nat → Int32) (fr : Nat → Int32) (ff : Nat → Int32) (fa : Nat → Int64) (fs : Nat → Int64) (k : Nat) (j : Nat) (cn : Nat) (K : Nat → Nat) (J : Nat → Nat) (rf : Nat) (hk : k < 5) (hj : j < 2048) (h1 : fn (17 * k + 1) = lN cn) (hcn : cn ≤ 160) (hKy : KyS k fk cn K) (hBk : BkS k fb cn 2048 J) (hrf : ff (2048 * k + j) = nI rf) (hr1 : rf ≤ 320) (hcj : cntJ J cn j ≤ rf) (hfa : RngL fa) (hfs : RngL fs) : Met l yX11_buildsBucket wp_c_buildsBucket ({ frames := 5, cells := 0, slots := 0, locals := 130 }) (PcW D [.ref h0, .int (nI k), .int (nI j)] sz [(h0, .inr (11, gM a i g)), (a 3, .inl (cm 3, 85, .inr (.inl fn))), (a 4, .inl (cm 4, 800, .inl fk)), (a 6, .inl (cm 6, 800, .inl fb)), (a 7, .inl (cm 7, 800, .inl fr)), (a 8, .inl (cm 8, 10240, .inl ff)), (a 10, .inl (cm 10, 10240, .inr (.inl fa))), (a 11, .inl (cm 11, 10240, .inr (.inl fs)))] [(cm 3, .long), (cm 4, .int), (cm 6, .int), (cm 7, .int), (cm 8, .int), (cm 10, .long), (cm 11, .long)]) (va_Qv (fun (u : (Nat → Int32) × (Nat → Int64) × (Nat → Int64) × (Int64) × (Int64) × (Int64) × (Int32)) => RngL u.2.1 ∧ RngL u.2.2.1) (fun (u : (Nat → Int32) × (Nat → Int64) × (Nat → Int64) × (Int64) × (Int64) × (Int64) × (Int32)) t => va_P D vwCl [(h0, .inr (11, gM a (upd i 15 u.2.2.2.2.2.2) (vp_updL (vp_updL (vp_updL (fun _ => 0) 12 u.2.2.2.1) 13 u.2.2.2.2.1) 14 u.2.2.2.2.2.1))), (a 3, .inl (cm 3, 85, .inr (.inl fn))), (a 4, .inl (cm 4, 800, .inl fk)), (a 6, .inl (cm 6, 800, .inl fb)), (a 7, .inl (cm 7, 800, .inl u.1)), (a 8, .inl (cm 8, 10240, .inl ff)), (a 10, .inl (cm 10, 10240, .inr (.inl u.2.1))), (a 11, .inl (cm 11, 10240, .inr (.inl u.2.2.1)))] t.heap ∧ va_K D vwCl [(cm 3, .long), (cm 4, .int), (cm 6, .int), (cm 7, .int), (cm 8, .int), (cm 10, .long), (cm 11, .long)] t ∧ va_D (va_A [(h0, .inr (11, gM a i g)), (a 3, .inl (cm 3, 85, .inr (.inl fn))), (a 4, .inl (cm 4, 800, .inl fk)), (a 6, .inl (cm 6, 800, .inl fb)), (a 7, .inl (cm 7, 800, .inl fr)), (a 8, .inl (cm 8, 10240, .inl ff)), (a 10, .inl (cm 10, 10240, .inr (.inl fa))), (a 11, .inl (cm 11, 10240, .inr (.inl fs)))] sz) [(h0, .inr (11, gM a (upd i 15 u.2.2.2.2.2.2) (vp_updL (vp_updL (vp_updL (fun _ => 0) 12 u.2.2.2.1) 13 u.2.2.2.2.1) 14 u.2.2.2.2.2.1))), (a 3, .inl (cm 3, 85, .inr (.inl fn))), (a 4, .inl (cm 4, 800, .inl fk)), (a 6, .inl (cm 6, 800, .inl fb)), (a 7, .inl (cm 7, 800, .inl u.1)), (a 8, .inl (cm 8, 10240, .inl ff)), (a 10, .inl (cm 10, 10240, .inr (.inl u.2.1))), (a 11, .inl (cm 11, 10240, .inr (.inl u.2.2.1)))]) (va_A [(h0, .inr (11, gM a i g)), (a 3, .inl (cm 3, 85, .inr (.inl fn))), (a 4, .inl (cm 4, 800, .inl fk)), (a 6, .inl (cm 6, 800, .inl fb)), (a 7, .inl (cm 7, 800, .inl fr)), (a 8, .inl (cm 8, 10240, .inl ff)), (a 10, .inl (cm 10, 10240, .inr (.inl fa))), (a 11, .inl (cm 11, 10240, .inr (.inl fs)))] sz)) 0 0 (va_A [(h0, .inr (11, gM a i g)), (a 3, .inl (cm 3, 85, .inr (.inl fn))), (a 4, .inl (cm 4, 800, .inl fk)), (a 6, .inl (cm 6, 800, .inl fb)), (a 7, .inl (cm 7, 800, .inl fr)), (a 8, .inl (cm 8, 10240, .inl ff)), (a 10, .inl (cm 10, 10240, .inr (.inl fa))), (a 11, .inl (cm 11, 10240, .inr (.inl fs)))] sz) := by
  refine Met.ofW (cc := cX11_buildsBucket) (maxL := 5) (ret := none) (by decide) rfl ?_
  intro p e s m args below meth c s₁ B hml hv
  obtain ⟨rfl, hsz, hP, hK, hD0⟩ := hv
  have hx := B.exec
  have hb := B.bytes
  have hr := B.returns
  have hts := atoms_spec (ws := wp_c_buildsBucket) B.pre
  have hin_X11 : ∀ w ∈ wsX110, w ∈ wp_c_buildsBucket := fun _ h => (List.mem_cons_of_mem _ (List.mem_append_right _ (List.mem_append_right _ (List.mem_append_right _ (List.mem_append_right _ (List.mem_append_right _ (List.mem_append_right _ (List.mem_append_left _ h))))))))
  have hown : s.vm.findClass RX11 = some m.cls := findClass_of_methodNamed B.named
  have hlocks := B.notSynchronized
  subst hsz
  have hD := hD0.self (sz := s.heap.size)
  generalize hAe : va_A [(h0, .inr (11, gM a i g)), (a 3, .inl (cm 3, 85, .inr (.inl fn))), (a 4, .inl (cm 4, 800, .inl fk)), (a 6, .inl (cm 6, 800, .inl fb)), (a 7, .inl (cm 7, 800, .inl fr)), (a 8, .inl (cm 8, 10240, .inl ff)), (a 10, .inl (cm 10, 10240, .inr (.inl fa))), (a 11, .inl (cm 11, 10240, .inr (.inl fs)))] s.heap.size = A at hD ⊢
  have hA : ∀ q : Nat, s.heap.size ≤ q → A q := fun q h => by rw [← hAe]; exact Or.inr h
  have hS : va_S A s.heap s.heap [] := va_S.rf
  have hP : va_P D vwCl [(h0, .inr (11, gM a i g)), (a 3, .inl (cm 3, 85, .inr (.inl fn))), (a 4, .inl (cm 4, 800, .inl fk)), (a 6, .inl (cm 6, 800, .inl fb)), (a 7, .inl (cm 7, 800, .inl fr)), (a 8, .inl (cm 8, 10240, .inl ff)), (a 10, .inl (cm 10, 10240, .inr (.inl fa))), (a 11, .inl (cm 11, 10240, .inr (.inl fs)))] s.heap := hP
  have hl := lv_entry ([.ref h0, .int (nI k), .int (nI j)]) (n := 5) (Nat.le_of_ble_eq_true rfl)
  rw [lg_entry_eq]
  generalize (lg_sl ([.ref h0, .int (nI k), .int (nI j)]) ++ List.replicate (5 - (lg_sl ([.ref h0, .int (nI k), .int (nI j)])).length) Slot.unset).toArray = ls at hl ⊢
  have hl : lv_has ls 5 [(0, .ref h0), (1, .int (nI k)), (2, .int (nI j))] := hl
  refine lv_aload_n hx hb dX11_buildsBucket_0 rfl (lv_at hl 0 rfl) ?_
  refine lv_iload_n hx hb dX11_buildsBucket_1 rfl (lv_at hl 1 rfl) ?_
  refine lv_iload_n hx hb dX11_buildsBucket_2 rfl (lv_at hl 2 rfl) ?_
  have hPc := hP.sub (ws' := [(h0, .inr (11, gM a i g)), (a 8, .inl (cm 8, 10240, .inl ff))]) [0, 5] rfl
  have hKc := hK.sub (tys' := [(cm 8, .int)]) [4] rfl
  have hFc := va_free0 hS hA
  refine va_calli (va_runV (As := [.int (nI k), .int (nI j)]) (rest := []) ⟨hx, hb, hml, hown, hts⟩ (c_roomsOf l D _ h0 a cm i g ff k j rf (by first | assumption | omega) (by first | assumption | omega) hrf) (cwV 2 hts g_c_buildsBucket_c_roomsOf_137 rfl rfl rfl (by decide +kernel) ⟨(Nat.le_of_ble_eq_true rfl), (Nat.le_of_ble_eq_true rfl)⟩) (PcR_V (q0 := 0) hPc hKc rfl rfl) rfl rfl hl.1 rfl (lv_room (Nat.le_of_ble_eq_true rfl)) dX11_buildsBucket_3 ⟨(Nat.le_of_ble_eq_true rfl), (Nat.le_of_ble_eq_true rfl)⟩) hS (fun q _ h => hFc q h) hFc (fun r1 uu tt H locs htt hvm hw hB hz1 hk1 hS => ?_)
  have hP := va_keep hP hk1
  try dsimp only at hw
  clear hB hz1 hk1 hFc hPc hKc
  obtain rfl : r1 = nI (rf * rf) := hw
  refine lv_if_ne (tgt := 10) hx hb dX11_buildsBucket_6 (by decide) (fun hc2 => ?_) (fun hc2 => ?_)
  ·
    have hr0 : 0 < rf := by
      rcases Nat.eq_zero_or_pos rf with z | z
      · exact absurd (by rw [z]; decide) hc2
      · exact z
    refine lv_iconst (v := 1) hx hb dX11_buildsBucket_10 (by decide) ?_
    refine lv_istore_n (lv' := [(3, .int 1), (0, .ref h0), (1, .int (nI k)), (2, .int (nI j))]) hx hb dX11_buildsBucket_11 rfl hl (by decide) rfl (fun ls hl => ?_)
    obtain ⟨cc, hc1, hcc⟩ := good_q (m := rf * rf) (n := cn) (K := K) (q := fun x => decide (J x = j)) (Nat.mul_pos hr0 hr0) (Nat.mul_le_mul hcj hcj) hKy.2 (fun x a => (hKy.1 x a).2)
    have hcc : ∀ x y, x < y → y < cn → J x = j → J y = j → badA (rf * rf) (K y - K x) cc = false := fun x y a b c1 c2 => hcc x y a b (decide_eq_true c1) (decide_eq_true c2)
    obtain ⟨qy, hqy⟩ := RQ_of (g 12) hc1
    refine lp_bb1 l D h0 a cm i g fn fk fb fr ff fa fs k j cn K J rf cc (hk) (hj) (h1) (hcn) (hKy) (hBk) (hrf) (hr1) (hr0) (hc1) (hcc) hx hb hml hown hts hA (hK.sub [0, 1, 2, 3, 4, 5, 6] rfl) ?_ (qy + 1) qy (g 12) (g 13) (g 14) (i 15) (hqy) (by omega) _ _ _ (hP.sub [0, 1, 2, 3, 4, 5, 6, 7] rfl) (hD.sub [0, 1, 2, 3, 4, 5, 6, 7] (by decide) rfl) hS (lv_sub hl [0, 1, 2, 3] rfl)
    intro qy_3 sd_4 pa_5 pb_6 dr_7 hx8 hx9 H locs ls hP hD hS hl
    obtain ⟨n1, hn1, rfl⟩ := hx8
    obtain ⟨n2, hn2, rfl⟩ := hx9
    refine lv_aload_n hx hb dX11_buildsBucket_46 rfl (lv_at hl 0 rfl) ?_
    refine va_get (D := D) (ci := 11) (v := .ref (a 10)) (C := RX11) (T := TX11) (N := 47) hx hb hts hin_X11 hown hK hP 0 rfl rfl 10 (by decide) (hts (.fieldLink RX11 36 "ClashFreeModel" "as" "[J") (List.mem_of_getElem? (i := 22) rfl)) (fun _ h9 => h9) rfl dX11_buildsBucket_47 ?_
    refine lv_sipush (v := 2048) hx hb dX11_buildsBucket_50 (by decide) ?_
    refine lv_iload_n hx hb dX11_buildsBucket_53 rfl (lv_at hl 1 rfl) ?_
    refine lv_imul hx hb dX11_buildsBucket_54 ?_
    refine lv_iload_n hx hb dX11_buildsBucket_55 rfl (lv_at hl 2 rfl) ?_
    refine lv_iadd hx hb dX11_buildsBucket_56 ?_
    refine lv_topi (fun v10 ev10 => ?_)
    obtain rfl : v10 = nI (2048 * k + j) := ev10.trans (ix2048 k j)
    refine lv_aload_n hx hb dX11_buildsBucket_57 rfl (lv_at hl 0 rfl) ?_
    refine va_get (D := D) (ci := 11) (v := .long (lN n1)) (C := RX11) (T := TX11) (N := 47) hx hb hts hin_X11 hown hK hP 0 rfl rfl 13 (by decide) (hts (.fieldLink RX11 117 "ClashFreeModel" "pairA" "J") (List.mem_of_getElem? (i := 5) rfl)) (fun _ h9 => h9) rfl dX11_buildsBucket_58 ?_
    refine va_last hx hb hK hP hD hS 6 5 rfl rfl (vp_in_nI (by omega) (by decide)) dX11_buildsBucket_61 (fun H locs hP hD hS => ?_)
    have hP : va_P D vwCl [(h0, .inr (11, gM a (upd i 15 dr_7) (vp_updL (vp_updL (vp_updL (fun _ => 0) 12 sd_4) 13 (lN n1)) 14 (lN n2)))), (a 3, .inl (cm 3, 85, .inr (.inl fn))), (a 4, .inl (cm 4, 800, .inl fk)), (a 6, .inl (cm 6, 800, .inl fb)), (a 7, .inl (cm 7, 800, .inl fr)), (a 8, .inl (cm 8, 10240, .inl ff)), (a 10, .inl (cm 10, 10240, .inr (.inl (vp_updL fa (Int32.toNatClampNeg (nI (2048 * k + j))) (lN n1))))), (a 11, .inl (cm 11, 10240, .inr (.inl fs)))] H := hP
    have hD : va_D A [(h0, .inr (11, gM a (upd i 15 dr_7) (vp_updL (vp_updL (vp_updL (fun _ => 0) 12 sd_4) 13 (lN n1)) 14 (lN n2)))), (a 3, .inl (cm 3, 85, .inr (.inl fn))), (a 4, .inl (cm 4, 800, .inl fk)), (a 6, .inl (cm 6, 800, .inl fb)), (a 7, .inl (cm 7, 800, .inl fr)), (a 8, .inl (cm 8, 10240, .inl ff)), (a 10, .inl (cm 10, 10240, .inr (.inl (vp_updL fa (Int32.toNatClampNeg (nI (2048 * k + j))) (lN n1))))), (a 11, .inl (cm 11, 10240, .inr (.inl fs)))] := hD
    rw [show (vp_updL fa (Int32.toNatClampNeg (nI (2048 * k + j))) (lN n1)) = (vp_updL fa (2048 * k + j) (lN n1)) from by rw [nI_clamp (by omega)]] at hP hD
    refine lv_aload_n hx hb dX11_buildsBucket_62 rfl (lv_at hl 0 rfl) ?_
    refine va_get (D := D) (ci := 11) (v := .ref (a 11)) (C := RX11) (T := TX11) (N := 47) hx hb hts hin_X11 hown hK hP 0 rfl rfl 11 (by decide) (hts (.fieldLink RX11 39 "ClashFreeModel" "bs" "[J") (List.mem_of_getElem? (i := 23) rfl)) (fun _ h9 => h9) rfl dX11_buildsBucket_63 ?_
    refine lv_sipush (v := 2048) hx hb dX11_buildsBucket_66 (by decide) ?_
    refine lv_iload_n hx hb dX11_buildsBucket_69 rfl (lv_at hl 1 rfl) ?_
    refine lv_imul hx hb dX11_buildsBucket_70 ?_
    refine lv_iload_n hx hb dX11_buildsBucket_71 rfl (lv_at hl 2 rfl) ?_
    refine lv_iadd hx hb dX11_buildsBucket_72 ?_
    refine lv_topi (fun v11 ev11 => ?_)
    obtain rfl : v11 = nI (2048 * k + j) := ev11.trans (ix2048 k j)
    refine lv_aload_n hx hb dX11_buildsBucket_73 rfl (lv_at hl 0 rfl) ?_
    refine va_get (D := D) (ci := 11) (v := .long (lN n2)) (C := RX11) (T := TX11) (N := 47) hx hb hts hin_X11 hown hK hP 0 rfl rfl 14 (by decide) (hts (.fieldLink RX11 120 "ClashFreeModel" "pairB" "J") (List.mem_of_getElem? (i := 6) rfl)) (fun _ h9 => h9) rfl dX11_buildsBucket_74 ?_
    refine va_last hx hb hK hP hD hS 7 6 rfl rfl (vp_in_nI (by omega) (by decide)) dX11_buildsBucket_77 (fun H locs hP hD hS => ?_)
    have hP : va_P D vwCl [(h0, .inr (11, gM a (upd i 15 dr_7) (vp_updL (vp_updL (vp_updL (fun _ => 0) 12 sd_4) 13 (lN n1)) 14 (lN n2)))), (a 3, .inl (cm 3, 85, .inr (.inl fn))), (a 4, .inl (cm 4, 800, .inl fk)), (a 6, .inl (cm 6, 800, .inl fb)), (a 7, .inl (cm 7, 800, .inl fr)), (a 8, .inl (cm 8, 10240, .inl ff)), (a 10, .inl (cm 10, 10240, .inr (.inl (vp_updL fa (2048 * k + j) (lN n1))))), (a 11, .inl (cm 11, 10240, .inr (.inl (vp_updL fs (Int32.toNatClampNeg (nI (2048 * k + j))) (lN n2)))))] H := hP
    have hD : va_D A [(h0, .inr (11, gM a (upd i 15 dr_7) (vp_updL (vp_updL (vp_updL (fun _ => 0) 12 sd_4) 13 (lN n1)) 14 (lN n2)))), (a 3, .inl (cm 3, 85, .inr (.inl fn))), (a 4, .inl (cm 4, 800, .inl fk)), (a 6, .inl (cm 6, 800, .inl fb)), (a 7, .inl (cm 7, 800, .inl fr)), (a 8, .inl (cm 8, 10240, .inl ff)), (a 10, .inl (cm 10, 10240, .inr (.inl (vp_updL fa (2048 * k + j) (lN n1))))), (a 11, .inl (cm 11, 10240, .inr (.inl (vp_updL fs (Int32.toNatClampNeg (nI (2048 * k + j))) (lN n2)))))] := hD
    rw [show (vp_updL fs (Int32.toNatClampNeg (nI (2048 * k + j))) (lN n2)) = (vp_updL fs (2048 * k + j) (lN n2)) from by rw [nI_clamp (by omega)]] at hP hD
    refine lv_sipush (v := 160) hx hb dX11_buildsBucket_78 (by decide) ?_
    refine lv_iload_n hx hb dX11_buildsBucket_81 rfl (lv_at hl 1 rfl) ?_
    refine lv_imul hx hb dX11_buildsBucket_82 ?_
    refine lv_topi (fun v12 ev12 => ?_)
    obtain rfl : v12 = nI (160 * k + 0) := ev12.trans (pk_mul 160 k)
    refine lv_istore (lv' := [(4, .int (nI (160 * k + 0))), (0, .ref h0), (1, .int (nI k)), (2, .int (nI j))]) hx hb dX11_buildsBucket_83 hl (by decide) rfl (fun ls hl => ?_)
    refine lp_bb2 l D h0 a cm (upd i 15 dr_7) (vp_updL (vp_updL (vp_updL (fun _ => 0) 12 sd_4) 13 (lN n1)) 14 (lN n2)) fn fk fb ff (vp_updL fa (2048 * k + j) (lN n1)) (vp_updL fs (2048 * k + j) (lN n2)) k j cn K J rf (hk) (hj) (h1) (hcn) (hKy) (hBk) (hrf) (hr1) (hr0) (hfa.put hn1) (hfs.put hn2) hx hb hml hown hts hA (hK.sub [0, 1, 2, 3, 4, 5, 6] rfl) ?_ (cn + 1) 0 fr (Nat.zero_le _) (by omega) _ _ _ (hP.sub [0, 1, 2, 3, 4, 5, 6, 7] rfl) (hD.sub [0, 1, 2, 3, 4, 5, 6, 7] (by decide) rfl) hS (lv_sub hl [0, 1, 2, 3] rfl)
    intro x_13 fr_14 hx2_15 H locs ls hP hD hS hl
    exact W.vret hx hb hr (fun t ht hW => ⟨⟨(fr_14, (vp_updL fa (2048 * k + j) (lN n1)), (vp_updL fs (2048 * k + j) (lN n2)), ((vp_updL (vp_updL (vp_updL (fun _ => 0) 12 sd_4) 13 (lN n1)) 14 (lN n2)) 12), ((vp_updL (vp_updL (vp_updL (fun _ => 0) 12 sd_4) 13 (lN n1)) 14 (lN n2)) 13), ((vp_updL (vp_updL (vp_updL (fun _ => 0) 12 sd_4) 13 (lN n1)) 14 (lN n2)) 14), ((upd i 15 dr_7) 15)), rfl, ⟨hfa.put hn1, hfs.put hn2⟩, by rw [ht]; exact hP.sub [0, 1, 2, 3, 4, 5, 6, 7] rfl, va_K.moved hW.alike (hK.sub [0, 1, 2, 3, 4, 5, 6] rfl), hD.sub [0, 1, 2, 3, 4, 5, 6, 7] (by decide) rfl⟩, hS.F ht⟩) hS.2.2 dX11_buildsBucket_138
  ·
    exact W.vret hx hb hr (fun t ht hW => ⟨⟨(fr, fa, fs, (g 12), (g 13), (g 14), (i 15)), rfl, ⟨hfa, hfs⟩, by rw [ht]; exact hP.sub [0, 1, 2, 3, 4, 5, 6, 7] rfl, va_K.moved hW.alike (hK.sub [0, 1, 2, 3, 4, 5, 6] rfl), hD.sub [0, 1, 2, 3, 4, 5, 6, 7] (by decide) rfl⟩, hS.F ht⟩) hS.2.2 dX11_buildsBucket_9

