theorem dX11_readsProgram_0 : decode cX11_readsProgram 0 = .ok (.aload_n 0, 1) := by decide +kernel
theorem dX11_readsProgram_1 : decode cX11_readsProgram 1 = .ok (.aload_n 0, 1) := by decide +kernel
theorem dX11_readsProgram_2 : decode cX11_readsProgram 2 = .ok (.getfield 76, 3) := by decide +kernel
theorem dX11_readsProgram_5 : decode cX11_readsProgram 5 = .ok (.putfield 292, 3) := by decide +kernel
theorem dX11_readsProgram_8 : decode cX11_readsProgram 8 = .ok (.aload_n 0, 1) := by decide +kernel
theorem dX11_readsProgram_9 : decode cX11_readsProgram 9 = .ok (.iconst 0, 1) := by decide +kernel
theorem dX11_readsProgram_10 : decode cX11_readsProgram 10 = .ok (.putfield 76, 3) := by decide +kernel
theorem dX11_readsProgram_13 : decode cX11_readsProgram 13 = .ok (.aload_n 0, 1) := by decide +kernel
theorem dX11_readsProgram_14 : decode cX11_readsProgram 14 = .ok (.iconst 0, 1) := by decide +kernel
theorem dX11_readsProgram_15 : decode cX11_readsProgram 15 = .ok (.putfield 303, 3) := by decide +kernel
theorem dX11_readsProgram_18 : decode cX11_readsProgram 18 = .ok (.aload_n 0, 1) := by decide +kernel
theorem dX11_readsProgram_19 : decode cX11_readsProgram 19 = .ok (.iconst (-1), 1) := by decide +kernel
theorem dX11_readsProgram_20 : decode cX11_readsProgram 20 = .ok (.putfield 326, 3) := by decide +kernel
theorem dX11_readsProgram_23 : decode cX11_readsProgram 23 = .ok (.aload_n 0, 1) := by decide +kernel
theorem dX11_readsProgram_24 : decode cX11_readsProgram 24 = .ok (.iconst 0, 1) := by decide +kernel
theorem dX11_readsProgram_25 : decode cX11_readsProgram 25 = .ok (.putfield 280, 3) := by decide +kernel
theorem dX11_readsProgram_28 : decode cX11_readsProgram 28 = .ok (.aload_n 0, 1) := by decide +kernel
theorem dX11_readsProgram_29 : decode cX11_readsProgram 29 = .ok (.iconst (-1), 1) := by decide +kernel
theorem dX11_readsProgram_30 : decode cX11_readsProgram 30 = .ok (.putfield 283, 3) := by decide +kernel
theorem dX11_readsProgram_33 : decode cX11_readsProgram 33 = .ok (.aload_n 0, 1) := by decide +kernel
theorem dX11_readsProgram_34 : decode cX11_readsProgram 34 = .ok (.iconst (-1), 1) := by decide +kernel
theorem dX11_readsProgram_35 : decode cX11_readsProgram 35 = .ok (.putfield 289, 3) := by decide +kernel
theorem dX11_readsProgram_38 : decode cX11_readsProgram 38 = .ok (.aload_n 0, 1) := by decide +kernel
theorem dX11_readsProgram_39 : decode cX11_readsProgram 39 = .ok (.iconst 0, 1) := by decide +kernel
theorem dX11_readsProgram_40 : decode cX11_readsProgram 40 = .ok (.putfield 335, 3) := by decide +kernel
theorem dX11_readsProgram_43 : decode cX11_readsProgram 43 = .ok (.aload_n 0, 1) := by decide +kernel
theorem dX11_readsProgram_44 : decode cX11_readsProgram 44 = .ok (.iconst 0, 1) := by decide +kernel
theorem dX11_readsProgram_45 : decode cX11_readsProgram 45 = .ok (.putfield 286, 3) := by decide +kernel
theorem dX11_readsProgram_48 : decode cX11_readsProgram 48 = .ok (.aload_n 0, 1) := by decide +kernel
theorem dX11_readsProgram_49 : decode cX11_readsProgram 49 = .ok (.getfield 292, 3) := by decide +kernel
theorem dX11_readsProgram_52 : decode cX11_readsProgram 52 = .ok (.sipush 600, 3) := by decide +kernel
theorem dX11_readsProgram_55 : decode cX11_readsProgram 55 = .ok (.if_icmp .le 11, 3) := by decide +kernel
theorem dX11_readsProgram_58 : decode cX11_readsProgram 58 = .ok (.aload_n 0, 1) := by decide +kernel
theorem dX11_readsProgram_59 : decode cX11_readsProgram 59 = .ok (.iconst 1, 1) := by decide +kernel
theorem dX11_readsProgram_60 : decode cX11_readsProgram 60 = .ok (.sipush 600, 3) := by decide +kernel
theorem dX11_readsProgram_63 : decode cX11_readsProgram 63 = .ok (.invokevirtual 310, 3) := by decide +kernel
theorem dX11_readsProgram_66 : decode cX11_readsProgram 66 = .ok (.aload_n 0, 1) := by decide +kernel
theorem dX11_readsProgram_67 : decode cX11_readsProgram 67 = .ok (.invokevirtual 313, 3) := by decide +kernel
theorem dX11_readsProgram_70 : decode cX11_readsProgram 70 = .ok (.ifCond .eq 51, 3) := by decide +kernel
theorem dX11_readsProgram_73 : decode cX11_readsProgram 73 = .ok (.aload_n 0, 1) := by decide +kernel
theorem dX11_readsProgram_74 : decode cX11_readsProgram 74 = .ok (.getfield 286, 3) := by decide +kernel
theorem dX11_readsProgram_77 : decode cX11_readsProgram 77 = .ok (.ifCond .gt 14, 3) := by decide +kernel
theorem dX11_readsProgram_80 : decode cX11_readsProgram 80 = .ok (.aload_n 0, 1) := by decide +kernel
theorem dX11_readsProgram_81 : decode cX11_readsProgram 81 = .ok (.invokevirtual 306, 3) := by decide +kernel
theorem dX11_readsProgram_84 : decode cX11_readsProgram 84 = .ok (.aload_n 0, 1) := by decide +kernel
theorem dX11_readsProgram_85 : decode cX11_readsProgram 85 = .ok (.getfield 292, 3) := by decide +kernel
theorem dX11_readsProgram_88 : decode cX11_readsProgram 88 = .ok (.if_icmp .ge 33, 3) := by decide +kernel
theorem dX11_readsProgram_91 : decode cX11_readsProgram 91 = .ok (.aload_n 0, 1) := by decide +kernel
theorem dX11_readsProgram_92 : decode cX11_readsProgram 92 = .ok (.getfield 286, 3) := by decide +kernel
theorem dX11_readsProgram_95 : decode cX11_readsProgram 95 = .ok (.ifCond .le 19, 3) := by decide +kernel
theorem dX11_readsProgram_98 : decode cX11_readsProgram 98 = .ok (.aload_n 0, 1) := by decide +kernel
theorem dX11_readsProgram_99 : decode cX11_readsProgram 99 = .ok (.bipush 93, 2) := by decide +kernel
theorem dX11_readsProgram_101 : decode cX11_readsProgram 101 = .ok (.invokevirtual 317, 3) := by decide +kernel
theorem dX11_readsProgram_104 : decode cX11_readsProgram 104 = .ok (.ifCond .eq 10, 3) := by decide +kernel
theorem dX11_readsProgram_107 : decode cX11_readsProgram 107 = .ok (.aload_n 0, 1) := by decide +kernel
theorem dX11_readsProgram_108 : decode cX11_readsProgram 108 = .ok (.invokevirtual 376, 3) := by decide +kernel
theorem dX11_readsProgram_111 : decode cX11_readsProgram 111 = .ok (.goto (-45), 3) := by decide +kernel
theorem dX11_readsProgram_114 : decode cX11_readsProgram 114 = .ok (.aload_n 0, 1) := by decide +kernel
theorem dX11_readsProgram_115 : decode cX11_readsProgram 115 = .ok (.invokevirtual 379, 3) := by decide +kernel
theorem dX11_readsProgram_118 : decode cX11_readsProgram 118 = .ok (.goto (-52), 3) := by decide +kernel
theorem dX11_readsProgram_121 : decode cX11_readsProgram 121 = .ok (.aload_n 0, 1) := by decide +kernel
theorem dX11_readsProgram_122 : decode cX11_readsProgram 122 = .ok (.aload_n 0, 1) := by decide +kernel
theorem dX11_readsProgram_123 : decode cX11_readsProgram 123 = .ok (.getfield 280, 3) := by decide +kernel
theorem dX11_readsProgram_126 : decode cX11_readsProgram 126 = .ok (.putfield 382, 3) := by decide +kernel
theorem dX11_readsProgram_129 : decode cX11_readsProgram 129 = .ok (.aload_n 0, 1) := by decide +kernel
theorem dX11_readsProgram_130 : decode cX11_readsProgram 130 = .ok (.aload_n 0, 1) := by decide +kernel
theorem dX11_readsProgram_131 : decode cX11_readsProgram 131 = .ok (.getfield 283, 3) := by decide +kernel
theorem dX11_readsProgram_134 : decode cX11_readsProgram 134 = .ok (.putfield 54, 3) := by decide +kernel
theorem dX11_readsProgram_137 : decode cX11_readsProgram 137 = .ok (.aload_n 0, 1) := by decide +kernel
theorem dX11_readsProgram_138 : decode cX11_readsProgram 138 = .ok (.aload_n 0, 1) := by decide +kernel
theorem dX11_readsProgram_139 : decode cX11_readsProgram 139 = .ok (.getfield 289, 3) := by decide +kernel
theorem dX11_readsProgram_142 : decode cX11_readsProgram 142 = .ok (.putfield 58, 3) := by decide +kernel
theorem dX11_readsProgram_145 : decode cX11_readsProgram 145 = .ok (.return_, 1) := by decide +kernel
def own_c_readsProgram : List Cond := [.methodLink RX11 313 yX11_isFine, .instanceMethod yX11_isFine, .selects RX11 yX11_isFine yX11_isFine, .initialized RX11, .fieldLink RX11 286 "ClashFreeModel" "blocks" "I", .methodLink RX11 379 yX11_statement, .instanceMethod yX11_statement, .selects RX11 yX11_statement yX11_statement, .methodLink RX11 317 yX11_isSign, .instanceMethod yX11_isSign, .selects RX11 yX11_isSign yX11_isSign, .methodLink RX11 376 yX11_closesBlock, .instanceMethod yX11_closesBlock, .selects RX11 yX11_closesBlock yX11_closesBlock, .methodLink RX11 306 yX11_next, .instanceMethod yX11_next, .selects RX11 yX11_next yX11_next, .fieldLink RX11 292 "ClashFreeModel" "size" "I", .fieldLink RX11 76 "ClashFreeModel" "taped" "I", .fieldLink RX11 303 "ClashFreeModel" "at" "I", .fieldLink RX11 326 "ClashFreeModel" "ended" "I", .fieldLink RX11 280 "ClashFreeModel" "bad" "I", .fieldLink RX11 283 "ClashFreeModel" "badPlace" "I", .fieldLink RX11 289 "ClashFreeModel" "badDepth" "I", .fieldLink RX11 335 "ClashFreeModel" "coded" "I", .fieldLink RX11 382 "ClashFreeModel" "faultKind" "I", .fieldLink RX11 54 "ClashFreeModel" "faultPlace" "I", .fieldLink RX11 58 "ClashFreeModel" "faultDepth" "I", .methodLink RX11 310 yX11_fail, .instanceMethod yX11_fail, .selects RX11 yX11_fail yX11_fail]
def wp_c_readsProgram : List Cond := .code yX11_readsProgram cX11_readsProgram 1 none :: (own_c_readsProgram ++ (wp_c_isFine ++ (wp_c_statement ++ (wp_c_isSign ++ (wp_c_closesBlock ++ (wp_c_next ++ (wp_c_fail ++ (wsX110 ++ ([] : List Cond)))))))))
set_option maxRecDepth 20000 in
theorem inown_c_readsProgram : ∀ w ∈ own_c_readsProgram, w ∈ lw_tbl := mem_places [1669, 1671, 74, 115, 1243, 1697, 1699, 81, 1677, 1679, 76, 1681, 1683, 77, 1673, 1675, 75, 1237, 1218, 1238, 1239, 1240, 1241, 1242, 1236, 1248, 1249, 1250, 1665, 1667, 73] (by decide +kernel)
set_option maxRecDepth 20000 in
theorem in_c_readsProgram : ∀ w ∈ wp_c_readsProgram, w ∈ lw_tbl := List.forall_mem_cons.mpr ⟨List.mem_of_getElem? (i := 1664) (by decide +kernel), List.forall_mem_append.mpr ⟨inown_c_readsProgram, List.forall_mem_append.mpr ⟨in_c_isFine, List.forall_mem_append.mpr ⟨in_c_statement, List.forall_mem_append.mpr ⟨in_c_isSign, List.forall_mem_append.mpr ⟨in_c_closesBlock, List.forall_mem_append.mpr ⟨in_c_next, List.forall_mem_append.mpr ⟨in_c_fail, List.forall_mem_append.mpr ⟨lwb_X11, fun _ h => absurd h List.not_mem_nil⟩⟩⟩⟩⟩⟩⟩⟩⟩
set_option maxRecDepth 20000 in
theorem good_c_readsProgram : wp_c_readsProgram.all goodWord = true := by decide +kernel
set_option maxRecDepth 20000 in
theorem g_c_readsProgram_c_isFine_313 : GoodIn wp_c_readsProgram (wsV RX11 313 RX11 yX11_isFine wp_c_isFine) := goodIn_sub (List.forall_mem_append.mpr ⟨List.forall_mem_cons.mpr ⟨(List.mem_of_getElem? (i := 1) rfl), List.forall_mem_cons.mpr ⟨(List.mem_of_getElem? (i := 2) rfl), List.forall_mem_cons.mpr ⟨(List.mem_of_getElem? (i := 3) rfl), List.forall_mem_cons.mpr ⟨(List.mem_of_getElem? (i := 4) rfl), fun _ h => absurd h List.not_mem_nil⟩⟩⟩⟩, (fun _ h => (List.mem_cons_of_mem _ (List.mem_append_right _ (List.mem_append_left _ h))))⟩) (by decide +kernel)
set_option maxRecDepth 20000 in
theorem g_c_readsProgram_c_statement_379 : GoodIn wp_c_readsProgram (wsV RX11 379 RX11 yX11_statement wp_c_statement) := goodIn_sub (List.forall_mem_append.mpr ⟨List.forall_mem_cons.mpr ⟨(List.mem_of_getElem? (i := 6) rfl), List.forall_mem_cons.mpr ⟨(List.mem_of_getElem? (i := 7) rfl), List.forall_mem_cons.mpr ⟨(List.mem_of_getElem? (i := 8) rfl), List.forall_mem_cons.mpr ⟨(List.mem_of_getElem? (i := 4) rfl), fun _ h => absurd h List.not_mem_nil⟩⟩⟩⟩, (fun _ h => (List.mem_cons_of_mem _ (List.mem_append_right _ (List.mem_append_right _ (List.mem_append_left _ h)))))⟩) (by decide +kernel)
set_option maxRecDepth 20000 in
theorem g_c_readsProgram_c_isSign_317 : GoodIn wp_c_readsProgram (wsV RX11 317 RX11 yX11_isSign wp_c_isSign) := goodIn_sub (List.forall_mem_append.mpr ⟨List.forall_mem_cons.mpr ⟨(List.mem_of_getElem? (i := 9) rfl), List.forall_mem_cons.mpr ⟨(List.mem_of_getElem? (i := 10) rfl), List.forall_mem_cons.mpr ⟨(List.mem_of_getElem? (i := 11) rfl), List.forall_mem_cons.mpr ⟨(List.mem_of_getElem? (i := 4) rfl), fun _ h => absurd h List.not_mem_nil⟩⟩⟩⟩, (fun _ h => (List.mem_cons_of_mem _ (List.mem_append_right _ (List.mem_append_right _ (List.mem_append_right _ (List.mem_append_left _ h))))))⟩) (by decide +kernel)
set_option maxRecDepth 20000 in
theorem g_c_readsProgram_c_closesBlock_376 : GoodIn wp_c_readsProgram (wsV RX11 376 RX11 yX11_closesBlock wp_c_closesBlock) := goodIn_sub (List.forall_mem_append.mpr ⟨List.forall_mem_cons.mpr ⟨(List.mem_of_getElem? (i := 12) rfl), List.forall_mem_cons.mpr ⟨(List.mem_of_getElem? (i := 13) rfl), List.forall_mem_cons.mpr ⟨(List.mem_of_getElem? (i := 14) rfl), List.forall_mem_cons.mpr ⟨(List.mem_of_getElem? (i := 4) rfl), fun _ h => absurd h List.not_mem_nil⟩⟩⟩⟩, (fun _ h => (List.mem_cons_of_mem _ (List.mem_append_right _ (List.mem_append_right _ (List.mem_append_right _ (List.mem_append_right _ (List.mem_append_left _ h)))))))⟩) (by decide +kernel)
set_option maxRecDepth 20000 in
theorem g_c_readsProgram_c_next_306 : GoodIn wp_c_readsProgram (wsV RX11 306 RX11 yX11_next wp_c_next) := goodIn_sub (List.forall_mem_append.mpr ⟨List.forall_mem_cons.mpr ⟨(List.mem_of_getElem? (i := 15) rfl), List.forall_mem_cons.mpr ⟨(List.mem_of_getElem? (i := 16) rfl), List.forall_mem_cons.mpr ⟨(List.mem_of_getElem? (i := 17) rfl), List.forall_mem_cons.mpr ⟨(List.mem_of_getElem? (i := 4) rfl), fun _ h => absurd h List.not_mem_nil⟩⟩⟩⟩, (fun _ h => (List.mem_cons_of_mem _ (List.mem_append_right _ (List.mem_append_right _ (List.mem_append_right _ (List.mem_append_right _ (List.mem_append_right _ (List.mem_append_left _ h))))))))⟩) (by decide +kernel)
set_option maxRecDepth 20000 in
theorem g_c_readsProgram_c_fail_310 : GoodIn wp_c_readsProgram (wsV RX11 310 RX11 yX11_fail wp_c_fail) := goodIn_sub (List.forall_mem_append.mpr ⟨List.forall_mem_cons.mpr ⟨(List.mem_of_getElem? (i := 29) rfl), List.forall_mem_cons.mpr ⟨(List.mem_of_getElem? (i := 30) rfl), List.forall_mem_cons.mpr ⟨(List.mem_of_getElem? (i := 31) rfl), List.forall_mem_cons.mpr ⟨(List.mem_of_getElem? (i := 4) rfl), fun _ h => absurd h List.not_mem_nil⟩⟩⟩⟩, (fun _ h => (List.mem_cons_of_mem _ (List.mem_append_right _ (List.mem_append_right _ (List.mem_append_right _ (List.mem_append_right _ (List.mem_append_right _ (List.mem_append_right _ (List.mem_append_left _ h)))))))))⟩) (by decide +kernel)
set_option maxHeartbeats 4000000 in
set_option maxRecDepth 100000 in
theorem lp_rp (l : Launch) {p : Program} {e : Env} {s : State} {m : MethodId} {args : Array Value} {below : List Frame} {meth : Method} {c : Code} {Q : State → Prop} {A : Nat → Prop} (D : va_G) (h0 : Nat) (a : Nat → Nat) (cm : Nat → ClassId) (i : Nat → Int32) (g : Nat → Int64) (fT : Nat → Int32) (tp : Nat) (bt : Nat → Nat) (vz : Option (SM × RC)) (htp2 : tp ≤ 1400) (hbt : TieB fT bt) (hx : p.tables.exec = Jvm.exec) (hb : c.code = cX11_readsProgram) (hml : c.maxLocals = 1) (hown : s.vm.findClass RX11 = some m.cls) (hts : ∀ w ∈ wp_c_readsProgram, w.before args s = true) (hA : ∀ q, s.heap.size ≤ q → A q) (hK : va_K D vwCl [(cm 1, .byte), (cm 19, .int), (cm 28, .int), (cm 29, .int)] s) (kx121 : ∀ (c2 : Nat), ∀ (ya : Nat), ∀ (yn : Int32), ∀ (yd : Int32), ∀ (ye : Int32), ∀ (yf : Int32), ∀ (yk : Nat), ∀ (yp : Nat), ∀ (yb : Int32), ∀ (gc : Nat → Int32), ∀ (go : Nat → Int32), ∀ (gl : Nat → Int32), (yd = 0 → c2 ≤ 600 ∧ PSt gc go c2 0 0) → ((yd = 0 ∧ ∃ z y, vz = some (z, y) ∧ MatR y c2 gc) ∨ (¬ yd = 0 ∧ vz = none)) → ∀ (H : Heap) (locs : List Loc) (ls : Array Slot), va_P D vwCl [(h0, .inr (11, gP a (upd i 2 0) g (nI c2) (nI tp) (nI ya) yn yd ye yf (nI yk) (nI yp) yb)), (a 1, .inl (cm 1, 1400, .inl fT)), (a 19, .inl (cm 19, 2000, .inl gc)), (a 28, .inl (cm 28, 6, .inl go)), (a 29, .inl (cm 29, 700, .inl gl))] H → va_D A [(h0, .inr (11, gP a (upd i 2 0) g (nI c2) (nI tp) (nI ya) yn yd ye yf (nI yk) (nI yp) yb)), (a 1, .inl (cm 1, 1400, .inl fT)), (a 19, .inl (cm 19, 2000, .inl gc)), (a 28, .inl (cm 28, 6, .inl go)), (a 29, .inl (cm 29, 700, .inl gl))] → va_S A s.heap H locs → lv_has ls 1 [(0, .ref h0)] → W p l e ({ frames := 8, cells := 0, slots := 0, locals := 260 }) s m args below meth c H locs 0 0 Q (F0 m 121 ls [])) : ∀ (N : Nat), ∀ (c2 : Nat), ∀ (ya : Nat), ∀ (yn : Int32), ∀ (yd : Int32), ∀ (ye : Int32), ∀ (yf : Int32), ∀ (yk : Nat), ∀ (yp : Nat), ∀ (yb : Int32), ∀ (gc : Nat → Int32), ∀ (go : Nat → Int32), ∀ (gl : Nat → Int32), (c2 ≤ ya) → (ya ≤ tp) → (yk ≤ 5) → (yd = 0 → tp ≤ 600 ∧ PSt gc go c2 yk 0) → (yd = 0 → TR bt tp vz 0 0 c2 gc yk go ya yn) → (¬ yd = 0 → vz = none) → (if yd = 0 then (tp - ya) + 1 else 0) < N → ∀ (H : Heap) (locs : List Loc) (ls : Array Slot), va_P D vwCl [(h0, .inr (11, gP a (upd i 2 0) g (nI c2) (nI tp) (nI ya) yn yd ye yf (nI yk) (nI yp) yb)), (a 1, .inl (cm 1, 1400, .inl fT)), (a 19, .inl (cm 19, 2000, .inl gc)), (a 28, .inl (cm 28, 6, .inl go)), (a 29, .inl (cm 29, 700, .inl gl))] H → va_D A [(h0, .inr (11, gP a (upd i 2 0) g (nI c2) (nI tp) (nI ya) yn yd ye yf (nI yk) (nI yp) yb)), (a 1, .inl (cm 1, 1400, .inl fT)), (a 19, .inl (cm 19, 2000, .inl gc)), (a 28, .inl (cm 28, 6, .inl go)), (a 29, .inl (cm 29, 700, .inl gl))] → va_S A s.heap H locs → lv_has ls 1 [(0, .ref h0)] → W p l e ({ frames := 8, cells := 0, slots := 0, locals := 260 }) s m args below meth c H locs 0 0 Q (F0 m 66 ls []) := by
  have hin_X11 : ∀ w ∈ wsX110, w ∈ wp_c_readsProgram := fun _ h => (List.mem_cons_of_mem _ (List.mem_append_right _ (List.mem_append_right _ (List.mem_append_right _ (List.mem_append_right _ (List.mem_append_right _ (List.mem_append_right _ (List.mem_append_right _ (List.mem_append_left _ h)))))))))
  intro N
  induction N with
  | zero =>
    intro c2 ya yn yd ye yf yk yp yb gc go gl hi1 hi2 hi5 hWl hVl hNl hm
    exact absurd hm (Nat.not_lt_zero _)
  | succ N ih =>
    intro c2 ya yn yd ye yf yk yp yb gc go gl hi1 hi2 hi5 hWl hVl hNl hm H locs ls hP hD hS hl
    refine lv_aload_n hx hb dX11_readsProgram_66 rfl (lv_at hl 0 rfl) ?_
    have hPc := hP.sub (ws' := [(h0, .inr (11, gP a (upd i 2 0) g (nI c2) (nI tp) (nI ya) yn yd ye yf (nI yk) (nI yp) yb))]) [0] rfl
    have hKc := hK.sub (tys' := []) [] rfl
    have hFc := va_free0 hS hA
    refine va_calli (va_runV (As := []) (rest := []) ⟨hx, hb, hml, hown, hts⟩ (c_isFine l D _ h0 a cm (upd i 2 0) g c2 tp ya yn yd ye yf yk yp yb) (cwV 0 hts g_c_readsProgram_c_isFine_313 rfl rfl rfl (by decide +kernel) ⟨(Nat.le_of_ble_eq_true rfl), (Nat.le_of_ble_eq_true rfl)⟩) (PcR_V (q0 := 0) hPc hKc rfl rfl) rfl rfl hl.1 rfl (lv_room (Nat.le_of_ble_eq_true rfl)) dX11_readsProgram_67 ⟨(Nat.le_of_ble_eq_true rfl), (Nat.le_of_ble_eq_true rfl)⟩) hS (fun q _ h => hFc q h) hFc (fun r1 uu tt H locs htt hvm hw hB hz1 hk1 hS => ?_)
    have hP := va_keep hP hk1
    try dsimp only at hw
    clear hB hz1 hk1 hFc hPc hKc
    rcases hw with ⟨rfl, hA_r1⟩ | ⟨rfl, hA_r1⟩
    ·
      have hz6 := (hWl hA_r1).1
      have hWs := (hWl hA_r1).2
      have hVs := hVl hA_r1
      refine lv_if_eq (tgt := 121) hx hb dX11_readsProgram_70 (by decide) (fun hc => absurd hc (by decide)) (fun hc => ?_)
      refine lv_aload_n hx hb dX11_readsProgram_73 rfl (lv_at hl 0 rfl) ?_
      refine va_get (D := D) (ci := 11) (v := .int (nI yk)) (C := RX11) (T := TX11) (N := 47) hx hb hts hin_X11 hown hK hP 0 rfl rfl 27 (by decide) (hts (.fieldLink RX11 286 "ClashFreeModel" "blocks" "I") (List.mem_of_getElem? (i := 5) rfl)) (fun _ h9 => h9) rfl dX11_readsProgram_74 ?_
      refine lv_if_gt (tgt := 91) hx hb dX11_readsProgram_77 (by decide) (fun hc2 => ?_) (fun hc2 => ?_)
      ·
        have hk7 : 0 < yk := (nI_ltI (a := 0) (by decide) (by omega)).mp hc2
        refine lv_aload_n hx hb dX11_readsProgram_91 rfl (lv_at hl 0 rfl) ?_
        refine va_get (D := D) (ci := 11) (v := .int (nI yk)) (C := RX11) (T := TX11) (N := 47) hx hb hts hin_X11 hown hK hP 0 rfl rfl 27 (by decide) (hts (.fieldLink RX11 286 "ClashFreeModel" "blocks" "I") (List.mem_of_getElem? (i := 5) rfl)) (fun _ h9 => h9) rfl dX11_readsProgram_92 ?_
        refine lv_if_le (tgt := 114) hx hb dX11_readsProgram_95 (by decide) (fun hc3 => ?_) (fun hc3 => ?_)
        ·
          have hk9 : yk = 0 := by
            have := (nI_leI (b := 0) (by omega) (by decide)).mp hc3
            omega
          refine lv_aload_n hx hb dX11_readsProgram_114 rfl (lv_at hl 0 rfl) ?_
          have hPc := hP.sub (ws' := [(h0, .inr (11, gP a (upd i 2 0) g (nI c2) (nI tp) (nI ya) yn yd ye yf (nI yk) (nI yp) yb)), (a 1, .inl (cm 1, 1400, .inl fT)), (a 19, .inl (cm 19, 2000, .inl gc)), (a 28, .inl (cm 28, 6, .inl go)), (a 29, .inl (cm 29, 700, .inl gl))]) [0, 1, 2, 3, 4] rfl
          have hKc := hK.sub (tys' := [(cm 1, .byte), (cm 19, .int), (cm 28, .int), (cm 29, .int)]) [0, 1, 2, 3] rfl
          have hDc := hD.sub (ws' := [(h0, .inr (11, gP a (upd i 2 0) g (nI c2) (nI tp) (nI ya) yn yd ye yf (nI yk) (nI yp) yb)), (a 1, .inl (cm 1, 1400, .inl fT)), (a 19, .inl (cm 19, 2000, .inl gc)), (a 28, .inl (cm 28, 6, .inl go)), (a 29, .inl (cm 29, 700, .inl gl))]) [0, 1, 2, 3, 4] (by decide) rfl
          have hFc := va_free (wc := [(h0, .inr (11, gP a (upd i 2 0) g (nI c2) (nI tp) (nI ya) yn yd ye yf (nI yk) (nI yp) yb)), (a 1, .inl (cm 1, 1400, .inl fT)), (a 19, .inl (cm 19, 2000, .inl gc)), (a 28, .inl (cm 28, 6, .inl go)), (a 29, .inl (cm 29, 700, .inl gl))]) hD hS hA [0, 1, 2, 3, 4] rfl
          refine va_callv (va_runV (As := []) (rest := []) ⟨hx, hb, hml, hown, hts⟩ (c_statement l D _ h0 a cm (upd i 2 0) g fT gc go gl c2 tp ya yn yd ye yf yk yp yb bt vz hA_r1 (by omega) (by omega) (by omega) (by omega) hWs hbt hVs (fun q => by omega) (fun q => by omega)) (cwV 0 hts g_c_readsProgram_c_statement_379 rfl rfl rfl (by decide +kernel) ⟨(Nat.le_of_ble_eq_true rfl), (Nat.le_of_ble_eq_true rfl)⟩) (PcW_V (q0 := 0) hPc hKc hDc rfl rfl) rfl rfl hl.1 rfl (lv_room (Nat.le_of_ble_eq_true rfl)) dX11_readsProgram_115 ⟨(Nat.le_of_ble_eq_true rfl), (Nat.le_of_ble_eq_true rfl)⟩) hS (fun q _ h => hFc q h) hFc (fun uu tt H locs htt hvm hw hB hz1 hk1 hS => ?_)
          obtain ⟨w5, w6, w7, w8, w9, w10, w11, w12, w13, w14, w15, w16⟩ := uu
          obtain ⟨hP1, hK1, hD1⟩ := hB
          rw [htt] at hP1
          have hK1 := va_K.moved hvm.symm hK1
          have hP1 : va_P D vwCl [(h0, .inr (11, gP a (upd i 2 0) g (nI w8) (nI tp) (nI w9) w10 w11 w12 w13 (nI w14) (nI w15) w16)), (a 1, .inl (cm 1, 1400, .inl fT)), (a 19, .inl (cm 19, 2000, .inl w5)), (a 28, .inl (cm 28, 6, .inl w6)), (a 29, .inl (cm 29, 700, .inl w7))] H := hP1
          obtain ⟨hP, hD⟩ := va_join (wr := []) (w1 := [(h0, .inr (11, gP a (upd i 2 0) g (nI w8) (nI tp) (nI w9) w10 w11 w12 w13 (nI w14) (nI w15) w16)), (a 1, .inl (cm 1, 1400, .inl fT)), (a 19, .inl (cm 19, 2000, .inl w5)), (a 28, .inl (cm 28, 6, .inl w6)), (a 29, .inl (cm 29, 700, .inl w7))]) hP hD [0, 1, 2, 3, 4] [] rfl rfl (by decide) (by decide) hk1 hFc hP1 hD1
          have hP : va_P D vwCl [(h0, .inr (11, gP a (upd i 2 0) g (nI w8) (nI tp) (nI w9) w10 w11 w12 w13 (nI w14) (nI w15) w16)), (a 1, .inl (cm 1, 1400, .inl fT)), (a 19, .inl (cm 19, 2000, .inl w5)), (a 28, .inl (cm 28, 6, .inl w6)), (a 29, .inl (cm 29, 700, .inl w7))] H := hP
          have hD : va_D A [(h0, .inr (11, gP a (upd i 2 0) g (nI w8) (nI tp) (nI w9) w10 w11 w12 w13 (nI w14) (nI w15) w16)), (a 1, .inl (cm 1, 1400, .inl fT)), (a 19, .inl (cm 19, 2000, .inl w5)), (a 28, .inl (cm 28, 6, .inl w6)), (a 29, .inl (cm 29, 700, .inl w7))] := hD
          try dsimp only at hw
          clear hz1 hk1 hFc hPc hKc hDc
          obtain ⟨hv17_1, hv17_2, hv17_3, hv17_b, hv17_V, hv17_N⟩ := hw
          refine lv_goto (tgt := 66) hx hb dX11_readsProgram_118 (by decide) ?_
          exact ih w8 w9 w10 w11 w12 w13 w14 w15 w16 w5 w6 w7 (by omega) (by omega) (by omega) (fun z => ⟨hz6, (hv17_b z).2⟩) (hv17_V) (hv17_N) (mif hm hA_r1 (fun z => by have := (hv17_b z).1; omega)) H locs ls (hP.sub [0, 1, 2, 3, 4] rfl) (hD.sub [0, 1, 2, 3, 4] (by decide) rfl) hS (lv_sub hl [0] rfl)
        ·
          have hk1 : 1 ≤ yk := by
            rcases Nat.eq_zero_or_pos yk with z | z
            · exact absurd (by rw [z]; decide) hc3
            · exact z
          refine lv_aload_n hx hb dX11_readsProgram_98 rfl (lv_at hl 0 rfl) ?_
          refine lv_bipush (v := 93) hx hb dX11_readsProgram_99 (by decide) ?_
          have hPc := hP.sub (ws' := [(h0, .inr (11, gP a (upd i 2 0) g (nI c2) (nI tp) (nI ya) yn yd ye yf (nI yk) (nI yp) yb)), (a 1, .inl (cm 1, 1400, .inl fT))]) [0, 1] rfl
          have hKc := hK.sub (tys' := [(cm 1, .byte)]) [0] rfl
          have hDc := hD.sub (ws' := [(h0, .inr (11, gP a (upd i 2 0) g (nI c2) (nI tp) (nI ya) yn yd ye yf (nI yk) (nI yp) yb)), (a 1, .inl (cm 1, 1400, .inl fT))]) [0, 1] (by decide) rfl
          have hFc := va_free (wc := [(h0, .inr (11, gP a (upd i 2 0) g (nI c2) (nI tp) (nI ya) yn yd ye yf (nI yk) (nI yp) yb)), (a 1, .inl (cm 1, 1400, .inl fT))]) hD hS hA [0, 1] rfl
          refine va_calli (va_runV (As := [.int 93]) (rest := []) ⟨hx, hb, hml, hown, hts⟩ (c_isSign l D _ h0 a cm (upd i 2 0) g fT c2 tp ya yn yd ye yf yk yp yb 93 93 bt (by omega) (by omega) hbt rfl (by decide)) (cwV 1 hts g_c_readsProgram_c_isSign_317 rfl rfl rfl (by decide +kernel) ⟨(Nat.le_of_ble_eq_true rfl), (Nat.le_of_ble_eq_true rfl)⟩) (PcW_V (q0 := 0) hPc hKc hDc rfl rfl) rfl rfl hl.1 rfl (lv_room (Nat.le_of_ble_eq_true rfl)) dX11_readsProgram_101 ⟨(Nat.le_of_ble_eq_true rfl), (Nat.le_of_ble_eq_true rfl)⟩) hS (fun q _ h => hFc q h) hFc (fun r18 uu tt H locs htt hvm hw hB hz1 hk1 hS => ?_)
          obtain ⟨w19, rfl⟩ : ∃ z, z = uu := ⟨_, rfl⟩
          obtain ⟨hP1, hK1, hD1⟩ := hB
          rw [htt] at hP1
          have hK1 := va_K.moved hvm.symm hK1
          have hP1 : va_P D vwCl [(h0, .inr (11, gP a (upd i 2 0) g (nI c2) (nI tp) (nI w19) yn yd ye yf (nI yk) (nI yp) yb)), (a 1, .inl (cm 1, 1400, .inl fT))] H := hP1
          obtain ⟨hP, hD⟩ := va_join (wr := [(a 19, .inl (cm 19, 2000, .inl gc)), (a 28, .inl (cm 28, 6, .inl go)), (a 29, .inl (cm 29, 700, .inl gl))]) (w1 := [(h0, .inr (11, gP a (upd i 2 0) g (nI c2) (nI tp) (nI w19) yn yd ye yf (nI yk) (nI yp) yb)), (a 1, .inl (cm 1, 1400, .inl fT))]) hP hD [0, 1] [2, 3, 4] rfl rfl (by decide) (by decide) hk1 hFc hP1 hD1
          have hP : va_P D vwCl [(a 19, .inl (cm 19, 2000, .inl gc)), (a 28, .inl (cm 28, 6, .inl go)), (a 29, .inl (cm 29, 700, .inl gl)), (h0, .inr (11, gP a (upd i 2 0) g (nI c2) (nI tp) (nI w19) yn yd ye yf (nI yk) (nI yp) yb)), (a 1, .inl (cm 1, 1400, .inl fT))] H := hP
          have hD : va_D A [(a 19, .inl (cm 19, 2000, .inl gc)), (a 28, .inl (cm 28, 6, .inl go)), (a 29, .inl (cm 29, 700, .inl gl)), (h0, .inr (11, gP a (upd i 2 0) g (nI c2) (nI tp) (nI w19) yn yd ye yf (nI yk) (nI yp) yb)), (a 1, .inl (cm 1, 1400, .inl fT))] := hD
          try dsimp only at hw
          clear hz1 hk1 hFc hPc hKc hDc
          rcases hw with ⟨rfl, hA_r18⟩ | ⟨rfl, hA_r18⟩
          ·
            obtain ⟨hA_r18_1, hA_r18_2, hA_r18_e, hA_r18_s⟩ := hA_r18
            have hVs3 : TR bt tp vz 0 0 c2 gc yk go w19 yn := by rw [hA_r18_e]; exact hVs.nx
            refine lv_if_eq (tgt := 114) hx hb dX11_readsProgram_104 (by decide) (fun hc => absurd hc (by decide)) (fun hc => ?_)
            refine lv_aload_n hx hb dX11_readsProgram_107 rfl (lv_at hl 0 rfl) ?_
            have hPc := hP.sub (ws' := [(h0, .inr (11, gP a (upd i 2 0) g (nI c2) (nI tp) (nI w19) yn yd ye yf (nI yk) (nI yp) yb)), (a 1, .inl (cm 1, 1400, .inl fT)), (a 19, .inl (cm 19, 2000, .inl gc)), (a 28, .inl (cm 28, 6, .inl go))]) [3, 4, 0, 1] rfl
            have hKc := hK.sub (tys' := [(cm 1, .byte), (cm 19, .int), (cm 28, .int)]) [0, 1, 2] rfl
            have hDc := hD.sub (ws' := [(h0, .inr (11, gP a (upd i 2 0) g (nI c2) (nI tp) (nI w19) yn yd ye yf (nI yk) (nI yp) yb)), (a 1, .inl (cm 1, 1400, .inl fT)), (a 19, .inl (cm 19, 2000, .inl gc)), (a 28, .inl (cm 28, 6, .inl go))]) [3, 4, 0, 1] (by decide) rfl
            have hFc := va_free (wc := [(h0, .inr (11, gP a (upd i 2 0) g (nI c2) (nI tp) (nI w19) yn yd ye yf (nI yk) (nI yp) yb)), (a 1, .inl (cm 1, 1400, .inl fT)), (a 19, .inl (cm 19, 2000, .inl gc)), (a 28, .inl (cm 28, 6, .inl go))]) hD hS hA [3, 4, 0, 1] rfl
            refine va_callv (va_runV (As := []) (rest := []) ⟨hx, hb, hml, hown, hts⟩ (c_closesBlock l D _ h0 a cm (upd i 2 0) g fT gc go c2 tp w19 yn yd ye yf yk yp yb bt vz hA_r1 (by omega) (by omega) (by omega) (by omega) hWs hbt hVs3 (by omega) (by omega) ((SgP_at hA_r18_e (by omega)).mpr hA_r18_s) ((tkA_w hA_r18_e (by omega)).trans hA_r18_e.symm)) (cwV 0 hts g_c_readsProgram_c_closesBlock_376 rfl rfl rfl (by decide +kernel) ⟨(Nat.le_of_ble_eq_true rfl), (Nat.le_of_ble_eq_true rfl)⟩) (PcW_V (q0 := 0) hPc hKc hDc rfl rfl) rfl rfl hl.1 rfl (lv_room (Nat.le_of_ble_eq_true rfl)) dX11_readsProgram_108 ⟨(Nat.le_of_ble_eq_true rfl), (Nat.le_of_ble_eq_true rfl)⟩) hS (fun q _ h => hFc q h) hFc (fun uu tt H locs htt hvm hw hB hz1 hk1 hS => ?_)
            obtain ⟨w21, w22, w23, w24, w25, w26, w27⟩ := uu
            obtain ⟨hP1, hK1, hD1⟩ := hB
            rw [htt] at hP1
            have hK1 := va_K.moved hvm.symm hK1
            have hP1 : va_P D vwCl [(h0, .inr (11, gP a (upd i 2 0) g (nI w22) (nI tp) (nI w23) yn w24 w25 w26 (nI w27) (nI yp) yb)), (a 1, .inl (cm 1, 1400, .inl fT)), (a 19, .inl (cm 19, 2000, .inl w21)), (a 28, .inl (cm 28, 6, .inl go))] H := hP1
            obtain ⟨hP, hD⟩ := va_join (wr := [(a 29, .inl (cm 29, 700, .inl gl))]) (w1 := [(h0, .inr (11, gP a (upd i 2 0) g (nI w22) (nI tp) (nI w23) yn w24 w25 w26 (nI w27) (nI yp) yb)), (a 1, .inl (cm 1, 1400, .inl fT)), (a 19, .inl (cm 19, 2000, .inl w21)), (a 28, .inl (cm 28, 6, .inl go))]) hP hD [3, 4, 0, 1] [2] rfl rfl (by decide) (by decide) hk1 hFc hP1 hD1
            have hP : va_P D vwCl [(a 29, .inl (cm 29, 700, .inl gl)), (h0, .inr (11, gP a (upd i 2 0) g (nI w22) (nI tp) (nI w23) yn w24 w25 w26 (nI w27) (nI yp) yb)), (a 1, .inl (cm 1, 1400, .inl fT)), (a 19, .inl (cm 19, 2000, .inl w21)), (a 28, .inl (cm 28, 6, .inl go))] H := hP
            have hD : va_D A [(a 29, .inl (cm 29, 700, .inl gl)), (h0, .inr (11, gP a (upd i 2 0) g (nI w22) (nI tp) (nI w23) yn w24 w25 w26 (nI w27) (nI yp) yb)), (a 1, .inl (cm 1, 1400, .inl fT)), (a 19, .inl (cm 19, 2000, .inl w21)), (a 28, .inl (cm 28, 6, .inl go))] := hD
            try dsimp only at hw
            clear hz1 hk1 hFc hPc hKc hDc
            obtain ⟨hv28_1, hv28_2, hv28_3, hv28_b, hv28_V, hv28_N⟩ := hw
            refine lv_goto (tgt := 66) hx hb dX11_readsProgram_111 (by decide) ?_
            exact ih w22 w23 yn w24 w25 w26 w27 yp yb w21 go gl (by omega) (by omega) (by omega) (fun z => ⟨hz6, (hv28_b z).2⟩) (hv28_V) (hv28_N) (mif hm hA_r1 (fun z => by have := (hv28_b z).1; omega)) H locs ls (hP.sub [1, 2, 3, 4, 0] rfl) (hD.sub [1, 2, 3, 4, 0] (by decide) rfl) hS (lv_sub hl [0] rfl)
          ·
            obtain ⟨hA_r18_1, hA_r18_2, hA_r18_e, hA_r18_s⟩ := hA_r18
            have hVs3 : TR bt tp vz 0 0 c2 gc yk go w19 yn := by rw [hA_r18_e]; exact hVs.nx
            refine lv_if_eq (tgt := 114) hx hb dX11_readsProgram_104 (by decide) (fun hc => ?_) (fun hc => absurd (by decide) hc)
            refine lv_aload_n hx hb dX11_readsProgram_114 rfl (lv_at hl 0 rfl) ?_
            have hPc := hP.sub (ws' := [(h0, .inr (11, gP a (upd i 2 0) g (nI c2) (nI tp) (nI w19) yn yd ye yf (nI yk) (nI yp) yb)), (a 1, .inl (cm 1, 1400, .inl fT)), (a 19, .inl (cm 19, 2000, .inl gc)), (a 28, .inl (cm 28, 6, .inl go)), (a 29, .inl (cm 29, 700, .inl gl))]) [3, 4, 0, 1, 2] rfl
            have hKc := hK.sub (tys' := [(cm 1, .byte), (cm 19, .int), (cm 28, .int), (cm 29, .int)]) [0, 1, 2, 3] rfl
            have hDc := hD.sub (ws' := [(h0, .inr (11, gP a (upd i 2 0) g (nI c2) (nI tp) (nI w19) yn yd ye yf (nI yk) (nI yp) yb)), (a 1, .inl (cm 1, 1400, .inl fT)), (a 19, .inl (cm 19, 2000, .inl gc)), (a 28, .inl (cm 28, 6, .inl go)), (a 29, .inl (cm 29, 700, .inl gl))]) [3, 4, 0, 1, 2] (by decide) rfl
            have hFc := va_free (wc := [(h0, .inr (11, gP a (upd i 2 0) g (nI c2) (nI tp) (nI w19) yn yd ye yf (nI yk) (nI yp) yb)), (a 1, .inl (cm 1, 1400, .inl fT)), (a 19, .inl (cm 19, 2000, .inl gc)), (a 28, .inl (cm 28, 6, .inl go)), (a 29, .inl (cm 29, 700, .inl gl))]) hD hS hA [3, 4, 0, 1, 2] rfl
            refine va_callv (va_runV (As := []) (rest := []) ⟨hx, hb, hml, hown, hts⟩ (c_statement l D _ h0 a cm (upd i 2 0) g fT gc go gl c2 tp w19 yn yd ye yf yk yp yb bt vz hA_r1 (by omega) (by omega) (by omega) (by omega) hWs hbt hVs3 (fun q => hA_r18_s ((SgP_at hA_r18_e (by omega)).mp q.2)) (fun q => by omega)) (cwV 0 hts g_c_readsProgram_c_statement_379 rfl rfl rfl (by decide +kernel) ⟨(Nat.le_of_ble_eq_true rfl), (Nat.le_of_ble_eq_true rfl)⟩) (PcW_V (q0 := 0) hPc hKc hDc rfl rfl) rfl rfl hl.1 rfl (lv_room (Nat.le_of_ble_eq_true rfl)) dX11_readsProgram_115 ⟨(Nat.le_of_ble_eq_true rfl), (Nat.le_of_ble_eq_true rfl)⟩) hS (fun q _ h => hFc q h) hFc (fun uu tt H locs htt hvm hw hB hz1 hk1 hS => ?_)
            obtain ⟨w30, w31, w32, w33, w34, w35, w36, w37, w38, w39, w40, w41⟩ := uu
            obtain ⟨hP1, hK1, hD1⟩ := hB
            rw [htt] at hP1
            have hK1 := va_K.moved hvm.symm hK1
            have hP1 : va_P D vwCl [(h0, .inr (11, gP a (upd i 2 0) g (nI w33) (nI tp) (nI w34) w35 w36 w37 w38 (nI w39) (nI w40) w41)), (a 1, .inl (cm 1, 1400, .inl fT)), (a 19, .inl (cm 19, 2000, .inl w30)), (a 28, .inl (cm 28, 6, .inl w31)), (a 29, .inl (cm 29, 700, .inl w32))] H := hP1
            obtain ⟨hP, hD⟩ := va_join (wr := []) (w1 := [(h0, .inr (11, gP a (upd i 2 0) g (nI w33) (nI tp) (nI w34) w35 w36 w37 w38 (nI w39) (nI w40) w41)), (a 1, .inl (cm 1, 1400, .inl fT)), (a 19, .inl (cm 19, 2000, .inl w30)), (a 28, .inl (cm 28, 6, .inl w31)), (a 29, .inl (cm 29, 700, .inl w32))]) hP hD [3, 4, 0, 1, 2] [] rfl rfl (by decide) (by decide) hk1 hFc hP1 hD1
            have hP : va_P D vwCl [(h0, .inr (11, gP a (upd i 2 0) g (nI w33) (nI tp) (nI w34) w35 w36 w37 w38 (nI w39) (nI w40) w41)), (a 1, .inl (cm 1, 1400, .inl fT)), (a 19, .inl (cm 19, 2000, .inl w30)), (a 28, .inl (cm 28, 6, .inl w31)), (a 29, .inl (cm 29, 700, .inl w32))] H := hP
            have hD : va_D A [(h0, .inr (11, gP a (upd i 2 0) g (nI w33) (nI tp) (nI w34) w35 w36 w37 w38 (nI w39) (nI w40) w41)), (a 1, .inl (cm 1, 1400, .inl fT)), (a 19, .inl (cm 19, 2000, .inl w30)), (a 28, .inl (cm 28, 6, .inl w31)), (a 29, .inl (cm 29, 700, .inl w32))] := hD
            try dsimp only at hw
            clear hz1 hk1 hFc hPc hKc hDc
            obtain ⟨hv42_1, hv42_2, hv42_3, hv42_b, hv42_V, hv42_N⟩ := hw
            refine lv_goto (tgt := 66) hx hb dX11_readsProgram_118 (by decide) ?_
            exact ih w33 w34 w35 w36 w37 w38 w39 w40 w41 w30 w31 w32 (by omega) (by omega) (by omega) (fun z => ⟨hz6, (hv42_b z).2⟩) (hv42_V) (hv42_N) (mif hm hA_r1 (fun z => by have := (hv42_b z).1; omega)) H locs ls (hP.sub [0, 1, 2, 3, 4] rfl) (hD.sub [0, 1, 2, 3, 4] (by decide) rfl) hS (lv_sub hl [0] rfl)
      ·
        have hk0 : yk = 0 := by
          rcases Nat.eq_zero_or_pos yk with z | z
          · exact z
          · exact absurd (nI_lt (a := 0) z (by omega)) hc2
        refine lv_aload_n hx hb dX11_readsProgram_80 rfl (lv_at hl 0 rfl) ?_
        have hPc := hP.sub (ws' := [(h0, .inr (11, gP a (upd i 2 0) g (nI c2) (nI tp) (nI ya) yn yd ye yf (nI yk) (nI yp) yb)), (a 1, .inl (cm 1, 1400, .inl fT))]) [0, 1] rfl
        have hKc := hK.sub (tys' := [(cm 1, .byte)]) [0] rfl
        have hDc := hD.sub (ws' := [(h0, .inr (11, gP a (upd i 2 0) g (nI c2) (nI tp) (nI ya) yn yd ye yf (nI yk) (nI yp) yb)), (a 1, .inl (cm 1, 1400, .inl fT))]) [0, 1] (by decide) rfl
        have hFc := va_free (wc := [(h0, .inr (11, gP a (upd i 2 0) g (nI c2) (nI tp) (nI ya) yn yd ye yf (nI yk) (nI yp) yb)), (a 1, .inl (cm 1, 1400, .inl fT))]) hD hS hA [0, 1] rfl
        refine va_calli (va_runV (As := []) (rest := []) ⟨hx, hb, hml, hown, hts⟩ (c_next l D _ h0 a cm (upd i 2 0) g fT c2 tp ya yn yd ye yf yk yp yb bt (by omega) (by omega) hbt) (cwV 0 hts g_c_readsProgram_c_next_306 rfl rfl rfl (by decide +kernel) ⟨(Nat.le_of_ble_eq_true rfl), (Nat.le_of_ble_eq_true rfl)⟩) (PcW_V (q0 := 0) hPc hKc hDc rfl rfl) rfl rfl hl.1 rfl (lv_room (Nat.le_of_ble_eq_true rfl)) dX11_readsProgram_81 ⟨(Nat.le_of_ble_eq_true rfl), (Nat.le_of_ble_eq_true rfl)⟩) hS (fun q _ h => hFc q h) hFc (fun r43 uu tt H locs htt hvm hw hB hz1 hk1 hS => ?_)
        obtain ⟨w44, rfl⟩ : ∃ z, z = uu := ⟨_, rfl⟩
        obtain ⟨hP1, hK1, hD1⟩ := hB
        rw [htt] at hP1
        have hK1 := va_K.moved hvm.symm hK1
        have hP1 : va_P D vwCl [(h0, .inr (11, gP a (upd i 2 0) g (nI c2) (nI tp) (nI w44) yn yd ye yf (nI yk) (nI yp) yb)), (a 1, .inl (cm 1, 1400, .inl fT))] H := hP1
        obtain ⟨hP, hD⟩ := va_join (wr := [(a 19, .inl (cm 19, 2000, .inl gc)), (a 28, .inl (cm 28, 6, .inl go)), (a 29, .inl (cm 29, 700, .inl gl))]) (w1 := [(h0, .inr (11, gP a (upd i 2 0) g (nI c2) (nI tp) (nI w44) yn yd ye yf (nI yk) (nI yp) yb)), (a 1, .inl (cm 1, 1400, .inl fT))]) hP hD [0, 1] [2, 3, 4] rfl rfl (by decide) (by decide) hk1 hFc hP1 hD1
        have hP : va_P D vwCl [(a 19, .inl (cm 19, 2000, .inl gc)), (a 28, .inl (cm 28, 6, .inl go)), (a 29, .inl (cm 29, 700, .inl gl)), (h0, .inr (11, gP a (upd i 2 0) g (nI c2) (nI tp) (nI w44) yn yd ye yf (nI yk) (nI yp) yb)), (a 1, .inl (cm 1, 1400, .inl fT))] H := hP
        have hD : va_D A [(a 19, .inl (cm 19, 2000, .inl gc)), (a 28, .inl (cm 28, 6, .inl go)), (a 29, .inl (cm 29, 700, .inl gl)), (h0, .inr (11, gP a (upd i 2 0) g (nI c2) (nI tp) (nI w44) yn yd ye yf (nI yk) (nI yp) yb)), (a 1, .inl (cm 1, 1400, .inl fT))] := hD
        try dsimp only at hw
        clear hz1 hk1 hFc hPc hKc hDc
        obtain ⟨rfl, hn45_1, hn45_2, hn45_e⟩ := hw
        have hVs2 : TR bt tp vz 0 0 c2 gc yk go w44 yn := by rw [hn45_e]; exact hVs.nx
        refine lv_aload_n hx hb dX11_readsProgram_84 rfl (lv_at hl 0 rfl) ?_
        refine va_get (D := D) (ci := 11) (v := .int (nI tp)) (C := RX11) (T := TX11) (N := 47) hx hb hts hin_X11 hown hK hP 3 rfl rfl 21 (by decide) (hts (.fieldLink RX11 292 "ClashFreeModel" "size" "I") (List.mem_of_getElem? (i := 18) rfl)) (fun _ h9 => h9) rfl dX11_readsProgram_85 ?_
        refine lv_icmp_ge (tgt := 121) hx hb dX11_readsProgram_88 (by decide) (fun hc46 => ?_) (fun hc46 => ?_)
        ·
          have hlt9 : tp ≤ w44 := (nI_leI (by omega) (by omega)).mp hc46
          exact kx121 c2 w44 yn yd ye yf yk yp yb gc go gl (fun z => ⟨by omega, hk0 ▸ hWs⟩) (Or.inl ⟨hA_r1, hVs.end hk0 (by rw [← hn45_e]; omega)⟩) H locs ls (hP.sub [3, 4, 0, 1, 2] rfl) (hD.sub [3, 4, 0, 1, 2] (by decide) rfl) hS (lv_sub hl [0] rfl)
        ·
          have hlt9 : w44 < tp := by
            rcases Nat.lt_or_ge w44 (tp) with z | z
            · exact z
            · exact absurd (nI_le z (by omega)) hc46
          refine lv_aload_n hx hb dX11_readsProgram_91 rfl (lv_at hl 0 rfl) ?_
          refine va_get (D := D) (ci := 11) (v := .int (nI yk)) (C := RX11) (T := TX11) (N := 47) hx hb hts hin_X11 hown hK hP 3 rfl rfl 27 (by decide) (hts (.fieldLink RX11 286 "ClashFreeModel" "blocks" "I") (List.mem_of_getElem? (i := 5) rfl)) (fun _ h9 => h9) rfl dX11_readsProgram_92 ?_
          refine lv_if_le (tgt := 114) hx hb dX11_readsProgram_95 (by decide) (fun hc47 => ?_) (fun hc47 => ?_)
          ·
            have hk9 : yk = 0 := by
              have := (nI_leI (b := 0) (by omega) (by decide)).mp hc47
              omega
            refine lv_aload_n hx hb dX11_readsProgram_114 rfl (lv_at hl 0 rfl) ?_
            have hPc := hP.sub (ws' := [(h0, .inr (11, gP a (upd i 2 0) g (nI c2) (nI tp) (nI w44) yn yd ye yf (nI yk) (nI yp) yb)), (a 1, .inl (cm 1, 1400, .inl fT)), (a 19, .inl (cm 19, 2000, .inl gc)), (a 28, .inl (cm 28, 6, .inl go)), (a 29, .inl (cm 29, 700, .inl gl))]) [3, 4, 0, 1, 2] rfl
            have hKc := hK.sub (tys' := [(cm 1, .byte), (cm 19, .int), (cm 28, .int), (cm 29, .int)]) [0, 1, 2, 3] rfl
            have hDc := hD.sub (ws' := [(h0, .inr (11, gP a (upd i 2 0) g (nI c2) (nI tp) (nI w44) yn yd ye yf (nI yk) (nI yp) yb)), (a 1, .inl (cm 1, 1400, .inl fT)), (a 19, .inl (cm 19, 2000, .inl gc)), (a 28, .inl (cm 28, 6, .inl go)), (a 29, .inl (cm 29, 700, .inl gl))]) [3, 4, 0, 1, 2] (by decide) rfl
            have hFc := va_free (wc := [(h0, .inr (11, gP a (upd i 2 0) g (nI c2) (nI tp) (nI w44) yn yd ye yf (nI yk) (nI yp) yb)), (a 1, .inl (cm 1, 1400, .inl fT)), (a 19, .inl (cm 19, 2000, .inl gc)), (a 28, .inl (cm 28, 6, .inl go)), (a 29, .inl (cm 29, 700, .inl gl))]) hD hS hA [3, 4, 0, 1, 2] rfl
            refine va_callv (va_runV (As := []) (rest := []) ⟨hx, hb, hml, hown, hts⟩ (c_statement l D _ h0 a cm (upd i 2 0) g fT gc go gl c2 tp w44 yn yd ye yf yk yp yb bt vz hA_r1 (by omega) (by omega) (by omega) (by omega) hWs hbt hVs2 (fun q => by omega) (fun q => q.2 (by rw [tkA_w hn45_e (by omega), ← hn45_e]; exact hlt9))) (cwV 0 hts g_c_readsProgram_c_statement_379 rfl rfl rfl (by decide +kernel) ⟨(Nat.le_of_ble_eq_true rfl), (Nat.le_of_ble_eq_true rfl)⟩) (PcW_V (q0 := 0) hPc hKc hDc rfl rfl) rfl rfl hl.1 rfl (lv_room (Nat.le_of_ble_eq_true rfl)) dX11_readsProgram_115 ⟨(Nat.le_of_ble_eq_true rfl), (Nat.le_of_ble_eq_true rfl)⟩) hS (fun q _ h => hFc q h) hFc (fun uu tt H locs htt hvm hw hB hz1 hk1 hS => ?_)
            obtain ⟨w49, w50, w51, w52, w53, w54, w55, w56, w57, w58, w59, w60⟩ := uu
            obtain ⟨hP1, hK1, hD1⟩ := hB
            rw [htt] at hP1
            have hK1 := va_K.moved hvm.symm hK1
            have hP1 : va_P D vwCl [(h0, .inr (11, gP a (upd i 2 0) g (nI w52) (nI tp) (nI w53) w54 w55 w56 w57 (nI w58) (nI w59) w60)), (a 1, .inl (cm 1, 1400, .inl fT)), (a 19, .inl (cm 19, 2000, .inl w49)), (a 28, .inl (cm 28, 6, .inl w50)), (a 29, .inl (cm 29, 700, .inl w51))] H := hP1
            obtain ⟨hP, hD⟩ := va_join (wr := []) (w1 := [(h0, .inr (11, gP a (upd i 2 0) g (nI w52) (nI tp) (nI w53) w54 w55 w56 w57 (nI w58) (nI w59) w60)), (a 1, .inl (cm 1, 1400, .inl fT)), (a 19, .inl (cm 19, 2000, .inl w49)), (a 28, .inl (cm 28, 6, .inl w50)), (a 29, .inl (cm 29, 700, .inl w51))]) hP hD [3, 4, 0, 1, 2] [] rfl rfl (by decide) (by decide) hk1 hFc hP1 hD1
            have hP : va_P D vwCl [(h0, .inr (11, gP a (upd i 2 0) g (nI w52) (nI tp) (nI w53) w54 w55 w56 w57 (nI w58) (nI w59) w60)), (a 1, .inl (cm 1, 1400, .inl fT)), (a 19, .inl (cm 19, 2000, .inl w49)), (a 28, .inl (cm 28, 6, .inl w50)), (a 29, .inl (cm 29, 700, .inl w51))] H := hP
            have hD : va_D A [(h0, .inr (11, gP a (upd i 2 0) g (nI w52) (nI tp) (nI w53) w54 w55 w56 w57 (nI w58) (nI w59) w60)), (a 1, .inl (cm 1, 1400, .inl fT)), (a 19, .inl (cm 19, 2000, .inl w49)), (a 28, .inl (cm 28, 6, .inl w50)), (a 29, .inl (cm 29, 700, .inl w51))] := hD
            try dsimp only at hw
            clear hz1 hk1 hFc hPc hKc hDc
            obtain ⟨hv61_1, hv61_2, hv61_3, hv61_b, hv61_V, hv61_N⟩ := hw
            refine lv_goto (tgt := 66) hx hb dX11_readsProgram_118 (by decide) ?_
            exact ih w52 w53 w54 w55 w56 w57 w58 w59 w60 w49 w50 w51 (by omega) (by omega) (by omega) (fun z => ⟨hz6, (hv61_b z).2⟩) (hv61_V) (hv61_N) (mif hm hA_r1 (fun z => by have := (hv61_b z).1; omega)) H locs ls (hP.sub [0, 1, 2, 3, 4] rfl) (hD.sub [0, 1, 2, 3, 4] (by decide) rfl) hS (lv_sub hl [0] rfl)
          ·
            have hk1 : 1 ≤ yk := by
              rcases Nat.eq_zero_or_pos yk with z | z
              · exact absurd (by rw [z]; decide) hc47
              · exact z
            refine lv_aload_n hx hb dX11_readsProgram_98 rfl (lv_at hl 0 rfl) ?_
            refine lv_bipush (v := 93) hx hb dX11_readsProgram_99 (by decide) ?_
            have hPc := hP.sub (ws' := [(h0, .inr (11, gP a (upd i 2 0) g (nI c2) (nI tp) (nI w44) yn yd ye yf (nI yk) (nI yp) yb)), (a 1, .inl (cm 1, 1400, .inl fT))]) [3, 4] rfl
            have hKc := hK.sub (tys' := [(cm 1, .byte)]) [0] rfl
            have hDc := hD.sub (ws' := [(h0, .inr (11, gP a (upd i 2 0) g (nI c2) (nI tp) (nI w44) yn yd ye yf (nI yk) (nI yp) yb)), (a 1, .inl (cm 1, 1400, .inl fT))]) [3, 4] (by decide) rfl
            have hFc := va_free (wc := [(h0, .inr (11, gP a (upd i 2 0) g (nI c2) (nI tp) (nI w44) yn yd ye yf (nI yk) (nI yp) yb)), (a 1, .inl (cm 1, 1400, .inl fT))]) hD hS hA [3, 4] rfl
            refine va_calli (va_runV (As := [.int 93]) (rest := []) ⟨hx, hb, hml, hown, hts⟩ (c_isSign l D _ h0 a cm (upd i 2 0) g fT c2 tp w44 yn yd ye yf yk yp yb 93 93 bt (by omega) (by omega) hbt rfl (by decide)) (cwV 1 hts g_c_readsProgram_c_isSign_317 rfl rfl rfl (by decide +kernel) ⟨(Nat.le_of_ble_eq_true rfl), (Nat.le_of_ble_eq_true rfl)⟩) (PcW_V (q0 := 0) hPc hKc hDc rfl rfl) rfl rfl hl.1 rfl (lv_room (Nat.le_of_ble_eq_true rfl)) dX11_readsProgram_101 ⟨(Nat.le_of_ble_eq_true rfl), (Nat.le_of_ble_eq_true rfl)⟩) hS (fun q _ h => hFc q h) hFc (fun r62 uu tt H locs htt hvm hw hB hz1 hk1 hS => ?_)
            obtain ⟨w63, rfl⟩ : ∃ z, z = uu := ⟨_, rfl⟩
            obtain ⟨hP1, hK1, hD1⟩ := hB
            rw [htt] at hP1
            have hK1 := va_K.moved hvm.symm hK1
            have hP1 : va_P D vwCl [(h0, .inr (11, gP a (upd i 2 0) g (nI c2) (nI tp) (nI w63) yn yd ye yf (nI yk) (nI yp) yb)), (a 1, .inl (cm 1, 1400, .inl fT))] H := hP1
            obtain ⟨hP, hD⟩ := va_join (wr := [(a 19, .inl (cm 19, 2000, .inl gc)), (a 28, .inl (cm 28, 6, .inl go)), (a 29, .inl (cm 29, 700, .inl gl))]) (w1 := [(h0, .inr (11, gP a (upd i 2 0) g (nI c2) (nI tp) (nI w63) yn yd ye yf (nI yk) (nI yp) yb)), (a 1, .inl (cm 1, 1400, .inl fT))]) hP hD [3, 4] [0, 1, 2] rfl rfl (by decide) (by decide) hk1 hFc hP1 hD1
            have hP : va_P D vwCl [(a 19, .inl (cm 19, 2000, .inl gc)), (a 28, .inl (cm 28, 6, .inl go)), (a 29, .inl (cm 29, 700, .inl gl)), (h0, .inr (11, gP a (upd i 2 0) g (nI c2) (nI tp) (nI w63) yn yd ye yf (nI yk) (nI yp) yb)), (a 1, .inl (cm 1, 1400, .inl fT))] H := hP
            have hD : va_D A [(a 19, .inl (cm 19, 2000, .inl gc)), (a 28, .inl (cm 28, 6, .inl go)), (a 29, .inl (cm 29, 700, .inl gl)), (h0, .inr (11, gP a (upd i 2 0) g (nI c2) (nI tp) (nI w63) yn yd ye yf (nI yk) (nI yp) yb)), (a 1, .inl (cm 1, 1400, .inl fT))] := hD
            try dsimp only at hw
            clear hz1 hk1 hFc hPc hKc hDc
            rcases hw with ⟨rfl, hA_r62⟩ | ⟨rfl, hA_r62⟩
            ·
              obtain ⟨hA_r62_1, hA_r62_2, hA_r62_e, hA_r62_s⟩ := hA_r62
              have hVs3 : TR bt tp vz 0 0 c2 gc yk go w63 yn := by rw [hA_r62_e]; exact hVs2.nx
              refine lv_if_eq (tgt := 114) hx hb dX11_readsProgram_104 (by decide) (fun hc => absurd hc (by decide)) (fun hc => ?_)
              refine lv_aload_n hx hb dX11_readsProgram_107 rfl (lv_at hl 0 rfl) ?_
              have hPc := hP.sub (ws' := [(h0, .inr (11, gP a (upd i 2 0) g (nI c2) (nI tp) (nI w63) yn yd ye yf (nI yk) (nI yp) yb)), (a 1, .inl (cm 1, 1400, .inl fT)), (a 19, .inl (cm 19, 2000, .inl gc)), (a 28, .inl (cm 28, 6, .inl go))]) [3, 4, 0, 1] rfl
              have hKc := hK.sub (tys' := [(cm 1, .byte), (cm 19, .int), (cm 28, .int)]) [0, 1, 2] rfl
              have hDc := hD.sub (ws' := [(h0, .inr (11, gP a (upd i 2 0) g (nI c2) (nI tp) (nI w63) yn yd ye yf (nI yk) (nI yp) yb)), (a 1, .inl (cm 1, 1400, .inl fT)), (a 19, .inl (cm 19, 2000, .inl gc)), (a 28, .inl (cm 28, 6, .inl go))]) [3, 4, 0, 1] (by decide) rfl
              have hFc := va_free (wc := [(h0, .inr (11, gP a (upd i 2 0) g (nI c2) (nI tp) (nI w63) yn yd ye yf (nI yk) (nI yp) yb)), (a 1, .inl (cm 1, 1400, .inl fT)), (a 19, .inl (cm 19, 2000, .inl gc)), (a 28, .inl (cm 28, 6, .inl go))]) hD hS hA [3, 4, 0, 1] rfl
              refine va_callv (va_runV (As := []) (rest := []) ⟨hx, hb, hml, hown, hts⟩ (c_closesBlock l D _ h0 a cm (upd i 2 0) g fT gc go c2 tp w63 yn yd ye yf yk yp yb bt vz hA_r1 (by omega) (by omega) (by omega) (by omega) hWs hbt hVs3 (by omega) (by omega) ((SgP_at hA_r62_e (by omega)).mpr hA_r62_s) ((tkA_w hA_r62_e (by omega)).trans hA_r62_e.symm)) (cwV 0 hts g_c_readsProgram_c_closesBlock_376 rfl rfl rfl (by decide +kernel) ⟨(Nat.le_of_ble_eq_true rfl), (Nat.le_of_ble_eq_true rfl)⟩) (PcW_V (q0 := 0) hPc hKc hDc rfl rfl) rfl rfl hl.1 rfl (lv_room (Nat.le_of_ble_eq_true rfl)) dX11_readsProgram_108 ⟨(Nat.le_of_ble_eq_true rfl), (Nat.le_of_ble_eq_true rfl)⟩) hS (fun q _ h => hFc q h) hFc (fun uu tt H locs htt hvm hw hB hz1 hk1 hS => ?_)
              obtain ⟨w65, w66, w67, w68, w69, w70, w71⟩ := uu
              obtain ⟨hP1, hK1, hD1⟩ := hB
              rw [htt] at hP1
              have hK1 := va_K.moved hvm.symm hK1
              have hP1 : va_P D vwCl [(h0, .inr (11, gP a (upd i 2 0) g (nI w66) (nI tp) (nI w67) yn w68 w69 w70 (nI w71) (nI yp) yb)), (a 1, .inl (cm 1, 1400, .inl fT)), (a 19, .inl (cm 19, 2000, .inl w65)), (a 28, .inl (cm 28, 6, .inl go))] H := hP1
              obtain ⟨hP, hD⟩ := va_join (wr := [(a 29, .inl (cm 29, 700, .inl gl))]) (w1 := [(h0, .inr (11, gP a (upd i 2 0) g (nI w66) (nI tp) (nI w67) yn w68 w69 w70 (nI w71) (nI yp) yb)), (a 1, .inl (cm 1, 1400, .inl fT)), (a 19, .inl (cm 19, 2000, .inl w65)), (a 28, .inl (cm 28, 6, .inl go))]) hP hD [3, 4, 0, 1] [2] rfl rfl (by decide) (by decide) hk1 hFc hP1 hD1
              have hP : va_P D vwCl [(a 29, .inl (cm 29, 700, .inl gl)), (h0, .inr (11, gP a (upd i 2 0) g (nI w66) (nI tp) (nI w67) yn w68 w69 w70 (nI w71) (nI yp) yb)), (a 1, .inl (cm 1, 1400, .inl fT)), (a 19, .inl (cm 19, 2000, .inl w65)), (a 28, .inl (cm 28, 6, .inl go))] H := hP
              have hD : va_D A [(a 29, .inl (cm 29, 700, .inl gl)), (h0, .inr (11, gP a (upd i 2 0) g (nI w66) (nI tp) (nI w67) yn w68 w69 w70 (nI w71) (nI yp) yb)), (a 1, .inl (cm 1, 1400, .inl fT)), (a 19, .inl (cm 19, 2000, .inl w65)), (a 28, .inl (cm 28, 6, .inl go))] := hD
              try dsimp only at hw
              clear hz1 hk1 hFc hPc hKc hDc
              obtain ⟨hv72_1, hv72_2, hv72_3, hv72_b, hv72_V, hv72_N⟩ := hw
              refine lv_goto (tgt := 66) hx hb dX11_readsProgram_111 (by decide) ?_
              exact ih w66 w67 yn w68 w69 w70 w71 yp yb w65 go gl (by omega) (by omega) (by omega) (fun z => ⟨hz6, (hv72_b z).2⟩) (hv72_V) (hv72_N) (mif hm hA_r1 (fun z => by have := (hv72_b z).1; omega)) H locs ls (hP.sub [1, 2, 3, 4, 0] rfl) (hD.sub [1, 2, 3, 4, 0] (by decide) rfl) hS (lv_sub hl [0] rfl)
            ·
              obtain ⟨hA_r62_1, hA_r62_2, hA_r62_e, hA_r62_s⟩ := hA_r62
              have hVs3 : TR bt tp vz 0 0 c2 gc yk go w63 yn := by rw [hA_r62_e]; exact hVs2.nx
              refine lv_if_eq (tgt := 114) hx hb dX11_readsProgram_104 (by decide) (fun hc => ?_) (fun hc => absurd (by decide) hc)
              refine lv_aload_n hx hb dX11_readsProgram_114 rfl (lv_at hl 0 rfl) ?_
              have hPc := hP.sub (ws' := [(h0, .inr (11, gP a (upd i 2 0) g (nI c2) (nI tp) (nI w63) yn yd ye yf (nI yk) (nI yp) yb)), (a 1, .inl (cm 1, 1400, .inl fT)), (a 19, .inl (cm 19, 2000, .inl gc)), (a 28, .inl (cm 28, 6, .inl go)), (a 29, .inl (cm 29, 700, .inl gl))]) [3, 4, 0, 1, 2] rfl
              have hKc := hK.sub (tys' := [(cm 1, .byte), (cm 19, .int), (cm 28, .int), (cm 29, .int)]) [0, 1, 2, 3] rfl
              have hDc := hD.sub (ws' := [(h0, .inr (11, gP a (upd i 2 0) g (nI c2) (nI tp) (nI w63) yn yd ye yf (nI yk) (nI yp) yb)), (a 1, .inl (cm 1, 1400, .inl fT)), (a 19, .inl (cm 19, 2000, .inl gc)), (a 28, .inl (cm 28, 6, .inl go)), (a 29, .inl (cm 29, 700, .inl gl))]) [3, 4, 0, 1, 2] (by decide) rfl
              have hFc := va_free (wc := [(h0, .inr (11, gP a (upd i 2 0) g (nI c2) (nI tp) (nI w63) yn yd ye yf (nI yk) (nI yp) yb)), (a 1, .inl (cm 1, 1400, .inl fT)), (a 19, .inl (cm 19, 2000, .inl gc)), (a 28, .inl (cm 28, 6, .inl go)), (a 29, .inl (cm 29, 700, .inl gl))]) hD hS hA [3, 4, 0, 1, 2] rfl
              refine va_callv (va_runV (As := []) (rest := []) ⟨hx, hb, hml, hown, hts⟩ (c_statement l D _ h0 a cm (upd i 2 0) g fT gc go gl c2 tp w63 yn yd ye yf yk yp yb bt vz hA_r1 (by omega) (by omega) (by omega) (by omega) hWs hbt hVs3 (fun q => hA_r62_s ((SgP_at hA_r62_e (by omega)).mp q.2)) (fun q => by omega)) (cwV 0 hts g_c_readsProgram_c_statement_379 rfl rfl rfl (by decide +kernel) ⟨(Nat.le_of_ble_eq_true rfl), (Nat.le_of_ble_eq_true rfl)⟩) (PcW_V (q0 := 0) hPc hKc hDc rfl rfl) rfl rfl hl.1 rfl (lv_room (Nat.le_of_ble_eq_true rfl)) dX11_readsProgram_115 ⟨(Nat.le_of_ble_eq_true rfl), (Nat.le_of_ble_eq_true rfl)⟩) hS (fun q _ h => hFc q h) hFc (fun uu tt H locs htt hvm hw hB hz1 hk1 hS => ?_)
              obtain ⟨w74, w75, w76, w77, w78, w79, w80, w81, w82, w83, w84, w85⟩ := uu
              obtain ⟨hP1, hK1, hD1⟩ := hB
              rw [htt] at hP1
              have hK1 := va_K.moved hvm.symm hK1
              have hP1 : va_P D vwCl [(h0, .inr (11, gP a (upd i 2 0) g (nI w77) (nI tp) (nI w78) w79 w80 w81 w82 (nI w83) (nI w84) w85)), (a 1, .inl (cm 1, 1400, .inl fT)), (a 19, .inl (cm 19, 2000, .inl w74)), (a 28, .inl (cm 28, 6, .inl w75)), (a 29, .inl (cm 29, 700, .inl w76))] H := hP1
              obtain ⟨hP, hD⟩ := va_join (wr := []) (w1 := [(h0, .inr (11, gP a (upd i 2 0) g (nI w77) (nI tp) (nI w78) w79 w80 w81 w82 (nI w83) (nI w84) w85)), (a 1, .inl (cm 1, 1400, .inl fT)), (a 19, .inl (cm 19, 2000, .inl w74)), (a 28, .inl (cm 28, 6, .inl w75)), (a 29, .inl (cm 29, 700, .inl w76))]) hP hD [3, 4, 0, 1, 2] [] rfl rfl (by decide) (by decide) hk1 hFc hP1 hD1
              have hP : va_P D vwCl [(h0, .inr (11, gP a (upd i 2 0) g (nI w77) (nI tp) (nI w78) w79 w80 w81 w82 (nI w83) (nI w84) w85)), (a 1, .inl (cm 1, 1400, .inl fT)), (a 19, .inl (cm 19, 2000, .inl w74)), (a 28, .inl (cm 28, 6, .inl w75)), (a 29, .inl (cm 29, 700, .inl w76))] H := hP
              have hD : va_D A [(h0, .inr (11, gP a (upd i 2 0) g (nI w77) (nI tp) (nI w78) w79 w80 w81 w82 (nI w83) (nI w84) w85)), (a 1, .inl (cm 1, 1400, .inl fT)), (a 19, .inl (cm 19, 2000, .inl w74)), (a 28, .inl (cm 28, 6, .inl w75)), (a 29, .inl (cm 29, 700, .inl w76))] := hD
              try dsimp only at hw
              clear hz1 hk1 hFc hPc hKc hDc
              obtain ⟨hv86_1, hv86_2, hv86_3, hv86_b, hv86_V, hv86_N⟩ := hw
              refine lv_goto (tgt := 66) hx hb dX11_readsProgram_118 (by decide) ?_
              exact ih w77 w78 w79 w80 w81 w82 w83 w84 w85 w74 w75 w76 (by omega) (by omega) (by omega) (fun z => ⟨hz6, (hv86_b z).2⟩) (hv86_V) (hv86_N) (mif hm hA_r1 (fun z => by have := (hv86_b z).1; omega)) H locs ls (hP.sub [0, 1, 2, 3, 4] rfl) (hD.sub [0, 1, 2, 3, 4] (by decide) rfl) hS (lv_sub hl [0] rfl)
    ·
      refine lv_if_eq (tgt := 121) hx hb dX11_readsProgram_70 (by decide) (fun hc => ?_) (fun hc => absurd (by decide) hc)
      exact kx121 c2 ya yn yd ye yf yk yp yb gc go gl (fun z => absurd z hA_r1) (Or.inr ⟨hA_r1, hNl hA_r1⟩) H locs ls (hP.sub [0, 1, 2, 3, 4] rfl) (hD.sub [0, 1, 2, 3, 4] (by decide) rfl) hS (lv_sub hl [0] rfl)
set_option maxHeartbeats 4000000 in
set_option maxRecDepth 100000 in
theorem c_readsProgram (l : Launch) (D : va_G) (sz : Nat) (h0 : Nat) (a : Nat → Nat) (cm : Nat → ClassId) (i : Nat → Int32) (g : Nat → Int64) (fT : Nat → Int32) (fc : Nat → Int32) (fo : Nat → Int32) (fl : Nat → Int32) (cd : Int32) (zs : Int32) (ta : Int32) (en : Int32) (bd : Int32) (bp : Int32) (bq : Int32) (bk : Int32) (pl : Int32) (br : Int32) (tp : Nat) (bt : Nat → Nat) (htp : i 2 = nI tp) (htp2 : tp ≤ 1400) (hbt : TieB fT bt) : Met l yX11_readsProgram wp_c_readsProgram ({ frames := 8, cells := 0, slots := 0, locals := 260 }) (PcW D [.ref h0] sz [(h0, .inr (11, gP a i g cd zs ta en bd bp bq bk pl br)), (a 1, .inl (cm 1, 1400, .inl fT)), (a 19, .inl (cm 19, 2000, .inl fc)), (a 28, .inl (cm 28, 6, .inl fo)), (a 29, .inl (cm 29, 700, .inl fl))] [(cm 1, .byte), (cm 19, .int), (cm 28, .int), (cm 29, .int)]) (va_Qv (fun (u : (Nat → Int32) × (Nat → Int32) × (Nat → Int32) × (Int32) × (Nat) × (Nat) × (Nat) × (Int32) × (Int32) × (Int32) × (Int32) × (Nat) × (Int32) × (Int32) × (Int32) × (Int32) × (Int32)) => u.2.2.2.1 = 0 ∧ (u.2.2.2.2.2.2.2.2.1 = 0 → u.2.2.2.2.1 ≤ 600 ∧ PSt u.1 u.2.1 u.2.2.2.2.1 0 0) ∧ ((u.2.2.2.2.2.2.2.2.1 = 0 ∧ ∃ z y, readE bt tp = some (z, y) ∧ MatR y u.2.2.2.2.1 u.1) ∨ (¬ u.2.2.2.2.2.2.2.2.1 = 0 ∧ readE bt tp = none))) (fun (u : (Nat → Int32) × (Nat → Int32) × (Nat → Int32) × (Int32) × (Nat) × (Nat) × (Nat) × (Int32) × (Int32) × (Int32) × (Int32) × (Nat) × (Int32) × (Int32) × (Int32) × (Int32) × (Int32)) t => va_P D vwCl [(h0, .inr (11, gP a (upd (upd (upd (upd i 2 u.2.2.2.1) 32 u.2.2.2.2.2.2.2.2.2.2.2.2.2.2.1) 33 u.2.2.2.2.2.2.2.2.2.2.2.2.2.2.2.1) 34 u.2.2.2.2.2.2.2.2.2.2.2.2.2.2.2.2) g (nI u.2.2.2.2.1) (nI u.2.2.2.2.2.1) (nI u.2.2.2.2.2.2.1) u.2.2.2.2.2.2.2.1 u.2.2.2.2.2.2.2.2.1 u.2.2.2.2.2.2.2.2.2.1 u.2.2.2.2.2.2.2.2.2.2.1 (nI u.2.2.2.2.2.2.2.2.2.2.2.1) u.2.2.2.2.2.2.2.2.2.2.2.2.1 u.2.2.2.2.2.2.2.2.2.2.2.2.2.1)), (a 1, .inl (cm 1, 1400, .inl fT)), (a 19, .inl (cm 19, 2000, .inl u.1)), (a 28, .inl (cm 28, 6, .inl u.2.1)), (a 29, .inl (cm 29, 700, .inl u.2.2.1))] t.heap ∧ va_K D vwCl [(cm 1, .byte), (cm 19, .int), (cm 28, .int), (cm 29, .int)] t ∧ va_D (va_A [(h0, .inr (11, gP a i g cd zs ta en bd bp bq bk pl br)), (a 1, .inl (cm 1, 1400, .inl fT)), (a 19, .inl (cm 19, 2000, .inl fc)), (a 28, .inl (cm 28, 6, .inl fo)), (a 29, .inl (cm 29, 700, .inl fl))] sz) [(h0, .inr (11, gP a (upd (upd (upd (upd i 2 u.2.2.2.1) 32 u.2.2.2.2.2.2.2.2.2.2.2.2.2.2.1) 33 u.2.2.2.2.2.2.2.2.2.2.2.2.2.2.2.1) 34 u.2.2.2.2.2.2.2.2.2.2.2.2.2.2.2.2) g (nI u.2.2.2.2.1) (nI u.2.2.2.2.2.1) (nI u.2.2.2.2.2.2.1) u.2.2.2.2.2.2.2.1 u.2.2.2.2.2.2.2.2.1 u.2.2.2.2.2.2.2.2.2.1 u.2.2.2.2.2.2.2.2.2.2.1 (nI u.2.2.2.2.2.2.2.2.2.2.2.1) u.2.2.2.2.2.2.2.2.2.2.2.2.1 u.2.2.2.2.2.2.2.2.2.2.2.2.2.1)), (a 1, .inl (cm 1, 1400, .inl fT)), (a 19, .inl (cm 19, 2000, .inl u.1)), (a 28, .inl (cm 28, 6, .inl u.2.1)), (a 29, .inl (cm 29, 700, .inl u.2.2.1))]) (va_A [(h0, .inr (11, gP a i g cd zs ta en bd bp bq bk pl br)), (a 1, .inl (cm 1, 1400, .inl fT)), (a 19, .inl (cm 19, 2000, .inl fc)), (a 28, .inl (cm 28, 6, .inl fo)), (a 29, .inl (cm 29, 700, .inl fl))] sz)) 0 0 (va_A [(h0, .inr (11, gP a i g cd zs ta en bd bp bq bk pl br)), (a 1, .inl (cm 1, 1400, .inl fT)), (a 19, .inl (cm 19, 2000, .inl fc)), (a 28, .inl (cm 28, 6, .inl fo)), (a 29, .inl (cm 29, 700, .inl fl))] sz) := by
  refine Met.ofW (cc := cX11_readsProgram) (maxL := 1) (ret := none) (by decide) rfl ?_
  intro p e s m args below meth c s₁ B hml hv
  obtain ⟨rfl, hsz, hP, hK, hD0⟩ := hv
  have hx := B.exec
  have hb := B.bytes
  have hr := B.returns
  have hts := atoms_spec (ws := wp_c_readsProgram) B.pre
  have hin_X11 : ∀ w ∈ wsX110, w ∈ wp_c_readsProgram := fun _ h => (List.mem_cons_of_mem _ (List.mem_append_right _ (List.mem_append_right _ (List.mem_append_right _ (List.mem_append_right _ (List.mem_append_right _ (List.mem_append_right _ (List.mem_append_right _ (List.mem_append_left _ h)))))))))
  have hown : s.vm.findClass RX11 = some m.cls := findClass_of_methodNamed B.named
  have hlocks := B.notSynchronized
  subst hsz
  have hD := hD0.self (sz := s.heap.size)
  generalize hAe : va_A [(h0, .inr (11, gP a i g cd zs ta en bd bp bq bk pl br)), (a 1, .inl (cm 1, 1400, .inl fT)), (a 19, .inl (cm 19, 2000, .inl fc)), (a 28, .inl (cm 28, 6, .inl fo)), (a 29, .inl (cm 29, 700, .inl fl))] s.heap.size = A at hD ⊢
  have hA : ∀ q : Nat, s.heap.size ≤ q → A q := fun q h => by rw [← hAe]; exact Or.inr h
  have hS : va_S A s.heap s.heap [] := va_S.rf
  have hP : va_P D vwCl [(h0, .inr (11, gP a i g cd zs ta en bd bp bq bk pl br)), (a 1, .inl (cm 1, 1400, .inl fT)), (a 19, .inl (cm 19, 2000, .inl fc)), (a 28, .inl (cm 28, 6, .inl fo)), (a 29, .inl (cm 29, 700, .inl fl))] s.heap := hP
  have hl := lv_entry ([.ref h0]) (n := 1) (Nat.le_of_ble_eq_true rfl)
  rw [lg_entry_eq]
  generalize (lg_sl ([.ref h0]) ++ List.replicate (1 - (lg_sl ([.ref h0])).length) Slot.unset).toArray = ls at hl ⊢
  have hl : lv_has ls 1 [(0, .ref h0)] := hl
  obtain ⟨pl0, rfl⟩ := anyNI pl
  have hP : va_P D vwCl [(h0, .inr (11, gP a i g cd zs ta en bd bp bq bk (nI pl0) br)), (a 1, .inl (cm 1, 1400, .inl fT)), (a 19, .inl (cm 19, 2000, .inl fc)), (a 28, .inl (cm 28, 6, .inl fo)), (a 29, .inl (cm 29, 700, .inl fl))] s.heap := hP
  refine lv_aload_n hx hb dX11_readsProgram_0 rfl (lv_at hl 0 rfl) ?_
  refine lv_aload_n hx hb dX11_readsProgram_1 rfl (lv_at hl 0 rfl) ?_
  refine va_get (D := D) (ci := 11) (v := .int (i 2)) (C := RX11) (T := TX11) (N := 47) hx hb hts hin_X11 hown hK hP 0 rfl rfl 2 (by decide) (hts (.fieldLink RX11 76 "ClashFreeModel" "taped" "I") (List.mem_of_getElem? (i := 19) rfl)) (fun _ h9 => h9) rfl dX11_readsProgram_2 ?_
  refine lv_topi (fun v1 ev1 => ?_)
  obtain rfl : v1 = nI tp := ev1.trans (htp)
  refine va_put (D := D) (ci := 11) (v := .int (nI tp)) (ty := .int) (C := RX11) (T := TX11) (N := 47) hx hb hts hin_X11 tyX11 tyX11_ok nmX11 hown hK hP hD hS 0 rfl rfl 21 (by decide) (hts (.fieldLink RX11 292 "ClashFreeModel" "size" "I") (List.mem_of_getElem? (i := 18) rfl)) (fun _ h9 => h9) rfl (by decide +kernel) rfl rfl (Nat.le_of_ble_eq_true rfl) dX11_readsProgram_5 (fun H locs hP hD hS => ?_)
  have hP : va_P D vwCl [(h0, .inr (11, gP a i g cd (nI tp) ta en bd bp bq bk (nI pl0) br)), (a 1, .inl (cm 1, 1400, .inl fT)), (a 19, .inl (cm 19, 2000, .inl fc)), (a 28, .inl (cm 28, 6, .inl fo)), (a 29, .inl (cm 29, 700, .inl fl))] H := hP
  have hD : va_D A [(h0, .inr (11, gP a i g cd (nI tp) ta en bd bp bq bk (nI pl0) br)), (a 1, .inl (cm 1, 1400, .inl fT)), (a 19, .inl (cm 19, 2000, .inl fc)), (a 28, .inl (cm 28, 6, .inl fo)), (a 29, .inl (cm 29, 700, .inl fl))] := hD
  refine lv_aload_n hx hb dX11_readsProgram_8 rfl (lv_at hl 0 rfl) ?_
  refine lv_iconst (v := 0) hx hb dX11_readsProgram_9 (by decide) ?_
  refine va_put (D := D) (ci := 11) (v := .int 0) (ty := .int) (C := RX11) (T := TX11) (N := 47) hx hb hts hin_X11 tyX11 tyX11_ok nmX11 hown hK hP hD hS 0 rfl rfl 2 (by decide) (hts (.fieldLink RX11 76 "ClashFreeModel" "taped" "I") (List.mem_of_getElem? (i := 19) rfl)) (fun _ h9 => h9) rfl (by decide +kernel) rfl rfl (Nat.le_of_ble_eq_true rfl) dX11_readsProgram_10 (fun H locs hP hD hS => ?_)
  have hP : va_P D vwCl [(h0, .inr (11, gP a (upd i 2 0) g cd (nI tp) ta en bd bp bq bk (nI pl0) br)), (a 1, .inl (cm 1, 1400, .inl fT)), (a 19, .inl (cm 19, 2000, .inl fc)), (a 28, .inl (cm 28, 6, .inl fo)), (a 29, .inl (cm 29, 700, .inl fl))] H := hP
  have hD : va_D A [(h0, .inr (11, gP a (upd i 2 0) g cd (nI tp) ta en bd bp bq bk (nI pl0) br)), (a 1, .inl (cm 1, 1400, .inl fT)), (a 19, .inl (cm 19, 2000, .inl fc)), (a 28, .inl (cm 28, 6, .inl fo)), (a 29, .inl (cm 29, 700, .inl fl))] := hD
  refine lv_aload_n hx hb dX11_readsProgram_13 rfl (lv_at hl 0 rfl) ?_
  refine lv_iconst (v := 0) hx hb dX11_readsProgram_14 (by decide) ?_
  refine va_put (D := D) (ci := 11) (v := .int 0) (ty := .int) (C := RX11) (T := TX11) (N := 47) hx hb hts hin_X11 tyX11 tyX11_ok nmX11 hown hK hP hD hS 0 rfl rfl 22 (by decide) (hts (.fieldLink RX11 303 "ClashFreeModel" "at" "I") (List.mem_of_getElem? (i := 20) rfl)) (fun _ h9 => h9) rfl (by decide +kernel) rfl rfl (Nat.le_of_ble_eq_true rfl) dX11_readsProgram_15 (fun H locs hP hD hS => ?_)
  have hP : va_P D vwCl [(h0, .inr (11, gP a (upd i 2 0) g cd (nI tp) 0 en bd bp bq bk (nI pl0) br)), (a 1, .inl (cm 1, 1400, .inl fT)), (a 19, .inl (cm 19, 2000, .inl fc)), (a 28, .inl (cm 28, 6, .inl fo)), (a 29, .inl (cm 29, 700, .inl fl))] H := hP
  have hD : va_D A [(h0, .inr (11, gP a (upd i 2 0) g cd (nI tp) 0 en bd bp bq bk (nI pl0) br)), (a 1, .inl (cm 1, 1400, .inl fT)), (a 19, .inl (cm 19, 2000, .inl fc)), (a 28, .inl (cm 28, 6, .inl fo)), (a 29, .inl (cm 29, 700, .inl fl))] := hD
  refine lv_aload_n hx hb dX11_readsProgram_18 rfl (lv_at hl 0 rfl) ?_
  refine lv_iconst (v := (-1)) hx hb dX11_readsProgram_19 (by decide) ?_
  refine va_put (D := D) (ci := 11) (v := .int (-1)) (ty := .int) (C := RX11) (T := TX11) (N := 47) hx hb hts hin_X11 tyX11 tyX11_ok nmX11 hown hK hP hD hS 0 rfl rfl 23 (by decide) (hts (.fieldLink RX11 326 "ClashFreeModel" "ended" "I") (List.mem_of_getElem? (i := 21) rfl)) (fun _ h9 => h9) rfl (by decide +kernel) rfl rfl (Nat.le_of_ble_eq_true rfl) dX11_readsProgram_20 (fun H locs hP hD hS => ?_)
  have hP : va_P D vwCl [(h0, .inr (11, gP a (upd i 2 0) g cd (nI tp) 0 (-1) bd bp bq bk (nI pl0) br)), (a 1, .inl (cm 1, 1400, .inl fT)), (a 19, .inl (cm 19, 2000, .inl fc)), (a 28, .inl (cm 28, 6, .inl fo)), (a 29, .inl (cm 29, 700, .inl fl))] H := hP
  have hD : va_D A [(h0, .inr (11, gP a (upd i 2 0) g cd (nI tp) 0 (-1) bd bp bq bk (nI pl0) br)), (a 1, .inl (cm 1, 1400, .inl fT)), (a 19, .inl (cm 19, 2000, .inl fc)), (a 28, .inl (cm 28, 6, .inl fo)), (a 29, .inl (cm 29, 700, .inl fl))] := hD
  refine lv_aload_n hx hb dX11_readsProgram_23 rfl (lv_at hl 0 rfl) ?_
  refine lv_iconst (v := 0) hx hb dX11_readsProgram_24 (by decide) ?_
  refine va_put (D := D) (ci := 11) (v := .int 0) (ty := .int) (C := RX11) (T := TX11) (N := 47) hx hb hts hin_X11 tyX11 tyX11_ok nmX11 hown hK hP hD hS 0 rfl rfl 24 (by decide) (hts (.fieldLink RX11 280 "ClashFreeModel" "bad" "I") (List.mem_of_getElem? (i := 22) rfl)) (fun _ h9 => h9) rfl (by decide +kernel) rfl rfl (Nat.le_of_ble_eq_true rfl) dX11_readsProgram_25 (fun H locs hP hD hS => ?_)
  have hP : va_P D vwCl [(h0, .inr (11, gP a (upd i 2 0) g cd (nI tp) 0 (-1) 0 bp bq bk (nI pl0) br)), (a 1, .inl (cm 1, 1400, .inl fT)), (a 19, .inl (cm 19, 2000, .inl fc)), (a 28, .inl (cm 28, 6, .inl fo)), (a 29, .inl (cm 29, 700, .inl fl))] H := hP
  have hD : va_D A [(h0, .inr (11, gP a (upd i 2 0) g cd (nI tp) 0 (-1) 0 bp bq bk (nI pl0) br)), (a 1, .inl (cm 1, 1400, .inl fT)), (a 19, .inl (cm 19, 2000, .inl fc)), (a 28, .inl (cm 28, 6, .inl fo)), (a 29, .inl (cm 29, 700, .inl fl))] := hD
  refine lv_aload_n hx hb dX11_readsProgram_28 rfl (lv_at hl 0 rfl) ?_
  refine lv_iconst (v := (-1)) hx hb dX11_readsProgram_29 (by decide) ?_
  refine va_put (D := D) (ci := 11) (v := .int (-1)) (ty := .int) (C := RX11) (T := TX11) (N := 47) hx hb hts hin_X11 tyX11 tyX11_ok nmX11 hown hK hP hD hS 0 rfl rfl 25 (by decide) (hts (.fieldLink RX11 283 "ClashFreeModel" "badPlace" "I") (List.mem_of_getElem? (i := 23) rfl)) (fun _ h9 => h9) rfl (by decide +kernel) rfl rfl (Nat.le_of_ble_eq_true rfl) dX11_readsProgram_30 (fun H locs hP hD hS => ?_)
  have hP : va_P D vwCl [(h0, .inr (11, gP a (upd i 2 0) g cd (nI tp) 0 (-1) 0 (-1) bq bk (nI pl0) br)), (a 1, .inl (cm 1, 1400, .inl fT)), (a 19, .inl (cm 19, 2000, .inl fc)), (a 28, .inl (cm 28, 6, .inl fo)), (a 29, .inl (cm 29, 700, .inl fl))] H := hP
  have hD : va_D A [(h0, .inr (11, gP a (upd i 2 0) g cd (nI tp) 0 (-1) 0 (-1) bq bk (nI pl0) br)), (a 1, .inl (cm 1, 1400, .inl fT)), (a 19, .inl (cm 19, 2000, .inl fc)), (a 28, .inl (cm 28, 6, .inl fo)), (a 29, .inl (cm 29, 700, .inl fl))] := hD
  refine lv_aload_n hx hb dX11_readsProgram_33 rfl (lv_at hl 0 rfl) ?_
  refine lv_iconst (v := (-1)) hx hb dX11_readsProgram_34 (by decide) ?_
  refine va_put (D := D) (ci := 11) (v := .int (-1)) (ty := .int) (C := RX11) (T := TX11) (N := 47) hx hb hts hin_X11 tyX11 tyX11_ok nmX11 hown hK hP hD hS 0 rfl rfl 26 (by decide) (hts (.fieldLink RX11 289 "ClashFreeModel" "badDepth" "I") (List.mem_of_getElem? (i := 24) rfl)) (fun _ h9 => h9) rfl (by decide +kernel) rfl rfl (Nat.le_of_ble_eq_true rfl) dX11_readsProgram_35 (fun H locs hP hD hS => ?_)
  have hP : va_P D vwCl [(h0, .inr (11, gP a (upd i 2 0) g cd (nI tp) 0 (-1) 0 (-1) (-1) bk (nI pl0) br)), (a 1, .inl (cm 1, 1400, .inl fT)), (a 19, .inl (cm 19, 2000, .inl fc)), (a 28, .inl (cm 28, 6, .inl fo)), (a 29, .inl (cm 29, 700, .inl fl))] H := hP
  have hD : va_D A [(h0, .inr (11, gP a (upd i 2 0) g cd (nI tp) 0 (-1) 0 (-1) (-1) bk (nI pl0) br)), (a 1, .inl (cm 1, 1400, .inl fT)), (a 19, .inl (cm 19, 2000, .inl fc)), (a 28, .inl (cm 28, 6, .inl fo)), (a 29, .inl (cm 29, 700, .inl fl))] := hD
  refine lv_aload_n hx hb dX11_readsProgram_38 rfl (lv_at hl 0 rfl) ?_
  refine lv_iconst (v := 0) hx hb dX11_readsProgram_39 (by decide) ?_
  refine va_put (D := D) (ci := 11) (v := .int 0) (ty := .int) (C := RX11) (T := TX11) (N := 47) hx hb hts hin_X11 tyX11 tyX11_ok nmX11 hown hK hP hD hS 0 rfl rfl 20 (by decide) (hts (.fieldLink RX11 335 "ClashFreeModel" "coded" "I") (List.mem_of_getElem? (i := 25) rfl)) (fun _ h9 => h9) rfl (by decide +kernel) rfl rfl (Nat.le_of_ble_eq_true rfl) dX11_readsProgram_40 (fun H locs hP hD hS => ?_)
  have hP : va_P D vwCl [(h0, .inr (11, gP a (upd i 2 0) g 0 (nI tp) 0 (-1) 0 (-1) (-1) bk (nI pl0) br)), (a 1, .inl (cm 1, 1400, .inl fT)), (a 19, .inl (cm 19, 2000, .inl fc)), (a 28, .inl (cm 28, 6, .inl fo)), (a 29, .inl (cm 29, 700, .inl fl))] H := hP
  have hD : va_D A [(h0, .inr (11, gP a (upd i 2 0) g 0 (nI tp) 0 (-1) 0 (-1) (-1) bk (nI pl0) br)), (a 1, .inl (cm 1, 1400, .inl fT)), (a 19, .inl (cm 19, 2000, .inl fc)), (a 28, .inl (cm 28, 6, .inl fo)), (a 29, .inl (cm 29, 700, .inl fl))] := hD
  refine lv_aload_n hx hb dX11_readsProgram_43 rfl (lv_at hl 0 rfl) ?_
  refine lv_iconst (v := 0) hx hb dX11_readsProgram_44 (by decide) ?_
  refine va_put (D := D) (ci := 11) (v := .int 0) (ty := .int) (C := RX11) (T := TX11) (N := 47) hx hb hts hin_X11 tyX11 tyX11_ok nmX11 hown hK hP hD hS 0 rfl rfl 27 (by decide) (hts (.fieldLink RX11 286 "ClashFreeModel" "blocks" "I") (List.mem_of_getElem? (i := 5) rfl)) (fun _ h9 => h9) rfl (by decide +kernel) rfl rfl (Nat.le_of_ble_eq_true rfl) dX11_readsProgram_45 (fun H locs hP hD hS => ?_)
  have hP : va_P D vwCl [(h0, .inr (11, gP a (upd i 2 0) g 0 (nI tp) 0 (-1) 0 (-1) (-1) 0 (nI pl0) br)), (a 1, .inl (cm 1, 1400, .inl fT)), (a 19, .inl (cm 19, 2000, .inl fc)), (a 28, .inl (cm 28, 6, .inl fo)), (a 29, .inl (cm 29, 700, .inl fl))] H := hP
  have hD : va_D A [(h0, .inr (11, gP a (upd i 2 0) g 0 (nI tp) 0 (-1) 0 (-1) (-1) 0 (nI pl0) br)), (a 1, .inl (cm 1, 1400, .inl fT)), (a 19, .inl (cm 19, 2000, .inl fc)), (a 28, .inl (cm 28, 6, .inl fo)), (a 29, .inl (cm 29, 700, .inl fl))] := hD
  refine lv_aload_n hx hb dX11_readsProgram_48 rfl (lv_at hl 0 rfl) ?_
  refine va_get (D := D) (ci := 11) (v := .int (nI tp)) (C := RX11) (T := TX11) (N := 47) hx hb hts hin_X11 hown hK hP 0 rfl rfl 21 (by decide) (hts (.fieldLink RX11 292 "ClashFreeModel" "size" "I") (List.mem_of_getElem? (i := 18) rfl)) (fun _ h9 => h9) rfl dX11_readsProgram_49 ?_
  refine lv_sipush (v := 600) hx hb dX11_readsProgram_52 (by decide) ?_
  refine lv_icmp_le (tgt := 66) hx hb dX11_readsProgram_55 (by decide) (fun hc2 => ?_) (fun hc2 => ?_)
  ·
    have hz6 : tp ≤ 600 := (nI_leI (b := 600) (by omega) (by decide)).mp hc2
    refine lp_rp l D h0 a cm i g fT tp bt (readE bt tp) (htp2) (hbt) hx hb hml hown hts hA (hK.sub [0, 1, 2, 3] rfl) ?_ ((if 0 = 0 then (tp - 0) + 1 else 0) + 1) 0 0 (-1) 0 (-1) (-1) 0 pl0 br fc fo fl (by omega) (by omega) (by omega) (fun _ => ⟨hz6, PSt_0 _ _⟩) (fun _ => TR_0 hz6) (fun z => absurd rfl z) (Nat.lt_succ_self _) _ _ _ (hP.sub [0, 1, 2, 3, 4] rfl) (hD.sub [0, 1, 2, 3, 4] (by decide) rfl) hS (lv_sub hl [0] rfl)
    intro c2_3 ya_4 yn_5 yd_6 ye_7 yf_8 yk_9 yp_10 yb_11 gc_12 go_13 gl_14 hx15 hx16 H locs ls hP hD hS hl
    refine lv_aload_n hx hb dX11_readsProgram_121 rfl (lv_at hl 0 rfl) ?_
    refine lv_aload_n hx hb dX11_readsProgram_122 rfl (lv_at hl 0 rfl) ?_
    refine va_get (D := D) (ci := 11) (v := .int yd_6) (C := RX11) (T := TX11) (N := 47) hx hb hts hin_X11 hown hK hP 0 rfl rfl 24 (by decide) (hts (.fieldLink RX11 280 "ClashFreeModel" "bad" "I") (List.mem_of_getElem? (i := 22) rfl)) (fun _ h9 => h9) rfl dX11_readsProgram_123 ?_
    refine va_put (D := D) (ci := 11) (v := .int yd_6) (ty := .int) (C := RX11) (T := TX11) (N := 47) hx hb hts hin_X11 tyX11 tyX11_ok nmX11 hown hK hP hD hS 0 rfl rfl 32 (by decide) (hts (.fieldLink RX11 382 "ClashFreeModel" "faultKind" "I") (List.mem_of_getElem? (i := 26) rfl)) (fun _ h9 => h9) rfl (by decide +kernel) rfl rfl (Nat.le_of_ble_eq_true rfl) dX11_readsProgram_126 (fun H locs hP hD hS => ?_)
    have hP : va_P D vwCl [(h0, .inr (11, gP a (upd (upd i 2 0) 32 yd_6) g (nI c2_3) (nI tp) (nI ya_4) yn_5 yd_6 ye_7 yf_8 (nI yk_9) (nI yp_10) yb_11)), (a 1, .inl (cm 1, 1400, .inl fT)), (a 19, .inl (cm 19, 2000, .inl gc_12)), (a 28, .inl (cm 28, 6, .inl go_13)), (a 29, .inl (cm 29, 700, .inl gl_14))] H := hP
    have hD : va_D A [(h0, .inr (11, gP a (upd (upd i 2 0) 32 yd_6) g (nI c2_3) (nI tp) (nI ya_4) yn_5 yd_6 ye_7 yf_8 (nI yk_9) (nI yp_10) yb_11)), (a 1, .inl (cm 1, 1400, .inl fT)), (a 19, .inl (cm 19, 2000, .inl gc_12)), (a 28, .inl (cm 28, 6, .inl go_13)), (a 29, .inl (cm 29, 700, .inl gl_14))] := hD
    refine lv_aload_n hx hb dX11_readsProgram_129 rfl (lv_at hl 0 rfl) ?_
    refine lv_aload_n hx hb dX11_readsProgram_130 rfl (lv_at hl 0 rfl) ?_
    refine va_get (D := D) (ci := 11) (v := .int ye_7) (C := RX11) (T := TX11) (N := 47) hx hb hts hin_X11 hown hK hP 0 rfl rfl 25 (by decide) (hts (.fieldLink RX11 283 "ClashFreeModel" "badPlace" "I") (List.mem_of_getElem? (i := 23) rfl)) (fun _ h9 => h9) rfl dX11_readsProgram_131 ?_
    refine va_put (D := D) (ci := 11) (v := .int ye_7) (ty := .int) (C := RX11) (T := TX11) (N := 47) hx hb hts hin_X11 tyX11 tyX11_ok nmX11 hown hK hP hD hS 0 rfl rfl 33 (by decide) (hts (.fieldLink RX11 54 "ClashFreeModel" "faultPlace" "I") (List.mem_of_getElem? (i := 27) rfl)) (fun _ h9 => h9) rfl (by decide +kernel) rfl rfl (Nat.le_of_ble_eq_true rfl) dX11_readsProgram_134 (fun H locs hP hD hS => ?_)
    have hP : va_P D vwCl [(h0, .inr (11, gP a (upd (upd (upd i 2 0) 32 yd_6) 33 ye_7) g (nI c2_3) (nI tp) (nI ya_4) yn_5 yd_6 ye_7 yf_8 (nI yk_9) (nI yp_10) yb_11)), (a 1, .inl (cm 1, 1400, .inl fT)), (a 19, .inl (cm 19, 2000, .inl gc_12)), (a 28, .inl (cm 28, 6, .inl go_13)), (a 29, .inl (cm 29, 700, .inl gl_14))] H := hP
    have hD : va_D A [(h0, .inr (11, gP a (upd (upd (upd i 2 0) 32 yd_6) 33 ye_7) g (nI c2_3) (nI tp) (nI ya_4) yn_5 yd_6 ye_7 yf_8 (nI yk_9) (nI yp_10) yb_11)), (a 1, .inl (cm 1, 1400, .inl fT)), (a 19, .inl (cm 19, 2000, .inl gc_12)), (a 28, .inl (cm 28, 6, .inl go_13)), (a 29, .inl (cm 29, 700, .inl gl_14))] := hD
    refine lv_aload_n hx hb dX11_readsProgram_137 rfl (lv_at hl 0 rfl) ?_
    refine lv_aload_n hx hb dX11_readsProgram_138 rfl (lv_at hl 0 rfl) ?_
    refine va_get (D := D) (ci := 11) (v := .int yf_8) (C := RX11) (T := TX11) (N := 47) hx hb hts hin_X11 hown hK hP 0 rfl rfl 26 (by decide) (hts (.fieldLink RX11 289 "ClashFreeModel" "badDepth" "I") (List.mem_of_getElem? (i := 24) rfl)) (fun _ h9 => h9) rfl dX11_readsProgram_139 ?_
    refine va_put (D := D) (ci := 11) (v := .int yf_8) (ty := .int) (C := RX11) (T := TX11) (N := 47) hx hb hts hin_X11 tyX11 tyX11_ok nmX11 hown hK hP hD hS 0 rfl rfl 34 (by decide) (hts (.fieldLink RX11 58 "ClashFreeModel" "faultDepth" "I") (List.mem_of_getElem? (i := 28) rfl)) (fun _ h9 => h9) rfl (by decide +kernel) rfl rfl (Nat.le_of_ble_eq_true rfl) dX11_readsProgram_142 (fun H locs hP hD hS => ?_)
    have hP : va_P D vwCl [(h0, .inr (11, gP a (upd (upd (upd (upd i 2 0) 32 yd_6) 33 ye_7) 34 yf_8) g (nI c2_3) (nI tp) (nI ya_4) yn_5 yd_6 ye_7 yf_8 (nI yk_9) (nI yp_10) yb_11)), (a 1, .inl (cm 1, 1400, .inl fT)), (a 19, .inl (cm 19, 2000, .inl gc_12)), (a 28, .inl (cm 28, 6, .inl go_13)), (a 29, .inl (cm 29, 700, .inl gl_14))] H := hP
    have hD : va_D A [(h0, .inr (11, gP a (upd (upd (upd (upd i 2 0) 32 yd_6) 33 ye_7) 34 yf_8) g (nI c2_3) (nI tp) (nI ya_4) yn_5 yd_6 ye_7 yf_8 (nI yk_9) (nI yp_10) yb_11)), (a 1, .inl (cm 1, 1400, .inl fT)), (a 19, .inl (cm 19, 2000, .inl gc_12)), (a 28, .inl (cm 28, 6, .inl go_13)), (a 29, .inl (cm 29, 700, .inl gl_14))] := hD
    exact W.vret hx hb hr (fun t ht hW => ⟨⟨(gc_12, go_13, gl_14, 0, c2_3, tp, ya_4, yn_5, yd_6, ye_7, yf_8, yk_9, (nI yp_10), yb_11, yd_6, ye_7, yf_8), rfl, (by (try dsimp only); exact ⟨rfl, hx15, hx16⟩), by rw [ht]; exact hP.sub [0, 1, 2, 3, 4] rfl, va_K.moved hW.alike (hK.sub [0, 1, 2, 3] rfl), hD.sub [0, 1, 2, 3, 4] (by decide) rfl⟩, hS.F ht⟩) hS.2.2 dX11_readsProgram_145
  ·
    have hz6 : ¬ tp ≤ 600 := fun q => hc2 (nI_le (b := 600) q (by decide))
    refine lv_aload_n hx hb dX11_readsProgram_58 rfl (lv_at hl 0 rfl) ?_
    refine lv_iconst (v := 1) hx hb dX11_readsProgram_59 (by decide) ?_
    refine lv_sipush (v := 600) hx hb dX11_readsProgram_60 (by decide) ?_
    have hPc := hP.sub (ws' := [(h0, .inr (11, gP a (upd i 2 0) g (nI 0) (nI tp) (nI 0) (-1) 0 (-1) (-1) (nI 0) (nI pl0) br))]) [0] rfl
    have hKc := hK.sub (tys' := []) [] rfl
    have hDc := hD.sub (ws' := [(h0, .inr (11, gP a (upd i 2 0) g (nI 0) (nI tp) (nI 0) (-1) 0 (-1) (-1) (nI 0) (nI pl0) br))]) [0] (by decide) rfl
    have hFc := va_free (wc := [(h0, .inr (11, gP a (upd i 2 0) g (nI 0) (nI tp) (nI 0) (-1) 0 (-1) (-1) (nI 0) (nI pl0) br))]) hD hS hA [0] rfl
    refine va_callv (va_runV (As := [.int 1, .int 600]) (rest := []) ⟨hx, hb, hml, hown, hts⟩ (c_fail l D _ h0 a cm (upd i 2 0) g 0 tp 0 (-1) 0 (-1) (-1) 0 pl0 br 1 600 (by decide)) (cwV 2 hts g_c_readsProgram_c_fail_310 rfl rfl rfl (by decide +kernel) ⟨(Nat.le_of_ble_eq_true rfl), (Nat.le_of_ble_eq_true rfl)⟩) (PcW_V (q0 := 0) hPc hKc hDc rfl rfl) rfl rfl hl.1 rfl (lv_room (Nat.le_of_ble_eq_true rfl)) dX11_readsProgram_63 ⟨(Nat.le_of_ble_eq_true rfl), (Nat.le_of_ble_eq_true rfl)⟩) hS (fun q _ h => hFc q h) hFc (fun uu tt H locs htt hvm hw hB hz1 hk1 hS => ?_)
    obtain ⟨w18, w19, w20⟩ := uu
    obtain ⟨hP1, hK1, hD1⟩ := hB
    rw [htt] at hP1
    have hK1 := va_K.moved hvm.symm hK1
    have hP1 : va_P D vwCl [(h0, .inr (11, gP a (upd i 2 0) g 0 (nI tp) 0 (-1) w18 w19 w20 0 (nI pl0) br))] H := hP1
    obtain ⟨hP, hD⟩ := va_join (wr := [(a 1, .inl (cm 1, 1400, .inl fT)), (a 19, .inl (cm 19, 2000, .inl fc)), (a 28, .inl (cm 28, 6, .inl fo)), (a 29, .inl (cm 29, 700, .inl fl))]) (w1 := [(h0, .inr (11, gP a (upd i 2 0) g 0 (nI tp) 0 (-1) w18 w19 w20 0 (nI pl0) br))]) hP hD [0] [1, 2, 3, 4] rfl rfl (by decide) (by decide) hk1 hFc hP1 hD1
    have hP : va_P D vwCl [(a 1, .inl (cm 1, 1400, .inl fT)), (a 19, .inl (cm 19, 2000, .inl fc)), (a 28, .inl (cm 28, 6, .inl fo)), (a 29, .inl (cm 29, 700, .inl fl)), (h0, .inr (11, gP a (upd i 2 0) g 0 (nI tp) 0 (-1) w18 w19 w20 0 (nI pl0) br))] H := hP
    have hD : va_D A [(a 1, .inl (cm 1, 1400, .inl fT)), (a 19, .inl (cm 19, 2000, .inl fc)), (a 28, .inl (cm 28, 6, .inl fo)), (a 29, .inl (cm 29, 700, .inl fl)), (h0, .inr (11, gP a (upd i 2 0) g 0 (nI tp) 0 (-1) w18 w19 w20 0 (nI pl0) br))] := hD
    try dsimp only at hw
    clear hz1 hk1 hFc hPc hKc hDc
    have hb21_b := hw
    refine lp_rp l D h0 a cm i g fT tp bt (readE bt tp) (htp2) (hbt) hx hb hml hown hts hA (hK.sub [0, 1, 2, 3] rfl) ?_ ((if w18 = 0 then (tp - 0) + 1 else 0) + 1) 0 0 (-1) w18 w19 w20 0 pl0 br fc fo fl (by omega) (by omega) (by omega) (fun z => absurd z hb21_b) (fun z => absurd z hb21_b) (fun _ => if_neg hz6) (Nat.lt_succ_self _) _ _ _ (hP.sub [4, 0, 1, 2, 3] rfl) (hD.sub [4, 0, 1, 2, 3] (by decide) rfl) hS (lv_sub hl [0] rfl)
    intro c2_22 ya_23 yn_24 yd_25 ye_26 yf_27 yk_28 yp_29 yb_30 gc_31 go_32 gl_33 hx34 hx35 H locs ls hP hD hS hl
    refine lv_aload_n hx hb dX11_readsProgram_121 rfl (lv_at hl 0 rfl) ?_
    refine lv_aload_n hx hb dX11_readsProgram_122 rfl (lv_at hl 0 rfl) ?_
    refine va_get (D := D) (ci := 11) (v := .int yd_25) (C := RX11) (T := TX11) (N := 47) hx hb hts hin_X11 hown hK hP 0 rfl rfl 24 (by decide) (hts (.fieldLink RX11 280 "ClashFreeModel" "bad" "I") (List.mem_of_getElem? (i := 22) rfl)) (fun _ h9 => h9) rfl dX11_readsProgram_123 ?_
    refine va_put (D := D) (ci := 11) (v := .int yd_25) (ty := .int) (C := RX11) (T := TX11) (N := 47) hx hb hts hin_X11 tyX11 tyX11_ok nmX11 hown hK hP hD hS 0 rfl rfl 32 (by decide) (hts (.fieldLink RX11 382 "ClashFreeModel" "faultKind" "I") (List.mem_of_getElem? (i := 26) rfl)) (fun _ h9 => h9) rfl (by decide +kernel) rfl rfl (Nat.le_of_ble_eq_true rfl) dX11_readsProgram_126 (fun H locs hP hD hS => ?_)
    have hP : va_P D vwCl [(h0, .inr (11, gP a (upd (upd i 2 0) 32 yd_25) g (nI c2_22) (nI tp) (nI ya_23) yn_24 yd_25 ye_26 yf_27 (nI yk_28) (nI yp_29) yb_30)), (a 1, .inl (cm 1, 1400, .inl fT)), (a 19, .inl (cm 19, 2000, .inl gc_31)), (a 28, .inl (cm 28, 6, .inl go_32)), (a 29, .inl (cm 29, 700, .inl gl_33))] H := hP
    have hD : va_D A [(h0, .inr (11, gP a (upd (upd i 2 0) 32 yd_25) g (nI c2_22) (nI tp) (nI ya_23) yn_24 yd_25 ye_26 yf_27 (nI yk_28) (nI yp_29) yb_30)), (a 1, .inl (cm 1, 1400, .inl fT)), (a 19, .inl (cm 19, 2000, .inl gc_31)), (a 28, .inl (cm 28, 6, .inl go_32)), (a 29, .inl (cm 29, 700, .inl gl_33))] := hD
    refine lv_aload_n hx hb dX11_readsProgram_129 rfl (lv_at hl 0 rfl) ?_
    refine lv_aload_n hx hb dX11_readsProgram_130 rfl (lv_at hl 0 rfl) ?_
    refine va_get (D := D) (ci := 11) (v := .int ye_26) (C := RX11) (T := TX11) (N := 47) hx hb hts hin_X11 hown hK hP 0 rfl rfl 25 (by decide) (hts (.fieldLink RX11 283 "ClashFreeModel" "badPlace" "I") (List.mem_of_getElem? (i := 23) rfl)) (fun _ h9 => h9) rfl dX11_readsProgram_131 ?_
    refine va_put (D := D) (ci := 11) (v := .int ye_26) (ty := .int) (C := RX11) (T := TX11) (N := 47) hx hb hts hin_X11 tyX11 tyX11_ok nmX11 hown hK hP hD hS 0 rfl rfl 33 (by decide) (hts (.fieldLink RX11 54 "ClashFreeModel" "faultPlace" "I") (List.mem_of_getElem? (i := 27) rfl)) (fun _ h9 => h9) rfl (by decide +kernel) rfl rfl (Nat.le_of_ble_eq_true rfl) dX11_readsProgram_134 (fun H locs hP hD hS => ?_)
    have hP : va_P D vwCl [(h0, .inr (11, gP a (upd (upd (upd i 2 0) 32 yd_25) 33 ye_26) g (nI c2_22) (nI tp) (nI ya_23) yn_24 yd_25 ye_26 yf_27 (nI yk_28) (nI yp_29) yb_30)), (a 1, .inl (cm 1, 1400, .inl fT)), (a 19, .inl (cm 19, 2000, .inl gc_31)), (a 28, .inl (cm 28, 6, .inl go_32)), (a 29, .inl (cm 29, 700, .inl gl_33))] H := hP
    have hD : va_D A [(h0, .inr (11, gP a (upd (upd (upd i 2 0) 32 yd_25) 33 ye_26) g (nI c2_22) (nI tp) (nI ya_23) yn_24 yd_25 ye_26 yf_27 (nI yk_28) (nI yp_29) yb_30)), (a 1, .inl (cm 1, 1400, .inl fT)), (a 19, .inl (cm 19, 2000, .inl gc_31)), (a 28, .inl (cm 28, 6, .inl go_32)), (a 29, .inl (cm 29, 700, .inl gl_33))] := hD
    refine lv_aload_n hx hb dX11_readsProgram_137 rfl (lv_at hl 0 rfl) ?_
    refine lv_aload_n hx hb dX11_readsProgram_138 rfl (lv_at hl 0 rfl) ?_
    refine va_get (D := D) (ci := 11) (v := .int yf_27) (C := RX11) (T := TX11) (N := 47) hx hb hts hin_X11 hown hK hP 0 rfl rfl 26 (by decide) (hts (.fieldLink RX11 289 "ClashFreeModel" "badDepth" "I") (List.mem_of_getElem? (i := 24) rfl)) (fun _ h9 => h9) rfl dX11_readsProgram_139 ?_
    refine va_put (D := D) (ci := 11) (v := .int yf_27) (ty := .int) (C := RX11) (T := TX11) (N := 47) hx hb hts hin_X11 tyX11 tyX11_ok nmX11 hown hK hP hD hS 0 rfl rfl 34 (by decide) (hts (.fieldLink RX11 58 "ClashFreeModel" "faultDepth" "I") (List.mem_of_getElem? (i := 28) rfl)) (fun _ h9 => h9) rfl (by decide +kernel) rfl rfl (Nat.le_of_ble_eq_true rfl) dX11_readsProgram_142 (fun H locs hP hD hS => ?_)
    have hP : va_P D vwCl [(h0, .inr (11, gP a (upd (upd (upd (upd i 2 0) 32 yd_25) 33 ye_26) 34 yf_27) g (nI c2_22) (nI tp) (nI ya_23) yn_24 yd_25 ye_26 yf_27 (nI yk_28) (nI yp_29) yb_30)), (a 1, .inl (cm 1, 1400, .inl fT)), (a 19, .inl (cm 19, 2000, .inl gc_31)), (a 28, .inl (cm 28, 6, .inl go_32)), (a 29, .inl (cm 29, 700, .inl gl_33))] H := hP
    have hD : va_D A [(h0, .inr (11, gP a (upd (upd (upd (upd i 2 0) 32 yd_25) 33 ye_26) 34 yf_27) g (nI c2_22) (nI tp) (nI ya_23) yn_24 yd_25 ye_26 yf_27 (nI yk_28) (nI yp_29) yb_30)), (a 1, .inl (cm 1, 1400, .inl fT)), (a 19, .inl (cm 19, 2000, .inl gc_31)), (a 28, .inl (cm 28, 6, .inl go_32)), (a 29, .inl (cm 29, 700, .inl gl_33))] := hD
    exact W.vret hx hb hr (fun t ht hW => ⟨⟨(gc_31, go_32, gl_33, 0, c2_22, tp, ya_23, yn_24, yd_25, ye_26, yf_27, yk_28, (nI yp_29), yb_30, yd_25, ye_26, yf_27), rfl, (by (try dsimp only); exact ⟨rfl, hx34, hx35⟩), by rw [ht]; exact hP.sub [0, 1, 2, 3, 4] rfl, va_K.moved hW.alike (hK.sub [0, 1, 2, 3] rfl), hD.sub [0, 1, 2, 3, 4] (by decide) rfl⟩, hS.F ht⟩) hS.2.2 dX11_readsProgram_145

