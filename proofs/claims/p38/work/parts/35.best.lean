theorem dX11_best_0 : decode cX11_best 0 = .ok (.aload_n 0, 1) := by decide +kernel
theorem dX11_best_1 : decode cX11_best 1 = .ok (.iconst 0, 1) := by decide +kernel
theorem dX11_best_2 : decode cX11_best 2 = .ok (.putfield 73, 3) := by decide +kernel
theorem dX11_best_5 : decode cX11_best 5 = .ok (.aload_n 0, 1) := by decide +kernel
theorem dX11_best_6 : decode cX11_best 6 = .ok (.iload_n 1, 1) := by decide +kernel
theorem dX11_best_7 : decode cX11_best 7 = .ok (.invokevirtual 222, 3) := by decide +kernel
theorem dX11_best_10 : decode cX11_best 10 = .ok (.ifCond .eq 28, 3) := by decide +kernel
theorem dX11_best_13 : decode cX11_best 13 = .ok (.iload_n 2, 1) := by decide +kernel
theorem dX11_best_14 : decode cX11_best 14 = .ok (.i2l, 1) := by decide +kernel
theorem dX11_best_15 : decode cX11_best 15 = .ok (.lconst 1, 1) := by decide +kernel
theorem dX11_best_16 : decode cX11_best 16 = .ok (.ldc2_w 186, 3) := by decide +kernel
theorem dX11_best_19 : decode cX11_best 19 = .ok (.invokestatic 83, 3) := by decide +kernel
theorem dX11_best_22 : decode cX11_best 22 = .ok (.ifCond .eq 16, 3) := by decide +kernel
theorem dX11_best_25 : decode cX11_best 25 = .ok (.iload 5, 2) := by decide +kernel
theorem dX11_best_27 : decode cX11_best 27 = .ok (.i2l, 1) := by decide +kernel
theorem dX11_best_28 : decode cX11_best 28 = .ok (.lconst 0, 1) := by decide +kernel
theorem dX11_best_29 : decode cX11_best 29 = .ok (.ldc2_w 210, 3) := by decide +kernel
theorem dX11_best_32 : decode cX11_best 32 = .ok (.invokestatic 83, 3) := by decide +kernel
theorem dX11_best_35 : decode cX11_best 35 = .ok (.ifCond .ne 7, 3) := by decide +kernel
theorem dX11_best_38 : decode cX11_best 38 = .ok (.ldc2_w 235, 3) := by decide +kernel
theorem dX11_best_41 : decode cX11_best 41 = .ok (.lreturn, 1) := by decide +kernel
theorem dX11_best_42 : decode cX11_best 42 = .ok (.aload_n 0, 1) := by decide +kernel
theorem dX11_best_43 : decode cX11_best 43 = .ok (.lload_n 3, 1) := by decide +kernel
theorem dX11_best_44 : decode cX11_best 44 = .ok (.putfield 105, 3) := by decide +kernel
theorem dX11_best_47 : decode cX11_best 47 = .ok (.iconst (-1), 1) := by decide +kernel
theorem dX11_best_48 : decode cX11_best 48 = .ok (.istore 6, 2) := by decide +kernel
theorem dX11_best_50 : decode cX11_best 50 = .ok (.iconst 0, 1) := by decide +kernel
theorem dX11_best_51 : decode cX11_best 51 = .ok (.istore 7, 2) := by decide +kernel
theorem dX11_best_53 : decode cX11_best 53 = .ok (.lconst 0, 1) := by decide +kernel
theorem dX11_best_54 : decode cX11_best 54 = .ok (.lstore 8, 2) := by decide +kernel
theorem dX11_best_56 : decode cX11_best 56 = .ok (.iconst 0, 1) := by decide +kernel
theorem dX11_best_57 : decode cX11_best 57 = .ok (.istore 10, 2) := by decide +kernel
theorem dX11_best_59 : decode cX11_best 59 = .ok (.iload 10, 2) := by decide +kernel
theorem dX11_best_61 : decode cX11_best 61 = .ok (.iload_n 2, 1) := by decide +kernel
theorem dX11_best_62 : decode cX11_best 62 = .ok (.if_icmp .ge 86, 3) := by decide +kernel
theorem dX11_best_65 : decode cX11_best 65 = .ok (.aload_n 0, 1) := by decide +kernel
theorem dX11_best_66 : decode cX11_best 66 = .ok (.invokevirtual 141, 3) := by decide +kernel
theorem dX11_best_69 : decode cX11_best 69 = .ok (.aload_n 0, 1) := by decide +kernel
theorem dX11_best_70 : decode cX11_best 70 = .ok (.iload_n 1, 1) := by decide +kernel
theorem dX11_best_71 : decode cX11_best 71 = .ok (.aload_n 0, 1) := by decide +kernel
theorem dX11_best_72 : decode cX11_best 72 = .ok (.getfield 117, 3) := by decide +kernel
theorem dX11_best_75 : decode cX11_best 75 = .ok (.aload_n 0, 1) := by decide +kernel
theorem dX11_best_76 : decode cX11_best 76 = .ok (.getfield 120, 3) := by decide +kernel
theorem dX11_best_79 : decode cX11_best 79 = .ok (.invokevirtual 255, 3) := by decide +kernel
theorem dX11_best_82 : decode cX11_best 82 = .ok (.lstore 11, 2) := by decide +kernel
theorem dX11_best_84 : decode cX11_best 84 = .ok (.iload 7, 2) := by decide +kernel
theorem dX11_best_86 : decode cX11_best 86 = .ok (.lload 11, 2) := by decide +kernel
theorem dX11_best_88 : decode cX11_best 88 = .ok (.aload_n 0, 1) := by decide +kernel
theorem dX11_best_89 : decode cX11_best 89 = .ok (.iload_n 1, 1) := by decide +kernel
theorem dX11_best_90 : decode cX11_best 90 = .ok (.bipush 14, 2) := by decide +kernel
theorem dX11_best_92 : decode cX11_best 92 = .ok (.invokevirtual 89, 3) := by decide +kernel
theorem dX11_best_95 : decode cX11_best 95 = .ok (.aload_n 0, 1) := by decide +kernel
theorem dX11_best_96 : decode cX11_best 96 = .ok (.iload_n 1, 1) := by decide +kernel
theorem dX11_best_97 : decode cX11_best 97 = .ok (.iconst 2, 1) := by decide +kernel
theorem dX11_best_98 : decode cX11_best 98 = .ok (.invokevirtual 89, 3) := by decide +kernel
theorem dX11_best_101 : decode cX11_best 101 = .ok (.lmul, 1) := by decide +kernel
theorem dX11_best_102 : decode cX11_best 102 = .ok (.lcmp, 1) := by decide +kernel
theorem dX11_best_103 : decode cX11_best 103 = .ok (.ifCond .gt 7, 3) := by decide +kernel
theorem dX11_best_106 : decode cX11_best 106 = .ok (.iconst 1, 1) := by decide +kernel
theorem dX11_best_107 : decode cX11_best 107 = .ok (.goto 4, 3) := by decide +kernel
theorem dX11_best_110 : decode cX11_best 110 = .ok (.iconst 0, 1) := by decide +kernel
theorem dX11_best_111 : decode cX11_best 111 = .ok (.invokestatic 198, 3) := by decide +kernel
theorem dX11_best_114 : decode cX11_best 114 = .ok (.iadd, 1) := by decide +kernel
theorem dX11_best_115 : decode cX11_best 115 = .ok (.istore 7, 2) := by decide +kernel
theorem dX11_best_117 : decode cX11_best 117 = .ok (.iload 6, 2) := by decide +kernel
theorem dX11_best_119 : decode cX11_best 119 = .ok (.iconst (-1), 1) := by decide +kernel
theorem dX11_best_120 : decode cX11_best 120 = .ok (.if_icmp .eq 14, 3) := by decide +kernel
theorem dX11_best_123 : decode cX11_best 123 = .ok (.lload 11, 2) := by decide +kernel
theorem dX11_best_125 : decode cX11_best 125 = .ok (.lload 8, 2) := by decide +kernel
theorem dX11_best_127 : decode cX11_best 127 = .ok (.lcmp, 1) := by decide +kernel
theorem dX11_best_128 : decode cX11_best 128 = .ok (.ifCond .lt 6, 3) := by decide +kernel
theorem dX11_best_131 : decode cX11_best 131 = .ok (.goto 11, 3) := by decide +kernel
theorem dX11_best_134 : decode cX11_best 134 = .ok (.iload 10, 2) := by decide +kernel
theorem dX11_best_136 : decode cX11_best 136 = .ok (.istore 6, 2) := by decide +kernel
theorem dX11_best_138 : decode cX11_best 138 = .ok (.lload 11, 2) := by decide +kernel
theorem dX11_best_140 : decode cX11_best 140 = .ok (.lstore 8, 2) := by decide +kernel
theorem dX11_best_142 : decode cX11_best 142 = .ok (.iinc 10 1, 3) := by decide +kernel
theorem dX11_best_145 : decode cX11_best 145 = .ok (.goto (-86), 3) := by decide +kernel
theorem dX11_best_148 : decode cX11_best 148 = .ok (.iload 5, 2) := by decide +kernel
theorem dX11_best_150 : decode cX11_best 150 = .ok (.ifCond .ne 9, 3) := by decide +kernel
theorem dX11_best_153 : decode cX11_best 153 = .ok (.iload 6, 2) := by decide +kernel
theorem dX11_best_155 : decode cX11_best 155 = .ok (.i2l, 1) := by decide +kernel
theorem dX11_best_156 : decode cX11_best 156 = .ok (.goto 17, 3) := by decide +kernel
theorem dX11_best_159 : decode cX11_best 159 = .ok (.iload 5, 2) := by decide +kernel
theorem dX11_best_161 : decode cX11_best 161 = .ok (.iconst 1, 1) := by decide +kernel
theorem dX11_best_162 : decode cX11_best 162 = .ok (.if_icmp .ne 8, 3) := by decide +kernel
theorem dX11_best_165 : decode cX11_best 165 = .ok (.lload 8, 2) := by decide +kernel
theorem dX11_best_167 : decode cX11_best 167 = .ok (.goto 6, 3) := by decide +kernel
theorem dX11_best_170 : decode cX11_best 170 = .ok (.iload 7, 2) := by decide +kernel
theorem dX11_best_172 : decode cX11_best 172 = .ok (.i2l, 1) := by decide +kernel
theorem dX11_best_173 : decode cX11_best 173 = .ok (.lreturn, 1) := by decide +kernel
def own_c_bestM : List Cond := [.methodLink RX11 141 yX11_drawsPair, .instanceMethod yX11_drawsPair, .selects RX11 yX11_drawsPair yX11_drawsPair, .initialized RX11, .fieldLink RX11 117 "ClashFreeModel" "pairA" "J", .fieldLink RX11 120 "ClashFreeModel" "pairB" "J", .methodLink RX11 255 yX11_sumBy, .instanceMethod yX11_sumBy, .selects RX11 yX11_sumBy yX11_sumBy, .methodLink RX11 89 yX11_of, .instanceMethod yX11_of, .selects RX11 yX11_of yX11_of, .methodLink RX11 198 yX11_flag, .static yX11_flag, .fieldLink RX11 73 "ClashFreeModel" "thrown" "I", .methodLink RX11 222 yX11_isThere, .instanceMethod yX11_isThere, .selects RX11 yX11_isThere yX11_isThere, .constantLong RX11 186 (200), .methodLink RX11 83 yX11_isIn, .static yX11_isIn, .constantLong RX11 210 (2), .fieldLink RX11 105 "ClashFreeModel" "seed" "J", .constantLong RX11 235 (-1000000000000000)]
def wp_c_bestM : List Cond := .code yX11_best cX11_best 13 (some .long) :: (own_c_bestM ++ (wp_c_drawsPair ++ (wp_c_sumBy ++ (wp_c_of ++ (wp_c_flag ++ (wp_c_isThere ++ (wp_c_isIn ++ (wsX110 ++ ([] : List Cond)))))))))
set_option maxRecDepth 20000 in
theorem inown_c_bestM : ∀ w ∈ own_c_bestM, w ∈ lw_tbl := mem_places [1410, 1412, 43, 115, 1229, 1230, 1604, 1606, 67, 1400, 1402, 41, 1502, 1503, 1216, 1466, 1468, 54, 1383, 1371, 1372, 1497, 1228, 1517] (by decide +kernel)
set_option maxRecDepth 20000 in
theorem in_c_bestM : ∀ w ∈ wp_c_bestM, w ∈ lw_tbl := List.forall_mem_cons.mpr ⟨List.mem_of_getElem? (i := 1603) (by decide +kernel), List.forall_mem_append.mpr ⟨inown_c_bestM, List.forall_mem_append.mpr ⟨in_c_drawsPair, List.forall_mem_append.mpr ⟨in_c_sumBy, List.forall_mem_append.mpr ⟨in_c_of, List.forall_mem_append.mpr ⟨in_c_flag, List.forall_mem_append.mpr ⟨in_c_isThere, List.forall_mem_append.mpr ⟨in_c_isIn, List.forall_mem_append.mpr ⟨lwb_X11, fun _ h => absurd h List.not_mem_nil⟩⟩⟩⟩⟩⟩⟩⟩⟩
set_option maxRecDepth 20000 in
theorem good_c_bestM : wp_c_bestM.all goodWord = true := by decide +kernel
set_option maxRecDepth 20000 in
theorem g_c_bestM_c_drawsPair_141 : GoodIn wp_c_bestM (wsV RX11 141 RX11 yX11_drawsPair wp_c_drawsPair) := goodIn_sub (List.forall_mem_append.mpr ⟨List.forall_mem_cons.mpr ⟨(List.mem_of_getElem? (i := 1) rfl), List.forall_mem_cons.mpr ⟨(List.mem_of_getElem? (i := 2) rfl), List.forall_mem_cons.mpr ⟨(List.mem_of_getElem? (i := 3) rfl), List.forall_mem_cons.mpr ⟨(List.mem_of_getElem? (i := 4) rfl), fun _ h => absurd h List.not_mem_nil⟩⟩⟩⟩, (fun _ h => (List.mem_cons_of_mem _ (List.mem_append_right _ (List.mem_append_left _ h))))⟩) (by decide +kernel)
set_option maxRecDepth 20000 in
theorem g_c_bestM_c_sumBy_255 : GoodIn wp_c_bestM (wsV RX11 255 RX11 yX11_sumBy wp_c_sumBy) := goodIn_sub (List.forall_mem_append.mpr ⟨List.forall_mem_cons.mpr ⟨(List.mem_of_getElem? (i := 7) rfl), List.forall_mem_cons.mpr ⟨(List.mem_of_getElem? (i := 8) rfl), List.forall_mem_cons.mpr ⟨(List.mem_of_getElem? (i := 9) rfl), List.forall_mem_cons.mpr ⟨(List.mem_of_getElem? (i := 4) rfl), fun _ h => absurd h List.not_mem_nil⟩⟩⟩⟩, (fun _ h => (List.mem_cons_of_mem _ (List.mem_append_right _ (List.mem_append_right _ (List.mem_append_left _ h)))))⟩) (by decide +kernel)
set_option maxRecDepth 20000 in
theorem g_c_bestM_c_of_89 : GoodIn wp_c_bestM (wsV RX11 89 RX11 yX11_of wp_c_of) := goodIn_sub (List.forall_mem_append.mpr ⟨List.forall_mem_cons.mpr ⟨(List.mem_of_getElem? (i := 10) rfl), List.forall_mem_cons.mpr ⟨(List.mem_of_getElem? (i := 11) rfl), List.forall_mem_cons.mpr ⟨(List.mem_of_getElem? (i := 12) rfl), List.forall_mem_cons.mpr ⟨(List.mem_of_getElem? (i := 4) rfl), fun _ h => absurd h List.not_mem_nil⟩⟩⟩⟩, (fun _ h => (List.mem_cons_of_mem _ (List.mem_append_right _ (List.mem_append_right _ (List.mem_append_right _ (List.mem_append_left _ h))))))⟩) (by decide +kernel)
set_option maxRecDepth 20000 in
theorem g_c_bestM_c_flag_198 : GoodIn wp_c_bestM (va_wsS RX11 198 yX11_flag wp_c_flag) := goodIn_sub (List.forall_mem_append.mpr ⟨List.forall_mem_cons.mpr ⟨(List.mem_of_getElem? (i := 13) rfl), List.forall_mem_cons.mpr ⟨(List.mem_of_getElem? (i := 14) rfl), List.forall_mem_cons.mpr ⟨(List.mem_of_getElem? (i := 4) rfl), fun _ h => absurd h List.not_mem_nil⟩⟩⟩, (fun _ h => (List.mem_cons_of_mem _ (List.mem_append_right _ (List.mem_append_right _ (List.mem_append_right _ (List.mem_append_right _ (List.mem_append_left _ h)))))))⟩) (by decide +kernel)
set_option maxRecDepth 20000 in
theorem g_c_bestM_c_isThere_222 : GoodIn wp_c_bestM (wsV RX11 222 RX11 yX11_isThere wp_c_isThere) := goodIn_sub (List.forall_mem_append.mpr ⟨List.forall_mem_cons.mpr ⟨(List.mem_of_getElem? (i := 16) rfl), List.forall_mem_cons.mpr ⟨(List.mem_of_getElem? (i := 17) rfl), List.forall_mem_cons.mpr ⟨(List.mem_of_getElem? (i := 18) rfl), List.forall_mem_cons.mpr ⟨(List.mem_of_getElem? (i := 4) rfl), fun _ h => absurd h List.not_mem_nil⟩⟩⟩⟩, (fun _ h => (List.mem_cons_of_mem _ (List.mem_append_right _ (List.mem_append_right _ (List.mem_append_right _ (List.mem_append_right _ (List.mem_append_right _ (List.mem_append_left _ h))))))))⟩) (by decide +kernel)
set_option maxRecDepth 20000 in
theorem g_c_bestM_c_isIn_83 : GoodIn wp_c_bestM (va_wsS RX11 83 yX11_isIn wp_c_isIn) := goodIn_sub (List.forall_mem_append.mpr ⟨List.forall_mem_cons.mpr ⟨(List.mem_of_getElem? (i := 20) rfl), List.forall_mem_cons.mpr ⟨(List.mem_of_getElem? (i := 21) rfl), List.forall_mem_cons.mpr ⟨(List.mem_of_getElem? (i := 4) rfl), fun _ h => absurd h List.not_mem_nil⟩⟩⟩, (fun _ h => (List.mem_cons_of_mem _ (List.mem_append_right _ (List.mem_append_right _ (List.mem_append_right _ (List.mem_append_right _ (List.mem_append_right _ (List.mem_append_right _ (List.mem_append_left _ h)))))))))⟩) (by decide +kernel)
set_option maxHeartbeats 4000000 in
set_option maxRecDepth 100000 in
theorem lp_best (l : Launch) {p : Program} {e : Env} {s : State} {m : MethodId} {args : Array Value} {below : List Frame} {meth : Method} {c : Code} {Q : State → Prop} {A : Nat → Prop} (D : va_G) (h0 : Nat) (a : Nat → Nat) (cm : Nat → ClassId) (i : Nat → Int32) (g : Nat → Int64) (fn : Nat → Int64) (fk : Nat → Int32) (fb : Nat → Int32) (ff : Nat → Int32) (fh : Nat → Int32) (fa : Nat → Int64) (fs : Nat → Int64) (z4 : Int32) (k : Nat) (cn : Nat) (nb : Nat) (K : Nat → Nat) (J : Nat → Nat) (nn : Nat) (hk : k < 4) (hT : TabS k cn nb K J fn fk fb ff fh) (hnn : nn ≤ 200) (hx : p.tables.exec = Jvm.exec) (hb : c.code = cX11_best) (hml : c.maxLocals = 13) (hown : s.vm.findClass RX11 = some m.cls) (hts : ∀ w ∈ wp_c_bestM, w.before args s = true) (hA : ∀ q, s.heap.size ≤ q → A q) (hK : va_K D vwCl [(cm 3, .long), (cm 4, .int), (cm 6, .int), (cm 8, .int), (cm 9, .int), (cm 10, .long), (cm 11, .long), (cm 16, .int)] s) (kx148 : ∀ (x : Nat), ∀ (le : Int64), ∀ (go : Int32), ∀ (be : Int32), ∀ (sd : Int64), ∀ (pa : Int64), ∀ (pb : Int64), ∀ (dr : Int32), ∀ (gp : Nat → Int32), (x ≤ nn) → ∀ (H : Heap) (locs : List Loc) (ls : Array Slot), va_P D vwCl [(h0, .inr (11, gM a (upd (upd i 0 0) 15 dr) (vp_updL (vp_updL (vp_updL (fun _ => 0) 12 sd) 13 pa) 14 pb))), (a 3, .inl (cm 3, 85, .inr (.inl fn))), (a 4, .inl (cm 4, 800, .inl fk)), (a 6, .inl (cm 6, 800, .inl fb)), (a 8, .inl (cm 8, 10240, .inl ff)), (a 9, .inl (cm 9, 10240, .inl fh)), (a 10, .inl (cm 10, 10240, .inr (.inl fa))), (a 11, .inl (cm 11, 10240, .inr (.inl fs))), (a 16, .inl (cm 16, 2048, .inl gp))] H → va_D A [(h0, .inr (11, gM a (upd (upd i 0 0) 15 dr) (vp_updL (vp_updL (vp_updL (fun _ => 0) 12 sd) 13 pa) 14 pb))), (a 3, .inl (cm 3, 85, .inr (.inl fn))), (a 4, .inl (cm 4, 800, .inl fk)), (a 6, .inl (cm 6, 800, .inl fb)), (a 8, .inl (cm 8, 10240, .inl ff)), (a 9, .inl (cm 9, 10240, .inl fh)), (a 10, .inl (cm 10, 10240, .inr (.inl fa))), (a 11, .inl (cm 11, 10240, .inr (.inl fs))), (a 16, .inl (cm 16, 2048, .inl gp))] → va_S A s.heap H locs → lv_has ls 13 [(8, .long le), (7, .int go), (6, .int be), (0, .ref h0), (5, .int z4)] → W p l e ({ frames := 6, cells := 0, slots := 0, locals := 160 }) s m args below meth c H locs 0 0 Q (F0 m 148 ls [])) : ∀ (N : Nat), ∀ (x : Nat), ∀ (le : Int64), ∀ (go : Int32), ∀ (be : Int32), ∀ (sd : Int64), ∀ (pa : Int64), ∀ (pb : Int64), ∀ (dr : Int32), ∀ (gp : Nat → Int32), (x ≤ nn) → nn - x < N → ∀ (H : Heap) (locs : List Loc) (ls : Array Slot), va_P D vwCl [(h0, .inr (11, gM a (upd (upd i 0 0) 15 dr) (vp_updL (vp_updL (vp_updL (fun _ => 0) 12 sd) 13 pa) 14 pb))), (a 3, .inl (cm 3, 85, .inr (.inl fn))), (a 4, .inl (cm 4, 800, .inl fk)), (a 6, .inl (cm 6, 800, .inl fb)), (a 8, .inl (cm 8, 10240, .inl ff)), (a 9, .inl (cm 9, 10240, .inl fh)), (a 10, .inl (cm 10, 10240, .inr (.inl fa))), (a 11, .inl (cm 11, 10240, .inr (.inl fs))), (a 16, .inl (cm 16, 2048, .inl gp))] H → va_D A [(h0, .inr (11, gM a (upd (upd i 0 0) 15 dr) (vp_updL (vp_updL (vp_updL (fun _ => 0) 12 sd) 13 pa) 14 pb))), (a 3, .inl (cm 3, 85, .inr (.inl fn))), (a 4, .inl (cm 4, 800, .inl fk)), (a 6, .inl (cm 6, 800, .inl fb)), (a 8, .inl (cm 8, 10240, .inl ff)), (a 9, .inl (cm 9, 10240, .inl fh)), (a 10, .inl (cm 10, 10240, .inr (.inl fa))), (a 11, .inl (cm 11, 10240, .inr (.inl fs))), (a 16, .inl (cm 16, 2048, .inl gp))] → va_S A s.heap H locs → lv_has ls 13 [(10, .int (nI x)), (8, .long le), (7, .int go), (6, .int be), (0, .ref h0), (1, .int (nI k)), (2, .int (nI nn)), (5, .int z4)] → W p l e ({ frames := 6, cells := 0, slots := 0, locals := 160 }) s m args below meth c H locs 0 0 Q (F0 m 59 ls []) := by
  have hin_X11 : ∀ w ∈ wsX110, w ∈ wp_c_bestM := fun _ h => (List.mem_cons_of_mem _ (List.mem_append_right _ (List.mem_append_right _ (List.mem_append_right _ (List.mem_append_right _ (List.mem_append_right _ (List.mem_append_right _ (List.mem_append_right _ (List.mem_append_left _ h)))))))))
  intro N
  induction N with
  | zero =>
    intro x le go be sd pa pb dr gp hx2 hm
    exact absurd hm (Nat.not_lt_zero _)
  | succ N ih =>
    intro x le go be sd pa pb dr gp hx2 hm H locs ls hP hD hS hl
    obtain ⟨h1, hcn, h4, hn1, hn2, ⟨ka, kb, hka, hkb, h6, h7⟩, hKy, hBk, hHs, ⟨bn, ns, gr, h14, hbn, h15, hs1, hs2, h16, hgr⟩⟩ := id hT
    refine lv_iload hx hb dX11_best_59 (lv_at hl 0 rfl) ?_
    refine lv_iload_n hx hb dX11_best_61 rfl (lv_at hl 6 rfl) ?_
    refine lv_icmp_ge (tgt := 148) hx hb dX11_best_62 (by decide) (fun hc1 => ?_) (fun hc1 => ?_)
    ·
      exact kx148 x le go be sd pa pb dr gp (hx2) H locs ls (hP.sub [0, 1, 2, 3, 4, 5, 6, 7, 8] rfl) (hD.sub [0, 1, 2, 3, 4, 5, 6, 7, 8] (by decide) rfl) hS (lv_sub hl [1, 2, 3, 4, 7] rfl)
    ·
      have hlt_x : x < nn := by
        rcases Nat.lt_or_ge x nn with z | z
        · exact z
        · exact absurd (nI_le z (by omega)) hc1
      refine lv_aload_n hx hb dX11_best_65 rfl (lv_at hl 4 rfl) ?_
      have hPc := hP.sub (ws' := [(h0, .inr (11, gM a (upd (upd i 0 0) 15 dr) (vp_updL (vp_updL (vp_updL (fun _ => 0) 12 sd) 13 pa) 14 pb)))]) [0] rfl
      have hKc := hK.sub (tys' := []) [] rfl
      have hDc := hD.sub (ws' := [(h0, .inr (11, gM a (upd (upd i 0 0) 15 dr) (vp_updL (vp_updL (vp_updL (fun _ => 0) 12 sd) 13 pa) 14 pb)))]) [0] (by decide) rfl
      have hFc := va_free (wc := [(h0, .inr (11, gM a (upd (upd i 0 0) 15 dr) (vp_updL (vp_updL (vp_updL (fun _ => 0) 12 sd) 13 pa) 14 pb)))]) hD hS hA [0] rfl
      refine va_callv (va_runV (As := []) (rest := []) ⟨hx, hb, hml, hown, hts⟩ (c_drawsPair l D _ h0 a cm (upd (upd i 0 0) 15 dr) (vp_updL (vp_updL (vp_updL (fun _ => 0) 12 sd) 13 pa) 14 pb)) (cwV 0 hts g_c_bestM_c_drawsPair_141 rfl rfl rfl (by decide +kernel) ⟨(Nat.le_of_ble_eq_true rfl), (Nat.le_of_ble_eq_true rfl)⟩) (PcW_V (q0 := 0) hPc hKc hDc rfl rfl) rfl rfl hl.1 rfl (lv_room (Nat.le_of_ble_eq_true rfl)) dX11_best_66 ⟨(Nat.le_of_ble_eq_true rfl), (Nat.le_of_ble_eq_true rfl)⟩) hS (fun q _ h => hFc q h) hFc (fun uu tt H locs htt hvm hw hB hz1 hk1 hS => ?_)
      obtain ⟨w3, w4, w5, w6⟩ := uu
      obtain ⟨hP1, hK1, hD1⟩ := hB
      rw [htt] at hP1
      have hK1 := va_K.moved hvm.symm hK1
      have hP1 : va_P D vwCl [(h0, .inr (11, gM a (upd (upd i 0 0) 15 w6) (vp_updL (vp_updL (vp_updL (fun _ => 0) 12 w3) 13 w4) 14 w5)))] H := hP1
      obtain ⟨hP, hD⟩ := va_join (wr := [(a 3, .inl (cm 3, 85, .inr (.inl fn))), (a 4, .inl (cm 4, 800, .inl fk)), (a 6, .inl (cm 6, 800, .inl fb)), (a 8, .inl (cm 8, 10240, .inl ff)), (a 9, .inl (cm 9, 10240, .inl fh)), (a 10, .inl (cm 10, 10240, .inr (.inl fa))), (a 11, .inl (cm 11, 10240, .inr (.inl fs))), (a 16, .inl (cm 16, 2048, .inl gp))]) (w1 := [(h0, .inr (11, gM a (upd (upd i 0 0) 15 w6) (vp_updL (vp_updL (vp_updL (fun _ => 0) 12 w3) 13 w4) 14 w5)))]) hP hD [0] [1, 2, 3, 4, 5, 6, 7, 8] rfl rfl (by decide) (by decide) hk1 hFc hP1 hD1
      have hP : va_P D vwCl [(a 3, .inl (cm 3, 85, .inr (.inl fn))), (a 4, .inl (cm 4, 800, .inl fk)), (a 6, .inl (cm 6, 800, .inl fb)), (a 8, .inl (cm 8, 10240, .inl ff)), (a 9, .inl (cm 9, 10240, .inl fh)), (a 10, .inl (cm 10, 10240, .inr (.inl fa))), (a 11, .inl (cm 11, 10240, .inr (.inl fs))), (a 16, .inl (cm 16, 2048, .inl gp)), (h0, .inr (11, gM a (upd (upd i 0 0) 15 w6) (vp_updL (vp_updL (vp_updL (fun _ => 0) 12 w3) 13 w4) 14 w5)))] H := hP
      have hD : va_D A [(a 3, .inl (cm 3, 85, .inr (.inl fn))), (a 4, .inl (cm 4, 800, .inl fk)), (a 6, .inl (cm 6, 800, .inl fb)), (a 8, .inl (cm 8, 10240, .inl ff)), (a 9, .inl (cm 9, 10240, .inl fh)), (a 10, .inl (cm 10, 10240, .inr (.inl fa))), (a 11, .inl (cm 11, 10240, .inr (.inl fs))), (a 16, .inl (cm 16, 2048, .inl gp)), (h0, .inr (11, gM a (upd (upd i 0 0) 15 w6) (vp_updL (vp_updL (vp_updL (fun _ => 0) 12 w3) 13 w4) 14 w5)))] := hD
      try dsimp only at hw
      clear hz1 hk1 hFc hPc hKc hDc
      obtain ⟨es_r2, ⟨ka7, kb8, e2, e3, hka7, hkb8, eka7⟩, ed_r2⟩ := hw
      have es_r2 : w3 = sdn sd := es_r2
      have eka7 : ka7 = aOf sd := eka7
      have ed_r2 : w6 = dr + 1 := ed_r2
      obtain rfl : w4 = lN ka7 := e2
      obtain rfl : w5 = lN kb8 := e3
      have hP : va_P D vwCl [(a 3, .inl (cm 3, 85, .inr (.inl fn))), (a 4, .inl (cm 4, 800, .inl fk)), (a 6, .inl (cm 6, 800, .inl fb)), (a 8, .inl (cm 8, 10240, .inl ff)), (a 9, .inl (cm 9, 10240, .inl fh)), (a 10, .inl (cm 10, 10240, .inr (.inl fa))), (a 11, .inl (cm 11, 10240, .inr (.inl fs))), (a 16, .inl (cm 16, 2048, .inl gp)), (h0, .inr (11, gM a (upd (upd i 0 0) 15 w6) (vp_updL (vp_updL (vp_updL (fun _ => 0) 12 w3) 13 (lN ka7)) 14 (lN kb8))))] H := hP
      have hD : va_D A [(a 3, .inl (cm 3, 85, .inr (.inl fn))), (a 4, .inl (cm 4, 800, .inl fk)), (a 6, .inl (cm 6, 800, .inl fb)), (a 8, .inl (cm 8, 10240, .inl ff)), (a 9, .inl (cm 9, 10240, .inl fh)), (a 10, .inl (cm 10, 10240, .inr (.inl fa))), (a 11, .inl (cm 11, 10240, .inr (.inl fs))), (a 16, .inl (cm 16, 2048, .inl gp)), (h0, .inr (11, gM a (upd (upd i 0 0) 15 w6) (vp_updL (vp_updL (vp_updL (fun _ => 0) 12 w3) 13 (lN ka7)) 14 (lN kb8))))] := hD
      refine lv_aload_n hx hb dX11_best_69 rfl (lv_at hl 4 rfl) ?_
      refine lv_iload_n hx hb dX11_best_70 rfl (lv_at hl 5 rfl) ?_
      refine lv_aload_n hx hb dX11_best_71 rfl (lv_at hl 4 rfl) ?_
      refine va_get (D := D) (ci := 11) (v := .long (lN ka7)) (C := RX11) (T := TX11) (N := 47) hx hb hts hin_X11 hown hK hP 8 rfl rfl 13 (by decide) (hts (.fieldLink RX11 117 "ClashFreeModel" "pairA" "J") (List.mem_of_getElem? (i := 5) rfl)) (fun _ h9 => h9) rfl dX11_best_72 ?_
      refine lv_aload_n hx hb dX11_best_75 rfl (lv_at hl 4 rfl) ?_
      refine va_get (D := D) (ci := 11) (v := .long (lN kb8)) (C := RX11) (T := TX11) (N := 47) hx hb hts hin_X11 hown hK hP 8 rfl rfl 14 (by decide) (hts (.fieldLink RX11 120 "ClashFreeModel" "pairB" "J") (List.mem_of_getElem? (i := 6) rfl)) (fun _ h9 => h9) rfl dX11_best_76 ?_
      have hPc := hP.sub (ws' := [(h0, .inr (11, gM a (upd (upd i 0 0) 15 w6) (vp_updL (vp_updL (vp_updL (fun _ => 0) 12 w3) 13 (lN ka7)) 14 (lN kb8)))), (a 3, .inl (cm 3, 85, .inr (.inl fn))), (a 4, .inl (cm 4, 800, .inl fk)), (a 16, .inl (cm 16, 2048, .inl gp))]) [8, 0, 1, 7] rfl
      have hKc := hK.sub (tys' := [(cm 3, .long), (cm 4, .int), (cm 16, .int)]) [0, 1, 7] rfl
      have hDc := hD.sub (ws' := [(h0, .inr (11, gM a (upd (upd i 0 0) 15 w6) (vp_updL (vp_updL (vp_updL (fun _ => 0) 12 w3) 13 (lN ka7)) 14 (lN kb8)))), (a 3, .inl (cm 3, 85, .inr (.inl fn))), (a 4, .inl (cm 4, 800, .inl fk)), (a 16, .inl (cm 16, 2048, .inl gp))]) [8, 0, 1, 7] (by decide) rfl
      have hFc := va_free (wc := [(h0, .inr (11, gM a (upd (upd i 0 0) 15 w6) (vp_updL (vp_updL (vp_updL (fun _ => 0) 12 w3) 13 (lN ka7)) 14 (lN kb8)))), (a 3, .inl (cm 3, 85, .inr (.inl fn))), (a 4, .inl (cm 4, 800, .inl fk)), (a 16, .inl (cm 16, 2048, .inl gp))]) hD hS hA [8, 0, 1, 7] rfl
      refine va_calll (va_runV (As := [.int (nI k), .long (lN ka7), .long (lN kb8)]) (rest := []) ⟨hx, hb, hml, hown, hts⟩ (c_sumBy l D _ h0 a cm (upd (upd i 0 0) 15 w6) (vp_updL (vp_updL (vp_updL (fun _ => 0) 12 w3) 13 (lN ka7)) 14 (lN kb8)) fn fk gp k cn nb K ka7 kb8 (by first | assumption | omega) h1 (by first | assumption | omega) h4 (by first | assumption | omega) (by first | assumption | omega) hKy (by first | assumption | omega) (by first | assumption | omega)) (cwV 3 hts g_c_bestM_c_sumBy_255 rfl rfl rfl (by decide +kernel) ⟨(Nat.le_of_ble_eq_true rfl), (Nat.le_of_ble_eq_true rfl)⟩) (PcW_V (q0 := 0) hPc hKc hDc rfl rfl) rfl rfl hl.1 rfl (lv_room (Nat.le_of_ble_eq_true rfl)) dX11_best_79 ⟨(Nat.le_of_ble_eq_true rfl), (Nat.le_of_ble_eq_true rfl)⟩) hS (fun q _ h => hFc q h) hFc (fun r9 uu tt H locs htt hvm hw hB hz1 hk1 hS => ?_)
      obtain ⟨w10, rfl⟩ : ∃ z, z = uu := ⟨_, rfl⟩
      obtain ⟨hP1, hK1, hD1⟩ := hB
      rw [htt] at hP1
      have hK1 := va_K.moved hvm.symm hK1
      have hP1 : va_P D vwCl [(h0, .inr (11, gM a (upd (upd i 0 0) 15 w6) (vp_updL (vp_updL (vp_updL (fun _ => 0) 12 w3) 13 (lN ka7)) 14 (lN kb8)))), (a 3, .inl (cm 3, 85, .inr (.inl fn))), (a 4, .inl (cm 4, 800, .inl fk)), (a 16, .inl (cm 16, 2048, .inl w10))] H := hP1
      obtain ⟨hP, hD⟩ := va_join (wr := [(a 6, .inl (cm 6, 800, .inl fb)), (a 8, .inl (cm 8, 10240, .inl ff)), (a 9, .inl (cm 9, 10240, .inl fh)), (a 10, .inl (cm 10, 10240, .inr (.inl fa))), (a 11, .inl (cm 11, 10240, .inr (.inl fs)))]) (w1 := [(h0, .inr (11, gM a (upd (upd i 0 0) 15 w6) (vp_updL (vp_updL (vp_updL (fun _ => 0) 12 w3) 13 (lN ka7)) 14 (lN kb8)))), (a 3, .inl (cm 3, 85, .inr (.inl fn))), (a 4, .inl (cm 4, 800, .inl fk)), (a 16, .inl (cm 16, 2048, .inl w10))]) hP hD [8, 0, 1, 7] [2, 3, 4, 5, 6] rfl rfl (by decide) (by decide) hk1 hFc hP1 hD1
      have hP : va_P D vwCl [(a 6, .inl (cm 6, 800, .inl fb)), (a 8, .inl (cm 8, 10240, .inl ff)), (a 9, .inl (cm 9, 10240, .inl fh)), (a 10, .inl (cm 10, 10240, .inr (.inl fa))), (a 11, .inl (cm 11, 10240, .inr (.inl fs))), (h0, .inr (11, gM a (upd (upd i 0 0) 15 w6) (vp_updL (vp_updL (vp_updL (fun _ => 0) 12 w3) 13 (lN ka7)) 14 (lN kb8)))), (a 3, .inl (cm 3, 85, .inr (.inl fn))), (a 4, .inl (cm 4, 800, .inl fk)), (a 16, .inl (cm 16, 2048, .inl w10))] H := hP
      have hD : va_D A [(a 6, .inl (cm 6, 800, .inl fb)), (a 8, .inl (cm 8, 10240, .inl ff)), (a 9, .inl (cm 9, 10240, .inl fh)), (a 10, .inl (cm 10, 10240, .inr (.inl fa))), (a 11, .inl (cm 11, 10240, .inr (.inl fs))), (h0, .inr (11, gM a (upd (upd i 0 0) 15 w6) (vp_updL (vp_updL (vp_updL (fun _ => 0) 12 w3) 13 (lN ka7)) 14 (lN kb8)))), (a 3, .inl (cm 3, 85, .inr (.inl fn))), (a 4, .inl (cm 4, 800, .inl fk)), (a 16, .inl (cm 16, 2048, .inl w10))] := hD
      try dsimp only at hw
      clear hz1 hk1 hFc hPc hKc hDc
      refine lv_lstore (lv' := [(11, .long r9), (10, .int (nI x)), (8, .long le), (7, .int go), (6, .int be), (0, .ref h0), (1, .int (nI k)), (2, .int (nI nn)), (5, .int z4)]) hx hb dX11_best_82 hl (by decide) rfl (fun ls hl => ?_)
      refine lv_iload hx hb dX11_best_84 (lv_at hl 3 rfl) ?_
      refine lv_lload hx hb dX11_best_86 (lv_at hl 0 rfl) ?_
      refine lv_aload_n hx hb dX11_best_88 rfl (lv_at hl 5 rfl) ?_
      refine lv_iload_n hx hb dX11_best_89 rfl (lv_at hl 6 rfl) ?_
      refine lv_bipush (v := 14) hx hb dX11_best_90 (by decide) ?_
      have hPc := hP.sub (ws' := [(h0, .inr (11, gM a (upd (upd i 0 0) 15 w6) (vp_updL (vp_updL (vp_updL (fun _ => 0) 12 w3) 13 (lN ka7)) 14 (lN kb8)))), (a 3, .inl (cm 3, 85, .inr (.inl fn)))]) [5, 6] rfl
      have hKc := hK.sub (tys' := [(cm 3, .long)]) [0] rfl
      have hFc := va_free0 hS hA
      refine va_calll (va_runV (As := [.int (nI k), .int (nI 14)]) (rest := [.long r9, .int go]) ⟨hx, hb, hml, hown, hts⟩ (c_of l D _ h0 a cm (upd (upd i 0 0) 15 w6) (vp_updL (vp_updL (vp_updL (fun _ => 0) 12 w3) 13 (lN ka7)) 14 (lN kb8)) fn k 14 (by first | assumption | omega) (by first | assumption | omega)) (cwV 2 hts g_c_bestM_c_of_89 rfl rfl rfl (by decide +kernel) ⟨(Nat.le_of_ble_eq_true rfl), (Nat.le_of_ble_eq_true rfl)⟩) (PcR_V (q0 := 0) hPc hKc rfl rfl) rfl rfl hl.1 rfl (lv_room (Nat.le_of_ble_eq_true rfl)) dX11_best_92 ⟨(Nat.le_of_ble_eq_true rfl), (Nat.le_of_ble_eq_true rfl)⟩) hS (fun q _ h => hFc q h) hFc (fun r11 uu tt H locs htt hvm hw hB hz1 hk1 hS => ?_)
      have hP := va_keep hP hk1
      try dsimp only at hw
      clear hB hz1 hk1 hFc hPc hKc
      obtain rfl : r11 = fn (17 * k + 14) := hw
      refine lv_topl (fun v12 ev12 => ?_)
      obtain rfl : v12 = lN bn := ev12.trans (h14)
      refine lv_aload_n hx hb dX11_best_95 rfl (lv_at hl 5 rfl) ?_
      refine lv_iload_n hx hb dX11_best_96 rfl (lv_at hl 6 rfl) ?_
      refine lv_iconst (v := 2) hx hb dX11_best_97 (by decide) ?_
      have hPc := hP.sub (ws' := [(h0, .inr (11, gM a (upd (upd i 0 0) 15 w6) (vp_updL (vp_updL (vp_updL (fun _ => 0) 12 w3) 13 (lN ka7)) 14 (lN kb8)))), (a 3, .inl (cm 3, 85, .inr (.inl fn)))]) [5, 6] rfl
      have hKc := hK.sub (tys' := [(cm 3, .long)]) [0] rfl
      have hFc := va_free0 hS hA
      refine va_calll (va_runV (As := [.int (nI k), .int (nI 2)]) (rest := [.long (lN bn), .long r9, .int go]) ⟨hx, hb, hml, hown, hts⟩ (c_of l D _ h0 a cm (upd (upd i 0 0) 15 w6) (vp_updL (vp_updL (vp_updL (fun _ => 0) 12 w3) 13 (lN ka7)) 14 (lN kb8)) fn k 2 (by first | assumption | omega) (by first | assumption | omega)) (cwV 2 hts g_c_bestM_c_of_89 rfl rfl rfl (by decide +kernel) ⟨(Nat.le_of_ble_eq_true rfl), (Nat.le_of_ble_eq_true rfl)⟩) (PcR_V (q0 := 0) hPc hKc rfl rfl) rfl rfl hl.1 rfl (lv_room (Nat.le_of_ble_eq_true rfl)) dX11_best_98 ⟨(Nat.le_of_ble_eq_true rfl), (Nat.le_of_ble_eq_true rfl)⟩) hS (fun q _ h => hFc q h) hFc (fun r13 uu tt H locs htt hvm hw hB hz1 hk1 hS => ?_)
      have hP := va_keep hP hk1
      try dsimp only at hw
      clear hB hz1 hk1 hFc hPc hKc
      obtain rfl : r13 = fn (17 * k + 2) := hw
      refine lv_lmul hx hb dX11_best_101 ?_
      refine lv_topl (fun v14 ev14 => ?_)
      refine W.lcmp hx hb dX11_best_102 ?_
      refine lv_if_gt (tgt := 110) hx hb dX11_best_103 (by decide) (fun hc15 => ?_) (fun hc15 => ?_)
      ·
        refine lv_iconst (v := 0) hx hb dX11_best_110 (by decide) ?_
        have hPc := hP.sub (ws' := []) [] rfl
        have hKc := hK.sub (tys' := []) [] rfl
        have hFc := va_free0 hS hA
        refine va_calli (va_runS (As := [.int 0]) (rest := [.int go]) ⟨hx, hb, hml, hown, hts⟩ (c_flag l D _ 0) (va_cwS 1 hts g_c_bestM_c_flag_198 rfl rfl rfl (by decide +kernel) ⟨(Nat.le_of_ble_eq_true rfl), (Nat.le_of_ble_eq_true rfl)⟩) (PcR_S hPc hKc) rfl rfl hl.1 rfl (lv_room (Nat.le_of_ble_eq_true rfl)) dX11_best_111 ⟨(Nat.le_of_ble_eq_true rfl), (Nat.le_of_ble_eq_true rfl)⟩) hS (fun q _ h => hFc q h) hFc (fun r16 uu tt H locs htt hvm hw hB hz1 hk1 hS => ?_)
        have hP := va_keep hP hk1
        try dsimp only at hw
        clear hB hz1 hk1 hFc hPc hKc
        obtain rfl : r16 = 0 := hw.trans (by decide)
        refine lv_iadd hx hb dX11_best_114 ?_
        refine lv_topi (fun v17 ev17 => ?_)
        refine lv_istore (lv' := [(7, .int v17), (11, .long r9), (10, .int (nI x)), (8, .long le), (6, .int be), (0, .ref h0), (1, .int (nI k)), (2, .int (nI nn)), (5, .int z4)]) hx hb dX11_best_115 hl (by decide) rfl (fun ls hl => ?_)
        refine lv_iload hx hb dX11_best_117 (lv_at hl 4 rfl) ?_
        refine lv_iconst (v := (-1)) hx hb dX11_best_119 (by decide) ?_
        refine lv_icmp_eq (tgt := 134) hx hb dX11_best_120 (by decide) (fun hc18 => ?_) (fun hc18 => ?_)
        ·
          refine lv_iload hx hb dX11_best_134 (lv_at hl 2 rfl) ?_
          refine lv_istore (lv' := [(6, .int (nI x)), (7, .int v17), (11, .long r9), (10, .int (nI x)), (8, .long le), (0, .ref h0), (1, .int (nI k)), (2, .int (nI nn)), (5, .int z4)]) hx hb dX11_best_136 hl (by decide) rfl (fun ls hl => ?_)
          refine lv_lload hx hb dX11_best_138 (lv_at hl 2 rfl) ?_
          refine lv_lstore (lv' := [(8, .long r9), (6, .int (nI x)), (7, .int v17), (11, .long r9), (10, .int (nI x)), (0, .ref h0), (1, .int (nI k)), (2, .int (nI nn)), (5, .int z4)]) hx hb dX11_best_140 hl (by decide) rfl (fun ls hl => ?_)
          refine lv_iinc (v := nI (x + 1)) (lv' := [(10, .int (nI (x + 1))), (8, .long r9), (6, .int (nI x)), (7, .int v17), (11, .long r9), (0, .ref h0), (1, .int (nI k)), (2, .int (nI nn)), (5, .int z4)]) hx hb dX11_best_142 hl (k := 4) rfl (nI_1 _) (by decide) rfl (fun ls hl => ?_)
          refine lv_goto (tgt := 59) hx hb dX11_best_145 (by decide) ?_
          exact ih (x + 1) r9 v17 (nI x) w3 (lN ka7) (lN kb8) w6 w10 (by omega) (by omega) H locs ls (hP.sub [5, 6, 7, 0, 1, 2, 3, 4, 8] rfl) (hD.sub [5, 6, 7, 0, 1, 2, 3, 4, 8] (by decide) rfl) hS (lv_sub hl [0, 1, 3, 2, 5, 6, 7, 8] rfl)
        ·
          refine lv_lload hx hb dX11_best_123 (lv_at hl 1 rfl) ?_
          refine lv_lload hx hb dX11_best_125 (lv_at hl 3 rfl) ?_
          refine W.lcmp hx hb dX11_best_127 ?_
          refine lv_if_lt (tgt := 134) hx hb dX11_best_128 (by decide) (fun hc19 => ?_) (fun hc19 => ?_)
          ·
            refine lv_iload hx hb dX11_best_134 (lv_at hl 2 rfl) ?_
            refine lv_istore (lv' := [(6, .int (nI x)), (7, .int v17), (11, .long r9), (10, .int (nI x)), (8, .long le), (0, .ref h0), (1, .int (nI k)), (2, .int (nI nn)), (5, .int z4)]) hx hb dX11_best_136 hl (by decide) rfl (fun ls hl => ?_)
            refine lv_lload hx hb dX11_best_138 (lv_at hl 2 rfl) ?_
            refine lv_lstore (lv' := [(8, .long r9), (6, .int (nI x)), (7, .int v17), (11, .long r9), (10, .int (nI x)), (0, .ref h0), (1, .int (nI k)), (2, .int (nI nn)), (5, .int z4)]) hx hb dX11_best_140 hl (by decide) rfl (fun ls hl => ?_)
            refine lv_iinc (v := nI (x + 1)) (lv' := [(10, .int (nI (x + 1))), (8, .long r9), (6, .int (nI x)), (7, .int v17), (11, .long r9), (0, .ref h0), (1, .int (nI k)), (2, .int (nI nn)), (5, .int z4)]) hx hb dX11_best_142 hl (k := 4) rfl (nI_1 _) (by decide) rfl (fun ls hl => ?_)
            refine lv_goto (tgt := 59) hx hb dX11_best_145 (by decide) ?_
            exact ih (x + 1) r9 v17 (nI x) w3 (lN ka7) (lN kb8) w6 w10 (by omega) (by omega) H locs ls (hP.sub [5, 6, 7, 0, 1, 2, 3, 4, 8] rfl) (hD.sub [5, 6, 7, 0, 1, 2, 3, 4, 8] (by decide) rfl) hS (lv_sub hl [0, 1, 3, 2, 5, 6, 7, 8] rfl)
          ·
            refine lv_goto (tgt := 142) hx hb dX11_best_131 (by decide) ?_
            refine lv_iinc (v := nI (x + 1)) (lv' := [(10, .int (nI (x + 1))), (7, .int v17), (11, .long r9), (8, .long le), (6, .int be), (0, .ref h0), (1, .int (nI k)), (2, .int (nI nn)), (5, .int z4)]) hx hb dX11_best_142 hl (k := 2) rfl (nI_1 _) (by decide) rfl (fun ls hl => ?_)
            refine lv_goto (tgt := 59) hx hb dX11_best_145 (by decide) ?_
            exact ih (x + 1) le v17 be w3 (lN ka7) (lN kb8) w6 w10 (by omega) (by omega) H locs ls (hP.sub [5, 6, 7, 0, 1, 2, 3, 4, 8] rfl) (hD.sub [5, 6, 7, 0, 1, 2, 3, 4, 8] (by decide) rfl) hS (lv_sub hl [0, 3, 1, 4, 5, 6, 7, 8] rfl)
      ·
        refine lv_iconst (v := 1) hx hb dX11_best_106 (by decide) ?_
        refine lv_goto (tgt := 111) hx hb dX11_best_107 (by decide) ?_
        have hPc := hP.sub (ws' := []) [] rfl
        have hKc := hK.sub (tys' := []) [] rfl
        have hFc := va_free0 hS hA
        refine va_calli (va_runS (As := [.int 1]) (rest := [.int go]) ⟨hx, hb, hml, hown, hts⟩ (c_flag l D _ 1) (va_cwS 1 hts g_c_bestM_c_flag_198 rfl rfl rfl (by decide +kernel) ⟨(Nat.le_of_ble_eq_true rfl), (Nat.le_of_ble_eq_true rfl)⟩) (PcR_S hPc hKc) rfl rfl hl.1 rfl (lv_room (Nat.le_of_ble_eq_true rfl)) dX11_best_111 ⟨(Nat.le_of_ble_eq_true rfl), (Nat.le_of_ble_eq_true rfl)⟩) hS (fun q _ h => hFc q h) hFc (fun r20 uu tt H locs htt hvm hw hB hz1 hk1 hS => ?_)
        have hP := va_keep hP hk1
        try dsimp only at hw
        clear hB hz1 hk1 hFc hPc hKc
        obtain rfl : r20 = 1 := hw.trans (by decide)
        refine lv_iadd hx hb dX11_best_114 ?_
        refine lv_topi (fun v21 ev21 => ?_)
        refine lv_istore (lv' := [(7, .int v21), (11, .long r9), (10, .int (nI x)), (8, .long le), (6, .int be), (0, .ref h0), (1, .int (nI k)), (2, .int (nI nn)), (5, .int z4)]) hx hb dX11_best_115 hl (by decide) rfl (fun ls hl => ?_)
        refine lv_iload hx hb dX11_best_117 (lv_at hl 4 rfl) ?_
        refine lv_iconst (v := (-1)) hx hb dX11_best_119 (by decide) ?_
        refine lv_icmp_eq (tgt := 134) hx hb dX11_best_120 (by decide) (fun hc22 => ?_) (fun hc22 => ?_)
        ·
          refine lv_iload hx hb dX11_best_134 (lv_at hl 2 rfl) ?_
          refine lv_istore (lv' := [(6, .int (nI x)), (7, .int v21), (11, .long r9), (10, .int (nI x)), (8, .long le), (0, .ref h0), (1, .int (nI k)), (2, .int (nI nn)), (5, .int z4)]) hx hb dX11_best_136 hl (by decide) rfl (fun ls hl => ?_)
          refine lv_lload hx hb dX11_best_138 (lv_at hl 2 rfl) ?_
          refine lv_lstore (lv' := [(8, .long r9), (6, .int (nI x)), (7, .int v21), (11, .long r9), (10, .int (nI x)), (0, .ref h0), (1, .int (nI k)), (2, .int (nI nn)), (5, .int z4)]) hx hb dX11_best_140 hl (by decide) rfl (fun ls hl => ?_)
          refine lv_iinc (v := nI (x + 1)) (lv' := [(10, .int (nI (x + 1))), (8, .long r9), (6, .int (nI x)), (7, .int v21), (11, .long r9), (0, .ref h0), (1, .int (nI k)), (2, .int (nI nn)), (5, .int z4)]) hx hb dX11_best_142 hl (k := 4) rfl (nI_1 _) (by decide) rfl (fun ls hl => ?_)
          refine lv_goto (tgt := 59) hx hb dX11_best_145 (by decide) ?_
          exact ih (x + 1) r9 v21 (nI x) w3 (lN ka7) (lN kb8) w6 w10 (by omega) (by omega) H locs ls (hP.sub [5, 6, 7, 0, 1, 2, 3, 4, 8] rfl) (hD.sub [5, 6, 7, 0, 1, 2, 3, 4, 8] (by decide) rfl) hS (lv_sub hl [0, 1, 3, 2, 5, 6, 7, 8] rfl)
        ·
          refine lv_lload hx hb dX11_best_123 (lv_at hl 1 rfl) ?_
          refine lv_lload hx hb dX11_best_125 (lv_at hl 3 rfl) ?_
          refine W.lcmp hx hb dX11_best_127 ?_
          refine lv_if_lt (tgt := 134) hx hb dX11_best_128 (by decide) (fun hc23 => ?_) (fun hc23 => ?_)
          ·
            refine lv_iload hx hb dX11_best_134 (lv_at hl 2 rfl) ?_
            refine lv_istore (lv' := [(6, .int (nI x)), (7, .int v21), (11, .long r9), (10, .int (nI x)), (8, .long le), (0, .ref h0), (1, .int (nI k)), (2, .int (nI nn)), (5, .int z4)]) hx hb dX11_best_136 hl (by decide) rfl (fun ls hl => ?_)
            refine lv_lload hx hb dX11_best_138 (lv_at hl 2 rfl) ?_
            refine lv_lstore (lv' := [(8, .long r9), (6, .int (nI x)), (7, .int v21), (11, .long r9), (10, .int (nI x)), (0, .ref h0), (1, .int (nI k)), (2, .int (nI nn)), (5, .int z4)]) hx hb dX11_best_140 hl (by decide) rfl (fun ls hl => ?_)
            refine lv_iinc (v := nI (x + 1)) (lv' := [(10, .int (nI (x + 1))), (8, .long r9), (6, .int (nI x)), (7, .int v21), (11, .long r9), (0, .ref h0), (1, .int (nI k)), (2, .int (nI nn)), (5, .int z4)]) hx hb dX11_best_142 hl (k := 4) rfl (nI_1 _) (by decide) rfl (fun ls hl => ?_)
            refine lv_goto (tgt := 59) hx hb dX11_best_145 (by decide) ?_
            exact ih (x + 1) r9 v21 (nI x) w3 (lN ka7) (lN kb8) w6 w10 (by omega) (by omega) H locs ls (hP.sub [5, 6, 7, 0, 1, 2, 3, 4, 8] rfl) (hD.sub [5, 6, 7, 0, 1, 2, 3, 4, 8] (by decide) rfl) hS (lv_sub hl [0, 1, 3, 2, 5, 6, 7, 8] rfl)
          ·
            refine lv_goto (tgt := 142) hx hb dX11_best_131 (by decide) ?_
            refine lv_iinc (v := nI (x + 1)) (lv' := [(10, .int (nI (x + 1))), (7, .int v21), (11, .long r9), (8, .long le), (6, .int be), (0, .ref h0), (1, .int (nI k)), (2, .int (nI nn)), (5, .int z4)]) hx hb dX11_best_142 hl (k := 2) rfl (nI_1 _) (by decide) rfl (fun ls hl => ?_)
            refine lv_goto (tgt := 59) hx hb dX11_best_145 (by decide) ?_
            exact ih (x + 1) le v21 be w3 (lN ka7) (lN kb8) w6 w10 (by omega) (by omega) H locs ls (hP.sub [5, 6, 7, 0, 1, 2, 3, 4, 8] rfl) (hD.sub [5, 6, 7, 0, 1, 2, 3, 4, 8] (by decide) rfl) hS (lv_sub hl [0, 3, 1, 4, 5, 6, 7, 8] rfl)
set_option maxHeartbeats 4000000 in
set_option maxRecDepth 100000 in
theorem c_bestM (l : Launch) (D : va_G) (sz : Nat) (h0 : Nat) (a : Nat → Nat) (cm : Nat → ClassId) (i : Nat → Int32) (g : Nat → Int64) (fn : Nat → Int64) (fk : Nat → Int32) (fb : Nat → Int32) (ff : Nat → Int32) (fh : Nat → Int32) (fa : Nat → Int64) (fs : Nat → Int64) (fp : Nat → Int32) (z1 : Int32) (z2 : Int32) (y3 : Int64) (z4 : Int32) (hM : MInv fn fk fb ff fh fa fs) : Met l yX11_best wp_c_bestM ({ frames := 6, cells := 0, slots := 0, locals := 160 }) (PcW D [.ref h0, .int z1, .int z2, .long y3, .int z4] sz [(h0, .inr (11, gM a i g)), (a 3, .inl (cm 3, 85, .inr (.inl fn))), (a 4, .inl (cm 4, 800, .inl fk)), (a 6, .inl (cm 6, 800, .inl fb)), (a 8, .inl (cm 8, 10240, .inl ff)), (a 9, .inl (cm 9, 10240, .inl fh)), (a 10, .inl (cm 10, 10240, .inr (.inl fa))), (a 11, .inl (cm 11, 10240, .inr (.inl fs))), (a 16, .inl (cm 16, 2048, .inl fp))] [(cm 3, .long), (cm 4, .int), (cm 6, .int), (cm 8, .int), (cm 9, .int), (cm 10, .long), (cm 11, .long), (cm 16, .int)]) (va_Ql (fun (r : Int64) (u : (Nat → Int32) × (Int32) × (Int64) × (Int64) × (Int64) × (Int32)) => True) (fun (u : (Nat → Int32) × (Int32) × (Int64) × (Int64) × (Int64) × (Int32)) t => va_P D vwCl [(h0, .inr (11, gM a (upd (upd i 0 u.2.1) 15 u.2.2.2.2.2) (vp_updL (vp_updL (vp_updL (fun _ => 0) 12 u.2.2.1) 13 u.2.2.2.1) 14 u.2.2.2.2.1))), (a 3, .inl (cm 3, 85, .inr (.inl fn))), (a 4, .inl (cm 4, 800, .inl fk)), (a 6, .inl (cm 6, 800, .inl fb)), (a 8, .inl (cm 8, 10240, .inl ff)), (a 9, .inl (cm 9, 10240, .inl fh)), (a 10, .inl (cm 10, 10240, .inr (.inl fa))), (a 11, .inl (cm 11, 10240, .inr (.inl fs))), (a 16, .inl (cm 16, 2048, .inl u.1))] t.heap ∧ va_K D vwCl [(cm 3, .long), (cm 4, .int), (cm 6, .int), (cm 8, .int), (cm 9, .int), (cm 10, .long), (cm 11, .long), (cm 16, .int)] t ∧ va_D (va_A [(h0, .inr (11, gM a i g)), (a 3, .inl (cm 3, 85, .inr (.inl fn))), (a 4, .inl (cm 4, 800, .inl fk)), (a 6, .inl (cm 6, 800, .inl fb)), (a 8, .inl (cm 8, 10240, .inl ff)), (a 9, .inl (cm 9, 10240, .inl fh)), (a 10, .inl (cm 10, 10240, .inr (.inl fa))), (a 11, .inl (cm 11, 10240, .inr (.inl fs))), (a 16, .inl (cm 16, 2048, .inl fp))] sz) [(h0, .inr (11, gM a (upd (upd i 0 u.2.1) 15 u.2.2.2.2.2) (vp_updL (vp_updL (vp_updL (fun _ => 0) 12 u.2.2.1) 13 u.2.2.2.1) 14 u.2.2.2.2.1))), (a 3, .inl (cm 3, 85, .inr (.inl fn))), (a 4, .inl (cm 4, 800, .inl fk)), (a 6, .inl (cm 6, 800, .inl fb)), (a 8, .inl (cm 8, 10240, .inl ff)), (a 9, .inl (cm 9, 10240, .inl fh)), (a 10, .inl (cm 10, 10240, .inr (.inl fa))), (a 11, .inl (cm 11, 10240, .inr (.inl fs))), (a 16, .inl (cm 16, 2048, .inl u.1))]) (va_A [(h0, .inr (11, gM a i g)), (a 3, .inl (cm 3, 85, .inr (.inl fn))), (a 4, .inl (cm 4, 800, .inl fk)), (a 6, .inl (cm 6, 800, .inl fb)), (a 8, .inl (cm 8, 10240, .inl ff)), (a 9, .inl (cm 9, 10240, .inl fh)), (a 10, .inl (cm 10, 10240, .inr (.inl fa))), (a 11, .inl (cm 11, 10240, .inr (.inl fs))), (a 16, .inl (cm 16, 2048, .inl fp))] sz)) 0 0 (va_A [(h0, .inr (11, gM a i g)), (a 3, .inl (cm 3, 85, .inr (.inl fn))), (a 4, .inl (cm 4, 800, .inl fk)), (a 6, .inl (cm 6, 800, .inl fb)), (a 8, .inl (cm 8, 10240, .inl ff)), (a 9, .inl (cm 9, 10240, .inl fh)), (a 10, .inl (cm 10, 10240, .inr (.inl fa))), (a 11, .inl (cm 11, 10240, .inr (.inl fs))), (a 16, .inl (cm 16, 2048, .inl fp))] sz) := by
  refine Met.ofW (cc := cX11_best) (maxL := 13) (ret := (some .long)) (by decide) rfl ?_
  intro p e s m args below meth c s₁ B hml hv
  obtain ⟨rfl, hsz, hP, hK, hD0⟩ := hv
  have hx := B.exec
  have hb := B.bytes
  have hr := B.returns
  have hts := atoms_spec (ws := wp_c_bestM) B.pre
  have hin_X11 : ∀ w ∈ wsX110, w ∈ wp_c_bestM := fun _ h => (List.mem_cons_of_mem _ (List.mem_append_right _ (List.mem_append_right _ (List.mem_append_right _ (List.mem_append_right _ (List.mem_append_right _ (List.mem_append_right _ (List.mem_append_right _ (List.mem_append_left _ h)))))))))
  have hown : s.vm.findClass RX11 = some m.cls := findClass_of_methodNamed B.named
  have hlocks := B.notSynchronized
  subst hsz
  have hD := hD0.self (sz := s.heap.size)
  generalize hAe : va_A [(h0, .inr (11, gM a i g)), (a 3, .inl (cm 3, 85, .inr (.inl fn))), (a 4, .inl (cm 4, 800, .inl fk)), (a 6, .inl (cm 6, 800, .inl fb)), (a 8, .inl (cm 8, 10240, .inl ff)), (a 9, .inl (cm 9, 10240, .inl fh)), (a 10, .inl (cm 10, 10240, .inr (.inl fa))), (a 11, .inl (cm 11, 10240, .inr (.inl fs))), (a 16, .inl (cm 16, 2048, .inl fp))] s.heap.size = A at hD ⊢
  have hA : ∀ q : Nat, s.heap.size ≤ q → A q := fun q h => by rw [← hAe]; exact Or.inr h
  have hS : va_S A s.heap s.heap [] := va_S.rf
  have hP : va_P D vwCl [(h0, .inr (11, gM a i g)), (a 3, .inl (cm 3, 85, .inr (.inl fn))), (a 4, .inl (cm 4, 800, .inl fk)), (a 6, .inl (cm 6, 800, .inl fb)), (a 8, .inl (cm 8, 10240, .inl ff)), (a 9, .inl (cm 9, 10240, .inl fh)), (a 10, .inl (cm 10, 10240, .inr (.inl fa))), (a 11, .inl (cm 11, 10240, .inr (.inl fs))), (a 16, .inl (cm 16, 2048, .inl fp))] s.heap := hP
  have hl := lv_entry ([.ref h0, .int z1, .int z2, .long y3, .int z4]) (n := 13) (Nat.le_of_ble_eq_true rfl)
  rw [lg_entry_eq]
  generalize (lg_sl ([.ref h0, .int z1, .int z2, .long y3, .int z4]) ++ List.replicate (13 - (lg_sl ([.ref h0, .int z1, .int z2, .long y3, .int z4])).length) Slot.unset).toArray = ls at hl ⊢
  have hl : lv_has ls 13 [(0, .ref h0), (1, .int z1), (2, .int z2), (3, .long y3), (5, .int z4)] := hl
  refine lv_aload_n hx hb dX11_best_0 rfl (lv_at hl 0 rfl) ?_
  refine lv_iconst (v := 0) hx hb dX11_best_1 (by decide) ?_
  refine va_put (D := D) (ci := 11) (v := .int 0) (ty := .int) (C := RX11) (T := TX11) (N := 47) hx hb hts hin_X11 tyX11 tyX11_ok nmX11 hown hK hP hD hS 0 rfl rfl 0 (by decide) (hts (.fieldLink RX11 73 "ClashFreeModel" "thrown" "I") (List.mem_of_getElem? (i := 15) rfl)) (fun _ h9 => h9) rfl (by decide +kernel) rfl rfl (Nat.le_of_ble_eq_true rfl) dX11_best_2 (fun H locs hP hD hS => ?_)
  have hP : va_P D vwCl [(h0, .inr (11, gM a (upd i 0 0) g)), (a 3, .inl (cm 3, 85, .inr (.inl fn))), (a 4, .inl (cm 4, 800, .inl fk)), (a 6, .inl (cm 6, 800, .inl fb)), (a 8, .inl (cm 8, 10240, .inl ff)), (a 9, .inl (cm 9, 10240, .inl fh)), (a 10, .inl (cm 10, 10240, .inr (.inl fa))), (a 11, .inl (cm 11, 10240, .inr (.inl fs))), (a 16, .inl (cm 16, 2048, .inl fp))] H := hP
  have hD : va_D A [(h0, .inr (11, gM a (upd i 0 0) g)), (a 3, .inl (cm 3, 85, .inr (.inl fn))), (a 4, .inl (cm 4, 800, .inl fk)), (a 6, .inl (cm 6, 800, .inl fb)), (a 8, .inl (cm 8, 10240, .inl ff)), (a 9, .inl (cm 9, 10240, .inl fh)), (a 10, .inl (cm 10, 10240, .inr (.inl fa))), (a 11, .inl (cm 11, 10240, .inr (.inl fs))), (a 16, .inl (cm 16, 2048, .inl fp))] := hD
  refine lv_aload_n hx hb dX11_best_5 rfl (lv_at hl 0 rfl) ?_
  refine lv_iload_n hx hb dX11_best_6 rfl (lv_at hl 1 rfl) ?_
  have hPc := hP.sub (ws' := [(h0, .inr (11, gM a (upd i 0 0) g)), (a 3, .inl (cm 3, 85, .inr (.inl fn)))]) [0, 1] rfl
  have hKc := hK.sub (tys' := [(cm 3, .long)]) [0] rfl
  have hFc := va_free0 hS hA
  refine va_calli (va_runV (As := [.int z1]) (rest := []) ⟨hx, hb, hml, hown, hts⟩ (c_isThere l D _ h0 a cm (upd i 0 0) g fn z1) (cwV 1 hts g_c_bestM_c_isThere_222 rfl rfl rfl (by decide +kernel) ⟨(Nat.le_of_ble_eq_true rfl), (Nat.le_of_ble_eq_true rfl)⟩) (PcR_V (q0 := 0) hPc hKc rfl rfl) rfl rfl hl.1 rfl (lv_room (Nat.le_of_ble_eq_true rfl)) dX11_best_7 ⟨(Nat.le_of_ble_eq_true rfl), (Nat.le_of_ble_eq_true rfl)⟩) hS (fun q _ h => hFc q h) hFc (fun r1 uu tt H locs htt hvm hw hB hz1 hk1 hS => ?_)
  have hP := va_keep hP hk1
  try dsimp only at hw
  clear hB hz1 hk1 hFc hPc hKc
  rcases hw with ⟨rfl, hA_r1⟩ | ⟨rfl, hA_r1⟩
  ·
    obtain ⟨k, hk, rfl, ht⟩ := hA_r1
    obtain ⟨cn, nb, K, J, hT⟩ := hM.2.2 k hk ht
    have hth := (show there fn (nI k) from ⟨k, hk, rfl, ht⟩)
    obtain ⟨h1, hcn, h4, hn1, hn2, ⟨ka, kb, hka, hkb, h6, h7⟩, hKy, hBk, hHs, ⟨bn, ns, gr, h14, hbn, h15, hs1, hs2, h16, hgr⟩⟩ := id hT
    refine lv_if_eq (tgt := 38) hx hb dX11_best_10 (by decide) (fun hc => absurd hc (by decide)) (fun hc => ?_)
    refine lv_iload_n hx hb dX11_best_13 rfl (lv_at hl 2 rfl) ?_
    refine lv_i2l hx hb dX11_best_14 rfl ?_
    refine lv_lconst (v := 1) hx hb dX11_best_15 (by decide) ?_
    refine lv_ldc2 (v := 200) hx hb hown (hts (.constantLong RX11 186 (200)) (List.mem_of_getElem? (i := 19) rfl)) dX11_best_16 ?_
    have hPc := hP.sub (ws' := []) [] rfl
    have hKc := hK.sub (tys' := []) [] rfl
    have hFc := va_free0 hS hA
    refine va_calli (va_runS (As := [.long (Int32.toInt64 z2), .long 1, .long 200]) (rest := []) ⟨hx, hb, hml, hown, hts⟩ (c_isIn l D _ (Int32.toInt64 z2) 1 200) (va_cwS 3 hts g_c_bestM_c_isIn_83 rfl rfl rfl (by decide +kernel) ⟨(Nat.le_of_ble_eq_true rfl), (Nat.le_of_ble_eq_true rfl)⟩) (PcR_S hPc hKc) rfl rfl hl.1 rfl (lv_room (Nat.le_of_ble_eq_true rfl)) dX11_best_19 ⟨(Nat.le_of_ble_eq_true rfl), (Nat.le_of_ble_eq_true rfl)⟩) hS (fun q _ h => hFc q h) hFc (fun r2 uu tt H locs htt hvm hw hB hz1 hk1 hS => ?_)
    have hP := va_keep hP hk1
    try dsimp only at hw
    clear hB hz1 hk1 hFc hPc hKc
    rcases hw with ⟨rfl, hA_r2⟩ | ⟨rfl, hA_r2⟩
    ·
      obtain ⟨nn, hnn, rfl⟩ := in1_200 hA_r2
      refine lv_if_eq (tgt := 38) hx hb dX11_best_22 (by decide) (fun hc => absurd hc (by decide)) (fun hc => ?_)
      refine lv_iload hx hb dX11_best_25 (lv_at hl 4 rfl) ?_
      refine lv_i2l hx hb dX11_best_27 rfl ?_
      refine lv_lconst (v := 0) hx hb dX11_best_28 (by decide) ?_
      refine lv_ldc2 (v := 2) hx hb hown (hts (.constantLong RX11 210 (2)) (List.mem_of_getElem? (i := 22) rfl)) dX11_best_29 ?_
      have hPc := hP.sub (ws' := []) [] rfl
      have hKc := hK.sub (tys' := []) [] rfl
      have hFc := va_free0 hS hA
      refine va_calli (va_runS (As := [.long (Int32.toInt64 z4), .long 0, .long 2]) (rest := []) ⟨hx, hb, hml, hown, hts⟩ (c_isIn l D _ (Int32.toInt64 z4) 0 2) (va_cwS 3 hts g_c_bestM_c_isIn_83 rfl rfl rfl (by decide +kernel) ⟨(Nat.le_of_ble_eq_true rfl), (Nat.le_of_ble_eq_true rfl)⟩) (PcR_S hPc hKc) rfl rfl hl.1 rfl (lv_room (Nat.le_of_ble_eq_true rfl)) dX11_best_32 ⟨(Nat.le_of_ble_eq_true rfl), (Nat.le_of_ble_eq_true rfl)⟩) hS (fun q _ h => hFc q h) hFc (fun r3 uu tt H locs htt hvm hw hB hz1 hk1 hS => ?_)
      have hP := va_keep hP hk1
      try dsimp only at hw
      clear hB hz1 hk1 hFc hPc hKc
      rcases hw with ⟨rfl, hA_r3⟩ | ⟨rfl, hA_r3⟩
      ·
        refine lv_if_ne (tgt := 42) hx hb dX11_best_35 (by decide) (fun hc => ?_) (fun hc => absurd hc (by decide))
        refine lv_aload_n hx hb dX11_best_42 rfl (lv_at hl 0 rfl) ?_
        refine lv_lload_n hx hb dX11_best_43 rfl (lv_at hl 3 rfl) ?_
        refine va_put (D := D) (ci := 11) (v := .long y3) (ty := .long) (C := RX11) (T := TX11) (N := 47) hx hb hts hin_X11 tyX11 tyX11_ok nmX11 hown hK hP hD hS 0 rfl rfl 12 (by decide) (hts (.fieldLink RX11 105 "ClashFreeModel" "seed" "J") (List.mem_of_getElem? (i := 23) rfl)) (fun _ h9 => h9) rfl (by decide +kernel) rfl rfl (Nat.le_of_ble_eq_true rfl) dX11_best_44 (fun H locs hP hD hS => ?_)
        have hP : va_P D vwCl [(h0, .inr (11, gM a (upd i 0 0) (vp_updL g 12 y3))), (a 3, .inl (cm 3, 85, .inr (.inl fn))), (a 4, .inl (cm 4, 800, .inl fk)), (a 6, .inl (cm 6, 800, .inl fb)), (a 8, .inl (cm 8, 10240, .inl ff)), (a 9, .inl (cm 9, 10240, .inl fh)), (a 10, .inl (cm 10, 10240, .inr (.inl fa))), (a 11, .inl (cm 11, 10240, .inr (.inl fs))), (a 16, .inl (cm 16, 2048, .inl fp))] H := hP
        have hD : va_D A [(h0, .inr (11, gM a (upd i 0 0) (vp_updL g 12 y3))), (a 3, .inl (cm 3, 85, .inr (.inl fn))), (a 4, .inl (cm 4, 800, .inl fk)), (a 6, .inl (cm 6, 800, .inl fb)), (a 8, .inl (cm 8, 10240, .inl ff)), (a 9, .inl (cm 9, 10240, .inl fh)), (a 10, .inl (cm 10, 10240, .inr (.inl fa))), (a 11, .inl (cm 11, 10240, .inr (.inl fs))), (a 16, .inl (cm 16, 2048, .inl fp))] := hD
        refine lv_iconst (v := (-1)) hx hb dX11_best_47 (by decide) ?_
        refine lv_istore (lv' := [(6, .int (-1)), (0, .ref h0), (1, .int (nI k)), (2, .int (nI nn)), (3, .long y3), (5, .int z4)]) hx hb dX11_best_48 hl (by decide) rfl (fun ls hl => ?_)
        refine lv_iconst (v := 0) hx hb dX11_best_50 (by decide) ?_
        refine lv_istore (lv' := [(7, .int 0), (6, .int (-1)), (0, .ref h0), (1, .int (nI k)), (2, .int (nI nn)), (3, .long y3), (5, .int z4)]) hx hb dX11_best_51 hl (by decide) rfl (fun ls hl => ?_)
        refine lv_lconst (v := 0) hx hb dX11_best_53 (by decide) ?_
        refine lv_lstore (lv' := [(8, .long 0), (7, .int 0), (6, .int (-1)), (0, .ref h0), (1, .int (nI k)), (2, .int (nI nn)), (3, .long y3), (5, .int z4)]) hx hb dX11_best_54 hl (by decide) rfl (fun ls hl => ?_)
        refine lv_iconst (v := 0) hx hb dX11_best_56 (by decide) ?_
        refine lv_istore (lv' := [(10, .int 0), (8, .long 0), (7, .int 0), (6, .int (-1)), (0, .ref h0), (1, .int (nI k)), (2, .int (nI nn)), (3, .long y3), (5, .int z4)]) hx hb dX11_best_57 hl (by decide) rfl (fun ls hl => ?_)
        refine lp_best l D h0 a cm (upd i 0 0) (vp_updL g 12 y3) fn fk fb ff fh fa fs z4 k cn nb K J nn (hk) (hT) (hnn) hx hb hml hown hts hA (hK.sub [0, 1, 2, 3, 4, 5, 6, 7] rfl) ?_ (nn + 1) 0 0 0 (-1) y3 (g 13) (g 14) (i 15) fp (Nat.zero_le _) (by omega) _ _ _ (hP.sub [0, 1, 2, 3, 4, 5, 6, 7, 8] rfl) (hD.sub [0, 1, 2, 3, 4, 5, 6, 7, 8] (by decide) rfl) hS (lv_sub hl [0, 1, 2, 3, 4, 5, 6, 8] rfl)
        intro x_4 le_5 go_6 be_7 sd_8 pa_9 pb_10 dr_11 gp_12 hx2_13 H locs ls hP hD hS hl
        refine lv_iload hx hb dX11_best_148 (lv_at hl 4 rfl) ?_
        refine lv_if_ne (tgt := 159) hx hb dX11_best_150 (by decide) (fun hc14 => ?_) (fun hc14 => ?_)
        ·
          refine lv_iload hx hb dX11_best_159 (lv_at hl 4 rfl) ?_
          refine lv_iconst (v := 1) hx hb dX11_best_161 (by decide) ?_
          refine lv_icmp_ne (tgt := 170) hx hb dX11_best_162 (by decide) (fun hc15 => ?_) (fun hc15 => ?_)
          ·
            refine lv_iload hx hb dX11_best_170 (lv_at hl 1 rfl) ?_
            refine lv_i2l hx hb dX11_best_172 rfl ?_
            exact W.lret (v := Int32.toInt64 go_6) hx hb hr (fun t ht hW => ⟨⟨Int32.toInt64 go_6, (gp_12, 0, sd_8, pa_9, pb_10, dr_11), rfl, trivial, by rw [ht]; exact hP.sub [0, 1, 2, 3, 4, 5, 6, 7, 8] rfl, va_K.moved hW.alike (hK.sub [0, 1, 2, 3, 4, 5, 6, 7] rfl), hD.sub [0, 1, 2, 3, 4, 5, 6, 7, 8] (by decide) rfl⟩, hS.F ht⟩) hS.2.2 dX11_best_173
          ·
            refine lv_lload hx hb dX11_best_165 (lv_at hl 0 rfl) ?_
            refine lv_goto (tgt := 173) hx hb dX11_best_167 (by decide) ?_
            exact W.lret (v := le_5) hx hb hr (fun t ht hW => ⟨⟨le_5, (gp_12, 0, sd_8, pa_9, pb_10, dr_11), rfl, trivial, by rw [ht]; exact hP.sub [0, 1, 2, 3, 4, 5, 6, 7, 8] rfl, va_K.moved hW.alike (hK.sub [0, 1, 2, 3, 4, 5, 6, 7] rfl), hD.sub [0, 1, 2, 3, 4, 5, 6, 7, 8] (by decide) rfl⟩, hS.F ht⟩) hS.2.2 dX11_best_173
        ·
          refine lv_iload hx hb dX11_best_153 (lv_at hl 2 rfl) ?_
          refine lv_i2l hx hb dX11_best_155 rfl ?_
          refine lv_goto (tgt := 173) hx hb dX11_best_156 (by decide) ?_
          exact W.lret (v := Int32.toInt64 be_7) hx hb hr (fun t ht hW => ⟨⟨Int32.toInt64 be_7, (gp_12, 0, sd_8, pa_9, pb_10, dr_11), rfl, trivial, by rw [ht]; exact hP.sub [0, 1, 2, 3, 4, 5, 6, 7, 8] rfl, va_K.moved hW.alike (hK.sub [0, 1, 2, 3, 4, 5, 6, 7] rfl), hD.sub [0, 1, 2, 3, 4, 5, 6, 7, 8] (by decide) rfl⟩, hS.F ht⟩) hS.2.2 dX11_best_173
      ·
        refine lv_if_ne (tgt := 42) hx hb dX11_best_35 (by decide) (fun hc => absurd (by decide) hc) (fun hc => ?_)
        refine lv_ldc2 (v := (-1000000000000000)) hx hb hown (hts (.constantLong RX11 235 (-1000000000000000)) (List.mem_of_getElem? (i := 24) rfl)) dX11_best_38 ?_
        exact W.lret (v := (-1000000000000000)) hx hb hr (fun t ht hW => ⟨⟨(-1000000000000000), (fp, 0, (g 12), (g 13), (g 14), (i 15)), rfl, trivial, by rw [ht]; exact hP.sub [0, 1, 2, 3, 4, 5, 6, 7, 8] rfl, va_K.moved hW.alike (hK.sub [0, 1, 2, 3, 4, 5, 6, 7] rfl), hD.sub [0, 1, 2, 3, 4, 5, 6, 7, 8] (by decide) rfl⟩, hS.F ht⟩) hS.2.2 dX11_best_41
    ·
      refine lv_if_eq (tgt := 38) hx hb dX11_best_22 (by decide) (fun hc => ?_) (fun hc => absurd (by decide) hc)
      refine lv_ldc2 (v := (-1000000000000000)) hx hb hown (hts (.constantLong RX11 235 (-1000000000000000)) (List.mem_of_getElem? (i := 24) rfl)) dX11_best_38 ?_
      exact W.lret (v := (-1000000000000000)) hx hb hr (fun t ht hW => ⟨⟨(-1000000000000000), (fp, 0, (g 12), (g 13), (g 14), (i 15)), rfl, trivial, by rw [ht]; exact hP.sub [0, 1, 2, 3, 4, 5, 6, 7, 8] rfl, va_K.moved hW.alike (hK.sub [0, 1, 2, 3, 4, 5, 6, 7] rfl), hD.sub [0, 1, 2, 3, 4, 5, 6, 7, 8] (by decide) rfl⟩, hS.F ht⟩) hS.2.2 dX11_best_41
  ·
    refine lv_if_eq (tgt := 38) hx hb dX11_best_10 (by decide) (fun hc => ?_) (fun hc => absurd (by decide) hc)
    refine lv_ldc2 (v := (-1000000000000000)) hx hb hown (hts (.constantLong RX11 235 (-1000000000000000)) (List.mem_of_getElem? (i := 24) rfl)) dX11_best_38 ?_
    exact W.lret (v := (-1000000000000000)) hx hb hr (fun t ht hW => ⟨⟨(-1000000000000000), (fp, 0, (g 12), (g 13), (g 14), (i 15)), rfl, trivial, by rw [ht]; exact hP.sub [0, 1, 2, 3, 4, 5, 6, 7, 8] rfl, va_K.moved hW.alike (hK.sub [0, 1, 2, 3, 4, 5, 6, 7] rfl), hD.sub [0, 1, 2, 3, 4, 5, 6, 7, 8] (by decide) rfl⟩, hS.F ht⟩) hS.2.2 dX11_best_41

