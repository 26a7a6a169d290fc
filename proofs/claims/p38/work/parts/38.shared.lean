theorem dX11_shared_0 : decode cX11_shared 0 = .ok (.aload_n 0, 1) := by decide +kernel
theorem dX11_shared_1 : decode cX11_shared 1 = .ok (.iconst 0, 1) := by decide +kernel
theorem dX11_shared_2 : decode cX11_shared 2 = .ok (.putfield 73, 3) := by decide +kernel
theorem dX11_shared_5 : decode cX11_shared 5 = .ok (.aload_n 0, 1) := by decide +kernel
theorem dX11_shared_6 : decode cX11_shared 6 = .ok (.iload_n 1, 1) := by decide +kernel
theorem dX11_shared_7 : decode cX11_shared 7 = .ok (.invokevirtual 222, 3) := by decide +kernel
theorem dX11_shared_10 : decode cX11_shared 10 = .ok (.ifCond .eq 23, 3) := by decide +kernel
theorem dX11_shared_13 : decode cX11_shared 13 = .ok (.aload_n 0, 1) := by decide +kernel
theorem dX11_shared_14 : decode cX11_shared 14 = .ok (.iload_n 2, 1) := by decide +kernel
theorem dX11_shared_15 : decode cX11_shared 15 = .ok (.invokevirtual 222, 3) := by decide +kernel
theorem dX11_shared_18 : decode cX11_shared 18 = .ok (.ifCond .eq 15, 3) := by decide +kernel
theorem dX11_shared_21 : decode cX11_shared 21 = .ok (.iload_n 3, 1) := by decide +kernel
theorem dX11_shared_22 : decode cX11_shared 22 = .ok (.i2l, 1) := by decide +kernel
theorem dX11_shared_23 : decode cX11_shared 23 = .ok (.lconst 0, 1) := by decide +kernel
theorem dX11_shared_24 : decode cX11_shared 24 = .ok (.ldc2_w 87, 3) := by decide +kernel
theorem dX11_shared_27 : decode cX11_shared 27 = .ok (.invokestatic 83, 3) := by decide +kernel
theorem dX11_shared_30 : decode cX11_shared 30 = .ok (.ifCond .ne 5, 3) := by decide +kernel
theorem dX11_shared_33 : decode cX11_shared 33 = .ok (.iconst (-1), 1) := by decide +kernel
theorem dX11_shared_34 : decode cX11_shared 34 = .ok (.ireturn, 1) := by decide +kernel
theorem dX11_shared_35 : decode cX11_shared 35 = .ok (.iconst 0, 1) := by decide +kernel
theorem dX11_shared_36 : decode cX11_shared 36 = .ok (.istore 4, 2) := by decide +kernel
theorem dX11_shared_38 : decode cX11_shared 38 = .ok (.iconst 0, 1) := by decide +kernel
theorem dX11_shared_39 : decode cX11_shared 39 = .ok (.istore 5, 2) := by decide +kernel
theorem dX11_shared_41 : decode cX11_shared 41 = .ok (.sipush 160, 3) := by decide +kernel
theorem dX11_shared_44 : decode cX11_shared 44 = .ok (.iload_n 1, 1) := by decide +kernel
theorem dX11_shared_45 : decode cX11_shared 45 = .ok (.imul, 1) := by decide +kernel
theorem dX11_shared_46 : decode cX11_shared 46 = .ok (.istore 6, 2) := by decide +kernel
theorem dX11_shared_48 : decode cX11_shared 48 = .ok (.iload 6, 2) := by decide +kernel
theorem dX11_shared_50 : decode cX11_shared 50 = .ok (.sipush 160, 3) := by decide +kernel
theorem dX11_shared_53 : decode cX11_shared 53 = .ok (.iload_n 1, 1) := by decide +kernel
theorem dX11_shared_54 : decode cX11_shared 54 = .ok (.imul, 1) := by decide +kernel
theorem dX11_shared_55 : decode cX11_shared 55 = .ok (.aload_n 0, 1) := by decide +kernel
theorem dX11_shared_56 : decode cX11_shared 56 = .ok (.iload_n 1, 1) := by decide +kernel
theorem dX11_shared_57 : decode cX11_shared 57 = .ok (.invokevirtual 95, 3) := by decide +kernel
theorem dX11_shared_60 : decode cX11_shared 60 = .ok (.iadd, 1) := by decide +kernel
theorem dX11_shared_61 : decode cX11_shared 61 = .ok (.if_icmp .ge 65, 3) := by decide +kernel
theorem dX11_shared_64 : decode cX11_shared 64 = .ok (.aload_n 0, 1) := by decide +kernel
theorem dX11_shared_65 : decode cX11_shared 65 = .ok (.iload_n 2, 1) := by decide +kernel
theorem dX11_shared_66 : decode cX11_shared 66 = .ok (.aload_n 0, 1) := by decide +kernel
theorem dX11_shared_67 : decode cX11_shared 67 = .ok (.getfield 17, 3) := by decide +kernel
theorem dX11_shared_70 : decode cX11_shared 70 = .ok (.iload 6, 2) := by decide +kernel
theorem dX11_shared_72 : decode cX11_shared 72 = .ok (.iaload, 1) := by decide +kernel
theorem dX11_shared_73 : decode cX11_shared 73 = .ok (.invokevirtual 202, 3) := by decide +kernel
theorem dX11_shared_76 : decode cX11_shared 76 = .ok (.ifCond .ne 6, 3) := by decide +kernel
theorem dX11_shared_79 : decode cX11_shared 79 = .ok (.goto 41, 3) := by decide +kernel
theorem dX11_shared_82 : decode cX11_shared 82 = .ok (.iinc 4 1, 3) := by decide +kernel
theorem dX11_shared_85 : decode cX11_shared 85 = .ok (.iload 5, 2) := by decide +kernel
theorem dX11_shared_87 : decode cX11_shared 87 = .ok (.aload_n 0, 1) := by decide +kernel
theorem dX11_shared_88 : decode cX11_shared 88 = .ok (.iload_n 2, 1) := by decide +kernel
theorem dX11_shared_89 : decode cX11_shared 89 = .ok (.aload_n 0, 1) := by decide +kernel
theorem dX11_shared_90 : decode cX11_shared 90 = .ok (.getfield 17, 3) := by decide +kernel
theorem dX11_shared_93 : decode cX11_shared 93 = .ok (.iload 6, 2) := by decide +kernel
theorem dX11_shared_95 : decode cX11_shared 95 = .ok (.iaload, 1) := by decide +kernel
theorem dX11_shared_96 : decode cX11_shared 96 = .ok (.invokevirtual 277, 3) := by decide +kernel
theorem dX11_shared_99 : decode cX11_shared 99 = .ok (.aload_n 0, 1) := by decide +kernel
theorem dX11_shared_100 : decode cX11_shared 100 = .ok (.getfield 21, 3) := by decide +kernel
theorem dX11_shared_103 : decode cX11_shared 103 = .ok (.iload 6, 2) := by decide +kernel
theorem dX11_shared_105 : decode cX11_shared 105 = .ok (.iaload, 1) := by decide +kernel
theorem dX11_shared_106 : decode cX11_shared 106 = .ok (.if_icmp .ne 7, 3) := by decide +kernel
theorem dX11_shared_109 : decode cX11_shared 109 = .ok (.iconst 1, 1) := by decide +kernel
theorem dX11_shared_110 : decode cX11_shared 110 = .ok (.goto 4, 3) := by decide +kernel
theorem dX11_shared_113 : decode cX11_shared 113 = .ok (.iconst 0, 1) := by decide +kernel
theorem dX11_shared_114 : decode cX11_shared 114 = .ok (.invokestatic 198, 3) := by decide +kernel
theorem dX11_shared_117 : decode cX11_shared 117 = .ok (.iadd, 1) := by decide +kernel
theorem dX11_shared_118 : decode cX11_shared 118 = .ok (.istore 5, 2) := by decide +kernel
theorem dX11_shared_120 : decode cX11_shared 120 = .ok (.iinc 6 1, 3) := by decide +kernel
theorem dX11_shared_123 : decode cX11_shared 123 = .ok (.goto (-75), 3) := by decide +kernel
theorem dX11_shared_126 : decode cX11_shared 126 = .ok (.iload_n 3, 1) := by decide +kernel
theorem dX11_shared_127 : decode cX11_shared 127 = .ok (.ifCond .ne 8, 3) := by decide +kernel
theorem dX11_shared_130 : decode cX11_shared 130 = .ok (.iload 4, 2) := by decide +kernel
theorem dX11_shared_132 : decode cX11_shared 132 = .ok (.goto 43, 3) := by decide +kernel
theorem dX11_shared_135 : decode cX11_shared 135 = .ok (.iload_n 3, 1) := by decide +kernel
theorem dX11_shared_136 : decode cX11_shared 136 = .ok (.iconst 1, 1) := by decide +kernel
theorem dX11_shared_137 : decode cX11_shared 137 = .ok (.if_icmp .ne 20, 3) := by decide +kernel
theorem dX11_shared_140 : decode cX11_shared 140 = .ok (.aload_n 0, 1) := by decide +kernel
theorem dX11_shared_141 : decode cX11_shared 141 = .ok (.iload_n 1, 1) := by decide +kernel
theorem dX11_shared_142 : decode cX11_shared 142 = .ok (.invokevirtual 95, 3) := by decide +kernel
theorem dX11_shared_145 : decode cX11_shared 145 = .ok (.aload_n 0, 1) := by decide +kernel
theorem dX11_shared_146 : decode cX11_shared 146 = .ok (.iload_n 2, 1) := by decide +kernel
theorem dX11_shared_147 : decode cX11_shared 147 = .ok (.invokevirtual 95, 3) := by decide +kernel
theorem dX11_shared_150 : decode cX11_shared 150 = .ok (.iadd, 1) := by decide +kernel
theorem dX11_shared_151 : decode cX11_shared 151 = .ok (.iload 4, 2) := by decide +kernel
theorem dX11_shared_153 : decode cX11_shared 153 = .ok (.isub, 1) := by decide +kernel
theorem dX11_shared_154 : decode cX11_shared 154 = .ok (.goto 21, 3) := by decide +kernel
theorem dX11_shared_157 : decode cX11_shared 157 = .ok (.iload_n 3, 1) := by decide +kernel
theorem dX11_shared_158 : decode cX11_shared 158 = .ok (.iconst 2, 1) := by decide +kernel
theorem dX11_shared_159 : decode cX11_shared 159 = .ok (.if_icmp .ne 14, 3) := by decide +kernel
theorem dX11_shared_162 : decode cX11_shared 162 = .ok (.aload_n 0, 1) := by decide +kernel
theorem dX11_shared_163 : decode cX11_shared 163 = .ok (.iload_n 1, 1) := by decide +kernel
theorem dX11_shared_164 : decode cX11_shared 164 = .ok (.invokevirtual 95, 3) := by decide +kernel
theorem dX11_shared_167 : decode cX11_shared 167 = .ok (.iload 4, 2) := by decide +kernel
theorem dX11_shared_169 : decode cX11_shared 169 = .ok (.isub, 1) := by decide +kernel
theorem dX11_shared_170 : decode cX11_shared 170 = .ok (.goto 5, 3) := by decide +kernel
theorem dX11_shared_173 : decode cX11_shared 173 = .ok (.iload 5, 2) := by decide +kernel
theorem dX11_shared_175 : decode cX11_shared 175 = .ok (.ireturn, 1) := by decide +kernel
def own_c_sharedM : List Cond := [.methodLink RX11 95 yX11_manyOf, .instanceMethod yX11_manyOf, .selects RX11 yX11_manyOf yX11_manyOf, .initialized RX11, .fieldLink RX11 17 "ClashFreeModel" "keys" "[I", .methodLink RX11 202 yX11_hasKey, .instanceMethod yX11_hasKey, .selects RX11 yX11_hasKey yX11_hasKey, .methodLink RX11 277 yX11_valueOf, .instanceMethod yX11_valueOf, .selects RX11 yX11_valueOf yX11_valueOf, .fieldLink RX11 21 "ClashFreeModel" "values" "[I", .methodLink RX11 198 yX11_flag, .static yX11_flag, .fieldLink RX11 73 "ClashFreeModel" "thrown" "I", .methodLink RX11 222 yX11_isThere, .instanceMethod yX11_isThere, .selects RX11 yX11_isThere yX11_isThere, .constantLong RX11 87 (3), .methodLink RX11 83 yX11_isIn, .static yX11_isIn]
def wp_c_sharedM : List Cond := .code yX11_shared cX11_shared 7 (some .int) :: (own_c_sharedM ++ (wp_c_manyOf ++ (wp_c_hasKey ++ (wp_c_valueOf ++ (wp_c_flag ++ (wp_c_isThere ++ (wp_c_isIn ++ (wsX110 ++ ([] : List Cond)))))))))
set_option maxRecDepth 20000 in
theorem inown_c_sharedM : ∀ w ∈ own_c_sharedM, w ∈ lw_tbl := mem_places [1396, 1398, 40, 115, 1220, 1477, 1479, 56, 1641, 1643, 71, 1221, 1502, 1503, 1216, 1466, 1468, 54, 1378, 1371, 1372] (by decide +kernel)
set_option maxRecDepth 20000 in
theorem in_c_sharedM : ∀ w ∈ wp_c_sharedM, w ∈ lw_tbl := List.forall_mem_cons.mpr ⟨List.mem_of_getElem? (i := 1640) (by decide +kernel), List.forall_mem_append.mpr ⟨inown_c_sharedM, List.forall_mem_append.mpr ⟨in_c_manyOf, List.forall_mem_append.mpr ⟨in_c_hasKey, List.forall_mem_append.mpr ⟨in_c_valueOf, List.forall_mem_append.mpr ⟨in_c_flag, List.forall_mem_append.mpr ⟨in_c_isThere, List.forall_mem_append.mpr ⟨in_c_isIn, List.forall_mem_append.mpr ⟨lwb_X11, fun _ h => absurd h List.not_mem_nil⟩⟩⟩⟩⟩⟩⟩⟩⟩
set_option maxRecDepth 20000 in
theorem good_c_sharedM : wp_c_sharedM.all goodWord = true := by decide +kernel
set_option maxRecDepth 20000 in
theorem g_c_sharedM_c_manyOf_95 : GoodIn wp_c_sharedM (wsV RX11 95 RX11 yX11_manyOf wp_c_manyOf) := goodIn_sub (List.forall_mem_append.mpr ⟨List.forall_mem_cons.mpr ⟨(List.mem_of_getElem? (i := 1) rfl), List.forall_mem_cons.mpr ⟨(List.mem_of_getElem? (i := 2) rfl), List.forall_mem_cons.mpr ⟨(List.mem_of_getElem? (i := 3) rfl), List.forall_mem_cons.mpr ⟨(List.mem_of_getElem? (i := 4) rfl), fun _ h => absurd h List.not_mem_nil⟩⟩⟩⟩, (fun _ h => (List.mem_cons_of_mem _ (List.mem_append_right _ (List.mem_append_left _ h))))⟩) (by decide +kernel)
set_option maxRecDepth 20000 in
theorem g_c_sharedM_c_hasKey_202 : GoodIn wp_c_sharedM (wsV RX11 202 RX11 yX11_hasKey wp_c_hasKey) := goodIn_sub (List.forall_mem_append.mpr ⟨List.forall_mem_cons.mpr ⟨(List.mem_of_getElem? (i := 6) rfl), List.forall_mem_cons.mpr ⟨(List.mem_of_getElem? (i := 7) rfl), List.forall_mem_cons.mpr ⟨(List.mem_of_getElem? (i := 8) rfl), List.forall_mem_cons.mpr ⟨(List.mem_of_getElem? (i := 4) rfl), fun _ h => absurd h List.not_mem_nil⟩⟩⟩⟩, (fun _ h => (List.mem_cons_of_mem _ (List.mem_append_right _ (List.mem_append_right _ (List.mem_append_left _ h)))))⟩) (by decide +kernel)
set_option maxRecDepth 20000 in
theorem g_c_sharedM_c_valueOf_277 : GoodIn wp_c_sharedM (wsV RX11 277 RX11 yX11_valueOf wp_c_valueOf) := goodIn_sub (List.forall_mem_append.mpr ⟨List.forall_mem_cons.mpr ⟨(List.mem_of_getElem? (i := 9) rfl), List.forall_mem_cons.mpr ⟨(List.mem_of_getElem? (i := 10) rfl), List.forall_mem_cons.mpr ⟨(List.mem_of_getElem? (i := 11) rfl), List.forall_mem_cons.mpr ⟨(List.mem_of_getElem? (i := 4) rfl), fun _ h => absurd h List.not_mem_nil⟩⟩⟩⟩, (fun _ h => (List.mem_cons_of_mem _ (List.mem_append_right _ (List.mem_append_right _ (List.mem_append_right _ (List.mem_append_left _ h))))))⟩) (by decide +kernel)
set_option maxRecDepth 20000 in
theorem g_c_sharedM_c_flag_198 : GoodIn wp_c_sharedM (va_wsS RX11 198 yX11_flag wp_c_flag) := goodIn_sub (List.forall_mem_append.mpr ⟨List.forall_mem_cons.mpr ⟨(List.mem_of_getElem? (i := 13) rfl), List.forall_mem_cons.mpr ⟨(List.mem_of_getElem? (i := 14) rfl), List.forall_mem_cons.mpr ⟨(List.mem_of_getElem? (i := 4) rfl), fun _ h => absurd h List.not_mem_nil⟩⟩⟩, (fun _ h => (List.mem_cons_of_mem _ (List.mem_append_right _ (List.mem_append_right _ (List.mem_append_right _ (List.mem_append_right _ (List.mem_append_left _ h)))))))⟩) (by decide +kernel)
set_option maxRecDepth 20000 in
theorem g_c_sharedM_c_isThere_222 : GoodIn wp_c_sharedM (wsV RX11 222 RX11 yX11_isThere wp_c_isThere) := goodIn_sub (List.forall_mem_append.mpr ⟨List.forall_mem_cons.mpr ⟨(List.mem_of_getElem? (i := 16) rfl), List.forall_mem_cons.mpr ⟨(List.mem_of_getElem? (i := 17) rfl), List.forall_mem_cons.mpr ⟨(List.mem_of_getElem? (i := 18) rfl), List.forall_mem_cons.mpr ⟨(List.mem_of_getElem? (i := 4) rfl), fun _ h => absurd h List.not_mem_nil⟩⟩⟩⟩, (fun _ h => (List.mem_cons_of_mem _ (List.mem_append_right _ (List.mem_append_right _ (List.mem_append_right _ (List.mem_append_right _ (List.mem_append_right _ (List.mem_append_left _ h))))))))⟩) (by decide +kernel)
set_option maxRecDepth 20000 in
theorem g_c_sharedM_c_isIn_83 : GoodIn wp_c_sharedM (va_wsS RX11 83 yX11_isIn wp_c_isIn) := goodIn_sub (List.forall_mem_append.mpr ⟨List.forall_mem_cons.mpr ⟨(List.mem_of_getElem? (i := 20) rfl), List.forall_mem_cons.mpr ⟨(List.mem_of_getElem? (i := 21) rfl), List.forall_mem_cons.mpr ⟨(List.mem_of_getElem? (i := 4) rfl), fun _ h => absurd h List.not_mem_nil⟩⟩⟩, (fun _ h => (List.mem_cons_of_mem _ (List.mem_append_right _ (List.mem_append_right _ (List.mem_append_right _ (List.mem_append_right _ (List.mem_append_right _ (List.mem_append_right _ (List.mem_append_left _ h)))))))))⟩) (by decide +kernel)
set_option maxHeartbeats 4000000 in
set_option maxRecDepth 100000 in
theorem lp_shared (l : Launch) {p : Program} {e : Env} {s : State} {m : MethodId} {args : Array Value} {below : List Frame} {meth : Method} {c : Code} {Q : State → Prop} {A : Nat → Prop} (D : va_G) (h0 : Nat) (a : Nat → Nat) (cm : Nat → ClassId) (i : Nat → Int32) (g : Nat → Int64) (fn : Nat → Int64) (fk : Nat → Int32) (fv : Nat → Int32) (fb : Nat → Int32) (ff : Nat → Int32) (fh : Nat → Int32) (fa : Nat → Int64) (fs : Nat → Int64) (z3 : Int32) (k : Nat) (cn : Nat) (nb : Nat) (K : Nat → Nat) (J : Nat → Nat) (k2 : Nat) (cn2 : Nat) (nb2 : Nat) (K2 : Nat → Nat) (J2 : Nat → Nat) (hk : k < 4) (hk2 : k2 < 4) (hT : TabS k cn nb K J fn fk fb ff fh) (hT2 : TabS k2 cn2 nb2 K2 J2 fn fk fb ff fh) (hx : p.tables.exec = Jvm.exec) (hb : c.code = cX11_shared) (hml : c.maxLocals = 7) (hown : s.vm.findClass RX11 = some m.cls) (hts : ∀ w ∈ wp_c_sharedM, w.before args s = true) (hA : ∀ q, s.heap.size ≤ q → A q) (hK : va_K D vwCl [(cm 3, .long), (cm 4, .int), (cm 5, .int), (cm 6, .int), (cm 8, .int), (cm 9, .int), (cm 10, .long), (cm 11, .long)] s) (kx126 : ∀ (x : Nat), ∀ (ln : Nat), ∀ (bx : Nat), (x ≤ cn) → (shF ((tabl cn K (fun j => fv (160 * k + j))).drop x) (tabl cn2 K2 (fun j => fv (160 * k2 + j))) bx ln = shF (tabl cn K (fun j => fv (160 * k + j))) (tabl cn2 K2 (fun j => fv (160 * k2 + j))) 0 0) → (shF (tabl cn K (fun j => fv (160 * k + j))) (tabl cn2 K2 (fun j => fv (160 * k2 + j))) 0 0 = (bx, ln)) → ∀ (H : Heap) (locs : List Loc) (ls : Array Slot), va_P D vwCl [(h0, .inr (11, gM a (upd i 0 0) g)), (a 3, .inl (cm 3, 85, .inr (.inl fn))), (a 4, .inl (cm 4, 800, .inl fk)), (a 5, .inl (cm 5, 800, .inl fv)), (a 6, .inl (cm 6, 800, .inl fb)), (a 8, .inl (cm 8, 10240, .inl ff)), (a 9, .inl (cm 9, 10240, .inl fh)), (a 10, .inl (cm 10, 10240, .inr (.inl fa))), (a 11, .inl (cm 11, 10240, .inr (.inl fs)))] H → va_D A [(h0, .inr (11, gM a (upd i 0 0) g)), (a 3, .inl (cm 3, 85, .inr (.inl fn))), (a 4, .inl (cm 4, 800, .inl fk)), (a 5, .inl (cm 5, 800, .inl fv)), (a 6, .inl (cm 6, 800, .inl fb)), (a 8, .inl (cm 8, 10240, .inl ff)), (a 9, .inl (cm 9, 10240, .inl fh)), (a 10, .inl (cm 10, 10240, .inr (.inl fa))), (a 11, .inl (cm 11, 10240, .inr (.inl fs)))] → va_S A s.heap H locs → lv_has ls 7 [(5, .int (nI ln)), (4, .int (nI bx)), (0, .ref h0), (1, .int (nI k)), (2, .int (nI k2)), (3, .int z3)] → W p l e ({ frames := 6, cells := 0, slots := 0, locals := 160 }) s m args below meth c H locs 0 0 Q (F0 m 126 ls [])) : ∀ (N : Nat), ∀ (x : Nat), ∀ (ln : Nat), ∀ (bx : Nat), (x ≤ cn) → (shF ((tabl cn K (fun j => fv (160 * k + j))).drop x) (tabl cn2 K2 (fun j => fv (160 * k2 + j))) bx ln = shF (tabl cn K (fun j => fv (160 * k + j))) (tabl cn2 K2 (fun j => fv (160 * k2 + j))) 0 0) → cn - x < N → ∀ (H : Heap) (locs : List Loc) (ls : Array Slot), va_P D vwCl [(h0, .inr (11, gM a (upd i 0 0) g)), (a 3, .inl (cm 3, 85, .inr (.inl fn))), (a 4, .inl (cm 4, 800, .inl fk)), (a 5, .inl (cm 5, 800, .inl fv)), (a 6, .inl (cm 6, 800, .inl fb)), (a 8, .inl (cm 8, 10240, .inl ff)), (a 9, .inl (cm 9, 10240, .inl fh)), (a 10, .inl (cm 10, 10240, .inr (.inl fa))), (a 11, .inl (cm 11, 10240, .inr (.inl fs)))] H → va_D A [(h0, .inr (11, gM a (upd i 0 0) g)), (a 3, .inl (cm 3, 85, .inr (.inl fn))), (a 4, .inl (cm 4, 800, .inl fk)), (a 5, .inl (cm 5, 800, .inl fv)), (a 6, .inl (cm 6, 800, .inl fb)), (a 8, .inl (cm 8, 10240, .inl ff)), (a 9, .inl (cm 9, 10240, .inl fh)), (a 10, .inl (cm 10, 10240, .inr (.inl fa))), (a 11, .inl (cm 11, 10240, .inr (.inl fs)))] → va_S A s.heap H locs → lv_has ls 7 [(6, .int (nI (160 * k + x))), (5, .int (nI ln)), (4, .int (nI bx)), (0, .ref h0), (1, .int (nI k)), (2, .int (nI k2)), (3, .int z3)] → W p l e ({ frames := 6, cells := 0, slots := 0, locals := 160 }) s m args below meth c H locs 0 0 Q (F0 m 48 ls []) := by
  have hin_X11 : ∀ w ∈ wsX110, w ∈ wp_c_sharedM := fun _ h => (List.mem_cons_of_mem _ (List.mem_append_right _ (List.mem_append_right _ (List.mem_append_right _ (List.mem_append_right _ (List.mem_append_right _ (List.mem_append_right _ (List.mem_append_right _ (List.mem_append_left _ h)))))))))
  intro N
  induction N with
  | zero =>
    intro x ln bx hx2 hsh hm
    exact absurd hm (Nat.not_lt_zero _)
  | succ N ih =>
    intro x ln bx hx2 hsh hm H locs ls hP hD hS hl
    obtain ⟨h1, hcn, h4, hn1, hn2, ⟨ka, kb, hka, hkb, h6, h7⟩, hKy, hBk, hHs, ⟨bn, ns, gr, h14, hbn, h15, hs1, hs2, h16, hgr⟩⟩ := id hT
    obtain ⟨h12, hcn2, h42, hn12, hn22, ⟨ka2, kb2, hka2, hkb2, h62, h72⟩, hKy2, hBk2, hHs2, ⟨bn2, ns2, gr2, h142, hbn2, h152, hs12, hs22, h162, hgr2⟩⟩ := id hT2
    refine lv_iload hx hb dX11_shared_48 (lv_at hl 0 rfl) ?_
    refine lv_sipush (v := 160) hx hb dX11_shared_50 (by decide) ?_
    refine lv_iload_n hx hb dX11_shared_53 rfl (lv_at hl 4 rfl) ?_
    refine lv_imul hx hb dX11_shared_54 ?_
    refine lv_aload_n hx hb dX11_shared_55 rfl (lv_at hl 3 rfl) ?_
    refine lv_iload_n hx hb dX11_shared_56 rfl (lv_at hl 4 rfl) ?_
    have hPc := hP.sub (ws' := [(h0, .inr (11, gM a (upd i 0 0) g)), (a 3, .inl (cm 3, 85, .inr (.inl fn)))]) [0, 1] rfl
    have hKc := hK.sub (tys' := [(cm 3, .long)]) [0] rfl
    have hFc := va_free0 hS hA
    refine va_calli (va_runV (As := [.int (nI k)]) (rest := [.int (160 * (nI k)), .int (nI (160 * k + x))]) ⟨hx, hb, hml, hown, hts⟩ (c_manyOf l D _ h0 a cm (upd i 0 0) g fn k cn (by first | assumption | omega) h1) (cwV 1 hts g_c_sharedM_c_manyOf_95 rfl rfl rfl (by decide +kernel) ⟨(Nat.le_of_ble_eq_true rfl), (Nat.le_of_ble_eq_true rfl)⟩) (PcR_V (q0 := 0) hPc hKc rfl rfl) rfl rfl hl.1 rfl (lv_room (Nat.le_of_ble_eq_true rfl)) dX11_shared_57 ⟨(Nat.le_of_ble_eq_true rfl), (Nat.le_of_ble_eq_true rfl)⟩) hS (fun q _ h => hFc q h) hFc (fun r1 uu tt H locs htt hvm hw hB hz1 hk1 hS => ?_)
    have hP := va_keep hP hk1
    try dsimp only at hw
    clear hB hz1 hk1 hFc hPc hKc
    obtain rfl : r1 = nI cn := hw
    refine lv_iadd hx hb dX11_shared_60 ?_
    refine lv_topi (fun v2 ev2 => ?_)
    obtain rfl : v2 = nI (160 * k + cn) := ev2.trans (ix160 k _)
    refine lv_icmp_ge (tgt := 126) hx hb dX11_shared_61 (by decide) (fun hc3 => ?_) (fun hc3 => ?_)
    ·
      have hge_x : cn ≤ x := by
        have := (nI_leI (a := 160 * k + cn) (b := 160 * k + x) (by omega) (by omega)).mp hc3
        omega
      exact kx126 x ln bx (hx2) (hsh) (by rw [tabl_dnil _ _ hge_x] at hsh; exact hsh.symm) H locs ls (hP.sub [0, 1, 2, 3, 4, 5, 6, 7, 8] rfl) (hD.sub [0, 1, 2, 3, 4, 5, 6, 7, 8] (by decide) rfl) hS (lv_sub hl [1, 2, 3, 4, 5, 6] rfl)
    ·
      have hlt_x : x < cn := by
        rcases Nat.lt_or_ge x cn with z | z
        · exact z
        · exact absurd (nI_le (show 160 * k + cn ≤ 160 * k + x by omega) (by omega)) hc3
      have hkxx : K x < 2147483647 := (hKy.1 x hlt_x).2
      rw [tabl_drop _ _ hlt_x] at hsh
      refine lv_aload_n hx hb dX11_shared_64 rfl (lv_at hl 3 rfl) ?_
      refine lv_iload_n hx hb dX11_shared_65 rfl (lv_at hl 5 rfl) ?_
      refine lv_aload_n hx hb dX11_shared_66 rfl (lv_at hl 3 rfl) ?_
      refine va_get (D := D) (ci := 11) (v := .ref (a 4)) (C := RX11) (T := TX11) (N := 47) hx hb hts hin_X11 hown hK hP 0 rfl rfl 4 (by decide) (hts (.fieldLink RX11 17 "ClashFreeModel" "keys" "[I") (List.mem_of_getElem? (i := 5) rfl)) (fun _ h9 => h9) rfl dX11_shared_67 ?_
      refine lv_iload hx hb dX11_shared_70 (lv_at hl 0 rfl) ?_
      refine va_iald hx hb hK hP 2 1 rfl rfl (vp_in_nI (by omega) (by decide)) dX11_shared_72 ?_
      refine lv_topi (fun v4 ev4 => ?_)
      obtain rfl : v4 = nI (K x) := ev4.trans (by rw [nI_clamp (by omega)]; exact (hKy.1 _ (by omega)).1)
      have hPc := hP.sub (ws' := [(h0, .inr (11, gM a (upd i 0 0) g)), (a 3, .inl (cm 3, 85, .inr (.inl fn))), (a 4, .inl (cm 4, 800, .inl fk))]) [0, 1, 2] rfl
      have hKc := hK.sub (tys' := [(cm 3, .long), (cm 4, .int)]) [0, 1] rfl
      have hFc := va_free0 hS hA
      refine va_calli (va_runV (As := [.int (nI k2), .int (nI (K x))]) (rest := []) ⟨hx, hb, hml, hown, hts⟩ (c_hasKey l D _ h0 a cm (upd i 0 0) g fn fk k2 cn2 K2 (K x) (by first | assumption | omega) h12 (by first | assumption | omega) hKy2 (by first | assumption | omega)) (cwV 2 hts g_c_sharedM_c_hasKey_202 rfl rfl rfl (by decide +kernel) ⟨(Nat.le_of_ble_eq_true rfl), (Nat.le_of_ble_eq_true rfl)⟩) (PcR_V (q0 := 0) hPc hKc rfl rfl) rfl rfl hl.1 rfl (lv_room (Nat.le_of_ble_eq_true rfl)) dX11_shared_73 ⟨(Nat.le_of_ble_eq_true rfl), (Nat.le_of_ble_eq_true rfl)⟩) hS (fun q _ h => hFc q h) hFc (fun r5 uu tt H locs htt hvm hw hB hz1 hk1 hS => ?_)
      have hP := va_keep hP hk1
      try dsimp only at hw
      clear hB hz1 hk1 hFc hPc hKc
      rcases hw with ⟨rfl, hA_r5⟩ | ⟨rfl, hA_r5⟩
      ·
        obtain ⟨q2, hq2, eq2⟩ := hA_r5
        have hlk := look_at cn2 K2 (fun j => fv (160 * k2 + j)) q2 _ hKy2.2 hq2 eq2
        refine lv_if_ne (tgt := 82) hx hb dX11_shared_76 (by decide) (fun hc => ?_) (fun hc => absurd hc (by decide))
        refine lv_iinc (v := nI (bx + 1)) (lv' := [(4, .int (nI (bx + 1))), (6, .int (nI (160 * k + x))), (5, .int (nI ln)), (0, .ref h0), (1, .int (nI k)), (2, .int (nI k2)), (3, .int z3)]) hx hb dX11_shared_82 hl (k := 2) rfl (nI_1 _) (by decide) rfl (fun ls hl => ?_)
        refine lv_iload hx hb dX11_shared_85 (lv_at hl 2 rfl) ?_
        refine lv_aload_n hx hb dX11_shared_87 rfl (lv_at hl 3 rfl) ?_
        refine lv_iload_n hx hb dX11_shared_88 rfl (lv_at hl 5 rfl) ?_
        refine lv_aload_n hx hb dX11_shared_89 rfl (lv_at hl 3 rfl) ?_
        refine va_get (D := D) (ci := 11) (v := .ref (a 4)) (C := RX11) (T := TX11) (N := 47) hx hb hts hin_X11 hown hK hP 0 rfl rfl 4 (by decide) (hts (.fieldLink RX11 17 "ClashFreeModel" "keys" "[I") (List.mem_of_getElem? (i := 5) rfl)) (fun _ h9 => h9) rfl dX11_shared_90 ?_
        refine lv_iload hx hb dX11_shared_93 (lv_at hl 1 rfl) ?_
        refine va_iald hx hb hK hP 2 1 rfl rfl (vp_in_nI (by omega) (by decide)) dX11_shared_95 ?_
        refine lv_topi (fun v6 ev6 => ?_)
        obtain rfl : v6 = nI (K x) := ev6.trans (by rw [nI_clamp (by omega)]; exact (hKy.1 _ (by omega)).1)
        have hPc := hP.sub (ws' := [(h0, .inr (11, gM a (upd i 0 0) g)), (a 3, .inl (cm 3, 85, .inr (.inl fn))), (a 4, .inl (cm 4, 800, .inl fk)), (a 5, .inl (cm 5, 800, .inl fv))]) [0, 1, 2, 3] rfl
        have hKc := hK.sub (tys' := [(cm 3, .long), (cm 4, .int), (cm 5, .int)]) [0, 1, 2] rfl
        have hFc := va_free0 hS hA
        refine va_calli (va_runV (As := [.int (nI k2), .int (nI (K x))]) (rest := [.int (nI ln)]) ⟨hx, hb, hml, hown, hts⟩ (c_valueOf l D _ h0 a cm (upd i 0 0) g fn fk fv k2 cn2 K2 (K x) (by first | assumption | omega) h12 (by first | assumption | omega) hKy2 (by first | assumption | omega)) (cwV 2 hts g_c_sharedM_c_valueOf_277 rfl rfl rfl (by decide +kernel) ⟨(Nat.le_of_ble_eq_true rfl), (Nat.le_of_ble_eq_true rfl)⟩) (PcR_V (q0 := 0) hPc hKc rfl rfl) rfl rfl hl.1 rfl (lv_room (Nat.le_of_ble_eq_true rfl)) dX11_shared_96 ⟨(Nat.le_of_ble_eq_true rfl), (Nat.le_of_ble_eq_true rfl)⟩) hS (fun q _ h => hFc q h) hFc (fun r7 uu tt H locs htt hvm hw hB hz1 hk1 hS => ?_)
        have hP := va_keep hP hk1
        try dsimp only at hw
        clear hB hz1 hk1 hFc hPc hKc
        have hvo8 := hw
        refine lv_aload_n hx hb dX11_shared_99 rfl (lv_at hl 3 rfl) ?_
        refine va_get (D := D) (ci := 11) (v := .ref (a 5)) (C := RX11) (T := TX11) (N := 47) hx hb hts hin_X11 hown hK hP 0 rfl rfl 5 (by decide) (hts (.fieldLink RX11 21 "ClashFreeModel" "values" "[I") (List.mem_of_getElem? (i := 12) rfl)) (fun _ h9 => h9) rfl dX11_shared_100 ?_
        refine lv_iload hx hb dX11_shared_103 (lv_at hl 1 rfl) ?_
        refine va_iald hx hb hK hP 3 2 rfl rfl (vp_in_nI (by omega) (by decide)) dX11_shared_105 ?_
        refine lv_topi (fun v9 ev9 => ?_)
        obtain rfl : v9 = fv (160 * k + x) := ev9.trans (by rw [nI_clamp (by omega)])
        refine lv_icmp_ne (tgt := 113) hx hb dX11_shared_106 (by decide) (fun hc10 => ?_) (fun hc10 => ?_)
        ·
          refine lv_iconst (v := 0) hx hb dX11_shared_113 (by decide) ?_
          have hPc := hP.sub (ws' := []) [] rfl
          have hKc := hK.sub (tys' := []) [] rfl
          have hFc := va_free0 hS hA
          refine va_calli (va_runS (As := [.int 0]) (rest := [.int (nI ln)]) ⟨hx, hb, hml, hown, hts⟩ (c_flag l D _ 0) (va_cwS 1 hts g_c_sharedM_c_flag_198 rfl rfl rfl (by decide +kernel) ⟨(Nat.le_of_ble_eq_true rfl), (Nat.le_of_ble_eq_true rfl)⟩) (PcR_S hPc hKc) rfl rfl hl.1 rfl (lv_room (Nat.le_of_ble_eq_true rfl)) dX11_shared_114 ⟨(Nat.le_of_ble_eq_true rfl), (Nat.le_of_ble_eq_true rfl)⟩) hS (fun q _ h => hFc q h) hFc (fun r11 uu tt H locs htt hvm hw hB hz1 hk1 hS => ?_)
          have hP := va_keep hP hk1
          try dsimp only at hw
          clear hB hz1 hk1 hFc hPc hKc
          obtain rfl : r11 = 0 := hw.trans (by decide)
          refine lv_iadd hx hb dX11_shared_117 ?_
          refine lv_topi (fun v12 ev12 => ?_)
          obtain rfl : v12 = nI ln := ev12.trans (Int32.add_zero _)
          refine lv_istore (lv' := [(5, .int (nI ln)), (4, .int (nI (bx + 1))), (6, .int (nI (160 * k + x))), (0, .ref h0), (1, .int (nI k)), (2, .int (nI k2)), (3, .int z3)]) hx hb dX11_shared_118 hl (by decide) rfl (fun ls hl => ?_)
          refine lv_iinc (v := nI (160 * k + (x + 1))) (lv' := [(6, .int (nI (160 * k + (x + 1)))), (5, .int (nI ln)), (4, .int (nI (bx + 1))), (0, .ref h0), (1, .int (nI k)), (2, .int (nI k2)), (3, .int z3)]) hx hb dX11_shared_120 hl (k := 2) rfl (nI_1 _) (by decide) rfl (fun ls hl => ?_)
          refine lv_goto (tgt := 48) hx hb dX11_shared_123 (by decide) ?_
          have hs2 := (shF_s hlk).symm.trans hsh
          rw [if_neg (fun e => hc10 ((hvo8 q2 hq2 eq2).trans e))] at hs2
          exact ih (x + 1) ln (bx + 1) (by omega) (hs2) (by omega) H locs ls (hP.sub [0, 1, 2, 3, 4, 5, 6, 7, 8] rfl) (hD.sub [0, 1, 2, 3, 4, 5, 6, 7, 8] (by decide) rfl) hS (lv_sub hl [0, 1, 2, 3, 4, 5, 6] rfl)
        ·
          refine lv_iconst (v := 1) hx hb dX11_shared_109 (by decide) ?_
          refine lv_goto (tgt := 114) hx hb dX11_shared_110 (by decide) ?_
          have hPc := hP.sub (ws' := []) [] rfl
          have hKc := hK.sub (tys' := []) [] rfl
          have hFc := va_free0 hS hA
          refine va_calli (va_runS (As := [.int 1]) (rest := [.int (nI ln)]) ⟨hx, hb, hml, hown, hts⟩ (c_flag l D _ 1) (va_cwS 1 hts g_c_sharedM_c_flag_198 rfl rfl rfl (by decide +kernel) ⟨(Nat.le_of_ble_eq_true rfl), (Nat.le_of_ble_eq_true rfl)⟩) (PcR_S hPc hKc) rfl rfl hl.1 rfl (lv_room (Nat.le_of_ble_eq_true rfl)) dX11_shared_114 ⟨(Nat.le_of_ble_eq_true rfl), (Nat.le_of_ble_eq_true rfl)⟩) hS (fun q _ h => hFc q h) hFc (fun r13 uu tt H locs htt hvm hw hB hz1 hk1 hS => ?_)
          have hP := va_keep hP hk1
          try dsimp only at hw
          clear hB hz1 hk1 hFc hPc hKc
          obtain rfl : r13 = 1 := hw.trans (by decide)
          refine lv_iadd hx hb dX11_shared_117 ?_
          refine lv_topi (fun v14 ev14 => ?_)
          obtain rfl : v14 = nI (ln + 1) := ev14.trans (nI_1 _)
          refine lv_istore (lv' := [(5, .int (nI (ln + 1))), (4, .int (nI (bx + 1))), (6, .int (nI (160 * k + x))), (0, .ref h0), (1, .int (nI k)), (2, .int (nI k2)), (3, .int z3)]) hx hb dX11_shared_118 hl (by decide) rfl (fun ls hl => ?_)
          refine lv_iinc (v := nI (160 * k + (x + 1))) (lv' := [(6, .int (nI (160 * k + (x + 1)))), (5, .int (nI (ln + 1))), (4, .int (nI (bx + 1))), (0, .ref h0), (1, .int (nI k)), (2, .int (nI k2)), (3, .int z3)]) hx hb dX11_shared_120 hl (k := 2) rfl (nI_1 _) (by decide) rfl (fun ls hl => ?_)
          refine lv_goto (tgt := 48) hx hb dX11_shared_123 (by decide) ?_
          have hs2 := (shF_s hlk).symm.trans hsh
          rw [if_pos ((hvo8 q2 hq2 eq2).symm.trans hc10)] at hs2
          exact ih (x + 1) (ln + 1) (bx + 1) (by omega) (hs2) (by omega) H locs ls (hP.sub [0, 1, 2, 3, 4, 5, 6, 7, 8] rfl) (hD.sub [0, 1, 2, 3, 4, 5, 6, 7, 8] (by decide) rfl) hS (lv_sub hl [0, 1, 2, 3, 4, 5, 6] rfl)
      ·
        refine lv_if_ne (tgt := 82) hx hb dX11_shared_76 (by decide) (fun hc => absurd (by decide) hc) (fun hc => ?_)
        refine lv_goto (tgt := 120) hx hb dX11_shared_79 (by decide) ?_
        refine lv_iinc (v := nI (160 * k + (x + 1))) (lv' := [(6, .int (nI (160 * k + (x + 1)))), (5, .int (nI ln)), (4, .int (nI bx)), (0, .ref h0), (1, .int (nI k)), (2, .int (nI k2)), (3, .int z3)]) hx hb dX11_shared_120 hl (k := 0) rfl (nI_1 _) (by decide) rfl (fun ls hl => ?_)
        refine lv_goto (tgt := 48) hx hb dX11_shared_123 (by decide) ?_
        exact ih (x + 1) ln bx (by omega) ((shF_n (look_no _ _ _ _ hA_r5)).symm.trans hsh) (by omega) H locs ls (hP.sub [0, 1, 2, 3, 4, 5, 6, 7, 8] rfl) (hD.sub [0, 1, 2, 3, 4, 5, 6, 7, 8] (by decide) rfl) hS (lv_sub hl [0, 1, 2, 3, 4, 5, 6] rfl)
set_option maxHeartbeats 4000000 in
set_option maxRecDepth 100000 in
theorem c_sharedM (l : Launch) (D : va_G) (sz : Nat) (h0 : Nat) (a : Nat → Nat) (cm : Nat → ClassId) (i : Nat → Int32) (g : Nat → Int64) (fn : Nat → Int64) (fk : Nat → Int32) (fv : Nat → Int32) (fb : Nat → Int32) (ff : Nat → Int32) (fh : Nat → Int32) (fa : Nat → Int64) (fs : Nat → Int64) (z1 : Int32) (z2 : Int32) (z3 : Int32) (hM : MInv fn fk fb ff fh fa fs) : Met l yX11_shared wp_c_sharedM ({ frames := 6, cells := 0, slots := 0, locals := 160 }) (PcW D [.ref h0, .int z1, .int z2, .int z3] sz [(h0, .inr (11, gM a i g)), (a 3, .inl (cm 3, 85, .inr (.inl fn))), (a 4, .inl (cm 4, 800, .inl fk)), (a 5, .inl (cm 5, 800, .inl fv)), (a 6, .inl (cm 6, 800, .inl fb)), (a 8, .inl (cm 8, 10240, .inl ff)), (a 9, .inl (cm 9, 10240, .inl fh)), (a 10, .inl (cm 10, 10240, .inr (.inl fa))), (a 11, .inl (cm 11, 10240, .inr (.inl fs)))] [(cm 3, .long), (cm 4, .int), (cm 5, .int), (cm 6, .int), (cm 8, .int), (cm 9, .int), (cm 10, .long), (cm 11, .long)]) (va_Qi (fun (r : Int32) (u : (Int32)) => r = shA (there fn z1) (there fn z2) (lsR fn fk fv) z1 z2 z3) (fun (u : (Int32)) t => va_P D vwCl [(h0, .inr (11, gM a (upd i 0 u) g)), (a 3, .inl (cm 3, 85, .inr (.inl fn))), (a 4, .inl (cm 4, 800, .inl fk)), (a 5, .inl (cm 5, 800, .inl fv)), (a 6, .inl (cm 6, 800, .inl fb)), (a 8, .inl (cm 8, 10240, .inl ff)), (a 9, .inl (cm 9, 10240, .inl fh)), (a 10, .inl (cm 10, 10240, .inr (.inl fa))), (a 11, .inl (cm 11, 10240, .inr (.inl fs)))] t.heap ∧ va_K D vwCl [(cm 3, .long), (cm 4, .int), (cm 5, .int), (cm 6, .int), (cm 8, .int), (cm 9, .int), (cm 10, .long), (cm 11, .long)] t ∧ va_D (va_A [(h0, .inr (11, gM a i g)), (a 3, .inl (cm 3, 85, .inr (.inl fn))), (a 4, .inl (cm 4, 800, .inl fk)), (a 5, .inl (cm 5, 800, .inl fv)), (a 6, .inl (cm 6, 800, .inl fb)), (a 8, .inl (cm 8, 10240, .inl ff)), (a 9, .inl (cm 9, 10240, .inl fh)), (a 10, .inl (cm 10, 10240, .inr (.inl fa))), (a 11, .inl (cm 11, 10240, .inr (.inl fs)))] sz) [(h0, .inr (11, gM a (upd i 0 u) g)), (a 3, .inl (cm 3, 85, .inr (.inl fn))), (a 4, .inl (cm 4, 800, .inl fk)), (a 5, .inl (cm 5, 800, .inl fv)), (a 6, .inl (cm 6, 800, .inl fb)), (a 8, .inl (cm 8, 10240, .inl ff)), (a 9, .inl (cm 9, 10240, .inl fh)), (a 10, .inl (cm 10, 10240, .inr (.inl fa))), (a 11, .inl (cm 11, 10240, .inr (.inl fs)))]) (va_A [(h0, .inr (11, gM a i g)), (a 3, .inl (cm 3, 85, .inr (.inl fn))), (a 4, .inl (cm 4, 800, .inl fk)), (a 5, .inl (cm 5, 800, .inl fv)), (a 6, .inl (cm 6, 800, .inl fb)), (a 8, .inl (cm 8, 10240, .inl ff)), (a 9, .inl (cm 9, 10240, .inl fh)), (a 10, .inl (cm 10, 10240, .inr (.inl fa))), (a 11, .inl (cm 11, 10240, .inr (.inl fs)))] sz)) 0 0 (va_A [(h0, .inr (11, gM a i g)), (a 3, .inl (cm 3, 85, .inr (.inl fn))), (a 4, .inl (cm 4, 800, .inl fk)), (a 5, .inl (cm 5, 800, .inl fv)), (a 6, .inl (cm 6, 800, .inl fb)), (a 8, .inl (cm 8, 10240, .inl ff)), (a 9, .inl (cm 9, 10240, .inl fh)), (a 10, .inl (cm 10, 10240, .inr (.inl fa))), (a 11, .inl (cm 11, 10240, .inr (.inl fs)))] sz) := by
  refine Met.ofW (cc := cX11_shared) (maxL := 7) (ret := (some .int)) (by decide) rfl ?_
  intro p e s m args below meth c s₁ B hml hv
  obtain ⟨rfl, hsz, hP, hK, hD0⟩ := hv
  have hx := B.exec
  have hb := B.bytes
  have hr := B.returns
  have hts := atoms_spec (ws := wp_c_sharedM) B.pre
  have hin_X11 : ∀ w ∈ wsX110, w ∈ wp_c_sharedM := fun _ h => (List.mem_cons_of_mem _ (List.mem_append_right _ (List.mem_append_right _ (List.mem_append_right _ (List.mem_append_right _ (List.mem_append_right _ (List.mem_append_right _ (List.mem_append_right _ (List.mem_append_left _ h)))))))))
  have hown : s.vm.findClass RX11 = some m.cls := findClass_of_methodNamed B.named
  have hlocks := B.notSynchronized
  subst hsz
  have hD := hD0.self (sz := s.heap.size)
  generalize hAe : va_A [(h0, .inr (11, gM a i g)), (a 3, .inl (cm 3, 85, .inr (.inl fn))), (a 4, .inl (cm 4, 800, .inl fk)), (a 5, .inl (cm 5, 800, .inl fv)), (a 6, .inl (cm 6, 800, .inl fb)), (a 8, .inl (cm 8, 10240, .inl ff)), (a 9, .inl (cm 9, 10240, .inl fh)), (a 10, .inl (cm 10, 10240, .inr (.inl fa))), (a 11, .inl (cm 11, 10240, .inr (.inl fs)))] s.heap.size = A at hD ⊢
  have hA : ∀ q : Nat, s.heap.size ≤ q → A q := fun q h => by rw [← hAe]; exact Or.inr h
  have hS : va_S A s.heap s.heap [] := va_S.rf
  have hP : va_P D vwCl [(h0, .inr (11, gM a i g)), (a 3, .inl (cm 3, 85, .inr (.inl fn))), (a 4, .inl (cm 4, 800, .inl fk)), (a 5, .inl (cm 5, 800, .inl fv)), (a 6, .inl (cm 6, 800, .inl fb)), (a 8, .inl (cm 8, 10240, .inl ff)), (a 9, .inl (cm 9, 10240, .inl fh)), (a 10, .inl (cm 10, 10240, .inr (.inl fa))), (a 11, .inl (cm 11, 10240, .inr (.inl fs)))] s.heap := hP
  have hl := lv_entry ([.ref h0, .int z1, .int z2, .int z3]) (n := 7) (Nat.le_of_ble_eq_true rfl)
  rw [lg_entry_eq]
  generalize (lg_sl ([.ref h0, .int z1, .int z2, .int z3]) ++ List.replicate (7 - (lg_sl ([.ref h0, .int z1, .int z2, .int z3])).length) Slot.unset).toArray = ls at hl ⊢
  have hl : lv_has ls 7 [(0, .ref h0), (1, .int z1), (2, .int z2), (3, .int z3)] := hl
  refine lv_aload_n hx hb dX11_shared_0 rfl (lv_at hl 0 rfl) ?_
  refine lv_iconst (v := 0) hx hb dX11_shared_1 (by decide) ?_
  refine va_put (D := D) (ci := 11) (v := .int 0) (ty := .int) (C := RX11) (T := TX11) (N := 47) hx hb hts hin_X11 tyX11 tyX11_ok nmX11 hown hK hP hD hS 0 rfl rfl 0 (by decide) (hts (.fieldLink RX11 73 "ClashFreeModel" "thrown" "I") (List.mem_of_getElem? (i := 15) rfl)) (fun _ h9 => h9) rfl (by decide +kernel) rfl rfl (Nat.le_of_ble_eq_true rfl) dX11_shared_2 (fun H locs hP hD hS => ?_)
  have hP : va_P D vwCl [(h0, .inr (11, gM a (upd i 0 0) g)), (a 3, .inl (cm 3, 85, .inr (.inl fn))), (a 4, .inl (cm 4, 800, .inl fk)), (a 5, .inl (cm 5, 800, .inl fv)), (a 6, .inl (cm 6, 800, .inl fb)), (a 8, .inl (cm 8, 10240, .inl ff)), (a 9, .inl (cm 9, 10240, .inl fh)), (a 10, .inl (cm 10, 10240, .inr (.inl fa))), (a 11, .inl (cm 11, 10240, .inr (.inl fs)))] H := hP
  have hD : va_D A [(h0, .inr (11, gM a (upd i 0 0) g)), (a 3, .inl (cm 3, 85, .inr (.inl fn))), (a 4, .inl (cm 4, 800, .inl fk)), (a 5, .inl (cm 5, 800, .inl fv)), (a 6, .inl (cm 6, 800, .inl fb)), (a 8, .inl (cm 8, 10240, .inl ff)), (a 9, .inl (cm 9, 10240, .inl fh)), (a 10, .inl (cm 10, 10240, .inr (.inl fa))), (a 11, .inl (cm 11, 10240, .inr (.inl fs)))] := hD
  refine lv_aload_n hx hb dX11_shared_5 rfl (lv_at hl 0 rfl) ?_
  refine lv_iload_n hx hb dX11_shared_6 rfl (lv_at hl 1 rfl) ?_
  have hPc := hP.sub (ws' := [(h0, .inr (11, gM a (upd i 0 0) g)), (a 3, .inl (cm 3, 85, .inr (.inl fn)))]) [0, 1] rfl
  have hKc := hK.sub (tys' := [(cm 3, .long)]) [0] rfl
  have hFc := va_free0 hS hA
  refine va_calli (va_runV (As := [.int z1]) (rest := []) ⟨hx, hb, hml, hown, hts⟩ (c_isThere l D _ h0 a cm (upd i 0 0) g fn z1) (cwV 1 hts g_c_sharedM_c_isThere_222 rfl rfl rfl (by decide +kernel) ⟨(Nat.le_of_ble_eq_true rfl), (Nat.le_of_ble_eq_true rfl)⟩) (PcR_V (q0 := 0) hPc hKc rfl rfl) rfl rfl hl.1 rfl (lv_room (Nat.le_of_ble_eq_true rfl)) dX11_shared_7 ⟨(Nat.le_of_ble_eq_true rfl), (Nat.le_of_ble_eq_true rfl)⟩) hS (fun q _ h => hFc q h) hFc (fun r1 uu tt H locs htt hvm hw hB hz1 hk1 hS => ?_)
  have hP := va_keep hP hk1
  try dsimp only at hw
  clear hB hz1 hk1 hFc hPc hKc
  rcases hw with ⟨rfl, hA_r1⟩ | ⟨rfl, hA_r1⟩
  ·
    obtain ⟨k, hk, rfl, ht⟩ := hA_r1
    obtain ⟨cn, nb, K, J, hT⟩ := hM.2.2 k hk ht
    have hth := (show there fn (nI k) from ⟨k, hk, rfl, ht⟩)
    obtain ⟨h1, hcn, h4, hn1, hn2, ⟨ka, kb, hka, hkb, h6, h7⟩, hKy, hBk, hHs, ⟨bn, ns, gr, h14, hbn, h15, hs1, hs2, h16, hgr⟩⟩ := id hT
    refine lv_if_eq (tgt := 33) hx hb dX11_shared_10 (by decide) (fun hc => absurd hc (by decide)) (fun hc => ?_)
    refine lv_aload_n hx hb dX11_shared_13 rfl (lv_at hl 0 rfl) ?_
    refine lv_iload_n hx hb dX11_shared_14 rfl (lv_at hl 2 rfl) ?_
    have hPc := hP.sub (ws' := [(h0, .inr (11, gM a (upd i 0 0) g)), (a 3, .inl (cm 3, 85, .inr (.inl fn)))]) [0, 1] rfl
    have hKc := hK.sub (tys' := [(cm 3, .long)]) [0] rfl
    have hFc := va_free0 hS hA
    refine va_calli (va_runV (As := [.int z2]) (rest := []) ⟨hx, hb, hml, hown, hts⟩ (c_isThere l D _ h0 a cm (upd i 0 0) g fn z2) (cwV 1 hts g_c_sharedM_c_isThere_222 rfl rfl rfl (by decide +kernel) ⟨(Nat.le_of_ble_eq_true rfl), (Nat.le_of_ble_eq_true rfl)⟩) (PcR_V (q0 := 0) hPc hKc rfl rfl) rfl rfl hl.1 rfl (lv_room (Nat.le_of_ble_eq_true rfl)) dX11_shared_15 ⟨(Nat.le_of_ble_eq_true rfl), (Nat.le_of_ble_eq_true rfl)⟩) hS (fun q _ h => hFc q h) hFc (fun r2 uu tt H locs htt hvm hw hB hz1 hk1 hS => ?_)
    have hP := va_keep hP hk1
    try dsimp only at hw
    clear hB hz1 hk1 hFc hPc hKc
    rcases hw with ⟨rfl, hA_r2⟩ | ⟨rfl, hA_r2⟩
    ·
      obtain ⟨k2, hk2, rfl, ht2⟩ := hA_r2
      obtain ⟨cn2, nb2, K2, J2, hT2⟩ := hM.2.2 k2 hk2 ht2
      have hth2 := (show there fn (nI k2) from ⟨k2, hk2, rfl, ht2⟩)
      obtain ⟨h12, hcn2, h42, hn12, hn22, ⟨ka2, kb2, hka2, hkb2, h62, h72⟩, hKy2, hBk2, hHs2, ⟨bn2, ns2, gr2, h142, hbn2, h152, hs12, hs22, h162, hgr2⟩⟩ := id hT2
      refine lv_if_eq (tgt := 33) hx hb dX11_shared_18 (by decide) (fun hc => absurd hc (by decide)) (fun hc => ?_)
      refine lv_iload_n hx hb dX11_shared_21 rfl (lv_at hl 3 rfl) ?_
      refine lv_i2l hx hb dX11_shared_22 rfl ?_
      refine lv_lconst (v := 0) hx hb dX11_shared_23 (by decide) ?_
      refine lv_ldc2 (v := 3) hx hb hown (hts (.constantLong RX11 87 (3)) (List.mem_of_getElem? (i := 19) rfl)) dX11_shared_24 ?_
      have hPc := hP.sub (ws' := []) [] rfl
      have hKc := hK.sub (tys' := []) [] rfl
      have hFc := va_free0 hS hA
      refine va_calli (va_runS (As := [.long (Int32.toInt64 z3), .long 0, .long 3]) (rest := []) ⟨hx, hb, hml, hown, hts⟩ (c_isIn l D _ (Int32.toInt64 z3) 0 3) (va_cwS 3 hts g_c_sharedM_c_isIn_83 rfl rfl rfl (by decide +kernel) ⟨(Nat.le_of_ble_eq_true rfl), (Nat.le_of_ble_eq_true rfl)⟩) (PcR_S hPc hKc) rfl rfl hl.1 rfl (lv_room (Nat.le_of_ble_eq_true rfl)) dX11_shared_27 ⟨(Nat.le_of_ble_eq_true rfl), (Nat.le_of_ble_eq_true rfl)⟩) hS (fun q _ h => hFc q h) hFc (fun r3 uu tt H locs htt hvm hw hB hz1 hk1 hS => ?_)
      have hP := va_keep hP hk1
      try dsimp only at hw
      clear hB hz1 hk1 hFc hPc hKc
      rcases hw with ⟨rfl, hA_r3⟩ | ⟨rfl, hA_r3⟩
      ·
        refine lv_if_ne (tgt := 35) hx hb dX11_shared_30 (by decide) (fun hc => ?_) (fun hc => absurd hc (by decide))
        refine lv_iconst (v := 0) hx hb dX11_shared_35 (by decide) ?_
        refine lv_istore (lv' := [(4, .int 0), (0, .ref h0), (1, .int (nI k)), (2, .int (nI k2)), (3, .int z3)]) hx hb dX11_shared_36 hl (by decide) rfl (fun ls hl => ?_)
        refine lv_iconst (v := 0) hx hb dX11_shared_38 (by decide) ?_
        refine lv_istore (lv' := [(5, .int 0), (4, .int 0), (0, .ref h0), (1, .int (nI k)), (2, .int (nI k2)), (3, .int z3)]) hx hb dX11_shared_39 hl (by decide) rfl (fun ls hl => ?_)
        refine lv_sipush (v := 160) hx hb dX11_shared_41 (by decide) ?_
        refine lv_iload_n hx hb dX11_shared_44 rfl (lv_at hl 3 rfl) ?_
        refine lv_imul hx hb dX11_shared_45 ?_
        refine lv_topi (fun v4 ev4 => ?_)
        obtain rfl : v4 = nI (160 * k + 0) := ev4.trans (pk_mul 160 k)
        refine lv_istore (lv' := [(6, .int (nI (160 * k + 0))), (5, .int 0), (4, .int 0), (0, .ref h0), (1, .int (nI k)), (2, .int (nI k2)), (3, .int z3)]) hx hb dX11_shared_46 hl (by decide) rfl (fun ls hl => ?_)
        refine lp_shared l D h0 a cm (upd i 0 0) g fn fk fv fb ff fh fa fs z3 k cn nb K J k2 cn2 nb2 K2 J2 (hk) (hk2) (hT) (hT2) hx hb hml hown hts hA (hK.sub [0, 1, 2, 3, 4, 5, 6, 7] rfl) ?_ (cn + 1) 0 0 0 (Nat.zero_le _) (rfl) (by omega) _ _ _ (hP.sub [0, 1, 2, 3, 4, 5, 6, 7, 8] rfl) (hD.sub [0, 1, 2, 3, 4, 5, 6, 7, 8] (by decide) rfl) hS (lv_sub hl [0, 1, 2, 3, 4, 5, 6] rfl)
        intro x_5 ln_6 bx_7 hx2_8 hsh_9 hx10 H locs ls hP hD hS hl
        refine lv_iload_n hx hb dX11_shared_126 rfl (lv_at hl 5 rfl) ?_
        refine lv_if_ne (tgt := 135) hx hb dX11_shared_127 (by decide) (fun hc11 => ?_) (fun hc11 => ?_)
        ·
          refine lv_iload_n hx hb dX11_shared_135 rfl (lv_at hl 5 rfl) ?_
          refine lv_iconst (v := 1) hx hb dX11_shared_136 (by decide) ?_
          refine lv_icmp_ne (tgt := 157) hx hb dX11_shared_137 (by decide) (fun hc12 => ?_) (fun hc12 => ?_)
          ·
            refine lv_iload_n hx hb dX11_shared_157 rfl (lv_at hl 5 rfl) ?_
            refine lv_iconst (v := 2) hx hb dX11_shared_158 (by decide) ?_
            refine lv_icmp_ne (tgt := 173) hx hb dX11_shared_159 (by decide) (fun hc13 => ?_) (fun hc13 => ?_)
            ·
              refine lv_iload hx hb dX11_shared_173 (lv_at hl 0 rfl) ?_
              have hZ := (shA_1 (t1 := there fn (nI k)) (t2 := there fn (nI k2)) (Ls := lsR fn fk fv) (z3 := z3) hk hk2 hth hth2 (isIn04c.mp hA_r3))
              rw [lsR_T hk hT fv, lsR_T hk2 hT2 fv, shR_3 hx10 hc11 hc12 hc13] at hZ
              exact W.iret (v := nI ln_6) hx hb hr (fun t ht hW => ⟨⟨nI ln_6, 0, rfl, hZ.symm, by rw [ht]; exact hP.sub [0, 1, 2, 3, 4, 5, 6, 7, 8] rfl, va_K.moved hW.alike (hK.sub [0, 1, 2, 3, 4, 5, 6, 7] rfl), hD.sub [0, 1, 2, 3, 4, 5, 6, 7, 8] (by decide) rfl⟩, hS.F ht⟩) hS.2.2 dX11_shared_175
            ·
              refine lv_aload_n hx hb dX11_shared_162 rfl (lv_at hl 2 rfl) ?_
              refine lv_iload_n hx hb dX11_shared_163 rfl (lv_at hl 3 rfl) ?_
              have hPc := hP.sub (ws' := [(h0, .inr (11, gM a (upd (upd i 0 0) 0 0) g)), (a 3, .inl (cm 3, 85, .inr (.inl fn)))]) [0, 1] rfl
              have hKc := hK.sub (tys' := [(cm 3, .long)]) [0] rfl
              have hFc := va_free0 hS hA
              refine va_calli (va_runV (As := [.int (nI k)]) (rest := []) ⟨hx, hb, hml, hown, hts⟩ (c_manyOf l D _ h0 a cm (upd (upd i 0 0) 0 0) g fn k cn (by first | assumption | omega) h1) (cwV 1 hts g_c_sharedM_c_manyOf_95 rfl rfl rfl (by decide +kernel) ⟨(Nat.le_of_ble_eq_true rfl), (Nat.le_of_ble_eq_true rfl)⟩) (PcR_V (q0 := 0) hPc hKc rfl rfl) rfl rfl hl.1 rfl (lv_room (Nat.le_of_ble_eq_true rfl)) dX11_shared_164 ⟨(Nat.le_of_ble_eq_true rfl), (Nat.le_of_ble_eq_true rfl)⟩) hS (fun q _ h => hFc q h) hFc (fun r14 uu tt H locs htt hvm hw hB hz1 hk1 hS => ?_)
              have hP := va_keep hP hk1
              try dsimp only at hw
              clear hB hz1 hk1 hFc hPc hKc
              obtain rfl : r14 = nI cn := hw
              refine lv_iload hx hb dX11_shared_167 (lv_at hl 1 rfl) ?_
              refine lv_isub hx hb dX11_shared_169 ?_
              refine lv_goto (tgt := 175) hx hb dX11_shared_170 (by decide) ?_
              have hZ := (shA_1 (t1 := there fn (nI k)) (t2 := there fn (nI k2)) (Ls := lsR fn fk fv) (z3 := z3) hk hk2 hth hth2 (isIn04c.mp hA_r3))
              rw [lsR_T hk hT fv, lsR_T hk2 hT2 fv, shR_2 hx10 hc11 hc12 hc13] at hZ
              simp only [tabl_len] at hZ
              exact W.iret (v := (nI cn) - (nI bx_7)) hx hb hr (fun t ht hW => ⟨⟨(nI cn) - (nI bx_7), 0, rfl, hZ.symm, by rw [ht]; exact hP.sub [0, 1, 2, 3, 4, 5, 6, 7, 8] rfl, va_K.moved hW.alike (hK.sub [0, 1, 2, 3, 4, 5, 6, 7] rfl), hD.sub [0, 1, 2, 3, 4, 5, 6, 7, 8] (by decide) rfl⟩, hS.F ht⟩) hS.2.2 dX11_shared_175
          ·
            refine lv_aload_n hx hb dX11_shared_140 rfl (lv_at hl 2 rfl) ?_
            refine lv_iload_n hx hb dX11_shared_141 rfl (lv_at hl 3 rfl) ?_
            have hPc := hP.sub (ws' := [(h0, .inr (11, gM a (upd (upd i 0 0) 0 0) g)), (a 3, .inl (cm 3, 85, .inr (.inl fn)))]) [0, 1] rfl
            have hKc := hK.sub (tys' := [(cm 3, .long)]) [0] rfl
            have hFc := va_free0 hS hA
            refine va_calli (va_runV (As := [.int (nI k)]) (rest := []) ⟨hx, hb, hml, hown, hts⟩ (c_manyOf l D _ h0 a cm (upd (upd i 0 0) 0 0) g fn k cn (by first | assumption | omega) h1) (cwV 1 hts g_c_sharedM_c_manyOf_95 rfl rfl rfl (by decide +kernel) ⟨(Nat.le_of_ble_eq_true rfl), (Nat.le_of_ble_eq_true rfl)⟩) (PcR_V (q0 := 0) hPc hKc rfl rfl) rfl rfl hl.1 rfl (lv_room (Nat.le_of_ble_eq_true rfl)) dX11_shared_142 ⟨(Nat.le_of_ble_eq_true rfl), (Nat.le_of_ble_eq_true rfl)⟩) hS (fun q _ h => hFc q h) hFc (fun r15 uu tt H locs htt hvm hw hB hz1 hk1 hS => ?_)
            have hP := va_keep hP hk1
            try dsimp only at hw
            clear hB hz1 hk1 hFc hPc hKc
            obtain rfl : r15 = nI cn := hw
            refine lv_aload_n hx hb dX11_shared_145 rfl (lv_at hl 2 rfl) ?_
            refine lv_iload_n hx hb dX11_shared_146 rfl (lv_at hl 4 rfl) ?_
            have hPc := hP.sub (ws' := [(h0, .inr (11, gM a (upd (upd i 0 0) 0 0) g)), (a 3, .inl (cm 3, 85, .inr (.inl fn)))]) [0, 1] rfl
            have hKc := hK.sub (tys' := [(cm 3, .long)]) [0] rfl
            have hFc := va_free0 hS hA
            refine va_calli (va_runV (As := [.int (nI k2)]) (rest := [.int (nI cn)]) ⟨hx, hb, hml, hown, hts⟩ (c_manyOf l D _ h0 a cm (upd (upd i 0 0) 0 0) g fn k2 cn2 (by first | assumption | omega) h12) (cwV 1 hts g_c_sharedM_c_manyOf_95 rfl rfl rfl (by decide +kernel) ⟨(Nat.le_of_ble_eq_true rfl), (Nat.le_of_ble_eq_true rfl)⟩) (PcR_V (q0 := 0) hPc hKc rfl rfl) rfl rfl hl.1 rfl (lv_room (Nat.le_of_ble_eq_true rfl)) dX11_shared_147 ⟨(Nat.le_of_ble_eq_true rfl), (Nat.le_of_ble_eq_true rfl)⟩) hS (fun q _ h => hFc q h) hFc (fun r16 uu tt H locs htt hvm hw hB hz1 hk1 hS => ?_)
            have hP := va_keep hP hk1
            try dsimp only at hw
            clear hB hz1 hk1 hFc hPc hKc
            obtain rfl : r16 = nI cn2 := hw
            refine lv_iadd hx hb dX11_shared_150 ?_
            refine lv_iload hx hb dX11_shared_151 (lv_at hl 1 rfl) ?_
            refine lv_isub hx hb dX11_shared_153 ?_
            refine lv_goto (tgt := 175) hx hb dX11_shared_154 (by decide) ?_
            have hZ := (shA_1 (t1 := there fn (nI k)) (t2 := there fn (nI k2)) (Ls := lsR fn fk fv) (z3 := z3) hk hk2 hth hth2 (isIn04c.mp hA_r3))
            rw [lsR_T hk hT fv, lsR_T hk2 hT2 fv, shR_1 hx10 hc11 hc12] at hZ
            simp only [tabl_len] at hZ
            exact W.iret (v := ((nI cn) + (nI cn2)) - (nI bx_7)) hx hb hr (fun t ht hW => ⟨⟨((nI cn) + (nI cn2)) - (nI bx_7), 0, rfl, hZ.symm, by rw [ht]; exact hP.sub [0, 1, 2, 3, 4, 5, 6, 7, 8] rfl, va_K.moved hW.alike (hK.sub [0, 1, 2, 3, 4, 5, 6, 7] rfl), hD.sub [0, 1, 2, 3, 4, 5, 6, 7, 8] (by decide) rfl⟩, hS.F ht⟩) hS.2.2 dX11_shared_175
        ·
          refine lv_iload hx hb dX11_shared_130 (lv_at hl 1 rfl) ?_
          refine lv_goto (tgt := 175) hx hb dX11_shared_132 (by decide) ?_
          have hZ := (shA_1 (t1 := there fn (nI k)) (t2 := there fn (nI k2)) (Ls := lsR fn fk fv) (z3 := z3) hk hk2 hth hth2 (isIn04c.mp hA_r3))
          rw [lsR_T hk hT fv, lsR_T hk2 hT2 fv, shR_0 hx10 hc11] at hZ
          exact W.iret (v := nI bx_7) hx hb hr (fun t ht hW => ⟨⟨nI bx_7, 0, rfl, hZ.symm, by rw [ht]; exact hP.sub [0, 1, 2, 3, 4, 5, 6, 7, 8] rfl, va_K.moved hW.alike (hK.sub [0, 1, 2, 3, 4, 5, 6, 7] rfl), hD.sub [0, 1, 2, 3, 4, 5, 6, 7, 8] (by decide) rfl⟩, hS.F ht⟩) hS.2.2 dX11_shared_175
      ·
        refine lv_if_ne (tgt := 35) hx hb dX11_shared_30 (by decide) (fun hc => absurd (by decide) hc) (fun hc => ?_)
        refine lv_iconst (v := (-1)) hx hb dX11_shared_33 (by decide) ?_
        exact W.iret (v := (-1)) hx hb hr (fun t ht hW => ⟨⟨(-1), 0, rfl, (shA_0 (fun q => hA_r3 (isIn04c.mpr q.2.2))).symm, by rw [ht]; exact hP.sub [0, 1, 2, 3, 4, 5, 6, 7, 8] rfl, va_K.moved hW.alike (hK.sub [0, 1, 2, 3, 4, 5, 6, 7] rfl), hD.sub [0, 1, 2, 3, 4, 5, 6, 7, 8] (by decide) rfl⟩, hS.F ht⟩) hS.2.2 dX11_shared_34
    ·
      refine lv_if_eq (tgt := 33) hx hb dX11_shared_18 (by decide) (fun hc => ?_) (fun hc => absurd (by decide) hc)
      refine lv_iconst (v := (-1)) hx hb dX11_shared_33 (by decide) ?_
      exact W.iret (v := (-1)) hx hb hr (fun t ht hW => ⟨⟨(-1), 0, rfl, (shA_0 (fun q => hA_r2 q.2.1)).symm, by rw [ht]; exact hP.sub [0, 1, 2, 3, 4, 5, 6, 7, 8] rfl, va_K.moved hW.alike (hK.sub [0, 1, 2, 3, 4, 5, 6, 7] rfl), hD.sub [0, 1, 2, 3, 4, 5, 6, 7, 8] (by decide) rfl⟩, hS.F ht⟩) hS.2.2 dX11_shared_34
  ·
    refine lv_if_eq (tgt := 33) hx hb dX11_shared_10 (by decide) (fun hc => ?_) (fun hc => absurd (by decide) hc)
    refine lv_iconst (v := (-1)) hx hb dX11_shared_33 (by decide) ?_
    exact W.iret (v := (-1)) hx hb hr (fun t ht hW => ⟨⟨(-1), 0, rfl, (shA_0 (fun q => hA_r1 q.1)).symm, by rw [ht]; exact hP.sub [0, 1, 2, 3, 4, 5, 6, 7, 8] rfl, va_K.moved hW.alike (hK.sub [0, 1, 2, 3, 4, 5, 6, 7] rfl), hD.sub [0, 1, 2, 3, 4, 5, 6, 7, 8] (by decide) rfl⟩, hS.F ht⟩) hS.2.2 dX11_shared_34

