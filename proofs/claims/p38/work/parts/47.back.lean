theorem dX11_back_0 : decode cX11_back 0 = .ok (.aload_n 0, 1) := by decide +kernel
theorem dX11_back_1 : decode cX11_back 1 = .ok (.iconst 0, 1) := by decide +kernel
theorem dX11_back_2 : decode cX11_back 2 = .ok (.putfield 73, 3) := by decide +kernel
theorem dX11_back_5 : decode cX11_back 5 = .ok (.iload_n 1, 1) := by decide +kernel
theorem dX11_back_6 : decode cX11_back 6 = .ok (.i2l, 1) := by decide +kernel
theorem dX11_back_7 : decode cX11_back 7 = .ok (.lconst 0, 1) := by decide +kernel
theorem dX11_back_8 : decode cX11_back 8 = .ok (.ldc2_w 87, 3) := by decide +kernel
theorem dX11_back_11 : decode cX11_back 11 = .ok (.invokestatic 83, 3) := by decide +kernel
theorem dX11_back_14 : decode cX11_back 14 = .ok (.ifCond .ne 6, 3) := by decide +kernel
theorem dX11_back_17 : decode cX11_back 17 = .ok (.bipush (-2), 2) := by decide +kernel
theorem dX11_back_19 : decode cX11_back 19 = .ok (.ireturn, 1) := by decide +kernel
theorem dX11_back_20 : decode cX11_back 20 = .ok (.aload_n 0, 1) := by decide +kernel
theorem dX11_back_21 : decode cX11_back 21 = .ok (.getfield 76, 3) := by decide +kernel
theorem dX11_back_24 : decode cX11_back 24 = .ok (.istore_n 2, 1) := by decide +kernel
theorem dX11_back_25 : decode cX11_back 25 = .ok (.aload_n 0, 1) := by decide +kernel
theorem dX11_back_26 : decode cX11_back 26 = .ok (.iconst 0, 1) := by decide +kernel
theorem dX11_back_27 : decode cX11_back 27 = .ok (.putfield 76, 3) := by decide +kernel
theorem dX11_back_30 : decode cX11_back 30 = .ok (.aload_n 0, 1) := by decide +kernel
theorem dX11_back_31 : decode cX11_back 31 = .ok (.iload_n 2, 1) := by decide +kernel
theorem dX11_back_32 : decode cX11_back 32 = .ok (.invokevirtual 453, 3) := by decide +kernel
theorem dX11_back_35 : decode cX11_back 35 = .ok (.ifCond .ne 5, 3) := by decide +kernel
theorem dX11_back_38 : decode cX11_back 38 = .ok (.iconst (-1), 1) := by decide +kernel
theorem dX11_back_39 : decode cX11_back 39 = .ok (.ireturn, 1) := by decide +kernel
theorem dX11_back_40 : decode cX11_back 40 = .ok (.aload_n 0, 1) := by decide +kernel
theorem dX11_back_41 : decode cX11_back 41 = .ok (.iload_n 1, 1) := by decide +kernel
theorem dX11_back_42 : decode cX11_back 42 = .ok (.aload_n 0, 1) := by decide +kernel
theorem dX11_back_43 : decode cX11_back 43 = .ok (.iconst 0, 1) := by decide +kernel
theorem dX11_back_44 : decode cX11_back 44 = .ok (.iconst 1, 1) := by decide +kernel
theorem dX11_back_45 : decode cX11_back 45 = .ok (.invokevirtual 450, 3) := by decide +kernel
theorem dX11_back_48 : decode cX11_back 48 = .ok (.l2i, 1) := by decide +kernel
theorem dX11_back_49 : decode cX11_back 49 = .ok (.aload_n 0, 1) := by decide +kernel
theorem dX11_back_50 : decode cX11_back 50 = .ok (.iconst 1, 1) := by decide +kernel
theorem dX11_back_51 : decode cX11_back 51 = .ok (.iconst 2, 1) := by decide +kernel
theorem dX11_back_52 : decode cX11_back 52 = .ok (.invokevirtual 450, 3) := by decide +kernel
theorem dX11_back_55 : decode cX11_back 55 = .ok (.l2i, 1) := by decide +kernel
theorem dX11_back_56 : decode cX11_back 56 = .ok (.aload_n 0, 1) := by decide +kernel
theorem dX11_back_57 : decode cX11_back 57 = .ok (.iconst 3, 1) := by decide +kernel
theorem dX11_back_58 : decode cX11_back 58 = .ok (.iconst 1, 1) := by decide +kernel
theorem dX11_back_59 : decode cX11_back 59 = .ok (.invokevirtual 450, 3) := by decide +kernel
theorem dX11_back_62 : decode cX11_back 62 = .ok (.l2i, 1) := by decide +kernel
theorem dX11_back_63 : decode cX11_back 63 = .ok (.aload_n 0, 1) := by decide +kernel
theorem dX11_back_64 : decode cX11_back 64 = .ok (.iconst 4, 1) := by decide +kernel
theorem dX11_back_65 : decode cX11_back 65 = .ok (.bipush 8, 2) := by decide +kernel
theorem dX11_back_67 : decode cX11_back 67 = .ok (.invokevirtual 450, 3) := by decide +kernel
theorem dX11_back_70 : decode cX11_back 70 = .ok (.invokevirtual 188, 3) := by decide +kernel
theorem dX11_back_73 : decode cX11_back 73 = .ok (.aload_n 0, 1) := by decide +kernel
theorem dX11_back_74 : decode cX11_back 74 = .ok (.getfield 7, 3) := by decide +kernel
theorem dX11_back_77 : decode cX11_back 77 = .ok (.bipush 12, 2) := by decide +kernel
theorem dX11_back_79 : decode cX11_back 79 = .ok (.baload, 1) := by decide +kernel
theorem dX11_back_80 : decode cX11_back 80 = .ok (.sipush 255, 3) := by decide +kernel
theorem dX11_back_83 : decode cX11_back 83 = .ok (.iand, 1) := by decide +kernel
theorem dX11_back_84 : decode cX11_back 84 = .ok (.istore_n 3, 1) := by decide +kernel
theorem dX11_back_85 : decode cX11_back 85 = .ok (.iconst 0, 1) := by decide +kernel
theorem dX11_back_86 : decode cX11_back 86 = .ok (.istore 4, 2) := by decide +kernel
theorem dX11_back_88 : decode cX11_back 88 = .ok (.iload 4, 2) := by decide +kernel
theorem dX11_back_90 : decode cX11_back 90 = .ok (.iload_n 3, 1) := by decide +kernel
theorem dX11_back_91 : decode cX11_back 91 = .ok (.if_icmp .ge 63, 3) := by decide +kernel
theorem dX11_back_94 : decode cX11_back 94 = .ok (.aload_n 0, 1) := by decide +kernel
theorem dX11_back_95 : decode cX11_back 95 = .ok (.getfield 17, 3) := by decide +kernel
theorem dX11_back_98 : decode cX11_back 98 = .ok (.sipush 160, 3) := by decide +kernel
theorem dX11_back_101 : decode cX11_back 101 = .ok (.iload_n 1, 1) := by decide +kernel
theorem dX11_back_102 : decode cX11_back 102 = .ok (.imul, 1) := by decide +kernel
theorem dX11_back_103 : decode cX11_back 103 = .ok (.iload 4, 2) := by decide +kernel
theorem dX11_back_105 : decode cX11_back 105 = .ok (.iadd, 1) := by decide +kernel
theorem dX11_back_106 : decode cX11_back 106 = .ok (.aload_n 0, 1) := by decide +kernel
theorem dX11_back_107 : decode cX11_back 107 = .ok (.bipush 13, 2) := by decide +kernel
theorem dX11_back_109 : decode cX11_back 109 = .ok (.bipush 8, 2) := by decide +kernel
theorem dX11_back_111 : decode cX11_back 111 = .ok (.iload 4, 2) := by decide +kernel
theorem dX11_back_113 : decode cX11_back 113 = .ok (.imul, 1) := by decide +kernel
theorem dX11_back_114 : decode cX11_back 114 = .ok (.iadd, 1) := by decide +kernel
theorem dX11_back_115 : decode cX11_back 115 = .ok (.iconst 4, 1) := by decide +kernel
theorem dX11_back_116 : decode cX11_back 116 = .ok (.invokevirtual 450, 3) := by decide +kernel
theorem dX11_back_119 : decode cX11_back 119 = .ok (.l2i, 1) := by decide +kernel
theorem dX11_back_120 : decode cX11_back 120 = .ok (.iastore, 1) := by decide +kernel
theorem dX11_back_121 : decode cX11_back 121 = .ok (.aload_n 0, 1) := by decide +kernel
theorem dX11_back_122 : decode cX11_back 122 = .ok (.getfield 21, 3) := by decide +kernel
theorem dX11_back_125 : decode cX11_back 125 = .ok (.sipush 160, 3) := by decide +kernel
theorem dX11_back_128 : decode cX11_back 128 = .ok (.iload_n 1, 1) := by decide +kernel
theorem dX11_back_129 : decode cX11_back 129 = .ok (.imul, 1) := by decide +kernel
theorem dX11_back_130 : decode cX11_back 130 = .ok (.iload 4, 2) := by decide +kernel
theorem dX11_back_132 : decode cX11_back 132 = .ok (.iadd, 1) := by decide +kernel
theorem dX11_back_133 : decode cX11_back 133 = .ok (.aload_n 0, 1) := by decide +kernel
theorem dX11_back_134 : decode cX11_back 134 = .ok (.bipush 17, 2) := by decide +kernel
theorem dX11_back_136 : decode cX11_back 136 = .ok (.bipush 8, 2) := by decide +kernel
theorem dX11_back_138 : decode cX11_back 138 = .ok (.iload 4, 2) := by decide +kernel
theorem dX11_back_140 : decode cX11_back 140 = .ok (.imul, 1) := by decide +kernel
theorem dX11_back_141 : decode cX11_back 141 = .ok (.iadd, 1) := by decide +kernel
theorem dX11_back_142 : decode cX11_back 142 = .ok (.iconst 4, 1) := by decide +kernel
theorem dX11_back_143 : decode cX11_back 143 = .ok (.invokevirtual 450, 3) := by decide +kernel
theorem dX11_back_146 : decode cX11_back 146 = .ok (.l2i, 1) := by decide +kernel
theorem dX11_back_147 : decode cX11_back 147 = .ok (.iastore, 1) := by decide +kernel
theorem dX11_back_148 : decode cX11_back 148 = .ok (.iinc 4 1, 3) := by decide +kernel
theorem dX11_back_151 : decode cX11_back 151 = .ok (.goto (-63), 3) := by decide +kernel
theorem dX11_back_154 : decode cX11_back 154 = .ok (.aload_n 0, 1) := by decide +kernel
theorem dX11_back_155 : decode cX11_back 155 = .ok (.iload_n 1, 1) := by decide +kernel
theorem dX11_back_156 : decode cX11_back 156 = .ok (.iconst 1, 1) := by decide +kernel
theorem dX11_back_157 : decode cX11_back 157 = .ok (.iload_n 3, 1) := by decide +kernel
theorem dX11_back_158 : decode cX11_back 158 = .ok (.i2l, 1) := by decide +kernel
theorem dX11_back_159 : decode cX11_back 159 = .ok (.invokevirtual 126, 3) := by decide +kernel
theorem dX11_back_162 : decode cX11_back 162 = .ok (.aload_n 0, 1) := by decide +kernel
theorem dX11_back_163 : decode cX11_back 163 = .ok (.iload_n 1, 1) := by decide +kernel
theorem dX11_back_164 : decode cX11_back 164 = .ok (.invokevirtual 192, 3) := by decide +kernel
theorem dX11_back_167 : decode cX11_back 167 = .ok (.iload_n 3, 1) := by decide +kernel
theorem dX11_back_168 : decode cX11_back 168 = .ok (.ireturn, 1) := by decide +kernel
def own_c_backM : List Cond := [.fieldLink RX11 17 "ClashFreeModel" "keys" "[I", .methodLink RX11 450 yX11_bytesAt, .instanceMethod yX11_bytesAt, .selects RX11 yX11_bytesAt yX11_bytesAt, .initialized RX11, .fieldLink RX11 21 "ClashFreeModel" "values" "[I", .fieldLink RX11 73 "ClashFreeModel" "thrown" "I", .constantLong RX11 87 (3), .methodLink RX11 83 yX11_isIn, .static yX11_isIn, .fieldLink RX11 76 "ClashFreeModel" "taped" "I", .methodLink RX11 453 yX11_isImage, .instanceMethod yX11_isImage, .selects RX11 yX11_isImage yX11_isImage, .methodLink RX11 188 yX11_makes, .instanceMethod yX11_makes, .selects RX11 yX11_makes yX11_makes, .fieldLink RX11 7 "ClashFreeModel" "tape" "[B", .methodLink RX11 126 yX11_lays, .instanceMethod yX11_lays, .selects RX11 yX11_lays yX11_lays, .methodLink RX11 192 yX11_buildsAll, .instanceMethod yX11_buildsAll, .selects RX11 yX11_buildsAll yX11_buildsAll]
def wp_c_backM : List Cond := .code yX11_back cX11_back 5 (some .int) :: (own_c_backM ++ (wp_c_bytesAt ++ (wp_c_isIn ++ (wp_c_isImage ++ (wp_c_makes ++ (wp_c_lays ++ (wp_c_buildsAll ++ (wsX110 ++ ([] : List Cond)))))))))
set_option maxRecDepth 20000 in
theorem inown_c_backM : ∀ w ∈ own_c_backM, w ∈ lw_tbl := mem_places [1220, 1815, 1817, 104, 115, 1221, 1216, 1378, 1371, 1372, 1218, 1811, 1813, 103, 1384, 1386, 37, 1217, 1388, 1390, 38, 1392, 1394, 39] (by decide +kernel)
set_option maxRecDepth 20000 in
theorem in_c_backM : ∀ w ∈ wp_c_backM, w ∈ lw_tbl := List.forall_mem_cons.mpr ⟨List.mem_of_getElem? (i := 1810) (by decide +kernel), List.forall_mem_append.mpr ⟨inown_c_backM, List.forall_mem_append.mpr ⟨in_c_bytesAt, List.forall_mem_append.mpr ⟨in_c_isIn, List.forall_mem_append.mpr ⟨in_c_isImage, List.forall_mem_append.mpr ⟨in_c_makes, List.forall_mem_append.mpr ⟨in_c_lays, List.forall_mem_append.mpr ⟨in_c_buildsAll, List.forall_mem_append.mpr ⟨lwb_X11, fun _ h => absurd h List.not_mem_nil⟩⟩⟩⟩⟩⟩⟩⟩⟩
set_option maxRecDepth 20000 in
theorem good_c_backM : wp_c_backM.all goodWord = true := by decide +kernel
set_option maxRecDepth 20000 in
theorem g_c_backM_c_bytesAt_450 : GoodIn wp_c_backM (wsV RX11 450 RX11 yX11_bytesAt wp_c_bytesAt) := goodIn_sub (List.forall_mem_append.mpr ⟨List.forall_mem_cons.mpr ⟨(List.mem_of_getElem? (i := 2) rfl), List.forall_mem_cons.mpr ⟨(List.mem_of_getElem? (i := 3) rfl), List.forall_mem_cons.mpr ⟨(List.mem_of_getElem? (i := 4) rfl), List.forall_mem_cons.mpr ⟨(List.mem_of_getElem? (i := 5) rfl), fun _ h => absurd h List.not_mem_nil⟩⟩⟩⟩, (fun _ h => (List.mem_cons_of_mem _ (List.mem_append_right _ (List.mem_append_left _ h))))⟩) (by decide +kernel)
set_option maxRecDepth 20000 in
theorem g_c_backM_c_isIn_83 : GoodIn wp_c_backM (va_wsS RX11 83 yX11_isIn wp_c_isIn) := goodIn_sub (List.forall_mem_append.mpr ⟨List.forall_mem_cons.mpr ⟨(List.mem_of_getElem? (i := 9) rfl), List.forall_mem_cons.mpr ⟨(List.mem_of_getElem? (i := 10) rfl), List.forall_mem_cons.mpr ⟨(List.mem_of_getElem? (i := 5) rfl), fun _ h => absurd h List.not_mem_nil⟩⟩⟩, (fun _ h => (List.mem_cons_of_mem _ (List.mem_append_right _ (List.mem_append_right _ (List.mem_append_left _ h)))))⟩) (by decide +kernel)
set_option maxRecDepth 20000 in
theorem g_c_backM_c_isImage_453 : GoodIn wp_c_backM (wsV RX11 453 RX11 yX11_isImage wp_c_isImage) := goodIn_sub (List.forall_mem_append.mpr ⟨List.forall_mem_cons.mpr ⟨(List.mem_of_getElem? (i := 12) rfl), List.forall_mem_cons.mpr ⟨(List.mem_of_getElem? (i := 13) rfl), List.forall_mem_cons.mpr ⟨(List.mem_of_getElem? (i := 14) rfl), List.forall_mem_cons.mpr ⟨(List.mem_of_getElem? (i := 5) rfl), fun _ h => absurd h List.not_mem_nil⟩⟩⟩⟩, (fun _ h => (List.mem_cons_of_mem _ (List.mem_append_right _ (List.mem_append_right _ (List.mem_append_right _ (List.mem_append_left _ h))))))⟩) (by decide +kernel)
set_option maxRecDepth 20000 in
theorem g_c_backM_c_makes_188 : GoodIn wp_c_backM (wsV RX11 188 RX11 yX11_makes wp_c_makes) := goodIn_sub (List.forall_mem_append.mpr ⟨List.forall_mem_cons.mpr ⟨(List.mem_of_getElem? (i := 15) rfl), List.forall_mem_cons.mpr ⟨(List.mem_of_getElem? (i := 16) rfl), List.forall_mem_cons.mpr ⟨(List.mem_of_getElem? (i := 17) rfl), List.forall_mem_cons.mpr ⟨(List.mem_of_getElem? (i := 5) rfl), fun _ h => absurd h List.not_mem_nil⟩⟩⟩⟩, (fun _ h => (List.mem_cons_of_mem _ (List.mem_append_right _ (List.mem_append_right _ (List.mem_append_right _ (List.mem_append_right _ (List.mem_append_left _ h)))))))⟩) (by decide +kernel)
set_option maxRecDepth 20000 in
theorem g_c_backM_c_lays_126 : GoodIn wp_c_backM (wsV RX11 126 RX11 yX11_lays wp_c_lays) := goodIn_sub (List.forall_mem_append.mpr ⟨List.forall_mem_cons.mpr ⟨(List.mem_of_getElem? (i := 19) rfl), List.forall_mem_cons.mpr ⟨(List.mem_of_getElem? (i := 20) rfl), List.forall_mem_cons.mpr ⟨(List.mem_of_getElem? (i := 21) rfl), List.forall_mem_cons.mpr ⟨(List.mem_of_getElem? (i := 5) rfl), fun _ h => absurd h List.not_mem_nil⟩⟩⟩⟩, (fun _ h => (List.mem_cons_of_mem _ (List.mem_append_right _ (List.mem_append_right _ (List.mem_append_right _ (List.mem_append_right _ (List.mem_append_right _ (List.mem_append_left _ h))))))))⟩) (by decide +kernel)
set_option maxRecDepth 20000 in
theorem g_c_backM_c_buildsAll_192 : GoodIn wp_c_backM (wsV RX11 192 RX11 yX11_buildsAll wp_c_buildsAll) := goodIn_sub (List.forall_mem_append.mpr ⟨List.forall_mem_cons.mpr ⟨(List.mem_of_getElem? (i := 22) rfl), List.forall_mem_cons.mpr ⟨(List.mem_of_getElem? (i := 23) rfl), List.forall_mem_cons.mpr ⟨(List.mem_of_getElem? (i := 24) rfl), List.forall_mem_cons.mpr ⟨(List.mem_of_getElem? (i := 5) rfl), fun _ h => absurd h List.not_mem_nil⟩⟩⟩⟩, (fun _ h => (List.mem_cons_of_mem _ (List.mem_append_right _ (List.mem_append_right _ (List.mem_append_right _ (List.mem_append_right _ (List.mem_append_right _ (List.mem_append_right _ (List.mem_append_left _ h)))))))))⟩) (by decide +kernel)
set_option maxHeartbeats 4000000 in
set_option maxRecDepth 100000 in
theorem lp_back (l : Launch) {p : Program} {e : Env} {s : State} {m : MethodId} {args : Array Value} {below : List Frame} {meth : Method} {c : Code} {Q : State → Prop} {A : Nat → Prop} (D : va_G) (h0 : Nat) (a : Nat → Nat) (cm : Nat → ClassId) (i : Nat → Int32) (g : Nat → Int64) (fT : Nat → Int32) (fk : Nat → Int32) (fv : Nat → Int32) (fb : Nat → Int32) (fr : Nat → Int32) (ff : Nat → Int32) (fh : Nat → Int32) (fa : Nat → Int64) (fs : Nat → Int64) (gn : Nat → Int64) (k : Nat) (cn : Nat) (hk : k < 4) (hcn : cn ≤ 160) (hx : p.tables.exec = Jvm.exec) (hb : c.code = cX11_back) (hml : c.maxLocals = 5) (hown : s.vm.findClass RX11 = some m.cls) (hts : ∀ w ∈ wp_c_backM, w.before args s = true) (hA : ∀ q, s.heap.size ≤ q → A q) (hK : va_K D vwCl [(cm 1, .byte), (cm 3, .long), (cm 4, .int), (cm 5, .int), (cm 6, .int), (cm 7, .int), (cm 8, .int), (cm 9, .int), (cm 10, .long), (cm 11, .long)] s) (kx154 : ∀ (y : Nat), ∀ (gk : Nat → Int32), ∀ (gv : Nat → Int32), (y ≤ cn) → (LdS fT k y fk gk) → (LdV fT k y fv gv) → (cn ≤ y) → ∀ (H : Heap) (locs : List Loc) (ls : Array Slot), va_P D vwCl [(h0, .inr (11, gM a (upd (upd i 0 0) 2 0) g)), (a 1, .inl (cm 1, 1400, .inl fT)), (a 3, .inl (cm 3, 85, .inr (.inl gn))), (a 4, .inl (cm 4, 800, .inl gk)), (a 5, .inl (cm 5, 800, .inl gv)), (a 6, .inl (cm 6, 800, .inl fb)), (a 7, .inl (cm 7, 800, .inl fr)), (a 8, .inl (cm 8, 10240, .inl ff)), (a 9, .inl (cm 9, 10240, .inl fh)), (a 10, .inl (cm 10, 10240, .inr (.inl fa))), (a 11, .inl (cm 11, 10240, .inr (.inl fs)))] H → va_D A [(h0, .inr (11, gM a (upd (upd i 0 0) 2 0) g)), (a 1, .inl (cm 1, 1400, .inl fT)), (a 3, .inl (cm 3, 85, .inr (.inl gn))), (a 4, .inl (cm 4, 800, .inl gk)), (a 5, .inl (cm 5, 800, .inl gv)), (a 6, .inl (cm 6, 800, .inl fb)), (a 7, .inl (cm 7, 800, .inl fr)), (a 8, .inl (cm 8, 10240, .inl ff)), (a 9, .inl (cm 9, 10240, .inl fh)), (a 10, .inl (cm 10, 10240, .inr (.inl fa))), (a 11, .inl (cm 11, 10240, .inr (.inl fs)))] → va_S A s.heap H locs → lv_has ls 5 [(3, .int (nI cn)), (0, .ref h0), (1, .int (nI k))] → W p l e ({ frames := 9, cells := 0, slots := 0, locals := 240 }) s m args below meth c H locs 0 0 Q (F0 m 154 ls [])) : ∀ (N : Nat), ∀ (y : Nat), ∀ (gk : Nat → Int32), ∀ (gv : Nat → Int32), (y ≤ cn) → (LdS fT k y fk gk) → (LdV fT k y fv gv) → cn - y < N → ∀ (H : Heap) (locs : List Loc) (ls : Array Slot), va_P D vwCl [(h0, .inr (11, gM a (upd (upd i 0 0) 2 0) g)), (a 1, .inl (cm 1, 1400, .inl fT)), (a 3, .inl (cm 3, 85, .inr (.inl gn))), (a 4, .inl (cm 4, 800, .inl gk)), (a 5, .inl (cm 5, 800, .inl gv)), (a 6, .inl (cm 6, 800, .inl fb)), (a 7, .inl (cm 7, 800, .inl fr)), (a 8, .inl (cm 8, 10240, .inl ff)), (a 9, .inl (cm 9, 10240, .inl fh)), (a 10, .inl (cm 10, 10240, .inr (.inl fa))), (a 11, .inl (cm 11, 10240, .inr (.inl fs)))] H → va_D A [(h0, .inr (11, gM a (upd (upd i 0 0) 2 0) g)), (a 1, .inl (cm 1, 1400, .inl fT)), (a 3, .inl (cm 3, 85, .inr (.inl gn))), (a 4, .inl (cm 4, 800, .inl gk)), (a 5, .inl (cm 5, 800, .inl gv)), (a 6, .inl (cm 6, 800, .inl fb)), (a 7, .inl (cm 7, 800, .inl fr)), (a 8, .inl (cm 8, 10240, .inl ff)), (a 9, .inl (cm 9, 10240, .inl fh)), (a 10, .inl (cm 10, 10240, .inr (.inl fa))), (a 11, .inl (cm 11, 10240, .inr (.inl fs)))] → va_S A s.heap H locs → lv_has ls 5 [(4, .int (nI y)), (3, .int (nI cn)), (0, .ref h0), (1, .int (nI k))] → W p l e ({ frames := 9, cells := 0, slots := 0, locals := 240 }) s m args below meth c H locs 0 0 Q (F0 m 88 ls []) := by
  have hin_X11 : ∀ w ∈ wsX110, w ∈ wp_c_backM := fun _ h => (List.mem_cons_of_mem _ (List.mem_append_right _ (List.mem_append_right _ (List.mem_append_right _ (List.mem_append_right _ (List.mem_append_right _ (List.mem_append_right _ (List.mem_append_right _ (List.mem_append_left _ h)))))))))
  intro N
  induction N with
  | zero =>
    intro y gk gv hy1 hLd hLv hm
    exact absurd hm (Nat.not_lt_zero _)
  | succ N ih =>
    intro y gk gv hy1 hLd hLv hm H locs ls hP hD hS hl
    refine lv_iload hx hb dX11_back_88 (lv_at hl 0 rfl) ?_
    refine lv_iload_n hx hb dX11_back_90 rfl (lv_at hl 1 rfl) ?_
    refine lv_icmp_ge (tgt := 154) hx hb dX11_back_91 (by decide) (fun hc1 => ?_) (fun hc1 => ?_)
    ·
      have hge_y : cn ≤ y := (nI_leI (by omega) (by omega)).mp hc1
      exact kx154 y gk gv (hy1) (hLd) (hLv) (by omega) H locs ls (hP.sub [0, 1, 2, 3, 4, 5, 6, 7, 8, 9, 10] rfl) (hD.sub [0, 1, 2, 3, 4, 5, 6, 7, 8, 9, 10] (by decide) rfl) hS (lv_sub hl [1, 2, 3] rfl)
    ·
      have hlt_y : y < cn := by
        rcases Nat.lt_or_ge y cn with z | z
        · exact z
        · exact absurd (nI_le z (by omega)) hc1
      refine lv_aload_n hx hb dX11_back_94 rfl (lv_at hl 2 rfl) ?_
      refine va_get (D := D) (ci := 11) (v := .ref (a 4)) (C := RX11) (T := TX11) (N := 47) hx hb hts hin_X11 hown hK hP 0 rfl rfl 4 (by decide) (hts (.fieldLink RX11 17 "ClashFreeModel" "keys" "[I") (List.mem_of_getElem? (i := 1) rfl)) (fun _ h9 => h9) rfl dX11_back_95 ?_
      refine lv_sipush (v := 160) hx hb dX11_back_98 (by decide) ?_
      refine lv_iload_n hx hb dX11_back_101 rfl (lv_at hl 3 rfl) ?_
      refine lv_imul hx hb dX11_back_102 ?_
      refine lv_iload hx hb dX11_back_103 (lv_at hl 0 rfl) ?_
      refine lv_iadd hx hb dX11_back_105 ?_
      refine lv_topi (fun v2 ev2 => ?_)
      obtain rfl : v2 = nI (160 * k + y) := ev2.trans (ix160 k _)
      refine lv_aload_n hx hb dX11_back_106 rfl (lv_at hl 2 rfl) ?_
      refine lv_bipush (v := 13) hx hb dX11_back_107 (by decide) ?_
      refine lv_bipush (v := 8) hx hb dX11_back_109 (by decide) ?_
      refine lv_iload hx hb dX11_back_111 (lv_at hl 0 rfl) ?_
      refine lv_imul hx hb dX11_back_113 ?_
      refine lv_topi (fun v3 ev3 => ?_)
      obtain rfl : v3 = nI (8 * y) := ev3.trans (pk_mul 8 y)
      refine lv_iadd hx hb dX11_back_114 ?_
      refine lv_topi (fun v4 ev4 => ?_)
      obtain rfl : v4 = nI (13 + 8 * y) := ev4.trans (nI_add 13 (8 * y))
      refine lv_iconst (v := 4) hx hb dX11_back_115 (by decide) ?_
      have hPc := hP.sub (ws' := [(h0, .inr (11, gM a (upd (upd i 0 0) 2 0) g)), (a 1, .inl (cm 1, 1400, .inl fT))]) [0, 1] rfl
      have hKc := hK.sub (tys' := [(cm 1, .byte)]) [0] rfl
      have hFc := va_free0 hS hA
      refine va_calll (va_runV (As := [.int (nI (13 + 8 * y)), .int (nI 4)]) (rest := [.int (nI (160 * k + y)), .ref (a 4)]) ⟨hx, hb, hml, hown, hts⟩ (c_bytesAt l D _ h0 a cm (upd (upd i 0 0) 2 0) g fT (13 + 8 * y) 4 (by first | assumption | omega)) (cwV 2 hts g_c_backM_c_bytesAt_450 rfl rfl rfl (by decide +kernel) ⟨(Nat.le_of_ble_eq_true rfl), (Nat.le_of_ble_eq_true rfl)⟩) (PcR_V (q0 := 0) hPc hKc rfl rfl) rfl rfl hl.1 rfl (lv_room (Nat.le_of_ble_eq_true rfl)) dX11_back_116 ⟨(Nat.le_of_ble_eq_true rfl), (Nat.le_of_ble_eq_true rfl)⟩) hS (fun q _ h => hFc q h) hFc (fun r5 uu tt H locs htt hvm hw hB hz1 hk1 hS => ?_)
      have hP := va_keep hP hk1
      try dsimp only at hw
      clear hB hz1 hk1 hFc hPc hKc
      obtain rfl : r5 = bF fT (13 + 8 * y) 4 := hw
      refine lv_l2i hx hb dX11_back_119 rfl ?_
      refine va_iast hx hb hK hP hD hS 3 2 rfl rfl (vp_in_nI (by omega) (by decide)) dX11_back_120 (fun H locs hP hD hS => ?_)
      have hP : va_P D vwCl [(h0, .inr (11, gM a (upd (upd i 0 0) 2 0) g)), (a 1, .inl (cm 1, 1400, .inl fT)), (a 3, .inl (cm 3, 85, .inr (.inl gn))), (a 4, .inl (cm 4, 800, .inl (upd gk (Int32.toNatClampNeg (nI (160 * k + y))) (Int64.toInt32 (bF fT (13 + 8 * y) 4))))), (a 5, .inl (cm 5, 800, .inl gv)), (a 6, .inl (cm 6, 800, .inl fb)), (a 7, .inl (cm 7, 800, .inl fr)), (a 8, .inl (cm 8, 10240, .inl ff)), (a 9, .inl (cm 9, 10240, .inl fh)), (a 10, .inl (cm 10, 10240, .inr (.inl fa))), (a 11, .inl (cm 11, 10240, .inr (.inl fs)))] H := hP
      have hD : va_D A [(h0, .inr (11, gM a (upd (upd i 0 0) 2 0) g)), (a 1, .inl (cm 1, 1400, .inl fT)), (a 3, .inl (cm 3, 85, .inr (.inl gn))), (a 4, .inl (cm 4, 800, .inl (upd gk (Int32.toNatClampNeg (nI (160 * k + y))) (Int64.toInt32 (bF fT (13 + 8 * y) 4))))), (a 5, .inl (cm 5, 800, .inl gv)), (a 6, .inl (cm 6, 800, .inl fb)), (a 7, .inl (cm 7, 800, .inl fr)), (a 8, .inl (cm 8, 10240, .inl ff)), (a 9, .inl (cm 9, 10240, .inl fh)), (a 10, .inl (cm 10, 10240, .inr (.inl fa))), (a 11, .inl (cm 11, 10240, .inr (.inl fs)))] := hD
      rw [show (upd gk (Int32.toNatClampNeg (nI (160 * k + y))) (Int64.toInt32 (bF fT (13 + 8 * y) 4))) = (upd gk (160 * k + y) (Int64.toInt32 (bF fT (13 + 8 * y) 4))) from by rw [nI_clamp (by omega)]] at hP hD
      refine lv_aload_n hx hb dX11_back_121 rfl (lv_at hl 2 rfl) ?_
      refine va_get (D := D) (ci := 11) (v := .ref (a 5)) (C := RX11) (T := TX11) (N := 47) hx hb hts hin_X11 hown hK hP 0 rfl rfl 5 (by decide) (hts (.fieldLink RX11 21 "ClashFreeModel" "values" "[I") (List.mem_of_getElem? (i := 6) rfl)) (fun _ h9 => h9) rfl dX11_back_122 ?_
      refine lv_sipush (v := 160) hx hb dX11_back_125 (by decide) ?_
      refine lv_iload_n hx hb dX11_back_128 rfl (lv_at hl 3 rfl) ?_
      refine lv_imul hx hb dX11_back_129 ?_
      refine lv_iload hx hb dX11_back_130 (lv_at hl 0 rfl) ?_
      refine lv_iadd hx hb dX11_back_132 ?_
      refine lv_topi (fun v6 ev6 => ?_)
      obtain rfl : v6 = nI (160 * k + y) := ev6.trans (ix160 k _)
      refine lv_aload_n hx hb dX11_back_133 rfl (lv_at hl 2 rfl) ?_
      refine lv_bipush (v := 17) hx hb dX11_back_134 (by decide) ?_
      refine lv_bipush (v := 8) hx hb dX11_back_136 (by decide) ?_
      refine lv_iload hx hb dX11_back_138 (lv_at hl 0 rfl) ?_
      refine lv_imul hx hb dX11_back_140 ?_
      refine lv_topi (fun v7 ev7 => ?_)
      obtain rfl : v7 = nI (8 * y) := ev7.trans (pk_mul 8 y)
      refine lv_iadd hx hb dX11_back_141 ?_
      refine lv_topi (fun v8 ev8 => ?_)
      obtain rfl : v8 = nI (17 + 8 * y) := ev8.trans (nI_add 17 (8 * y))
      refine lv_iconst (v := 4) hx hb dX11_back_142 (by decide) ?_
      have hPc := hP.sub (ws' := [(h0, .inr (11, gM a (upd (upd i 0 0) 2 0) g)), (a 1, .inl (cm 1, 1400, .inl fT))]) [0, 1] rfl
      have hKc := hK.sub (tys' := [(cm 1, .byte)]) [0] rfl
      have hFc := va_free0 hS hA
      refine va_calll (va_runV (As := [.int (nI (17 + 8 * y)), .int (nI 4)]) (rest := [.int (nI (160 * k + y)), .ref (a 5)]) ⟨hx, hb, hml, hown, hts⟩ (c_bytesAt l D _ h0 a cm (upd (upd i 0 0) 2 0) g fT (17 + 8 * y) 4 (by first | assumption | omega)) (cwV 2 hts g_c_backM_c_bytesAt_450 rfl rfl rfl (by decide +kernel) ⟨(Nat.le_of_ble_eq_true rfl), (Nat.le_of_ble_eq_true rfl)⟩) (PcR_V (q0 := 0) hPc hKc rfl rfl) rfl rfl hl.1 rfl (lv_room (Nat.le_of_ble_eq_true rfl)) dX11_back_143 ⟨(Nat.le_of_ble_eq_true rfl), (Nat.le_of_ble_eq_true rfl)⟩) hS (fun q _ h => hFc q h) hFc (fun r9 uu tt H locs htt hvm hw hB hz1 hk1 hS => ?_)
      have hP := va_keep hP hk1
      try dsimp only at hw
      clear hB hz1 hk1 hFc hPc hKc
      obtain rfl : r9 = bF fT (17 + 8 * y) 4 := hw
      refine lv_l2i hx hb dX11_back_146 rfl ?_
      refine va_iast hx hb hK hP hD hS 4 3 rfl rfl (vp_in_nI (by omega) (by decide)) dX11_back_147 (fun H locs hP hD hS => ?_)
      have hP : va_P D vwCl [(h0, .inr (11, gM a (upd (upd i 0 0) 2 0) g)), (a 1, .inl (cm 1, 1400, .inl fT)), (a 3, .inl (cm 3, 85, .inr (.inl gn))), (a 4, .inl (cm 4, 800, .inl (upd gk (160 * k + y) (Int64.toInt32 (bF fT (13 + 8 * y) 4))))), (a 5, .inl (cm 5, 800, .inl (upd gv (Int32.toNatClampNeg (nI (160 * k + y))) (Int64.toInt32 (bF fT (17 + 8 * y) 4))))), (a 6, .inl (cm 6, 800, .inl fb)), (a 7, .inl (cm 7, 800, .inl fr)), (a 8, .inl (cm 8, 10240, .inl ff)), (a 9, .inl (cm 9, 10240, .inl fh)), (a 10, .inl (cm 10, 10240, .inr (.inl fa))), (a 11, .inl (cm 11, 10240, .inr (.inl fs)))] H := hP
      have hD : va_D A [(h0, .inr (11, gM a (upd (upd i 0 0) 2 0) g)), (a 1, .inl (cm 1, 1400, .inl fT)), (a 3, .inl (cm 3, 85, .inr (.inl gn))), (a 4, .inl (cm 4, 800, .inl (upd gk (160 * k + y) (Int64.toInt32 (bF fT (13 + 8 * y) 4))))), (a 5, .inl (cm 5, 800, .inl (upd gv (Int32.toNatClampNeg (nI (160 * k + y))) (Int64.toInt32 (bF fT (17 + 8 * y) 4))))), (a 6, .inl (cm 6, 800, .inl fb)), (a 7, .inl (cm 7, 800, .inl fr)), (a 8, .inl (cm 8, 10240, .inl ff)), (a 9, .inl (cm 9, 10240, .inl fh)), (a 10, .inl (cm 10, 10240, .inr (.inl fa))), (a 11, .inl (cm 11, 10240, .inr (.inl fs)))] := hD
      rw [show (upd gv (Int32.toNatClampNeg (nI (160 * k + y))) (Int64.toInt32 (bF fT (17 + 8 * y) 4))) = (upd gv (160 * k + y) (Int64.toInt32 (bF fT (17 + 8 * y) 4))) from by rw [nI_clamp (by omega)]] at hP hD
      refine lv_iinc (v := nI (y + 1)) (lv' := [(4, .int (nI (y + 1))), (3, .int (nI cn)), (0, .ref h0), (1, .int (nI k))]) hx hb dX11_back_148 hl (k := 0) rfl (nI_1 _) (by decide) rfl (fun ls hl => ?_)
      refine lv_goto (tgt := 88) hx hb dX11_back_151 (by decide) ?_
      exact ih (y + 1) (upd gk (160 * k + y) (Int64.toInt32 (bF fT (13 + 8 * y) 4))) (upd gv (160 * k + y) (Int64.toInt32 (bF fT (17 + 8 * y) 4))) (by omega) (LdS_s hLd (by omega)) (LdV_s hLv (by omega)) (by omega) H locs ls (hP.sub [0, 1, 2, 3, 4, 5, 6, 7, 8, 9, 10] rfl) (hD.sub [0, 1, 2, 3, 4, 5, 6, 7, 8, 9, 10] (by decide) rfl) hS (lv_sub hl [0, 1, 2, 3] rfl)
set_option maxHeartbeats 4000000 in
set_option maxRecDepth 100000 in
theorem c_backM (l : Launch) (D : va_G) (sz : Nat) (h0 : Nat) (a : Nat → Nat) (cm : Nat → ClassId) (i : Nat → Int32) (g : Nat → Int64) (fT : Nat → Int32) (fn : Nat → Int64) (fk : Nat → Int32) (fv : Nat → Int32) (fb : Nat → Int32) (fr : Nat → Int32) (ff : Nat → Int32) (fh : Nat → Int32) (fa : Nat → Int64) (fs : Nat → Int64) (z1 : Int32) (tp : Nat) (bt : Nat → Nat) (hM : MInv fn fk fb ff fh fa fs) (htp : i 2 = nI tp) (htp2 : tp ≤ 1400) (hbt : TieR fT bt) : Met l yX11_back wp_c_backM ({ frames := 9, cells := 0, slots := 0, locals := 240 }) (PcW D [.ref h0, .int z1] sz [(h0, .inr (11, gM a i g)), (a 1, .inl (cm 1, 1400, .inl fT)), (a 3, .inl (cm 3, 85, .inr (.inl fn))), (a 4, .inl (cm 4, 800, .inl fk)), (a 5, .inl (cm 5, 800, .inl fv)), (a 6, .inl (cm 6, 800, .inl fb)), (a 7, .inl (cm 7, 800, .inl fr)), (a 8, .inl (cm 8, 10240, .inl ff)), (a 9, .inl (cm 9, 10240, .inl fh)), (a 10, .inl (cm 10, 10240, .inr (.inl fa))), (a 11, .inl (cm 11, 10240, .inr (.inl fs)))] [(cm 1, .byte), (cm 3, .long), (cm 4, .int), (cm 5, .int), (cm 6, .int), (cm 7, .int), (cm 8, .int), (cm 9, .int), (cm 10, .long), (cm 11, .long)]) (va_Qi (fun (r : Int32) (u : (Nat → Int64) × (Nat → Int32) × (Nat → Int32) × (Nat → Int32) × (Nat → Int32) × (Nat → Int32) × (Nat → Int32) × (Nat → Int64) × (Nat → Int64) × (Int32) × (Int32) × (Int64) × (Int64) × (Int64) × (Int32)) => (MInv u.1 u.2.1 u.2.2.2.1 u.2.2.2.2.2.1 u.2.2.2.2.2.2.1 u.2.2.2.2.2.2.2.1 u.2.2.2.2.2.2.2.2.1) ∧ ((¬ ((0 : Int32) ≤ z1 ∧ z1 < 4) ∧ r = -2 ∧ u.2.2.2.2.2.2.2.2.2.2.1 = nI tp ∧ SameT fn u.1) ∨ (∃ k, k < 4 ∧ z1 = nI k ∧ u.2.2.2.2.2.2.2.2.2.2.1 = 0 ∧ ((IMG bt tp ∧ r = nI (bt 12) ∧ NewT fn u.1 k) ∨ (¬ IMG bt tp ∧ r = -1 ∧ SameT fn u.1)))) ∧ lsR u.1 u.2.1 u.2.2.1 = bkS bt tp (lsR fn fk fv) z1) (fun (u : (Nat → Int64) × (Nat → Int32) × (Nat → Int32) × (Nat → Int32) × (Nat → Int32) × (Nat → Int32) × (Nat → Int32) × (Nat → Int64) × (Nat → Int64) × (Int32) × (Int32) × (Int64) × (Int64) × (Int64) × (Int32)) t => va_P D vwCl [(h0, .inr (11, gM a (upd (upd (upd i 0 u.2.2.2.2.2.2.2.2.2.1) 2 u.2.2.2.2.2.2.2.2.2.2.1) 15 u.2.2.2.2.2.2.2.2.2.2.2.2.2.2) (vp_updL (vp_updL (vp_updL (fun _ => 0) 12 u.2.2.2.2.2.2.2.2.2.2.2.1) 13 u.2.2.2.2.2.2.2.2.2.2.2.2.1) 14 u.2.2.2.2.2.2.2.2.2.2.2.2.2.1))), (a 1, .inl (cm 1, 1400, .inl fT)), (a 3, .inl (cm 3, 85, .inr (.inl u.1))), (a 4, .inl (cm 4, 800, .inl u.2.1)), (a 5, .inl (cm 5, 800, .inl u.2.2.1)), (a 6, .inl (cm 6, 800, .inl u.2.2.2.1)), (a 7, .inl (cm 7, 800, .inl u.2.2.2.2.1)), (a 8, .inl (cm 8, 10240, .inl u.2.2.2.2.2.1)), (a 9, .inl (cm 9, 10240, .inl u.2.2.2.2.2.2.1)), (a 10, .inl (cm 10, 10240, .inr (.inl u.2.2.2.2.2.2.2.1))), (a 11, .inl (cm 11, 10240, .inr (.inl u.2.2.2.2.2.2.2.2.1)))] t.heap ∧ va_K D vwCl [(cm 1, .byte), (cm 3, .long), (cm 4, .int), (cm 5, .int), (cm 6, .int), (cm 7, .int), (cm 8, .int), (cm 9, .int), (cm 10, .long), (cm 11, .long)] t ∧ va_D (va_A [(h0, .inr (11, gM a i g)), (a 1, .inl (cm 1, 1400, .inl fT)), (a 3, .inl (cm 3, 85, .inr (.inl fn))), (a 4, .inl (cm 4, 800, .inl fk)), (a 5, .inl (cm 5, 800, .inl fv)), (a 6, .inl (cm 6, 800, .inl fb)), (a 7, .inl (cm 7, 800, .inl fr)), (a 8, .inl (cm 8, 10240, .inl ff)), (a 9, .inl (cm 9, 10240, .inl fh)), (a 10, .inl (cm 10, 10240, .inr (.inl fa))), (a 11, .inl (cm 11, 10240, .inr (.inl fs)))] sz) [(h0, .inr (11, gM a (upd (upd (upd i 0 u.2.2.2.2.2.2.2.2.2.1) 2 u.2.2.2.2.2.2.2.2.2.2.1) 15 u.2.2.2.2.2.2.2.2.2.2.2.2.2.2) (vp_updL (vp_updL (vp_updL (fun _ => 0) 12 u.2.2.2.2.2.2.2.2.2.2.2.1) 13 u.2.2.2.2.2.2.2.2.2.2.2.2.1) 14 u.2.2.2.2.2.2.2.2.2.2.2.2.2.1))), (a 1, .inl (cm 1, 1400, .inl fT)), (a 3, .inl (cm 3, 85, .inr (.inl u.1))), (a 4, .inl (cm 4, 800, .inl u.2.1)), (a 5, .inl (cm 5, 800, .inl u.2.2.1)), (a 6, .inl (cm 6, 800, .inl u.2.2.2.1)), (a 7, .inl (cm 7, 800, .inl u.2.2.2.2.1)), (a 8, .inl (cm 8, 10240, .inl u.2.2.2.2.2.1)), (a 9, .inl (cm 9, 10240, .inl u.2.2.2.2.2.2.1)), (a 10, .inl (cm 10, 10240, .inr (.inl u.2.2.2.2.2.2.2.1))), (a 11, .inl (cm 11, 10240, .inr (.inl u.2.2.2.2.2.2.2.2.1)))]) (va_A [(h0, .inr (11, gM a i g)), (a 1, .inl (cm 1, 1400, .inl fT)), (a 3, .inl (cm 3, 85, .inr (.inl fn))), (a 4, .inl (cm 4, 800, .inl fk)), (a 5, .inl (cm 5, 800, .inl fv)), (a 6, .inl (cm 6, 800, .inl fb)), (a 7, .inl (cm 7, 800, .inl fr)), (a 8, .inl (cm 8, 10240, .inl ff)), (a 9, .inl (cm 9, 10240, .inl fh)), (a 10, .inl (cm 10, 10240, .inr (.inl fa))), (a 11, .inl (cm 11, 10240, .inr (.inl fs)))] sz)) 0 0 (va_A [(h0, .inr (11, gM a i g)), (a 1, .inl (cm 1, 1400, .inl fT)), (a 3, .inl (cm 3, 85, .inr (.inl fn))), (a 4, .inl (cm 4, 800, .inl fk)), (a 5, .inl (cm 5, 800, .inl fv)), (a 6, .inl (cm 6, 800, .inl fb)), (a 7, .inl (cm 7, 800, .inl fr)), (a 8, .inl (cm 8, 10240, .inl ff)), (a 9, .inl (cm 9, 10240, .inl fh)), (a 10, .inl (cm 10, 10240, .inr (.inl fa))), (a 11, .inl (cm 11, 10240, .inr (.inl fs)))] sz) := by
  refine Met.ofW (cc := cX11_back) (maxL := 5) (ret := (some .int)) (by decide) rfl ?_
  intro p e s m args below meth c s₁ B hml hv
  obtain ⟨rfl, hsz, hP, hK, hD0⟩ := hv
  have hx := B.exec
  have hb := B.bytes
  have hr := B.returns
  have hts := atoms_spec (ws := wp_c_backM) B.pre
  have hin_X11 : ∀ w ∈ wsX110, w ∈ wp_c_backM := fun _ h => (List.mem_cons_of_mem _ (List.mem_append_right _ (List.mem_append_right _ (List.mem_append_right _ (List.mem_append_right _ (List.mem_append_right _ (List.mem_append_right _ (List.mem_append_right _ (List.mem_append_left _ h)))))))))
  have hown : s.vm.findClass RX11 = some m.cls := findClass_of_methodNamed B.named
  have hlocks := B.notSynchronized
  subst hsz
  have hD := hD0.self (sz := s.heap.size)
  generalize hAe : va_A [(h0, .inr (11, gM a i g)), (a 1, .inl (cm 1, 1400, .inl fT)), (a 3, .inl (cm 3, 85, .inr (.inl fn))), (a 4, .inl (cm 4, 800, .inl fk)), (a 5, .inl (cm 5, 800, .inl fv)), (a 6, .inl (cm 6, 800, .inl fb)), (a 7, .inl (cm 7, 800, .inl fr)), (a 8, .inl (cm 8, 10240, .inl ff)), (a 9, .inl (cm 9, 10240, .inl fh)), (a 10, .inl (cm 10, 10240, .inr (.inl fa))), (a 11, .inl (cm 11, 10240, .inr (.inl fs)))] s.heap.size = A at hD ⊢
  have hA : ∀ q : Nat, s.heap.size ≤ q → A q := fun q h => by rw [← hAe]; exact Or.inr h
  have hS : va_S A s.heap s.heap [] := va_S.rf
  have hP : va_P D vwCl [(h0, .inr (11, gM a i g)), (a 1, .inl (cm 1, 1400, .inl fT)), (a 3, .inl (cm 3, 85, .inr (.inl fn))), (a 4, .inl (cm 4, 800, .inl fk)), (a 5, .inl (cm 5, 800, .inl fv)), (a 6, .inl (cm 6, 800, .inl fb)), (a 7, .inl (cm 7, 800, .inl fr)), (a 8, .inl (cm 8, 10240, .inl ff)), (a 9, .inl (cm 9, 10240, .inl fh)), (a 10, .inl (cm 10, 10240, .inr (.inl fa))), (a 11, .inl (cm 11, 10240, .inr (.inl fs)))] s.heap := hP
  have hl := lv_entry ([.ref h0, .int z1]) (n := 5) (Nat.le_of_ble_eq_true rfl)
  rw [lg_entry_eq]
  generalize (lg_sl ([.ref h0, .int z1]) ++ List.replicate (5 - (lg_sl ([.ref h0, .int z1])).length) Slot.unset).toArray = ls at hl ⊢
  have hl : lv_has ls 5 [(0, .ref h0), (1, .int z1)] := hl
  have hfa := hM.1
  have hfs := hM.2.1
  refine lv_aload_n hx hb dX11_back_0 rfl (lv_at hl 0 rfl) ?_
  refine lv_iconst (v := 0) hx hb dX11_back_1 (by decide) ?_
  refine va_put (D := D) (ci := 11) (v := .int 0) (ty := .int) (C := RX11) (T := TX11) (N := 47) hx hb hts hin_X11 tyX11 tyX11_ok nmX11 hown hK hP hD hS 0 rfl rfl 0 (by decide) (hts (.fieldLink RX11 73 "ClashFreeModel" "thrown" "I") (List.mem_of_getElem? (i := 7) rfl)) (fun _ h9 => h9) rfl (by decide +kernel) rfl rfl (Nat.le_of_ble_eq_true rfl) dX11_back_2 (fun H locs hP hD hS => ?_)
  have hP : va_P D vwCl [(h0, .inr (11, gM a (upd i 0 0) g)), (a 1, .inl (cm 1, 1400, .inl fT)), (a 3, .inl (cm 3, 85, .inr (.inl fn))), (a 4, .inl (cm 4, 800, .inl fk)), (a 5, .inl (cm 5, 800, .inl fv)), (a 6, .inl (cm 6, 800, .inl fb)), (a 7, .inl (cm 7, 800, .inl fr)), (a 8, .inl (cm 8, 10240, .inl ff)), (a 9, .inl (cm 9, 10240, .inl fh)), (a 10, .inl (cm 10, 10240, .inr (.inl fa))), (a 11, .inl (cm 11, 10240, .inr (.inl fs)))] H := hP
  have hD : va_D A [(h0, .inr (11, gM a (upd i 0 0) g)), (a 1, .inl (cm 1, 1400, .inl fT)), (a 3, .inl (cm 3, 85, .inr (.inl fn))), (a 4, .inl (cm 4, 800, .inl fk)), (a 5, .inl (cm 5, 800, .inl fv)), (a 6, .inl (cm 6, 800, .inl fb)), (a 7, .inl (cm 7, 800, .inl fr)), (a 8, .inl (cm 8, 10240, .inl ff)), (a 9, .inl (cm 9, 10240, .inl fh)), (a 10, .inl (cm 10, 10240, .inr (.inl fa))), (a 11, .inl (cm 11, 10240, .inr (.inl fs)))] := hD
  refine lv_iload_n hx hb dX11_back_5 rfl (lv_at hl 1 rfl) ?_
  refine lv_i2l hx hb dX11_back_6 rfl ?_
  refine lv_lconst (v := 0) hx hb dX11_back_7 (by decide) ?_
  refine lv_ldc2 (v := 3) hx hb hown (hts (.constantLong RX11 87 (3)) (List.mem_of_getElem? (i := 8) rfl)) dX11_back_8 ?_
  have hPc := hP.sub (ws' := []) [] rfl
  have hKc := hK.sub (tys' := []) [] rfl
  have hFc := va_free0 hS hA
  refine va_calli (va_runS (As := [.long (Int32.toInt64 z1), .long 0, .long 3]) (rest := []) ⟨hx, hb, hml, hown, hts⟩ (c_isIn l D _ (Int32.toInt64 z1) 0 3) (va_cwS 3 hts g_c_backM_c_isIn_83 rfl rfl rfl (by decide +kernel) ⟨(Nat.le_of_ble_eq_true rfl), (Nat.le_of_ble_eq_true rfl)⟩) (PcR_S hPc hKc) rfl rfl hl.1 rfl (lv_room (Nat.le_of_ble_eq_true rfl)) dX11_back_11 ⟨(Nat.le_of_ble_eq_true rfl), (Nat.le_of_ble_eq_true rfl)⟩) hS (fun q _ h => hFc q h) hFc (fun r1 uu tt H locs htt hvm hw hB hz1 hk1 hS => ?_)
  have hP := va_keep hP hk1
  try dsimp only at hw
  clear hB hz1 hk1 hFc hPc hKc
  rcases hw with ⟨rfl, hA_r1⟩ | ⟨rfl, hA_r1⟩
  ·
    have hg0 := (isIn04c).mp hA_r1
    obtain ⟨k, hk, rfl⟩ := in04 hg0
    refine lv_if_ne (tgt := 20) hx hb dX11_back_14 (by decide) (fun hc => ?_) (fun hc => absurd hc (by decide))
    refine lv_aload_n hx hb dX11_back_20 rfl (lv_at hl 0 rfl) ?_
    refine va_get (D := D) (ci := 11) (v := .int (i 2)) (C := RX11) (T := TX11) (N := 47) hx hb hts hin_X11 hown hK hP 0 rfl rfl 2 (by decide) (hts (.fieldLink RX11 76 "ClashFreeModel" "taped" "I") (List.mem_of_getElem? (i := 11) rfl)) (fun _ h9 => h9) rfl dX11_back_21 ?_
    refine lv_topi (fun v2 ev2 => ?_)
    obtain rfl : v2 = nI tp := ev2.trans (htp)
    refine lv_istore_n (lv' := [(2, .int (nI tp)), (0, .ref h0), (1, .int (nI k))]) hx hb dX11_back_24 rfl hl (by decide) rfl (fun ls hl => ?_)
    refine lv_aload_n hx hb dX11_back_25 rfl (lv_at hl 1 rfl) ?_
    refine lv_iconst (v := 0) hx hb dX11_back_26 (by decide) ?_
    refine va_put (D := D) (ci := 11) (v := .int 0) (ty := .int) (C := RX11) (T := TX11) (N := 47) hx hb hts hin_X11 tyX11 tyX11_ok nmX11 hown hK hP hD hS 0 rfl rfl 2 (by decide) (hts (.fieldLink RX11 76 "ClashFreeModel" "taped" "I") (List.mem_of_getElem? (i := 11) rfl)) (fun _ h9 => h9) rfl (by decide +kernel) rfl rfl (Nat.le_of_ble_eq_true rfl) dX11_back_27 (fun H locs hP hD hS => ?_)
    have hP : va_P D vwCl [(h0, .inr (11, gM a (upd (upd i 0 0) 2 0) g)), (a 1, .inl (cm 1, 1400, .inl fT)), (a 3, .inl (cm 3, 85, .inr (.inl fn))), (a 4, .inl (cm 4, 800, .inl fk)), (a 5, .inl (cm 5, 800, .inl fv)), (a 6, .inl (cm 6, 800, .inl fb)), (a 7, .inl (cm 7, 800, .inl fr)), (a 8, .inl (cm 8, 10240, .inl ff)), (a 9, .inl (cm 9, 10240, .inl fh)), (a 10, .inl (cm 10, 10240, .inr (.inl fa))), (a 11, .inl (cm 11, 10240, .inr (.inl fs)))] H := hP
    have hD : va_D A [(h0, .inr (11, gM a (upd (upd i 0 0) 2 0) g)), (a 1, .inl (cm 1, 1400, .inl fT)), (a 3, .inl (cm 3, 85, .inr (.inl fn))), (a 4, .inl (cm 4, 800, .inl fk)), (a 5, .inl (cm 5, 800, .inl fv)), (a 6, .inl (cm 6, 800, .inl fb)), (a 7, .inl (cm 7, 800, .inl fr)), (a 8, .inl (cm 8, 10240, .inl ff)), (a 9, .inl (cm 9, 10240, .inl fh)), (a 10, .inl (cm 10, 10240, .inr (.inl fa))), (a 11, .inl (cm 11, 10240, .inr (.inl fs)))] := hD
    refine lv_aload_n hx hb dX11_back_30 rfl (lv_at hl 1 rfl) ?_
    refine lv_iload_n hx hb dX11_back_31 rfl (lv_at hl 0 rfl) ?_
    have hPc := hP.sub (ws' := [(h0, .inr (11, gM a (upd (upd i 0 0) 2 0) g)), (a 1, .inl (cm 1, 1400, .inl fT))]) [0, 1] rfl
    have hKc := hK.sub (tys' := [(cm 1, .byte)]) [0] rfl
    have hFc := va_free0 hS hA
    refine va_calli (va_runV (As := [.int (nI tp)]) (rest := []) ⟨hx, hb, hml, hown, hts⟩ (c_isImage l D _ h0 a cm (upd (upd i 0 0) 2 0) g fT tp bt htp2 hbt) (cwV 1 hts g_c_backM_c_isImage_453 rfl rfl rfl (by decide +kernel) ⟨(Nat.le_of_ble_eq_true rfl), (Nat.le_of_ble_eq_true rfl)⟩) (PcR_V (q0 := 0) hPc hKc rfl rfl) rfl rfl hl.1 rfl (lv_room (Nat.le_of_ble_eq_true rfl)) dX11_back_32 ⟨(Nat.le_of_ble_eq_true rfl), (Nat.le_of_ble_eq_true rfl)⟩) hS (fun q _ h => hFc q h) hFc (fun r3 uu tt H locs htt hvm hw hB hz1 hk1 hS => ?_)
    have hP := va_keep hP hk1
    try dsimp only at hw
    clear hB hz1 hk1 hFc hPc hKc
    rcases hw with ⟨rfl, hA_r3⟩ | ⟨rfl, hA_r3⟩
    ·
      obtain ⟨⟨cn, hcn, htc, ecn, hI1, hI2, hI3, hR⟩, himg⟩ := hA_r3
      obtain ⟨bn, hbn1, hbn2, ebn⟩ := inL (a := 8) (n := 64) (by decide) (by decide) hI1
      obtain ⟨ns, hns1, hns2, ens⟩ := inL (a := 25) (n := 400) (by decide) (by decide) hI2
      obtain ⟨gr, hgr1, hgr2, egr⟩ := inL (a := 0) (n := 200) (by decide) (by decide) hI3
      refine lv_if_ne (tgt := 40) hx hb dX11_back_35 (by decide) (fun hc => ?_) (fun hc => absurd hc (by decide))
      refine lv_aload_n hx hb dX11_back_40 rfl (lv_at hl 1 rfl) ?_
      refine lv_iload_n hx hb dX11_back_41 rfl (lv_at hl 2 rfl) ?_
      refine lv_aload_n hx hb dX11_back_42 rfl (lv_at hl 1 rfl) ?_
      refine lv_iconst (v := 0) hx hb dX11_back_43 (by decide) ?_
      refine lv_iconst (v := 1) hx hb dX11_back_44 (by decide) ?_
      have hPc := hP.sub (ws' := [(h0, .inr (11, gM a (upd (upd i 0 0) 2 0) g)), (a 1, .inl (cm 1, 1400, .inl fT))]) [0, 1] rfl
      have hKc := hK.sub (tys' := [(cm 1, .byte)]) [0] rfl
      have hFc := va_free0 hS hA
      refine va_calll (va_runV (As := [.int (nI 0), .int (nI 1)]) (rest := [.int (nI k), .ref h0]) ⟨hx, hb, hml, hown, hts⟩ (c_bytesAt l D _ h0 a cm (upd (upd i 0 0) 2 0) g fT 0 1 (by first | assumption | omega)) (cwV 2 hts g_c_backM_c_bytesAt_450 rfl rfl rfl (by decide +kernel) ⟨(Nat.le_of_ble_eq_true rfl), (Nat.le_of_ble_eq_true rfl)⟩) (PcR_V (q0 := 0) hPc hKc rfl rfl) rfl rfl hl.1 rfl (lv_room (Nat.le_of_ble_eq_true rfl)) dX11_back_45 ⟨(Nat.le_of_ble_eq_true rfl), (Nat.le_of_ble_eq_true rfl)⟩) hS (fun q _ h => hFc q h) hFc (fun r4 uu tt H locs htt hvm hw hB hz1 hk1 hS => ?_)
      have hP := va_keep hP hk1
      try dsimp only at hw
      clear hB hz1 hk1 hFc hPc hKc
      obtain rfl : r4 = bF fT 0 1 := hw
      refine lv_l2i hx hb dX11_back_48 rfl ?_
      refine lv_topi (fun v5 ev5 => ?_)
      obtain rfl : v5 = nI bn := ev5.trans (by rw [ebn, lN_i])
      refine lv_aload_n hx hb dX11_back_49 rfl (lv_at hl 1 rfl) ?_
      refine lv_iconst (v := 1) hx hb dX11_back_50 (by decide) ?_
      refine lv_iconst (v := 2) hx hb dX11_back_51 (by decide) ?_
      have hPc := hP.sub (ws' := [(h0, .inr (11, gM a (upd (upd i 0 0) 2 0) g)), (a 1, .inl (cm 1, 1400, .inl fT))]) [0, 1] rfl
      have hKc := hK.sub (tys' := [(cm 1, .byte)]) [0] rfl
      have hFc := va_free0 hS hA
      refine va_calll (va_runV (As := [.int (nI 1), .int (nI 2)]) (rest := [.int (nI bn), .int (nI k), .ref h0]) ⟨hx, hb, hml, hown, hts⟩ (c_bytesAt l D _ h0 a cm (upd (upd i 0 0) 2 0) g fT 1 2 (by first | assumption | omega)) (cwV 2 hts g_c_backM_c_bytesAt_450 rfl rfl rfl (by decide +kernel) ⟨(Nat.le_of_ble_eq_true rfl), (Nat.le_of_ble_eq_true rfl)⟩) (PcR_V (q0 := 0) hPc hKc rfl rfl) rfl rfl hl.1 rfl (lv_room (Nat.le_of_ble_eq_true rfl)) dX11_back_52 ⟨(Nat.le_of_ble_eq_true rfl), (Nat.le_of_ble_eq_true rfl)⟩) hS (fun q _ h => hFc q h) hFc (fun r6 uu tt H locs htt hvm hw hB hz1 hk1 hS => ?_)
      have hP := va_keep hP hk1
      try dsimp only at hw
      clear hB hz1 hk1 hFc hPc hKc
      obtain rfl : r6 = bF fT 1 2 := hw
      refine lv_l2i hx hb dX11_back_55 rfl ?_
      refine lv_topi (fun v7 ev7 => ?_)
      obtain rfl : v7 = nI ns := ev7.trans (by rw [ens, lN_i])
      refine lv_aload_n hx hb dX11_back_56 rfl (lv_at hl 1 rfl) ?_
      refine lv_iconst (v := 3) hx hb dX11_back_57 (by decide) ?_
      refine lv_iconst (v := 1) hx hb dX11_back_58 (by decide) ?_
      have hPc := hP.sub (ws' := [(h0, .inr (11, gM a (upd (upd i 0 0) 2 0) g)), (a 1, .inl (cm 1, 1400, .inl fT))]) [0, 1] rfl
      have hKc := hK.sub (tys' := [(cm 1, .byte)]) [0] rfl
      have hFc := va_free0 hS hA
      refine va_calll (va_runV (As := [.int (nI 3), .int (nI 1)]) (rest := [.int (nI ns), .int (nI bn), .int (nI k), .ref h0]) ⟨hx, hb, hml, hown, hts⟩ (c_bytesAt l D _ h0 a cm (upd (upd i 0 0) 2 0) g fT 3 1 (by first | assumption | omega)) (cwV 2 hts g_c_backM_c_bytesAt_450 rfl rfl rfl (by decide +kernel) ⟨(Nat.le_of_ble_eq_true rfl), (Nat.le_of_ble_eq_true rfl)⟩) (PcR_V (q0 := 0) hPc hKc rfl rfl) rfl rfl hl.1 rfl (lv_room (Nat.le_of_ble_eq_true rfl)) dX11_back_59 ⟨(Nat.le_of_ble_eq_true rfl), (Nat.le_of_ble_eq_true rfl)⟩) hS (fun q _ h => hFc q h) hFc (fun r8 uu tt H locs htt hvm hw hB hz1 hk1 hS => ?_)
      have hP := va_keep hP hk1
      try dsimp only at hw
      clear hB hz1 hk1 hFc hPc hKc
      obtain rfl : r8 = bF fT 3 1 := hw
      refine lv_l2i hx hb dX11_back_62 rfl ?_
      refine lv_topi (fun v9 ev9 => ?_)
      obtain rfl : v9 = nI gr := ev9.trans (by rw [egr, lN_i])
      refine lv_aload_n hx hb dX11_back_63 rfl (lv_at hl 1 rfl) ?_
      refine lv_iconst (v := 4) hx hb dX11_back_64 (by decide) ?_
      refine lv_bipush (v := 8) hx hb dX11_back_65 (by decide) ?_
      have hPc := hP.sub (ws' := [(h0, .inr (11, gM a (upd (upd i 0 0) 2 0) g)), (a 1, .inl (cm 1, 1400, .inl fT))]) [0, 1] rfl
      have hKc := hK.sub (tys' := [(cm 1, .byte)]) [0] rfl
      have hFc := va_free0 hS hA
      refine va_calll (va_runV (As := [.int (nI 4), .int (nI 8)]) (rest := [.int (nI gr), .int (nI ns), .int (nI bn), .int (nI k), .ref h0]) ⟨hx, hb, hml, hown, hts⟩ (c_bytesAt l D _ h0 a cm (upd (upd i 0 0) 2 0) g fT 4 8 (by first | assumption | omega)) (cwV 2 hts g_c_backM_c_bytesAt_450 rfl rfl rfl (by decide +kernel) ⟨(Nat.le_of_ble_eq_true rfl), (Nat.le_of_ble_eq_true rfl)⟩) (PcR_V (q0 := 0) hPc hKc rfl rfl) rfl rfl hl.1 rfl (lv_room (Nat.le_of_ble_eq_true rfl)) dX11_back_67 ⟨(Nat.le_of_ble_eq_true rfl), (Nat.le_of_ble_eq_true rfl)⟩) hS (fun q _ h => hFc q h) hFc (fun r10 uu tt H locs htt hvm hw hB hz1 hk1 hS => ?_)
      have hP := va_keep hP hk1
      try dsimp only at hw
      clear hB hz1 hk1 hFc hPc hKc
      obtain rfl : r10 = bF fT 4 8 := hw
      have hPc := hP.sub (ws' := [(h0, .inr (11, gM a (upd (upd i 0 0) 2 0) g)), (a 3, .inl (cm 3, 85, .inr (.inl fn)))]) [0, 2] rfl
      have hKc := hK.sub (tys' := [(cm 3, .long)]) [1] rfl
      have hDc := hD.sub (ws' := [(h0, .inr (11, gM a (upd (upd i 0 0) 2 0) g)), (a 3, .inl (cm 3, 85, .inr (.inl fn)))]) [0, 2] (by decide) rfl
      have hFc := va_free (wc := [(h0, .inr (11, gM a (upd (upd i 0 0) 2 0) g)), (a 3, .inl (cm 3, 85, .inr (.inl fn)))]) hD hS hA [0, 2] rfl
      refine va_callv (va_runV (As := [.int (nI k), .int (nI bn), .int (nI ns), .int (nI gr), .long (bF fT 4 8)]) (rest := []) ⟨hx, hb, hml, hown, hts⟩ (c_makes l D _ h0 a cm (upd (upd i 0 0) 2 0) g fn k bn ns gr (bF fT 4 8) (by first | assumption | omega) (by first | assumption | omega) (by first | assumption | omega) (by first | assumption | omega)) (cwV 5 hts g_c_backM_c_makes_188 rfl rfl rfl (by decide +kernel) ⟨(Nat.le_of_ble_eq_true rfl), (Nat.le_of_ble_eq_true rfl)⟩) (PcW_V (q0 := 0) hPc hKc hDc rfl rfl) rfl rfl hl.1 rfl (lv_room (Nat.le_of_ble_eq_true rfl)) dX11_back_70 ⟨(Nat.le_of_ble_eq_true rfl), (Nat.le_of_ble_eq_true rfl)⟩) hS (fun q _ h => hFc q h) hFc (fun uu tt H locs htt hvm hw hB hz1 hk1 hS => ?_)
      obtain ⟨w12, rfl⟩ : ∃ z, z = uu := ⟨_, rfl⟩
      obtain ⟨hP1, hK1, hD1⟩ := hB
      rw [htt] at hP1
      have hK1 := va_K.moved hvm.symm hK1
      have hP1 : va_P D vwCl [(h0, .inr (11, gM a (upd (upd i 0 0) 2 0) g)), (a 3, .inl (cm 3, 85, .inr (.inl w12)))] H := hP1
      obtain ⟨hP, hD⟩ := va_join (wr := [(a 1, .inl (cm 1, 1400, .inl fT)), (a 4, .inl (cm 4, 800, .inl fk)), (a 5, .inl (cm 5, 800, .inl fv)), (a 6, .inl (cm 6, 800, .inl fb)), (a 7, .inl (cm 7, 800, .inl fr)), (a 8, .inl (cm 8, 10240, .inl ff)), (a 9, .inl (cm 9, 10240, .inl fh)), (a 10, .inl (cm 10, 10240, .inr (.inl fa))), (a 11, .inl (cm 11, 10240, .inr (.inl fs)))]) (w1 := [(h0, .inr (11, gM a (upd (upd i 0 0) 2 0) g)), (a 3, .inl (cm 3, 85, .inr (.inl w12)))]) hP hD [0, 2] [1, 3, 4, 5, 6, 7, 8, 9, 10] rfl rfl (by decide) (by decide) hk1 hFc hP1 hD1
      have hP : va_P D vwCl [(a 1, .inl (cm 1, 1400, .inl fT)), (a 4, .inl (cm 4, 800, .inl fk)), (a 5, .inl (cm 5, 800, .inl fv)), (a 6, .inl (cm 6, 800, .inl fb)), (a 7, .inl (cm 7, 800, .inl fr)), (a 8, .inl (cm 8, 10240, .inl ff)), (a 9, .inl (cm 9, 10240, .inl fh)), (a 10, .inl (cm 10, 10240, .inr (.inl fa))), (a 11, .inl (cm 11, 10240, .inr (.inl fs))), (h0, .inr (11, gM a (upd (upd i 0 0) 2 0) g)), (a 3, .inl (cm 3, 85, .inr (.inl w12)))] H := hP
      have hD : va_D A [(a 1, .inl (cm 1, 1400, .inl fT)), (a 4, .inl (cm 4, 800, .inl fk)), (a 5, .inl (cm 5, 800, .inl fv)), (a 6, .inl (cm 6, 800, .inl fb)), (a 7, .inl (cm 7, 800, .inl fr)), (a 8, .inl (cm 8, 10240, .inl ff)), (a 9, .inl (cm 9, 10240, .inl fh)), (a 10, .inl (cm 10, 10240, .inr (.inl fa))), (a 11, .inl (cm 11, 10240, .inr (.inl fs))), (h0, .inr (11, gM a (upd (upd i 0 0) 2 0) g)), (a 3, .inl (cm 3, 85, .inr (.inl w12)))] := hD
      try dsimp only at hw
      clear hz1 hk1 hFc hPc hKc hDc
      obtain ⟨hm0, hm1, hm14, hm15, hm16, hmf⟩ := hw
      refine lv_aload_n hx hb dX11_back_73 rfl (lv_at hl 1 rfl) ?_
      refine va_get (D := D) (ci := 11) (v := .ref (a 1)) (C := RX11) (T := TX11) (N := 47) hx hb hts hin_X11 hown hK hP 9 rfl rfl 1 (by decide) (hts (.fieldLink RX11 7 "ClashFreeModel" "tape" "[B") (List.mem_of_getElem? (i := 18) rfl)) (fun _ h9 => h9) rfl dX11_back_74 ?_
      refine lv_bipush (v := 12) hx hb dX11_back_77 (by decide) ?_
      refine va_bald hx hb hK hP 0 0 rfl rfl (show ¬ ((12 : Int32) < 0 ∨ 1400 ≤ Int32.toNatClampNeg 12) by decide) dX11_back_79 ?_
      refine lv_sipush (v := 255) hx hb dX11_back_80 (by decide) ?_
      refine lv_iand hx hb dX11_back_83 ?_
      refine lv_topi (fun v13 ev13 => ?_)
      obtain rfl : v13 = nI cn := ev13.trans (ecn)
      refine lv_istore_n (lv' := [(3, .int (nI cn)), (2, .int (nI tp)), (0, .ref h0), (1, .int (nI k))]) hx hb dX11_back_84 rfl hl (by decide) rfl (fun ls hl => ?_)
      refine lv_iconst (v := 0) hx hb dX11_back_85 (by decide) ?_
      refine lv_istore (lv' := [(4, .int 0), (3, .int (nI cn)), (2, .int (nI tp)), (0, .ref h0), (1, .int (nI k))]) hx hb dX11_back_86 hl (by decide) rfl (fun ls hl => ?_)
      refine lp_back l D h0 a cm (upd (upd i 0 0) 2 0) g fT fk fv fb fr ff fh fa fs w12 k cn (hk) (hcn) hx hb hml hown hts hA (hK.sub [0, 1, 2, 3, 4, 5, 6, 7, 8, 9] rfl) ?_ (cn + 1) 0 fk fv (Nat.zero_le _) (LdS_0 _ _ _) (LdV_0 _ _ _) (by omega) _ _ _ (hP.sub [9, 0, 10, 1, 2, 3, 4, 5, 6, 7, 8] rfl) (hD.sub [9, 0, 10, 1, 2, 3, 4, 5, 6, 7, 8] (by decide) rfl) hS (lv_sub hl [0, 1, 3, 4] rfl)
      intro y_14 gk_15 gv_16 hy1_17 hLd_18 hLv_19 hx20 H locs ls hP hD hS hl
      have hLd2 := (show y_14 = cn by omega) ▸ hLd_18
      have hLv2 := (show y_14 = cn by omega) ▸ hLv_19
      have hKy2 := LdS_K hLd2 hR
      refine lv_aload_n hx hb dX11_back_154 rfl (lv_at hl 1 rfl) ?_
      refine lv_iload_n hx hb dX11_back_155 rfl (lv_at hl 2 rfl) ?_
      refine lv_iconst (v := 1) hx hb dX11_back_156 (by decide) ?_
      refine lv_iload_n hx hb dX11_back_157 rfl (lv_at hl 0 rfl) ?_
      refine lv_i2l hx hb dX11_back_158 rfl ?_
      refine lv_topl (fun v21 ev21 => ?_)
      obtain rfl : v21 = lN cn := ev21.trans (nI_l (by omega))
      have hPc := hP.sub (ws' := [(h0, .inr (11, gM a (upd (upd (upd (upd i 0 0) 2 0) 0 0) 2 0) g)), (a 3, .inl (cm 3, 85, .inr (.inl w12)))]) [0, 2] rfl
      have hKc := hK.sub (tys' := [(cm 3, .long)]) [1] rfl
      have hDc := hD.sub (ws' := [(h0, .inr (11, gM a (upd (upd (upd (upd i 0 0) 2 0) 0 0) 2 0) g)), (a 3, .inl (cm 3, 85, .inr (.inl w12)))]) [0, 2] (by decide) rfl
      have hFc := va_free (wc := [(h0, .inr (11, gM a (upd (upd (upd (upd i 0 0) 2 0) 0 0) 2 0) g)), (a 3, .inl (cm 3, 85, .inr (.inl w12)))]) hD hS hA [0, 2] rfl
      refine va_callv (va_runV (As := [.int (nI k), .int (nI 1), .long (lN cn)]) (rest := []) ⟨hx, hb, hml, hown, hts⟩ (c_lays l D _ h0 a cm (upd (upd (upd (upd i 0 0) 2 0) 0 0) 2 0) g w12 k 1 (lN cn) (by first | assumption | omega) (by first | assumption | omega)) (cwV 3 hts g_c_backM_c_lays_126 rfl rfl rfl (by decide +kernel) ⟨(Nat.le_of_ble_eq_true rfl), (Nat.le_of_ble_eq_true rfl)⟩) (PcW_V (q0 := 0) hPc hKc hDc rfl rfl) rfl rfl hl.1 rfl (lv_room (Nat.le_of_ble_eq_true rfl)) dX11_back_159 ⟨(Nat.le_of_ble_eq_true rfl), (Nat.le_of_ble_eq_true rfl)⟩) hS (fun q _ h => hFc q h) hFc (fun uu tt H locs htt hvm hw hB hz1 hk1 hS => ?_)
      obtain ⟨w23, rfl⟩ : ∃ z, z = uu := ⟨_, rfl⟩
      obtain ⟨hP1, hK1, hD1⟩ := hB
      rw [htt] at hP1
      have hK1 := va_K.moved hvm.symm hK1
      have hP1 : va_P D vwCl [(h0, .inr (11, gM a (upd (upd (upd (upd i 0 0) 2 0) 0 0) 2 0) g)), (a 3, .inl (cm 3, 85, .inr (.inl w23)))] H := hP1
      obtain ⟨hP, hD⟩ := va_join (wr := [(a 1, .inl (cm 1, 1400, .inl fT)), (a 4, .inl (cm 4, 800, .inl gk_15)), (a 5, .inl (cm 5, 800, .inl gv_16)), (a 6, .inl (cm 6, 800, .inl fb)), (a 7, .inl (cm 7, 800, .inl fr)), (a 8, .inl (cm 8, 10240, .inl ff)), (a 9, .inl (cm 9, 10240, .inl fh)), (a 10, .inl (cm 10, 10240, .inr (.inl fa))), (a 11, .inl (cm 11, 10240, .inr (.inl fs)))]) (w1 := [(h0, .inr (11, gM a (upd (upd (upd (upd i 0 0) 2 0) 0 0) 2 0) g)), (a 3, .inl (cm 3, 85, .inr (.inl w23)))]) hP hD [0, 2] [1, 3, 4, 5, 6, 7, 8, 9, 10] rfl rfl (by decide) (by decide) hk1 hFc hP1 hD1
      have hP : va_P D vwCl [(a 1, .inl (cm 1, 1400, .inl fT)), (a 4, .inl (cm 4, 800, .inl gk_15)), (a 5, .inl (cm 5, 800, .inl gv_16)), (a 6, .inl (cm 6, 800, .inl fb)), (a 7, .inl (cm 7, 800, .inl fr)), (a 8, .inl (cm 8, 10240, .inl ff)), (a 9, .inl (cm 9, 10240, .inl fh)), (a 10, .inl (cm 10, 10240, .inr (.inl fa))), (a 11, .inl (cm 11, 10240, .inr (.inl fs))), (h0, .inr (11, gM a (upd (upd (upd (upd i 0 0) 2 0) 0 0) 2 0) g)), (a 3, .inl (cm 3, 85, .inr (.inl w23)))] H := hP
      have hD : va_D A [(a 1, .inl (cm 1, 1400, .inl fT)), (a 4, .inl (cm 4, 800, .inl gk_15)), (a 5, .inl (cm 5, 800, .inl gv_16)), (a 6, .inl (cm 6, 800, .inl fb)), (a 7, .inl (cm 7, 800, .inl fr)), (a 8, .inl (cm 8, 10240, .inl ff)), (a 9, .inl (cm 9, 10240, .inl fh)), (a 10, .inl (cm 10, 10240, .inr (.inl fa))), (a 11, .inl (cm 11, 10240, .inr (.inl fs))), (h0, .inr (11, gM a (upd (upd (upd (upd i 0 0) 2 0) 0 0) 2 0) g)), (a 3, .inl (cm 3, 85, .inr (.inl w23)))] := hD
      try dsimp only at hw
      clear hz1 hk1 hFc hPc hKc hDc
      have hL24 := hw
      refine lv_aload_n hx hb dX11_back_162 rfl (lv_at hl 1 rfl) ?_
      refine lv_iload_n hx hb dX11_back_163 rfl (lv_at hl 2 rfl) ?_
      have hPc := hP.sub (ws' := [(h0, .inr (11, gM a (upd (upd (upd (upd i 0 0) 2 0) 0 0) 2 0) g)), (a 3, .inl (cm 3, 85, .inr (.inl w23))), (a 4, .inl (cm 4, 800, .inl gk_15)), (a 6, .inl (cm 6, 800, .inl fb)), (a 7, .inl (cm 7, 800, .inl fr)), (a 8, .inl (cm 8, 10240, .inl ff)), (a 9, .inl (cm 9, 10240, .inl fh)), (a 10, .inl (cm 10, 10240, .inr (.inl fa))), (a 11, .inl (cm 11, 10240, .inr (.inl fs)))]) [9, 10, 1, 3, 4, 5, 6, 7, 8] rfl
      have hKc := hK.sub (tys' := [(cm 3, .long), (cm 4, .int), (cm 6, .int), (cm 7, .int), (cm 8, .int), (cm 9, .int), (cm 10, .long), (cm 11, .long)]) [1, 2, 4, 5, 6, 7, 8, 9] rfl
      have hDc := hD.sub (ws' := [(h0, .inr (11, gM a (upd (upd (upd (upd i 0 0) 2 0) 0 0) 2 0) g)), (a 3, .inl (cm 3, 85, .inr (.inl w23))), (a 4, .inl (cm 4, 800, .inl gk_15)), (a 6, .inl (cm 6, 800, .inl fb)), (a 7, .inl (cm 7, 800, .inl fr)), (a 8, .inl (cm 8, 10240, .inl ff)), (a 9, .inl (cm 9, 10240, .inl fh)), (a 10, .inl (cm 10, 10240, .inr (.inl fa))), (a 11, .inl (cm 11, 10240, .inr (.inl fs)))]) [9, 10, 1, 3, 4, 5, 6, 7, 8] (by decide) rfl
      have hFc := va_free (wc := [(h0, .inr (11, gM a (upd (upd (upd (upd i 0 0) 2 0) 0 0) 2 0) g)), (a 3, .inl (cm 3, 85, .inr (.inl w23))), (a 4, .inl (cm 4, 800, .inl gk_15)), (a 6, .inl (cm 6, 800, .inl fb)), (a 7, .inl (cm 7, 800, .inl fr)), (a 8, .inl (cm 8, 10240, .inl ff)), (a 9, .inl (cm 9, 10240, .inl fh)), (a 10, .inl (cm 10, 10240, .inr (.inl fa))), (a 11, .inl (cm 11, 10240, .inr (.inl fs)))]) hD hS hA [9, 10, 1, 3, 4, 5, 6, 7, 8] rfl
      refine va_callv (va_runV (As := [.int (nI k)]) (rest := []) ⟨hx, hb, hml, hown, hts⟩ (c_buildsAll l D _ h0 a cm (upd (upd (upd (upd i 0 0) 2 0) 0 0) 2 0) g w23 gk_15 fb fr ff fh fa fs k cn (fun j => (bF fT (13 + 8 * j) 4).toInt.toNat) bn ns gr (by first | assumption | omega) hL24.1 (by first | assumption | omega) hKy2 ((hL24.2 _ (by omega)).trans hm14) (by first | assumption | omega) ((hL24.2 _ (by omega)).trans hm15) (by first | assumption | omega) (by first | assumption | omega) ((hL24.2 _ (by omega)).trans hm16) (by first | assumption | omega) (by first | assumption | omega) (by first | assumption | omega)) (cwV 1 hts g_c_backM_c_buildsAll_192 rfl rfl rfl (by decide +kernel) ⟨(Nat.le_of_ble_eq_true rfl), (Nat.le_of_ble_eq_true rfl)⟩) (PcW_V (q0 := 0) hPc hKc hDc rfl rfl) rfl rfl hl.1 rfl (lv_room (Nat.le_of_ble_eq_true rfl)) dX11_back_164 ⟨(Nat.le_of_ble_eq_true rfl), (Nat.le_of_ble_eq_true rfl)⟩) hS (fun q _ h => hFc q h) hFc (fun uu tt H locs htt hvm hw hB hz1 hk1 hS => ?_)
      obtain ⟨w26, w27, w28, w29, w30, w31, w32, w33, w34, w35, w36⟩ := uu
      obtain ⟨hP1, hK1, hD1⟩ := hB
      rw [htt] at hP1
      have hK1 := va_K.moved hvm.symm hK1
      have hP1 : va_P D vwCl [(h0, .inr (11, gM a (upd (upd (upd (upd (upd i 0 0) 2 0) 0 0) 2 0) 15 w36) (vp_updL (vp_updL (vp_updL (fun _ => 0) 12 w33) 13 w34) 14 w35))), (a 3, .inl (cm 3, 85, .inr (.inl w26))), (a 4, .inl (cm 4, 800, .inl gk_15)), (a 6, .inl (cm 6, 800, .inl w27)), (a 7, .inl (cm 7, 800, .inl w28)), (a 8, .inl (cm 8, 10240, .inl w29)), (a 9, .inl (cm 9, 10240, .inl w30)), (a 10, .inl (cm 10, 10240, .inr (.inl w31))), (a 11, .inl (cm 11, 10240, .inr (.inl w32)))] H := hP1
      obtain ⟨hP, hD⟩ := va_join (wr := [(a 1, .inl (cm 1, 1400, .inl fT)), (a 5, .inl (cm 5, 800, .inl gv_16))]) (w1 := [(h0, .inr (11, gM a (upd (upd (upd (upd (upd i 0 0) 2 0) 0 0) 2 0) 15 w36) (vp_updL (vp_updL (vp_updL (fun _ => 0) 12 w33) 13 w34) 14 w35))), (a 3, .inl (cm 3, 85, .inr (.inl w26))), (a 4, .inl (cm 4, 800, .inl gk_15)), (a 6, .inl (cm 6, 800, .inl w27)), (a 7, .inl (cm 7, 800, .inl w28)), (a 8, .inl (cm 8, 10240, .inl w29)), (a 9, .inl (cm 9, 10240, .inl w30)), (a 10, .inl (cm 10, 10240, .inr (.inl w31))), (a 11, .inl (cm 11, 10240, .inr (.inl w32)))]) hP hD [9, 10, 1, 3, 4, 5, 6, 7, 8] [0, 2] rfl rfl (by decide) (by decide) hk1 hFc hP1 hD1
      have hP : va_P D vwCl [(a 1, .inl (cm 1, 1400, .inl fT)), (a 5, .inl (cm 5, 800, .inl gv_16)), (h0, .inr (11, gM a (upd (upd (upd (upd (upd i 0 0) 2 0) 0 0) 2 0) 15 w36) (vp_updL (vp_updL (vp_updL (fun _ => 0) 12 w33) 13 w34) 14 w35))), (a 3, .inl (cm 3, 85, .inr (.inl w26))), (a 4, .inl (cm 4, 800, .inl gk_15)), (a 6, .inl (cm 6, 800, .inl w27)), (a 7, .inl (cm 7, 800, .inl w28)), (a 8, .inl (cm 8, 10240, .inl w29)), (a 9, .inl (cm 9, 10240, .inl w30)), (a 10, .inl (cm 10, 10240, .inr (.inl w31))), (a 11, .inl (cm 11, 10240, .inr (.inl w32)))] H := hP
      have hD : va_D A [(a 1, .inl (cm 1, 1400, .inl fT)), (a 5, .inl (cm 5, 800, .inl gv_16)), (h0, .inr (11, gM a (upd (upd (upd (upd (upd i 0 0) 2 0) 0 0) 2 0) 15 w36) (vp_updL (vp_updL (vp_updL (fun _ => 0) 12 w33) 13 w34) 14 w35))), (a 3, .inl (cm 3, 85, .inr (.inl w26))), (a 4, .inl (cm 4, 800, .inl gk_15)), (a 6, .inl (cm 6, 800, .inl w27)), (a 7, .inl (cm 7, 800, .inl w28)), (a 8, .inl (cm 8, 10240, .inl w29)), (a 9, .inl (cm 9, 10240, .inl w30)), (a 10, .inl (cm 10, 10240, .inr (.inl w31))), (a 11, .inl (cm 11, 10240, .inr (.inl w32)))] := hD
      try dsimp only at hw
      clear hz1 hk1 hFc hPc hKc hDc
      obtain ⟨⟨hb37_n, hb37_J, hb37_T⟩, hb37_a, hb37_s, hb37_r, hb37_0, hb37_f1, hb37_f2, hb37_f3⟩ := hw
      refine lv_iload_n hx hb dX11_back_167 rfl (lv_at hl 0 rfl) ?_
      exact W.iret (v := nI cn) hx hb hr (fun t ht hW => ⟨⟨nI cn, (w26, gk_15, gv_16, w27, w28, w29, w30, w31, w32, 0, 0, w33, w34, w35, w36), rfl, ⟨hM.upd (k := k) hb37_a hb37_s (fun x e => (hb37_r x e).trans ((hL24.2 x (by omega)).trans (hmf x e))) hLd2.2 hb37_f1 hb37_f2 hb37_f3 (fun _ => ⟨_, _, _, _, hb37_T⟩), Or.inr ⟨k, hk, rfl, rfl, Or.inl ⟨himg, ecn.symm.trans (hbt 12).1, NewT.of (fun x e => (hb37_r x e).trans ((hL24.2 x (by omega)).trans (hmf x e))) (hb37_0.trans ((hL24.2 _ (by omega)).trans hm0))⟩⟩, (lsR_upd (fun x e => (hb37_r x e).trans ((hL24.2 x (by omega)).trans (hmf x e))) hLd2.2 hLv2.2 ((lsR_T hk hb37_T _).trans (imL_of hbt himg ((nI_eq (by omega) (by have := (hbt 12).2; omega)).mp (ecn.symm.trans (hbt 12).1)) hLv2))).trans (bkS_1 hk himg).symm⟩, by rw [ht]; exact hP.sub [2, 0, 3, 4, 1, 5, 6, 7, 8, 9, 10] rfl, va_K.moved hW.alike (hK.sub [0, 1, 2, 3, 4, 5, 6, 7, 8, 9] rfl), hD.sub [2, 0, 3, 4, 1, 5, 6, 7, 8, 9, 10] (by decide) rfl⟩, hS.F ht⟩) hS.2.2 dX11_back_168
    ·
      have hno := hA_r3
      refine lv_if_ne (tgt := 40) hx hb dX11_back_35 (by decide) (fun hc => absurd (by decide) hc) (fun hc => ?_)
      refine lv_iconst (v := (-1)) hx hb dX11_back_38 (by decide) ?_
      exact W.iret (v := (-1)) hx hb hr (fun t ht hW => ⟨⟨(-1), (fn, fk, fv, fb, fr, ff, fh, fa, fs, 0, 0, (g 12), (g 13), (g 14), (i 15)), rfl, ⟨hM, Or.inr ⟨k, hk, rfl, rfl, Or.inr ⟨hno, rfl, SameT.rfl⟩⟩, (bkS_0 (fun q => hno q.2)).symm⟩, by rw [ht]; exact hP.sub [0, 1, 2, 3, 4, 5, 6, 7, 8, 9, 10] rfl, va_K.moved hW.alike (hK.sub [0, 1, 2, 3, 4, 5, 6, 7, 8, 9] rfl), hD.sub [0, 1, 2, 3, 4, 5, 6, 7, 8, 9, 10] (by decide) rfl⟩, hS.F ht⟩) hS.2.2 dX11_back_39
  ·
    have hg9 : ¬ ((0 : Int32) ≤ z1 ∧ z1 < 4) := fun q => hA_r1 (isIn04c.mpr q)
    refine lv_if_ne (tgt := 20) hx hb dX11_back_14 (by decide) (fun hc => absurd (by decide) hc) (fun hc => ?_)
    refine lv_bipush (v := (-2)) hx hb dX11_back_17 (by decide) ?_
    exact W.iret (v := (-2)) hx hb hr (fun t ht hW => ⟨⟨(-2), (fn, fk, fv, fb, fr, ff, fh, fa, fs, 0, (i 2), (g 12), (g 13), (g 14), (i 15)), rfl, ⟨hM, Or.inl ⟨hg9, rfl, htp, SameT.rfl⟩, (bkS_0 (fun q => hg9 q.1)).symm⟩, by rw [ht]; exact hP.sub [0, 1, 2, 3, 4, 5, 6, 7, 8, 9, 10] rfl, va_K.moved hW.alike (hK.sub [0, 1, 2, 3, 4, 5, 6, 7, 8, 9] rfl), hD.sub [0, 1, 2, 3, 4, 5, 6, 7, 8, 9, 10] (by decide) rfl⟩, hS.F ht⟩) hS.2.2 dX11_back_19

