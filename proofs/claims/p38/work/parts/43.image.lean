theorem dX11_image_0 : decode cX11_image 0 = .ok (.aload_n 0, 1) := by decide +kernel
theorem dX11_image_1 : decode cX11_image 1 = .ok (.iconst 0, 1) := by decide +kernel
theorem dX11_image_2 : decode cX11_image 2 = .ok (.putfield 73, 3) := by decide +kernel
theorem dX11_image_5 : decode cX11_image 5 = .ok (.aload_n 0, 1) := by decide +kernel
theorem dX11_image_6 : decode cX11_image 6 = .ok (.iload_n 1, 1) := by decide +kernel
theorem dX11_image_7 : decode cX11_image 7 = .ok (.invokevirtual 222, 3) := by decide +kernel
theorem dX11_image_10 : decode cX11_image 10 = .ok (.ifCond .ne 5, 3) := by decide +kernel
theorem dX11_image_13 : decode cX11_image 13 = .ok (.iconst (-1), 1) := by decide +kernel
theorem dX11_image_14 : decode cX11_image 14 = .ok (.ireturn, 1) := by decide +kernel
theorem dX11_image_15 : decode cX11_image 15 = .ok (.aload_n 0, 1) := by decide +kernel
theorem dX11_image_16 : decode cX11_image 16 = .ok (.iconst 0, 1) := by decide +kernel
theorem dX11_image_17 : decode cX11_image 17 = .ok (.putfield 437, 3) := by decide +kernel
theorem dX11_image_20 : decode cX11_image 20 = .ok (.aload_n 0, 1) := by decide +kernel
theorem dX11_image_21 : decode cX11_image 21 = .ok (.aload_n 0, 1) := by decide +kernel
theorem dX11_image_22 : decode cX11_image 22 = .ok (.iload_n 1, 1) := by decide +kernel
theorem dX11_image_23 : decode cX11_image 23 = .ok (.bipush 14, 2) := by decide +kernel
theorem dX11_image_25 : decode cX11_image 25 = .ok (.invokevirtual 89, 3) := by decide +kernel
theorem dX11_image_28 : decode cX11_image 28 = .ok (.iconst 1, 1) := by decide +kernel
theorem dX11_image_29 : decode cX11_image 29 = .ok (.invokevirtual 446, 3) := by decide +kernel
theorem dX11_image_32 : decode cX11_image 32 = .ok (.aload_n 0, 1) := by decide +kernel
theorem dX11_image_33 : decode cX11_image 33 = .ok (.aload_n 0, 1) := by decide +kernel
theorem dX11_image_34 : decode cX11_image 34 = .ok (.iload_n 1, 1) := by decide +kernel
theorem dX11_image_35 : decode cX11_image 35 = .ok (.bipush 15, 2) := by decide +kernel
theorem dX11_image_37 : decode cX11_image 37 = .ok (.invokevirtual 89, 3) := by decide +kernel
theorem dX11_image_40 : decode cX11_image 40 = .ok (.iconst 2, 1) := by decide +kernel
theorem dX11_image_41 : decode cX11_image 41 = .ok (.invokevirtual 446, 3) := by decide +kernel
theorem dX11_image_44 : decode cX11_image 44 = .ok (.aload_n 0, 1) := by decide +kernel
theorem dX11_image_45 : decode cX11_image 45 = .ok (.aload_n 0, 1) := by decide +kernel
theorem dX11_image_46 : decode cX11_image 46 = .ok (.iload_n 1, 1) := by decide +kernel
theorem dX11_image_47 : decode cX11_image 47 = .ok (.bipush 16, 2) := by decide +kernel
theorem dX11_image_49 : decode cX11_image 49 = .ok (.invokevirtual 89, 3) := by decide +kernel
theorem dX11_image_52 : decode cX11_image 52 = .ok (.iconst 1, 1) := by decide +kernel
theorem dX11_image_53 : decode cX11_image 53 = .ok (.invokevirtual 446, 3) := by decide +kernel
theorem dX11_image_56 : decode cX11_image 56 = .ok (.aload_n 0, 1) := by decide +kernel
theorem dX11_image_57 : decode cX11_image 57 = .ok (.aload_n 0, 1) := by decide +kernel
theorem dX11_image_58 : decode cX11_image 58 = .ok (.iload_n 1, 1) := by decide +kernel
theorem dX11_image_59 : decode cX11_image 59 = .ok (.bipush 13, 2) := by decide +kernel
theorem dX11_image_61 : decode cX11_image 61 = .ok (.invokevirtual 89, 3) := by decide +kernel
theorem dX11_image_64 : decode cX11_image 64 = .ok (.bipush 8, 2) := by decide +kernel
theorem dX11_image_66 : decode cX11_image 66 = .ok (.invokevirtual 446, 3) := by decide +kernel
theorem dX11_image_69 : decode cX11_image 69 = .ok (.aload_n 0, 1) := by decide +kernel
theorem dX11_image_70 : decode cX11_image 70 = .ok (.aload_n 0, 1) := by decide +kernel
theorem dX11_image_71 : decode cX11_image 71 = .ok (.iload_n 1, 1) := by decide +kernel
theorem dX11_image_72 : decode cX11_image 72 = .ok (.invokevirtual 95, 3) := by decide +kernel
theorem dX11_image_75 : decode cX11_image 75 = .ok (.i2l, 1) := by decide +kernel
theorem dX11_image_76 : decode cX11_image 76 = .ok (.iconst 1, 1) := by decide +kernel
theorem dX11_image_77 : decode cX11_image 77 = .ok (.invokevirtual 446, 3) := by decide +kernel
theorem dX11_image_80 : decode cX11_image 80 = .ok (.sipush 160, 3) := by decide +kernel
theorem dX11_image_83 : decode cX11_image 83 = .ok (.iload_n 1, 1) := by decide +kernel
theorem dX11_image_84 : decode cX11_image 84 = .ok (.imul, 1) := by decide +kernel
theorem dX11_image_85 : decode cX11_image 85 = .ok (.istore_n 2, 1) := by decide +kernel
theorem dX11_image_86 : decode cX11_image 86 = .ok (.iload_n 2, 1) := by decide +kernel
theorem dX11_image_87 : decode cX11_image 87 = .ok (.sipush 160, 3) := by decide +kernel
theorem dX11_image_90 : decode cX11_image 90 = .ok (.iload_n 1, 1) := by decide +kernel
theorem dX11_image_91 : decode cX11_image 91 = .ok (.imul, 1) := by decide +kernel
theorem dX11_image_92 : decode cX11_image 92 = .ok (.aload_n 0, 1) := by decide +kernel
theorem dX11_image_93 : decode cX11_image 93 = .ok (.iload_n 1, 1) := by decide +kernel
theorem dX11_image_94 : decode cX11_image 94 = .ok (.invokevirtual 95, 3) := by decide +kernel
theorem dX11_image_97 : decode cX11_image 97 = .ok (.iadd, 1) := by decide +kernel
theorem dX11_image_98 : decode cX11_image 98 = .ok (.if_icmp .ge 33, 3) := by decide +kernel
theorem dX11_image_101 : decode cX11_image 101 = .ok (.aload_n 0, 1) := by decide +kernel
theorem dX11_image_102 : decode cX11_image 102 = .ok (.aload_n 0, 1) := by decide +kernel
theorem dX11_image_103 : decode cX11_image 103 = .ok (.getfield 17, 3) := by decide +kernel
theorem dX11_image_106 : decode cX11_image 106 = .ok (.iload_n 2, 1) := by decide +kernel
theorem dX11_image_107 : decode cX11_image 107 = .ok (.iaload, 1) := by decide +kernel
theorem dX11_image_108 : decode cX11_image 108 = .ok (.i2l, 1) := by decide +kernel
theorem dX11_image_109 : decode cX11_image 109 = .ok (.iconst 4, 1) := by decide +kernel
theorem dX11_image_110 : decode cX11_image 110 = .ok (.invokevirtual 446, 3) := by decide +kernel
theorem dX11_image_113 : decode cX11_image 113 = .ok (.aload_n 0, 1) := by decide +kernel
theorem dX11_image_114 : decode cX11_image 114 = .ok (.aload_n 0, 1) := by decide +kernel
theorem dX11_image_115 : decode cX11_image 115 = .ok (.getfield 21, 3) := by decide +kernel
theorem dX11_image_118 : decode cX11_image 118 = .ok (.iload_n 2, 1) := by decide +kernel
theorem dX11_image_119 : decode cX11_image 119 = .ok (.iaload, 1) := by decide +kernel
theorem dX11_image_120 : decode cX11_image 120 = .ok (.i2l, 1) := by decide +kernel
theorem dX11_image_121 : decode cX11_image 121 = .ok (.iconst 4, 1) := by decide +kernel
theorem dX11_image_122 : decode cX11_image 122 = .ok (.invokevirtual 446, 3) := by decide +kernel
theorem dX11_image_125 : decode cX11_image 125 = .ok (.iinc 2 1, 3) := by decide +kernel
theorem dX11_image_128 : decode cX11_image 128 = .ok (.goto (-42), 3) := by decide +kernel
theorem dX11_image_131 : decode cX11_image 131 = .ok (.bipush 7, 2) := by decide +kernel
theorem dX11_image_133 : decode cX11_image 133 = .ok (.istore_n 2, 1) := by decide +kernel
theorem dX11_image_134 : decode cX11_image 134 = .ok (.iconst 0, 1) := by decide +kernel
theorem dX11_image_135 : decode cX11_image 135 = .ok (.istore_n 3, 1) := by decide +kernel
theorem dX11_image_136 : decode cX11_image 136 = .ok (.iload_n 3, 1) := by decide +kernel
theorem dX11_image_137 : decode cX11_image 137 = .ok (.aload_n 0, 1) := by decide +kernel
theorem dX11_image_138 : decode cX11_image 138 = .ok (.getfield 437, 3) := by decide +kernel
theorem dX11_image_141 : decode cX11_image 141 = .ok (.if_icmp .ge 24, 3) := by decide +kernel
theorem dX11_image_144 : decode cX11_image 144 = .ok (.iconst 5, 1) := by decide +kernel
theorem dX11_image_145 : decode cX11_image 145 = .ok (.iload_n 2, 1) := by decide +kernel
theorem dX11_image_146 : decode cX11_image 146 = .ok (.imul, 1) := by decide +kernel
theorem dX11_image_147 : decode cX11_image 147 = .ok (.aload_n 0, 1) := by decide +kernel
theorem dX11_image_148 : decode cX11_image 148 = .ok (.getfield 70, 3) := by decide +kernel
theorem dX11_image_151 : decode cX11_image 151 = .ok (.iload_n 3, 1) := by decide +kernel
theorem dX11_image_152 : decode cX11_image 152 = .ok (.iaload, 1) := by decide +kernel
theorem dX11_image_153 : decode cX11_image 153 = .ok (.iadd, 1) := by decide +kernel
theorem dX11_image_154 : decode cX11_image 154 = .ok (.sipush 253, 3) := by decide +kernel
theorem dX11_image_157 : decode cX11_image 157 = .ok (.irem, 1) := by decide +kernel
theorem dX11_image_158 : decode cX11_image 158 = .ok (.istore_n 2, 1) := by decide +kernel
theorem dX11_image_159 : decode cX11_image 159 = .ok (.iinc 3 1, 3) := by decide +kernel
theorem dX11_image_162 : decode cX11_image 162 = .ok (.goto (-26), 3) := by decide +kernel
theorem dX11_image_165 : decode cX11_image 165 = .ok (.aload_n 0, 1) := by decide +kernel
theorem dX11_image_166 : decode cX11_image 166 = .ok (.iload_n 2, 1) := by decide +kernel
theorem dX11_image_167 : decode cX11_image 167 = .ok (.i2l, 1) := by decide +kernel
theorem dX11_image_168 : decode cX11_image 168 = .ok (.invokevirtual 442, 3) := by decide +kernel
theorem dX11_image_171 : decode cX11_image 171 = .ok (.aload_n 0, 1) := by decide +kernel
theorem dX11_image_172 : decode cX11_image 172 = .ok (.getfield 437, 3) := by decide +kernel
theorem dX11_image_175 : decode cX11_image 175 = .ok (.ireturn, 1) := by decide +kernel
def own_c_imageM : List Cond := [.methodLink RX11 95 yX11_manyOf, .instanceMethod yX11_manyOf, .selects RX11 yX11_manyOf yX11_manyOf, .initialized RX11, .fieldLink RX11 17 "ClashFreeModel" "keys" "[I", .methodLink RX11 446 yX11_octetsOf, .instanceMethod yX11_octetsOf, .selects RX11 yX11_octetsOf yX11_octetsOf, .fieldLink RX11 21 "ClashFreeModel" "values" "[I", .fieldLink RX11 437 "ClashFreeModel" "octetMany" "I", .fieldLink RX11 70 "ClashFreeModel" "octets" "[I", .fieldLink RX11 73 "ClashFreeModel" "thrown" "I", .methodLink RX11 222 yX11_isThere, .instanceMethod yX11_isThere, .selects RX11 yX11_isThere yX11_isThere, .methodLink RX11 89 yX11_of, .instanceMethod yX11_of, .selects RX11 yX11_of yX11_of, .methodLink RX11 442 yX11_octet1, .instanceMethod yX11_octet1, .selects RX11 yX11_octet1 yX11_octet1]
def wp_c_imageM : List Cond := .code yX11_image cX11_image 4 (some .int) :: (own_c_imageM ++ (wp_c_manyOf ++ (wp_c_octetsOf ++ (wp_c_isThere ++ (wp_c_of ++ (wp_c_octet1 ++ (wsX110 ++ ([] : List Cond))))))))
set_option maxRecDepth 20000 in
theorem inown_c_imageM : ∀ w ∈ own_c_imageM, w ∈ lw_tbl := mem_places [1396, 1398, 40, 115, 1220, 1794, 1796, 101, 1221, 1262, 1261, 1216, 1466, 1468, 54, 1400, 1402, 41, 1798, 1800, 102] (by decide +kernel)
set_option maxRecDepth 20000 in
theorem in_c_imageM : ∀ w ∈ wp_c_imageM, w ∈ lw_tbl := List.forall_mem_cons.mpr ⟨List.mem_of_getElem? (i := 1793) (by decide +kernel), List.forall_mem_append.mpr ⟨inown_c_imageM, List.forall_mem_append.mpr ⟨in_c_manyOf, List.forall_mem_append.mpr ⟨in_c_octetsOf, List.forall_mem_append.mpr ⟨in_c_isThere, List.forall_mem_append.mpr ⟨in_c_of, List.forall_mem_append.mpr ⟨in_c_octet1, List.forall_mem_append.mpr ⟨lwb_X11, fun _ h => absurd h List.not_mem_nil⟩⟩⟩⟩⟩⟩⟩⟩
set_option maxRecDepth 20000 in
theorem good_c_imageM : wp_c_imageM.all goodWord = true := by decide +kernel
set_option maxRecDepth 20000 in
theorem g_c_imageM_c_manyOf_95 : GoodIn wp_c_imageM (wsV RX11 95 RX11 yX11_manyOf wp_c_manyOf) := goodIn_sub (List.forall_mem_append.mpr ⟨List.forall_mem_cons.mpr ⟨(List.mem_of_getElem? (i := 1) rfl), List.forall_mem_cons.mpr ⟨(List.mem_of_getElem? (i := 2) rfl), List.forall_mem_cons.mpr ⟨(List.mem_of_getElem? (i := 3) rfl), List.forall_mem_cons.mpr ⟨(List.mem_of_getElem? (i := 4) rfl), fun _ h => absurd h List.not_mem_nil⟩⟩⟩⟩, (fun _ h => (List.mem_cons_of_mem _ (List.mem_append_right _ (List.mem_append_left _ h))))⟩) (by decide +kernel)
set_option maxRecDepth 20000 in
theorem g_c_imageM_c_octetsOf_446 : GoodIn wp_c_imageM (wsV RX11 446 RX11 yX11_octetsOf wp_c_octetsOf) := goodIn_sub (List.forall_mem_append.mpr ⟨List.forall_mem_cons.mpr ⟨(List.mem_of_getElem? (i := 6) rfl), List.forall_mem_cons.mpr ⟨(List.mem_of_getElem? (i := 7) rfl), List.forall_mem_cons.mpr ⟨(List.mem_of_getElem? (i := 8) rfl), List.forall_mem_cons.mpr ⟨(List.mem_of_getElem? (i := 4) rfl), fun _ h => absurd h List.not_mem_nil⟩⟩⟩⟩, (fun _ h => (List.mem_cons_of_mem _ (List.mem_append_right _ (List.mem_append_right _ (List.mem_append_left _ h)))))⟩) (by decide +kernel)
set_option maxRecDepth 20000 in
theorem g_c_imageM_c_isThere_222 : GoodIn wp_c_imageM (wsV RX11 222 RX11 yX11_isThere wp_c_isThere) := goodIn_sub (List.forall_mem_append.mpr ⟨List.forall_mem_cons.mpr ⟨(List.mem_of_getElem? (i := 13) rfl), List.forall_mem_cons.mpr ⟨(List.mem_of_getElem? (i := 14) rfl), List.forall_mem_cons.mpr ⟨(List.mem_of_getElem? (i := 15) rfl), List.forall_mem_cons.mpr ⟨(List.mem_of_getElem? (i := 4) rfl), fun _ h => absurd h List.not_mem_nil⟩⟩⟩⟩, (fun _ h => (List.mem_cons_of_mem _ (List.mem_append_right _ (List.mem_append_right _ (List.mem_append_right _ (List.mem_append_left _ h))))))⟩) (by decide +kernel)
set_option maxRecDepth 20000 in
theorem g_c_imageM_c_of_89 : GoodIn wp_c_imageM (wsV RX11 89 RX11 yX11_of wp_c_of) := goodIn_sub (List.forall_mem_append.mpr ⟨List.forall_mem_cons.mpr ⟨(List.mem_of_getElem? (i := 16) rfl), List.forall_mem_cons.mpr ⟨(List.mem_of_getElem? (i := 17) rfl), List.forall_mem_cons.mpr ⟨(List.mem_of_getElem? (i := 18) rfl), List.forall_mem_cons.mpr ⟨(List.mem_of_getElem? (i := 4) rfl), fun _ h => absurd h List.not_mem_nil⟩⟩⟩⟩, (fun _ h => (List.mem_cons_of_mem _ (List.mem_append_right _ (List.mem_append_right _ (List.mem_append_right _ (List.mem_append_right _ (List.mem_append_left _ h)))))))⟩) (by decide +kernel)
set_option maxRecDepth 20000 in
theorem g_c_imageM_c_octet1_442 : GoodIn wp_c_imageM (wsV RX11 442 RX11 yX11_octet1 wp_c_octet1) := goodIn_sub (List.forall_mem_append.mpr ⟨List.forall_mem_cons.mpr ⟨(List.mem_of_getElem? (i := 19) rfl), List.forall_mem_cons.mpr ⟨(List.mem_of_getElem? (i := 20) rfl), List.forall_mem_cons.mpr ⟨(List.mem_of_getElem? (i := 21) rfl), List.forall_mem_cons.mpr ⟨(List.mem_of_getElem? (i := 4) rfl), fun _ h => absurd h List.not_mem_nil⟩⟩⟩⟩, (fun _ h => (List.mem_cons_of_mem _ (List.mem_append_right _ (List.mem_append_right _ (List.mem_append_right _ (List.mem_append_right _ (List.mem_append_right _ (List.mem_append_left _ h))))))))⟩) (by decide +kernel)
set_option maxHeartbeats 4000000 in
set_option maxRecDepth 100000 in
theorem lp_img1 (l : Launch) {p : Program} {e : Env} {s : State} {m : MethodId} {args : Array Value} {below : List Frame} {meth : Method} {c : Code} {Q : State → Prop} {A : Nat → Prop} (D : va_G) (h0 : Nat) (a : Nat → Nat) (cm : Nat → ClassId) (i : Nat → Int32) (g : Nat → Int64) (fn : Nat → Int64) (fk : Nat → Int32) (fv : Nat → Int32) (fb : Nat → Int32) (ff : Nat → Int32) (fh : Nat → Int32) (fa : Nat → Int64) (fs : Nat → Int64) (k : Nat) (cn : Nat) (hk : k < 4) (h1 : fn (17 * k + 1) = lN cn) (hcn : cn ≤ 160) (hx : p.tables.exec = Jvm.exec) (hb : c.code = cX11_image) (hml : c.maxLocals = 4) (hown : s.vm.findClass RX11 = some m.cls) (hts : ∀ w ∈ wp_c_imageM, w.before args s = true) (hA : ∀ q, s.heap.size ≤ q → A q) (hK : va_K D vwCl [(cm 3, .long), (cm 4, .int), (cm 5, .int), (cm 6, .int), (cm 8, .int), (cm 9, .int), (cm 10, .long), (cm 11, .long), (cm 45, .int)] s) (kx131 : ∀ (x : Nat), ∀ (nw : Nat), ∀ (gy : Nat → Int32), (x ≤ cn) → (nw = 13 + 8 * x) → (cn ≤ x) → ∀ (H : Heap) (locs : List Loc) (ls : Array Slot), va_P D vwCl [(h0, .inr (11, gM a (upd (upd i 0 0) 46 (nI nw)) g)), (a 3, .inl (cm 3, 85, .inr (.inl fn))), (a 4, .inl (cm 4, 800, .inl fk)), (a 5, .inl (cm 5, 800, .inl fv)), (a 6, .inl (cm 6, 800, .inl fb)), (a 8, .inl (cm 8, 10240, .inl ff)), (a 9, .inl (cm 9, 10240, .inl fh)), (a 10, .inl (cm 10, 10240, .inr (.inl fa))), (a 11, .inl (cm 11, 10240, .inr (.inl fs))), (a 45, .inl (cm 45, 1400, .inl gy))] H → va_D A [(h0, .inr (11, gM a (upd (upd i 0 0) 46 (nI nw)) g)), (a 3, .inl (cm 3, 85, .inr (.inl fn))), (a 4, .inl (cm 4, 800, .inl fk)), (a 5, .inl (cm 5, 800, .inl fv)), (a 6, .inl (cm 6, 800, .inl fb)), (a 8, .inl (cm 8, 10240, .inl ff)), (a 9, .inl (cm 9, 10240, .inl fh)), (a 10, .inl (cm 10, 10240, .inr (.inl fa))), (a 11, .inl (cm 11, 10240, .inr (.inl fs))), (a 45, .inl (cm 45, 1400, .inl gy))] → va_S A s.heap H locs → lv_has ls 4 [(0, .ref h0), (1, .int (nI k))] → W p l e ({ frames := 6, cells := 0, slots := 0, locals := 60 }) s m args below meth c H locs 0 0 Q (F0 m 131 ls [])) : ∀ (N : Nat), ∀ (x : Nat), ∀ (nw : Nat), ∀ (gy : Nat → Int32), (x ≤ cn) → (nw = 13 + 8 * x) → cn - x < N → ∀ (H : Heap) (locs : List Loc) (ls : Array Slot), va_P D vwCl [(h0, .inr (11, gM a (upd (upd i 0 0) 46 (nI nw)) g)), (a 3, .inl (cm 3, 85, .inr (.inl fn))), (a 4, .inl (cm 4, 800, .inl fk)), (a 5, .inl (cm 5, 800, .inl fv)), (a 6, .inl (cm 6, 800, .inl fb)), (a 8, .inl (cm 8, 10240, .inl ff)), (a 9, .inl (cm 9, 10240, .inl fh)), (a 10, .inl (cm 10, 10240, .inr (.inl fa))), (a 11, .inl (cm 11, 10240, .inr (.inl fs))), (a 45, .inl (cm 45, 1400, .inl gy))] H → va_D A [(h0, .inr (11, gM a (upd (upd i 0 0) 46 (nI nw)) g)), (a 3, .inl (cm 3, 85, .inr (.inl fn))), (a 4, .inl (cm 4, 800, .inl fk)), (a 5, .inl (cm 5, 800, .inl fv)), (a 6, .inl (cm 6, 800, .inl fb)), (a 8, .inl (cm 8, 10240, .inl ff)), (a 9, .inl (cm 9, 10240, .inl fh)), (a 10, .inl (cm 10, 10240, .inr (.inl fa))), (a 11, .inl (cm 11, 10240, .inr (.inl fs))), (a 45, .inl (cm 45, 1400, .inl gy))] → va_S A s.heap H locs → lv_has ls 4 [(2, .int (nI (160 * k + x))), (0, .ref h0), (1, .int (nI k))] → W p l e ({ frames := 6, cells := 0, slots := 0, locals := 60 }) s m args below meth c H locs 0 0 Q (F0 m 86 ls []) := by
  have hin_X11 : ∀ w ∈ wsX110, w ∈ wp_c_imageM := fun _ h => (List.mem_cons_of_mem _ (List.mem_append_right _ (List.mem_append_right _ (List.mem_append_right _ (List.mem_append_right _ (List.mem_append_right _ (List.mem_append_right _ (List.mem_append_left _ h))))))))
  intro N
  induction N with
  | zero =>
    intro x nw gy hx2 hnw hm
    exact absurd hm (Nat.not_lt_zero _)
  | succ N ih =>
    intro x nw gy hx2 hnw hm H locs ls hP hD hS hl
    refine lv_iload_n hx hb dX11_image_86 rfl (lv_at hl 0 rfl) ?_
    refine lv_sipush (v := 160) hx hb dX11_image_87 (by decide) ?_
    refine lv_iload_n hx hb dX11_image_90 rfl (lv_at hl 2 rfl) ?_
    refine lv_imul hx hb dX11_image_91 ?_
    refine lv_aload_n hx hb dX11_image_92 rfl (lv_at hl 1 rfl) ?_
    refine lv_iload_n hx hb dX11_image_93 rfl (lv_at hl 2 rfl) ?_
    have hPc := hP.sub (ws' := [(h0, .inr (11, gM a (upd (upd i 0 0) 46 (nI nw)) g)), (a 3, .inl (cm 3, 85, .inr (.inl fn)))]) [0, 1] rfl
    have hKc := hK.sub (tys' := [(cm 3, .long)]) [0] rfl
    have hFc := va_free0 hS hA
    refine va_calli (va_runV (As := [.int (nI k)]) (rest := [.int (160 * (nI k)), .int (nI (160 * k + x))]) ⟨hx, hb, hml, hown, hts⟩ (c_manyOf l D _ h0 a cm (upd (upd i 0 0) 46 (nI nw)) g fn k cn (by first | assumption | omega) h1) (cwV 1 hts g_c_imageM_c_manyOf_95 rfl rfl rfl (by decide +kernel) ⟨(Nat.le_of_ble_eq_true rfl), (Nat.le_of_ble_eq_true rfl)⟩) (PcR_V (q0 := 0) hPc hKc rfl rfl) rfl rfl hl.1 rfl (lv_room (Nat.le_of_ble_eq_true rfl)) dX11_image_94 ⟨(Nat.le_of_ble_eq_true rfl), (Nat.le_of_ble_eq_true rfl)⟩) hS (fun q _ h => hFc q h) hFc (fun r1 uu tt H locs htt hvm hw hB hz1 hk1 hS => ?_)
    have hP := va_keep hP hk1
    try dsimp only at hw
    clear hB hz1 hk1 hFc hPc hKc
    obtain rfl : r1 = nI cn := hw
    refine lv_iadd hx hb dX11_image_97 ?_
    refine lv_topi (fun v2 ev2 => ?_)
    obtain rfl : v2 = nI (160 * k + cn) := ev2.trans (ix160 k _)
    refine lv_icmp_ge (tgt := 131) hx hb dX11_image_98 (by decide) (fun hc3 => ?_) (fun hc3 => ?_)
    ·
      have hge_x : cn ≤ x := by
        have := (nI_leI (a := 160 * k + cn) (b := 160 * k + x) (by omega) (by omega)).mp hc3
        omega
      exact kx131 x nw gy (hx2) (hnw) (hge_x) H locs ls (hP.sub [0, 1, 2, 3, 4, 5, 6, 7, 8, 9] rfl) (hD.sub [0, 1, 2, 3, 4, 5, 6, 7, 8, 9] (by decide) rfl) hS (lv_sub hl [1, 2] rfl)
    ·
      have hlt_x : x < cn := by
        rcases Nat.lt_or_ge x cn with z | z
        · exact z
        · exact absurd (nI_le (show 160 * k + cn ≤ 160 * k + x by omega) (by omega)) hc3
      refine lv_aload_n hx hb dX11_image_101 rfl (lv_at hl 1 rfl) ?_
      refine lv_aload_n hx hb dX11_image_102 rfl (lv_at hl 1 rfl) ?_
      refine va_get (D := D) (ci := 11) (v := .ref (a 4)) (C := RX11) (T := TX11) (N := 47) hx hb hts hin_X11 hown hK hP 0 rfl rfl 4 (by decide) (hts (.fieldLink RX11 17 "ClashFreeModel" "keys" "[I") (List.mem_of_getElem? (i := 5) rfl)) (fun _ h9 => h9) rfl dX11_image_103 ?_
      refine lv_iload_n hx hb dX11_image_106 rfl (lv_at hl 0 rfl) ?_
      refine va_iald hx hb hK hP 2 1 rfl rfl (vp_in_nI (by omega) (by decide)) dX11_image_107 ?_
      refine lv_topi (fun v4 ev4 => ?_)
      refine lv_i2l hx hb dX11_image_108 rfl ?_
      refine lv_iconst (v := 4) hx hb dX11_image_109 (by decide) ?_
      have hPc := hP.sub (ws' := [(h0, .inr (11, gM a (upd (upd i 0 0) 46 (nI nw)) g)), (a 45, .inl (cm 45, 1400, .inl gy))]) [0, 9] rfl
      have hKc := hK.sub (tys' := [(cm 45, .int)]) [8] rfl
      have hDc := hD.sub (ws' := [(h0, .inr (11, gM a (upd (upd i 0 0) 46 (nI nw)) g)), (a 45, .inl (cm 45, 1400, .inl gy))]) [0, 9] (by decide) rfl
      have hFc := va_free (wc := [(h0, .inr (11, gM a (upd (upd i 0 0) 46 (nI nw)) g)), (a 45, .inl (cm 45, 1400, .inl gy))]) hD hS hA [0, 9] rfl
      refine va_callv (va_runV (As := [.long (Int32.toInt64 v4), .int (nI 4)]) (rest := []) ⟨hx, hb, hml, hown, hts⟩ (c_octetsOf l D _ h0 a cm (upd (upd i 0 0) 46 (nI nw)) g gy (Int32.toInt64 v4) nw 4 rfl (by omega) (by omega)) (cwV 2 hts g_c_imageM_c_octetsOf_446 rfl rfl rfl (by decide +kernel) ⟨(Nat.le_of_ble_eq_true rfl), (Nat.le_of_ble_eq_true rfl)⟩) (PcW_V (q0 := 0) hPc hKc hDc rfl rfl) rfl rfl hl.1 rfl (lv_room (Nat.le_of_ble_eq_true rfl)) dX11_image_110 ⟨(Nat.le_of_ble_eq_true rfl), (Nat.le_of_ble_eq_true rfl)⟩) hS (fun q _ h => hFc q h) hFc (fun uu tt H locs htt hvm hw hB hz1 hk1 hS => ?_)
      obtain ⟨w6, w7⟩ := uu
      obtain ⟨hP1, hK1, hD1⟩ := hB
      rw [htt] at hP1
      have hK1 := va_K.moved hvm.symm hK1
      have hP1 : va_P D vwCl [(h0, .inr (11, gM a (upd (upd i 0 0) 46 w7) g)), (a 45, .inl (cm 45, 1400, .inl w6))] H := hP1
      obtain ⟨hP, hD⟩ := va_join (wr := [(a 3, .inl (cm 3, 85, .inr (.inl fn))), (a 4, .inl (cm 4, 800, .inl fk)), (a 5, .inl (cm 5, 800, .inl fv)), (a 6, .inl (cm 6, 800, .inl fb)), (a 8, .inl (cm 8, 10240, .inl ff)), (a 9, .inl (cm 9, 10240, .inl fh)), (a 10, .inl (cm 10, 10240, .inr (.inl fa))), (a 11, .inl (cm 11, 10240, .inr (.inl fs)))]) (w1 := [(h0, .inr (11, gM a (upd (upd i 0 0) 46 w7) g)), (a 45, .inl (cm 45, 1400, .inl w6))]) hP hD [0, 9] [1, 2, 3, 4, 5, 6, 7, 8] rfl rfl (by decide) (by decide) hk1 hFc hP1 hD1
      have hP : va_P D vwCl [(a 3, .inl (cm 3, 85, .inr (.inl fn))), (a 4, .inl (cm 4, 800, .inl fk)), (a 5, .inl (cm 5, 800, .inl fv)), (a 6, .inl (cm 6, 800, .inl fb)), (a 8, .inl (cm 8, 10240, .inl ff)), (a 9, .inl (cm 9, 10240, .inl fh)), (a 10, .inl (cm 10, 10240, .inr (.inl fa))), (a 11, .inl (cm 11, 10240, .inr (.inl fs))), (h0, .inr (11, gM a (upd (upd i 0 0) 46 w7) g)), (a 45, .inl (cm 45, 1400, .inl w6))] H := hP
      have hD : va_D A [(a 3, .inl (cm 3, 85, .inr (.inl fn))), (a 4, .inl (cm 4, 800, .inl fk)), (a 5, .inl (cm 5, 800, .inl fv)), (a 6, .inl (cm 6, 800, .inl fb)), (a 8, .inl (cm 8, 10240, .inl ff)), (a 9, .inl (cm 9, 10240, .inl fh)), (a 10, .inl (cm 10, 10240, .inr (.inl fa))), (a 11, .inl (cm 11, 10240, .inr (.inl fs))), (h0, .inr (11, gM a (upd (upd i 0 0) 46 w7) g)), (a 45, .inl (cm 45, 1400, .inl w6))] := hD
      try dsimp only at hw
      clear hz1 hk1 hFc hPc hKc hDc
      obtain rfl := hw
      have hP : va_P D vwCl [(a 3, .inl (cm 3, 85, .inr (.inl fn))), (a 4, .inl (cm 4, 800, .inl fk)), (a 5, .inl (cm 5, 800, .inl fv)), (a 6, .inl (cm 6, 800, .inl fb)), (a 8, .inl (cm 8, 10240, .inl ff)), (a 9, .inl (cm 9, 10240, .inl fh)), (a 10, .inl (cm 10, 10240, .inr (.inl fa))), (a 11, .inl (cm 11, 10240, .inr (.inl fs))), (h0, .inr (11, gM a (upd (upd i 0 0) 46 (nI (nw + 4))) g)), (a 45, .inl (cm 45, 1400, .inl w6))] H := hP
      have hD : va_D A [(a 3, .inl (cm 3, 85, .inr (.inl fn))), (a 4, .inl (cm 4, 800, .inl fk)), (a 5, .inl (cm 5, 800, .inl fv)), (a 6, .inl (cm 6, 800, .inl fb)), (a 8, .inl (cm 8, 10240, .inl ff)), (a 9, .inl (cm 9, 10240, .inl fh)), (a 10, .inl (cm 10, 10240, .inr (.inl fa))), (a 11, .inl (cm 11, 10240, .inr (.inl fs))), (h0, .inr (11, gM a (upd (upd i 0 0) 46 (nI (nw + 4))) g)), (a 45, .inl (cm 45, 1400, .inl w6))] := hD
      refine lv_aload_n hx hb dX11_image_113 rfl (lv_at hl 1 rfl) ?_
      refine lv_aload_n hx hb dX11_image_114 rfl (lv_at hl 1 rfl) ?_
      refine va_get (D := D) (ci := 11) (v := .ref (a 5)) (C := RX11) (T := TX11) (N := 47) hx hb hts hin_X11 hown hK hP 8 rfl rfl 5 (by decide) (hts (.fieldLink RX11 21 "ClashFreeModel" "values" "[I") (List.mem_of_getElem? (i := 9) rfl)) (fun _ h9 => h9) rfl dX11_image_115 ?_
      refine lv_iload_n hx hb dX11_image_118 rfl (lv_at hl 0 rfl) ?_
      refine va_iald hx hb hK hP 2 2 rfl rfl (vp_in_nI (by omega) (by decide)) dX11_image_119 ?_
      refine lv_topi (fun v8 ev8 => ?_)
      refine lv_i2l hx hb dX11_image_120 rfl ?_
      refine lv_iconst (v := 4) hx hb dX11_image_121 (by decide) ?_
      have hPc := hP.sub (ws' := [(h0, .inr (11, gM a (upd (upd i 0 0) 46 (nI (nw + 4))) g)), (a 45, .inl (cm 45, 1400, .inl w6))]) [8, 9] rfl
      have hKc := hK.sub (tys' := [(cm 45, .int)]) [8] rfl
      have hDc := hD.sub (ws' := [(h0, .inr (11, gM a (upd (upd i 0 0) 46 (nI (nw + 4))) g)), (a 45, .inl (cm 45, 1400, .inl w6))]) [8, 9] (by decide) rfl
      have hFc := va_free (wc := [(h0, .inr (11, gM a (upd (upd i 0 0) 46 (nI (nw + 4))) g)), (a 45, .inl (cm 45, 1400, .inl w6))]) hD hS hA [8, 9] rfl
      refine va_callv (va_runV (As := [.long (Int32.toInt64 v8), .int (nI 4)]) (rest := []) ⟨hx, hb, hml, hown, hts⟩ (c_octetsOf l D _ h0 a cm (upd (upd i 0 0) 46 (nI (nw + 4))) g w6 (Int32.toInt64 v8) (nw + 4) 4 rfl (by omega) (by omega)) (cwV 2 hts g_c_imageM_c_octetsOf_446 rfl rfl rfl (by decide +kernel) ⟨(Nat.le_of_ble_eq_true rfl), (Nat.le_of_ble_eq_true rfl)⟩) (PcW_V (q0 := 0) hPc hKc hDc rfl rfl) rfl rfl hl.1 rfl (lv_room (Nat.le_of_ble_eq_true rfl)) dX11_image_122 ⟨(Nat.le_of_ble_eq_true rfl), (Nat.le_of_ble_eq_true rfl)⟩) hS (fun q _ h => hFc q h) hFc (fun uu tt H locs htt hvm hw hB hz1 hk1 hS => ?_)
      obtain ⟨w10, w11⟩ := uu
      obtain ⟨hP1, hK1, hD1⟩ := hB
      rw [htt] at hP1
      have hK1 := va_K.moved hvm.symm hK1
      have hP1 : va_P D vwCl [(h0, .inr (11, gM a (upd (upd i 0 0) 46 w11) g)), (a 45, .inl (cm 45, 1400, .inl w10))] H := hP1
      obtain ⟨hP, hD⟩ := va_join (wr := [(a 3, .inl (cm 3, 85, .inr (.inl fn))), (a 4, .inl (cm 4, 800, .inl fk)), (a 5, .inl (cm 5, 800, .inl fv)), (a 6, .inl (cm 6, 800, .inl fb)), (a 8, .inl (cm 8, 10240, .inl ff)), (a 9, .inl (cm 9, 10240, .inl fh)), (a 10, .inl (cm 10, 10240, .inr (.inl fa))), (a 11, .inl (cm 11, 10240, .inr (.inl fs)))]) (w1 := [(h0, .inr (11, gM a (upd (upd i 0 0) 46 w11) g)), (a 45, .inl (cm 45, 1400, .inl w10))]) hP hD [8, 9] [0, 1, 2, 3, 4, 5, 6, 7] rfl rfl (by decide) (by decide) hk1 hFc hP1 hD1
      have hP : va_P D vwCl [(a 3, .inl (cm 3, 85, .inr (.inl fn))), (a 4, .inl (cm 4, 800, .inl fk)), (a 5, .inl (cm 5, 800, .inl fv)), (a 6, .inl (cm 6, 800, .inl fb)), (a 8, .inl (cm 8, 10240, .inl ff)), (a 9, .inl (cm 9, 10240, .inl fh)), (a 10, .inl (cm 10, 10240, .inr (.inl fa))), (a 11, .inl (cm 11, 10240, .inr (.inl fs))), (h0, .inr (11, gM a (upd (upd i 0 0) 46 w11) g)), (a 45, .inl (cm 45, 1400, .inl w10))] H := hP
      have hD : va_D A [(a 3, .inl (cm 3, 85, .inr (.inl fn))), (a 4, .inl (cm 4, 800, .inl fk)), (a 5, .inl (cm 5, 800, .inl fv)), (a 6, .inl (cm 6, 800, .inl fb)), (a 8, .inl (cm 8, 10240, .inl ff)), (a 9, .inl (cm 9, 10240, .inl fh)), (a 10, .inl (cm 10, 10240, .inr (.inl fa))), (a 11, .inl (cm 11, 10240, .inr (.inl fs))), (h0, .inr (11, gM a (upd (upd i 0 0) 46 w11) g)), (a 45, .inl (cm 45, 1400, .inl w10))] := hD
      try dsimp only at hw
      clear hz1 hk1 hFc hPc hKc hDc
      obtain rfl := hw
      have hP : va_P D vwCl [(a 3, .inl (cm 3, 85, .inr (.inl fn))), (a 4, .inl (cm 4, 800, .inl fk)), (a 5, .inl (cm 5, 800, .inl fv)), (a 6, .inl (cm 6, 800, .inl fb)), (a 8, .inl (cm 8, 10240, .inl ff)), (a 9, .inl (cm 9, 10240, .inl fh)), (a 10, .inl (cm 10, 10240, .inr (.inl fa))), (a 11, .inl (cm 11, 10240, .inr (.inl fs))), (h0, .inr (11, gM a (upd (upd i 0 0) 46 (nI (nw + 8))) g)), (a 45, .inl (cm 45, 1400, .inl w10))] H := hP
      have hD : va_D A [(a 3, .inl (cm 3, 85, .inr (.inl fn))), (a 4, .inl (cm 4, 800, .inl fk)), (a 5, .inl (cm 5, 800, .inl fv)), (a 6, .inl (cm 6, 800, .inl fb)), (a 8, .inl (cm 8, 10240, .inl ff)), (a 9, .inl (cm 9, 10240, .inl fh)), (a 10, .inl (cm 10, 10240, .inr (.inl fa))), (a 11, .inl (cm 11, 10240, .inr (.inl fs))), (h0, .inr (11, gM a (upd (upd i 0 0) 46 (nI (nw + 8))) g)), (a 45, .inl (cm 45, 1400, .inl w10))] := hD
      refine lv_iinc (v := nI (160 * k + (x + 1))) (lv' := [(2, .int (nI (160 * k + (x + 1)))), (0, .ref h0), (1, .int (nI k))]) hx hb dX11_image_125 hl (k := 0) rfl (nI_1 _) (by decide) rfl (fun ls hl => ?_)
      refine lv_goto (tgt := 86) hx hb dX11_image_128 (by decide) ?_
      exact ih (x + 1) (nw + 8) w10 (by omega) (by omega) (by omega) H locs ls (hP.sub [8, 0, 1, 2, 3, 4, 5, 6, 7, 9] rfl) (hD.sub [8, 0, 1, 2, 3, 4, 5, 6, 7, 9] (by decide) rfl) hS (lv_sub hl [0, 1, 2] rfl)
set_option maxHeartbeats 4000000 in
set_option maxRecDepth 100000 in
theorem lp_img2 (l : Launch) {p : Program} {e : Env} {s : State} {m : MethodId} {args : Array Value} {below : List Frame} {meth : Method} {c : Code} {Q : State → Prop} {A : Nat → Prop} (D : va_G) (h0 : Nat) (a : Nat → Nat) (cm : Nat → ClassId) (i : Nat → Int32) (g : Nat → Int64) (fn : Nat → Int64) (fk : Nat → Int32) (fv : Nat → Int32) (fb : Nat → Int32) (ff : Nat → Int32) (fh : Nat → Int32) (fa : Nat → Int64) (fs : Nat → Int64) (nw : Nat) (gy : Nat → Int32) (hw2 : nw ≤ 1399) (hx : p.tables.exec = Jvm.exec) (hb : c.code = cX11_image) (hml : c.maxLocals = 4) (hown : s.vm.findClass RX11 = some m.cls) (hts : ∀ w ∈ wp_c_imageM, w.before args s = true) (hA : ∀ q, s.heap.size ≤ q → A q) (hK : va_K D vwCl [(cm 3, .long), (cm 4, .int), (cm 5, .int), (cm 6, .int), (cm 8, .int), (cm 9, .int), (cm 10, .long), (cm 11, .long), (cm 45, .int)] s) (kx165 : ∀ (y : Nat), ∀ (su : Int32), (y ≤ nw) → ∀ (H : Heap) (locs : List Loc) (ls : Array Slot), va_P D vwCl [(h0, .inr (11, gM a (upd (upd i 0 0) 46 (nI nw)) g)), (a 3, .inl (cm 3, 85, .inr (.inl fn))), (a 4, .inl (cm 4, 800, .inl fk)), (a 5, .inl (cm 5, 800, .inl fv)), (a 6, .inl (cm 6, 800, .inl fb)), (a 8, .inl (cm 8, 10240, .inl ff)), (a 9, .inl (cm 9, 10240, .inl fh)), (a 10, .inl (cm 10, 10240, .inr (.inl fa))), (a 11, .inl (cm 11, 10240, .inr (.inl fs))), (a 45, .inl (cm 45, 1400, .inl gy))] H → va_D A [(h0, .inr (11, gM a (upd (upd i 0 0) 46 (nI nw)) g)), (a 3, .inl (cm 3, 85, .inr (.inl fn))), (a 4, .inl (cm 4, 800, .inl fk)), (a 5, .inl (cm 5, 800, .inl fv)), (a 6, .inl (cm 6, 800, .inl fb)), (a 8, .inl (cm 8, 10240, .inl ff)), (a 9, .inl (cm 9, 10240, .inl fh)), (a 10, .inl (cm 10, 10240, .inr (.inl fa))), (a 11, .inl (cm 11, 10240, .inr (.inl fs))), (a 45, .inl (cm 45, 1400, .inl gy))] → va_S A s.heap H locs → lv_has ls 4 [(2, .int su), (0, .ref h0)] → W p l e ({ frames := 6, cells := 0, slots := 0, locals := 60 }) s m args below meth c H locs 0 0 Q (F0 m 165 ls [])) : ∀ (N : Nat), ∀ (y : Nat), ∀ (su : Int32), (y ≤ nw) → nw - y < N → ∀ (H : Heap) (locs : List Loc) (ls : Array Slot), va_P D vwCl [(h0, .inr (11, gM a (upd (upd i 0 0) 46 (nI nw)) g)), (a 3, .inl (cm 3, 85, .inr (.inl fn))), (a 4, .inl (cm 4, 800, .inl fk)), (a 5, .inl (cm 5, 800, .inl fv)), (a 6, .inl (cm 6, 800, .inl fb)), (a 8, .inl (cm 8, 10240, .inl ff)), (a 9, .inl (cm 9, 10240, .inl fh)), (a 10, .inl (cm 10, 10240, .inr (.inl fa))), (a 11, .inl (cm 11, 10240, .inr (.inl fs))), (a 45, .inl (cm 45, 1400, .inl gy))] H → va_D A [(h0, .inr (11, gM a (upd (upd i 0 0) 46 (nI nw)) g)), (a 3, .inl (cm 3, 85, .inr (.inl fn))), (a 4, .inl (cm 4, 800, .inl fk)), (a 5, .inl (cm 5, 800, .inl fv)), (a 6, .inl (cm 6, 800, .inl fb)), (a 8, .inl (cm 8, 10240, .inl ff)), (a 9, .inl (cm 9, 10240, .inl fh)), (a 10, .inl (cm 10, 10240, .inr (.inl fa))), (a 11, .inl (cm 11, 10240, .inr (.inl fs))), (a 45, .inl (cm 45, 1400, .inl gy))] → va_S A s.heap H locs → lv_has ls 4 [(3, .int (nI y)), (2, .int su), (0, .ref h0)] → W p l e ({ frames := 6, cells := 0, slots := 0, locals := 60 }) s m args below meth c H locs 0 0 Q (F0 m 136 ls []) := by
  have hin_X11 : ∀ w ∈ wsX110, w ∈ wp_c_imageM := fun _ h => (List.mem_cons_of_mem _ (List.mem_append_right _ (List.mem_append_right _ (List.mem_append_right _ (List.mem_append_right _ (List.mem_append_right _ (List.mem_append_right _ (List.mem_append_left _ h))))))))
  intro N
  induction N with
  | zero =>
    intro y su hy2 hm
    exact absurd hm (Nat.not_lt_zero _)
  | succ N ih =>
    intro y su hy2 hm H locs ls hP hD hS hl
    refine lv_iload_n hx hb dX11_image_136 rfl (lv_at hl 0 rfl) ?_
    refine lv_aload_n hx hb dX11_image_137 rfl (lv_at hl 2 rfl) ?_
    refine va_get (D := D) (ci := 11) (v := .int (nI nw)) (C := RX11) (T := TX11) (N := 47) hx hb hts hin_X11 hown hK hP 0 rfl rfl 46 (by decide) (hts (.fieldLink RX11 437 "ClashFreeModel" "octetMany" "I") (List.mem_of_getElem? (i := 10) rfl)) (fun _ h9 => h9) rfl dX11_image_138 ?_
    refine lv_icmp_ge (tgt := 165) hx hb dX11_image_141 (by decide) (fun hc1 => ?_) (fun hc1 => ?_)
    ·
      exact kx165 y su (hy2) H locs ls (hP.sub [0, 1, 2, 3, 4, 5, 6, 7, 8, 9] rfl) (hD.sub [0, 1, 2, 3, 4, 5, 6, 7, 8, 9] (by decide) rfl) hS (lv_sub hl [1, 2] rfl)
    ·
      have hlt_y : y < nw := by
        rcases Nat.lt_or_ge y nw with z | z
        · exact z
        · exact absurd (nI_le z (by omega)) hc1
      refine lv_iconst (v := 5) hx hb dX11_image_144 (by decide) ?_
      refine lv_iload_n hx hb dX11_image_145 rfl (lv_at hl 1 rfl) ?_
      refine lv_imul hx hb dX11_image_146 ?_
      refine lv_topi (fun v2 ev2 => ?_)
      refine lv_aload_n hx hb dX11_image_147 rfl (lv_at hl 2 rfl) ?_
      refine va_get (D := D) (ci := 11) (v := .ref (a 45)) (C := RX11) (T := TX11) (N := 47) hx hb hts hin_X11 hown hK hP 0 rfl rfl 45 (by decide) (hts (.fieldLink RX11 70 "ClashFreeModel" "octets" "[I") (List.mem_of_getElem? (i := 11) rfl)) (fun _ h9 => h9) rfl dX11_image_148 ?_
      refine lv_iload_n hx hb dX11_image_151 rfl (lv_at hl 0 rfl) ?_
      refine va_iald hx hb hK hP 9 8 rfl rfl (vp_in_nI (by omega) (by decide)) dX11_image_152 ?_
      refine lv_topi (fun v3 ev3 => ?_)
      refine lv_iadd hx hb dX11_image_153 ?_
      refine lv_topi (fun v4 ev4 => ?_)
      refine lv_sipush (v := 253) hx hb dX11_image_154 (by decide) ?_
      refine lv_irem hx hb dX11_image_157 (by decide) ?_
      refine lv_topi (fun v5 ev5 => ?_)
      refine lv_istore_n (lv' := [(2, .int v5), (3, .int (nI y)), (0, .ref h0)]) hx hb dX11_image_158 rfl hl (by decide) rfl (fun ls hl => ?_)
      refine lv_iinc (v := nI (y + 1)) (lv' := [(3, .int (nI (y + 1))), (2, .int v5), (0, .ref h0)]) hx hb dX11_image_159 hl (k := 1) rfl (nI_1 _) (by decide) rfl (fun ls hl => ?_)
      refine lv_goto (tgt := 136) hx hb dX11_image_162 (by decide) ?_
      exact ih (y + 1) v5 (by omega) (by omega) H locs ls (hP.sub [0, 1, 2, 3, 4, 5, 6, 7, 8, 9] rfl) (hD.sub [0, 1, 2, 3, 4, 5, 6, 7, 8, 9] (by decide) rfl) hS (lv_sub hl [0, 1, 2] rfl)
set_option maxHeartbeats 4000000 in
set_option maxRecDepth 100000 in
theorem c_imageM (l : Launch) (D : va_G) (sz : Nat) (h0 : Nat) (a : Nat → Nat) (cm : Nat → ClassId) (i : Nat → Int32) (g : Nat → Int64) (fn : Nat → Int64) (fk : Nat → Int32) (fv : Nat → Int32) (fb : Nat → Int32) (ff : Nat → Int32) (fh : Nat → Int32) (fa : Nat → Int64) (fs : Nat → Int64) (fy : Nat → Int32) (z1 : Int32) (no : Nat) (hM : MInv fn fk fb ff fh fa fs) (htp : i 46 = nI no) (htp2 : no ≤ 1400) : Met l yX11_image wp_c_imageM ({ frames := 6, cells := 0, slots := 0, locals := 60 }) (PcW D [.ref h0, .int z1] sz [(h0, .inr (11, gM a i g)), (a 3, .inl (cm 3, 85, .inr (.inl fn))), (a 4, .inl (cm 4, 800, .inl fk)), (a 5, .inl (cm 5, 800, .inl fv)), (a 6, .inl (cm 6, 800, .inl fb)), (a 8, .inl (cm 8, 10240, .inl ff)), (a 9, .inl (cm 9, 10240, .inl fh)), (a 10, .inl (cm 10, 10240, .inr (.inl fa))), (a 11, .inl (cm 11, 10240, .inr (.inl fs))), (a 45, .inl (cm 45, 1400, .inl fy))] [(cm 3, .long), (cm 4, .int), (cm 5, .int), (cm 6, .int), (cm 8, .int), (cm 9, .int), (cm 10, .long), (cm 11, .long), (cm 45, .int)]) (va_Qi (fun (r : Int32) (u : (Nat → Int32) × (Int32) × (Int32)) => (∃ q, u.2.2 = nI q ∧ q ≤ 1400) ∧ r = imA (there fn z1) (lsR fn fk fv) z1) (fun (u : (Nat → Int32) × (Int32) × (Int32)) t => va_P D vwCl [(h0, .inr (11, gM a (upd (upd i 0 u.2.1) 46 u.2.2) g)), (a 3, .inl (cm 3, 85, .inr (.inl fn))), (a 4, .inl (cm 4, 800, .inl fk)), (a 5, .inl (cm 5, 800, .inl fv)), (a 6, .inl (cm 6, 800, .inl fb)), (a 8, .inl (cm 8, 10240, .inl ff)), (a 9, .inl (cm 9, 10240, .inl fh)), (a 10, .inl (cm 10, 10240, .inr (.inl fa))), (a 11, .inl (cm 11, 10240, .inr (.inl fs))), (a 45, .inl (cm 45, 1400, .inl u.1))] t.heap ∧ va_K D vwCl [(cm 3, .long), (cm 4, .int), (cm 5, .int), (cm 6, .int), (cm 8, .int), (cm 9, .int), (cm 10, .long), (cm 11, .long), (cm 45, .int)] t ∧ va_D (va_A [(h0, .inr (11, gM a i g)), (a 3, .inl (cm 3, 85, .inr (.inl fn))), (a 4, .inl (cm 4, 800, .inl fk)), (a 5, .inl (cm 5, 800, .inl fv)), (a 6, .inl (cm 6, 800, .inl fb)), (a 8, .inl (cm 8, 10240, .inl ff)), (a 9, .inl (cm 9, 10240, .inl fh)), (a 10, .inl (cm 10, 10240, .inr (.inl fa))), (a 11, .inl (cm 11, 10240, .inr (.inl fs))), (a 45, .inl (cm 45, 1400, .inl fy))] sz) [(h0, .inr (11, gM a (upd (upd i 0 u.2.1) 46 u.2.2) g)), (a 3, .inl (cm 3, 85, .inr (.inl fn))), (a 4, .inl (cm 4, 800, .inl fk)), (a 5, .inl (cm 5, 800, .inl fv)), (a 6, .inl (cm 6, 800, .inl fb)), (a 8, .inl (cm 8, 10240, .inl ff)), (a 9, .inl (cm 9, 10240, .inl fh)), (a 10, .inl (cm 10, 10240, .inr (.inl fa))), (a 11, .inl (cm 11, 10240, .inr (.inl fs))), (a 45, .inl (cm 45, 1400, .inl u.1))]) (va_A [(h0, .inr (11, gM a i g)), (a 3, .inl (cm 3, 85, .inr (.inl fn))), (a 4, .inl (cm 4, 800, .inl fk)), (a 5, .inl (cm 5, 800, .inl fv)), (a 6, .inl (cm 6, 800, .inl fb)), (a 8, .inl (cm 8, 10240, .inl ff)), (a 9, .inl (cm 9, 10240, .inl fh)), (a 10, .inl (cm 10, 10240, .inr (.inl fa))), (a 11, .inl (cm 11, 10240, .inr (.inl fs))), (a 45, .inl (cm 45, 1400, .inl fy))] sz)) 0 0 (va_A [(h0, .inr (11, gM a i g)), (a 3, .inl (cm 3, 85, .inr (.inl fn))), (a 4, .inl (cm 4, 800, .inl fk)), (a 5, .inl (cm 5, 800, .inl fv)), (a 6, .inl (cm 6, 800, .inl fb)), (a 8, .inl (cm 8, 10240, .inl ff)), (a 9, .inl (cm 9, 10240, .inl fh)), (a 10, .inl (cm 10, 10240, .inr (.inl fa))), (a 11, .inl (cm 11, 10240, .inr (.inl fs))), (a 45, .inl (cm 45, 1400, .inl fy))] sz) := by
  refine Met.ofW (cc := cX11_image) (maxL := 4) (ret := (some .int)) (by decide) rfl ?_
  intro p e s m args below meth c s₁ B hml hv
  obtain ⟨rfl, hsz, hP, hK, hD0⟩ := hv
  have hx := B.exec
  have hb := B.bytes
  have hr := B.returns
  have hts := atoms_spec (ws := wp_c_imageM) B.pre
  have hin_X11 : ∀ w ∈ wsX110, w ∈ wp_c_imageM := fun _ h => (List.mem_cons_of_mem _ (List.mem_append_right _ (List.mem_append_right _ (List.mem_append_right _ (List.mem_append_right _ (List.mem_append_right _ (List.mem_append_right _ (List.mem_append_left _ h))))))))
  have hown : s.vm.findClass RX11 = some m.cls := findClass_of_methodNamed B.named
  have hlocks := B.notSynchronized
  subst hsz
  have hD := hD0.self (sz := s.heap.size)
  generalize hAe : va_A [(h0, .inr (11, gM a i g)), (a 3, .inl (cm 3, 85, .inr (.inl fn))), (a 4, .inl (cm 4, 800, .inl fk)), (a 5, .inl (cm 5, 800, .inl fv)), (a 6, .inl (cm 6, 800, .inl fb)), (a 8, .inl (cm 8, 10240, .inl ff)), (a 9, .inl (cm 9, 10240, .inl fh)), (a 10, .inl (cm 10, 10240, .inr (.inl fa))), (a 11, .inl (cm 11, 10240, .inr (.inl fs))), (a 45, .inl (cm 45, 1400, .inl fy))] s.heap.size = A at hD ⊢
  have hA : ∀ q : Nat, s.heap.size ≤ q → A q := fun q h => by rw [← hAe]; exact Or.inr h
  have hS : va_S A s.heap s.heap [] := va_S.rf
  have hP : va_P D vwCl [(h0, .inr (11, gM a i g)), (a 3, .inl (cm 3, 85, .inr (.inl fn))), (a 4, .inl (cm 4, 800, .inl fk)), (a 5, .inl (cm 5, 800, .inl fv)), (a 6, .inl (cm 6, 800, .inl fb)), (a 8, .inl (cm 8, 10240, .inl ff)), (a 9, .inl (cm 9, 10240, .inl fh)), (a 10, .inl (cm 10, 10240, .inr (.inl fa))), (a 11, .inl (cm 11, 10240, .inr (.inl fs))), (a 45, .inl (cm 45, 1400, .inl fy))] s.heap := hP
  have hl := lv_entry ([.ref h0, .int z1]) (n := 4) (Nat.le_of_ble_eq_true rfl)
  rw [lg_entry_eq]
  generalize (lg_sl ([.ref h0, .int z1]) ++ List.replicate (4 - (lg_sl ([.ref h0, .int z1])).length) Slot.unset).toArray = ls at hl ⊢
  have hl : lv_has ls 4 [(0, .ref h0), (1, .int z1)] := hl
  refine lv_aload_n hx hb dX11_image_0 rfl (lv_at hl 0 rfl) ?_
  refine lv_iconst (v := 0) hx hb dX11_image_1 (by decide) ?_
  refine va_put (D := D) (ci := 11) (v := .int 0) (ty := .int) (C := RX11) (T := TX11) (N := 47) hx hb hts hin_X11 tyX11 tyX11_ok nmX11 hown hK hP hD hS 0 rfl rfl 0 (by decide) (hts (.fieldLink RX11 73 "ClashFreeModel" "thrown" "I") (List.mem_of_getElem? (i := 12) rfl)) (fun _ h9 => h9) rfl (by decide +kernel) rfl rfl (Nat.le_of_ble_eq_true rfl) dX11_image_2 (fun H locs hP hD hS => ?_)
  have hP : va_P D vwCl [(h0, .inr (11, gM a (upd i 0 0) g)), (a 3, .inl (cm 3, 85, .inr (.inl fn))), (a 4, .inl (cm 4, 800, .inl fk)), (a 5, .inl (cm 5, 800, .inl fv)), (a 6, .inl (cm 6, 800, .inl fb)), (a 8, .inl (cm 8, 10240, .inl ff)), (a 9, .inl (cm 9, 10240, .inl fh)), (a 10, .inl (cm 10, 10240, .inr (.inl fa))), (a 11, .inl (cm 11, 10240, .inr (.inl fs))), (a 45, .inl (cm 45, 1400, .inl fy))] H := hP
  have hD : va_D A [(h0, .inr (11, gM a (upd i 0 0) g)), (a 3, .inl (cm 3, 85, .inr (.inl fn))), (a 4, .inl (cm 4, 800, .inl fk)), (a 5, .inl (cm 5, 800, .inl fv)), (a 6, .inl (cm 6, 800, .inl fb)), (a 8, .inl (cm 8, 10240, .inl ff)), (a 9, .inl (cm 9, 10240, .inl fh)), (a 10, .inl (cm 10, 10240, .inr (.inl fa))), (a 11, .inl (cm 11, 10240, .inr (.inl fs))), (a 45, .inl (cm 45, 1400, .inl fy))] := hD
  refine lv_aload_n hx hb dX11_image_5 rfl (lv_at hl 0 rfl) ?_
  refine lv_iload_n hx hb dX11_image_6 rfl (lv_at hl 1 rfl) ?_
  have hPc := hP.sub (ws' := [(h0, .inr (11, gM a (upd i 0 0) g)), (a 3, .inl (cm 3, 85, .inr (.inl fn)))]) [0, 1] rfl
  have hKc := hK.sub (tys' := [(cm 3, .long)]) [0] rfl
  have hFc := va_free0 hS hA
  refine va_calli (va_runV (As := [.int z1]) (rest := []) ⟨hx, hb, hml, hown, hts⟩ (c_isThere l D _ h0 a cm (upd i 0 0) g fn z1) (cwV 1 hts g_c_imageM_c_isThere_222 rfl rfl rfl (by decide +kernel) ⟨(Nat.le_of_ble_eq_true rfl), (Nat.le_of_ble_eq_true rfl)⟩) (PcR_V (q0 := 0) hPc hKc rfl rfl) rfl rfl hl.1 rfl (lv_room (Nat.le_of_ble_eq_true rfl)) dX11_image_7 ⟨(Nat.le_of_ble_eq_true rfl), (Nat.le_of_ble_eq_true rfl)⟩) hS (fun q _ h => hFc q h) hFc (fun r1 uu tt H locs htt hvm hw hB hz1 hk1 hS => ?_)
  have hP := va_keep hP hk1
  try dsimp only at hw
  clear hB hz1 hk1 hFc hPc hKc
  rcases hw with ⟨rfl, hA_r1⟩ | ⟨rfl, hA_r1⟩
  ·
    obtain ⟨k, hk, rfl, ht⟩ := hA_r1
    obtain ⟨cn, nb, K, J, hT⟩ := hM.2.2 k hk ht
    have hth := (show there fn (nI k) from ⟨k, hk, rfl, ht⟩)
    obtain ⟨h1, hcn, h4, hn1, hn2, ⟨ka, kb, hka, hkb, h6, h7⟩, hKy, hBk, hHs, ⟨bn, ns, gr, h14, hbn, h15, hs1, hs2, h16, hgr⟩⟩ := id hT
    refine lv_if_ne (tgt := 15) hx hb dX11_image_10 (by decide) (fun hc => ?_) (fun hc => absurd hc (by decide))
    refine lv_aload_n hx hb dX11_image_15 rfl (lv_at hl 0 rfl) ?_
    refine lv_iconst (v := 0) hx hb dX11_image_16 (by decide) ?_
    refine va_put (D := D) (ci := 11) (v := .int 0) (ty := .int) (C := RX11) (T := TX11) (N := 47) hx hb hts hin_X11 tyX11 tyX11_ok nmX11 hown hK hP hD hS 0 rfl rfl 46 (by decide) (hts (.fieldLink RX11 437 "ClashFreeModel" "octetMany" "I") (List.mem_of_getElem? (i := 10) rfl)) (fun _ h9 => h9) rfl (by decide +kernel) rfl rfl (Nat.le_of_ble_eq_true rfl) dX11_image_17 (fun H locs hP hD hS => ?_)
    have hP : va_P D vwCl [(h0, .inr (11, gM a (upd (upd i 0 0) 46 0) g)), (a 3, .inl (cm 3, 85, .inr (.inl fn))), (a 4, .inl (cm 4, 800, .inl fk)), (a 5, .inl (cm 5, 800, .inl fv)), (a 6, .inl (cm 6, 800, .inl fb)), (a 8, .inl (cm 8, 10240, .inl ff)), (a 9, .inl (cm 9, 10240, .inl fh)), (a 10, .inl (cm 10, 10240, .inr (.inl fa))), (a 11, .inl (cm 11, 10240, .inr (.inl fs))), (a 45, .inl (cm 45, 1400, .inl fy))] H := hP
    have hD : va_D A [(h0, .inr (11, gM a (upd (upd i 0 0) 46 0) g)), (a 3, .inl (cm 3, 85, .inr (.inl fn))), (a 4, .inl (cm 4, 800, .inl fk)), (a 5, .inl (cm 5, 800, .inl fv)), (a 6, .inl (cm 6, 800, .inl fb)), (a 8, .inl (cm 8, 10240, .inl ff)), (a 9, .inl (cm 9, 10240, .inl fh)), (a 10, .inl (cm 10, 10240, .inr (.inl fa))), (a 11, .inl (cm 11, 10240, .inr (.inl fs))), (a 45, .inl (cm 45, 1400, .inl fy))] := hD
    refine lv_aload_n hx hb dX11_image_20 rfl (lv_at hl 0 rfl) ?_
    refine lv_aload_n hx hb dX11_image_21 rfl (lv_at hl 0 rfl) ?_
    refine lv_iload_n hx hb dX11_image_22 rfl (lv_at hl 1 rfl) ?_
    refine lv_bipush (v := 14) hx hb dX11_image_23 (by decide) ?_
    have hPc := hP.sub (ws' := [(h0, .inr (11, gM a (upd (upd i 0 0) 46 0) g)), (a 3, .inl (cm 3, 85, .inr (.inl fn)))]) [0, 1] rfl
    have hKc := hK.sub (tys' := [(cm 3, .long)]) [0] rfl
    have hFc := va_free0 hS hA
    refine va_calll (va_runV (As := [.int (nI k), .int (nI 14)]) (rest := [.ref h0]) ⟨hx, hb, hml, hown, hts⟩ (c_of l D _ h0 a cm (upd (upd i 0 0) 46 0) g fn k 14 (by first | assumption | omega) (by first | assumption | omega)) (cwV 2 hts g_c_imageM_c_of_89 rfl rfl rfl (by decide +kernel) ⟨(Nat.le_of_ble_eq_true rfl), (Nat.le_of_ble_eq_true rfl)⟩) (PcR_V (q0 := 0) hPc hKc rfl rfl) rfl rfl hl.1 rfl (lv_room (Nat.le_of_ble_eq_true rfl)) dX11_image_25 ⟨(Nat.le_of_ble_eq_true rfl), (Nat.le_of_ble_eq_true rfl)⟩) hS (fun q _ h => hFc q h) hFc (fun r2 uu tt H locs htt hvm hw hB hz1 hk1 hS => ?_)
    have hP := va_keep hP hk1
    try dsimp only at hw
    clear hB hz1 hk1 hFc hPc hKc
    obtain rfl : r2 = fn (17 * k + 14) := hw
    refine lv_topl (fun v3 ev3 => ?_)
    obtain rfl : v3 = lN bn := ev3.trans (h14)
    refine lv_iconst (v := 1) hx hb dX11_image_28 (by decide) ?_
    have hPc := hP.sub (ws' := [(h0, .inr (11, gM a (upd (upd i 0 0) 46 0) g)), (a 45, .inl (cm 45, 1400, .inl fy))]) [0, 9] rfl
    have hKc := hK.sub (tys' := [(cm 45, .int)]) [8] rfl
    have hDc := hD.sub (ws' := [(h0, .inr (11, gM a (upd (upd i 0 0) 46 0) g)), (a 45, .inl (cm 45, 1400, .inl fy))]) [0, 9] (by decide) rfl
    have hFc := va_free (wc := [(h0, .inr (11, gM a (upd (upd i 0 0) 46 0) g)), (a 45, .inl (cm 45, 1400, .inl fy))]) hD hS hA [0, 9] rfl
    refine va_callv (va_runV (As := [.long (lN bn), .int (nI 1)]) (rest := []) ⟨hx, hb, hml, hown, hts⟩ (c_octetsOf l D _ h0 a cm (upd (upd i 0 0) 46 0) g fy (lN bn) 0 1 rfl (by omega) (by omega)) (cwV 2 hts g_c_imageM_c_octetsOf_446 rfl rfl rfl (by decide +kernel) ⟨(Nat.le_of_ble_eq_true rfl), (Nat.le_of_ble_eq_true rfl)⟩) (PcW_V (q0 := 0) hPc hKc hDc rfl rfl) rfl rfl hl.1 rfl (lv_room (Nat.le_of_ble_eq_true rfl)) dX11_image_29 ⟨(Nat.le_of_ble_eq_true rfl), (Nat.le_of_ble_eq_true rfl)⟩) hS (fun q _ h => hFc q h) hFc (fun uu tt H locs htt hvm hw hB hz1 hk1 hS => ?_)
    obtain ⟨w5, w6⟩ := uu
    obtain ⟨hP1, hK1, hD1⟩ := hB
    rw [htt] at hP1
    have hK1 := va_K.moved hvm.symm hK1
    have hP1 : va_P D vwCl [(h0, .inr (11, gM a (upd (upd i 0 0) 46 w6) g)), (a 45, .inl (cm 45, 1400, .inl w5))] H := hP1
    obtain ⟨hP, hD⟩ := va_join (wr := [(a 3, .inl (cm 3, 85, .inr (.inl fn))), (a 4, .inl (cm 4, 800, .inl fk)), (a 5, .inl (cm 5, 800, .inl fv)), (a 6, .inl (cm 6, 800, .inl fb)), (a 8, .inl (cm 8, 10240, .inl ff)), (a 9, .inl (cm 9, 10240, .inl fh)), (a 10, .inl (cm 10, 10240, .inr (.inl fa))), (a 11, .inl (cm 11, 10240, .inr (.inl fs)))]) (w1 := [(h0, .inr (11, gM a (upd (upd i 0 0) 46 w6) g)), (a 45, .inl (cm 45, 1400, .inl w5))]) hP hD [0, 9] [1, 2, 3, 4, 5, 6, 7, 8] rfl rfl (by decide) (by decide) hk1 hFc hP1 hD1
    have hP : va_P D vwCl [(a 3, .inl (cm 3, 85, .inr (.inl fn))), (a 4, .inl (cm 4, 800, .inl fk)), (a 5, .inl (cm 5, 800, .inl fv)), (a 6, .inl (cm 6, 800, .inl fb)), (a 8, .inl (cm 8, 10240, .inl ff)), (a 9, .inl (cm 9, 10240, .inl fh)), (a 10, .inl (cm 10, 10240, .inr (.inl fa))), (a 11, .inl (cm 11, 10240, .inr (.inl fs))), (h0, .inr (11, gM a (upd (upd i 0 0) 46 w6) g)), (a 45, .inl (cm 45, 1400, .inl w5))] H := hP
    have hD : va_D A [(a 3, .inl (cm 3, 85, .inr (.inl fn))), (a 4, .inl (cm 4, 800, .inl fk)), (a 5, .inl (cm 5, 800, .inl fv)), (a 6, .inl (cm 6, 800, .inl fb)), (a 8, .inl (cm 8, 10240, .inl ff)), (a 9, .inl (cm 9, 10240, .inl fh)), (a 10, .inl (cm 10, 10240, .inr (.inl fa))), (a 11, .inl (cm 11, 10240, .inr (.inl fs))), (h0, .inr (11, gM a (upd (upd i 0 0) 46 w6) g)), (a 45, .inl (cm 45, 1400, .inl w5))] := hD
    try dsimp only at hw
    clear hz1 hk1 hFc hPc hKc hDc
    obtain rfl := hw
    have hP : va_P D vwCl [(a 3, .inl (cm 3, 85, .inr (.inl fn))), (a 4, .inl (cm 4, 800, .inl fk)), (a 5, .inl (cm 5, 800, .inl fv)), (a 6, .inl (cm 6, 800, .inl fb)), (a 8, .inl (cm 8, 10240, .inl ff)), (a 9, .inl (cm 9, 10240, .inl fh)), (a 10, .inl (cm 10, 10240, .inr (.inl fa))), (a 11, .inl (cm 11, 10240, .inr (.inl fs))), (h0, .inr (11, gM a (upd (upd i 0 0) 46 (nI (0 + 1))) g)), (a 45, .inl (cm 45, 1400, .inl w5))] H := hP
    have hD : va_D A [(a 3, .inl (cm 3, 85, .inr (.inl fn))), (a 4, .inl (cm 4, 800, .inl fk)), (a 5, .inl (cm 5, 800, .inl fv)), (a 6, .inl (cm 6, 800, .inl fb)), (a 8, .inl (cm 8, 10240, .inl ff)), (a 9, .inl (cm 9, 10240, .inl fh)), (a 10, .inl (cm 10, 10240, .inr (.inl fa))), (a 11, .inl (cm 11, 10240, .inr (.inl fs))), (h0, .inr (11, gM a (upd (upd i 0 0) 46 (nI (0 + 1))) g)), (a 45, .inl (cm 45, 1400, .inl w5))] := hD
    refine lv_aload_n hx hb dX11_image_32 rfl (lv_at hl 0 rfl) ?_
    refine lv_aload_n hx hb dX11_image_33 rfl (lv_at hl 0 rfl) ?_
    refine lv_iload_n hx hb dX11_image_34 rfl (lv_at hl 1 rfl) ?_
    refine lv_bipush (v := 15) hx hb dX11_image_35 (by decide) ?_
    have hPc := hP.sub (ws' := [(h0, .inr (11, gM a (upd (upd i 0 0) 46 (nI (0 + 1))) g)), (a 3, .inl (cm 3, 85, .inr (.inl fn)))]) [8, 0] rfl
    have hKc := hK.sub (tys' := [(cm 3, .long)]) [0] rfl
    have hFc := va_free0 hS hA
    refine va_calll (va_runV (As := [.int (nI k), .int (nI 15)]) (rest := [.ref h0]) ⟨hx, hb, hml, hown, hts⟩ (c_of l D _ h0 a cm (upd (upd i 0 0) 46 (nI (0 + 1))) g fn k 15 (by first | assumption | omega) (by first | assumption | omega)) (cwV 2 hts g_c_imageM_c_of_89 rfl rfl rfl (by decide +kernel) ⟨(Nat.le_of_ble_eq_true rfl), (Nat.le_of_ble_eq_true rfl)⟩) (PcR_V (q0 := 0) hPc hKc rfl rfl) rfl rfl hl.1 rfl (lv_room (Nat.le_of_ble_eq_true rfl)) dX11_image_37 ⟨(Nat.le_of_ble_eq_true rfl), (Nat.le_of_ble_eq_true rfl)⟩) hS (fun q _ h => hFc q h) hFc (fun r7 uu tt H locs htt hvm hw hB hz1 hk1 hS => ?_)
    have hP := va_keep hP hk1
    try dsimp only at hw
    clear hB hz1 hk1 hFc hPc hKc
    obtain rfl : r7 = fn (17 * k + 15) := hw
    refine lv_topl (fun v8 ev8 => ?_)
    obtain rfl : v8 = lN ns := ev8.trans (h15)
    refine lv_iconst (v := 2) hx hb dX11_image_40 (by decide) ?_
    have hPc := hP.sub (ws' := [(h0, .inr (11, gM a (upd (upd i 0 0) 46 (nI (0 + 1))) g)), (a 45, .inl (cm 45, 1400, .inl w5))]) [8, 9] rfl
    have hKc := hK.sub (tys' := [(cm 45, .int)]) [8] rfl
    have hDc := hD.sub (ws' := [(h0, .inr (11, gM a (upd (upd i 0 0) 46 (nI (0 + 1))) g)), (a 45, .inl (cm 45, 1400, .inl w5))]) [8, 9] (by decide) rfl
    have hFc := va_free (wc := [(h0, .inr (11, gM a (upd (upd i 0 0) 46 (nI (0 + 1))) g)), (a 45, .inl (cm 45, 1400, .inl w5))]) hD hS hA [8, 9] rfl
    refine va_callv (va_runV (As := [.long (lN ns), .int (nI 2)]) (rest := []) ⟨hx, hb, hml, hown, hts⟩ (c_octetsOf l D _ h0 a cm (upd (upd i 0 0) 46 (nI (0 + 1))) g w5 (lN ns) (0 + 1) 2 rfl (by omega) (by omega)) (cwV 2 hts g_c_imageM_c_octetsOf_446 rfl rfl rfl (by decide +kernel) ⟨(Nat.le_of_ble_eq_true rfl), (Nat.le_of_ble_eq_true rfl)⟩) (PcW_V (q0 := 0) hPc hKc hDc rfl rfl) rfl rfl hl.1 rfl (lv_room (Nat.le_of_ble_eq_true rfl)) dX11_image_41 ⟨(Nat.le_of_ble_eq_true rfl), (Nat.le_of_ble_eq_true rfl)⟩) hS (fun q _ h => hFc q h) hFc (fun uu tt H locs htt hvm hw hB hz1 hk1 hS => ?_)
    obtain ⟨w10, w11⟩ := uu
    obtain ⟨hP1, hK1, hD1⟩ := hB
    rw [htt] at hP1
    have hK1 := va_K.moved hvm.symm hK1
    have hP1 : va_P D vwCl [(h0, .inr (11, gM a (upd (upd i 0 0) 46 w11) g)), (a 45, .inl (cm 45, 1400, .inl w10))] H := hP1
    obtain ⟨hP, hD⟩ := va_join (wr := [(a 3, .inl (cm 3, 85, .inr (.inl fn))), (a 4, .inl (cm 4, 800, .inl fk)), (a 5, .inl (cm 5, 800, .inl fv)), (a 6, .inl (cm 6, 800, .inl fb)), (a 8, .inl (cm 8, 10240, .inl ff)), (a 9, .inl (cm 9, 10240, .inl fh)), (a 10, .inl (cm 10, 10240, .inr (.inl fa))), (a 11, .inl (cm 11, 10240, .inr (.inl fs)))]) (w1 := [(h0, .inr (11, gM a (upd (upd i 0 0) 46 w11) g)), (a 45, .inl (cm 45, 1400, .inl w10))]) hP hD [8, 9] [0, 1, 2, 3, 4, 5, 6, 7] rfl rfl (by decide) (by decide) hk1 hFc hP1 hD1
    have hP : va_P D vwCl [(a 3, .inl (cm 3, 85, .inr (.inl fn))), (a 4, .inl (cm 4, 800, .inl fk)), (a 5, .inl (cm 5, 800, .inl fv)), (a 6, .inl (cm 6, 800, .inl fb)), (a 8, .inl (cm 8, 10240, .inl ff)), (a 9, .inl (cm 9, 10240, .inl fh)), (a 10, .inl (cm 10, 10240, .inr (.inl fa))), (a 11, .inl (cm 11, 10240, .inr (.inl fs))), (h0, .inr (11, gM a (upd (upd i 0 0) 46 w11) g)), (a 45, .inl (cm 45, 1400, .inl w10))] H := hP
    have hD : va_D A [(a 3, .inl (cm 3, 85, .inr (.inl fn))), (a 4, .inl (cm 4, 800, .inl fk)), (a 5, .inl (cm 5, 800, .inl fv)), (a 6, .inl (cm 6, 800, .inl fb)), (a 8, .inl (cm 8, 10240, .inl ff)), (a 9, .inl (cm 9, 10240, .inl fh)), (a 10, .inl (cm 10, 10240, .inr (.inl fa))), (a 11, .inl (cm 11, 10240, .inr (.inl fs))), (h0, .inr (11, gM a (upd (upd i 0 0) 46 w11) g)), (a 45, .inl (cm 45, 1400, .inl w10))] := hD
    try dsimp only at hw
    clear hz1 hk1 hFc hPc hKc hDc
    obtain rfl := hw
    have hP : va_P D vwCl [(a 3, .inl (cm 3, 85, .inr (.inl fn))), (a 4, .inl (cm 4, 800, .inl fk)), (a 5, .inl (cm 5, 800, .inl fv)), (a 6, .inl (cm 6, 800, .inl fb)), (a 8, .inl (cm 8, 10240, .inl ff)), (a 9, .inl (cm 9, 10240, .inl fh)), (a 10, .inl (cm 10, 10240, .inr (.inl fa))), (a 11, .inl (cm 11, 10240, .inr (.inl fs))), (h0, .inr (11, gM a (upd (upd i 0 0) 46 (nI (0 + 3))) g)), (a 45, .inl (cm 45, 1400, .inl w10))] H := hP
    have hD : va_D A [(a 3, .inl (cm 3, 85, .inr (.inl fn))), (a 4, .inl (cm 4, 800, .inl fk)), (a 5, .inl (cm 5, 800, .inl fv)), (a 6, .inl (cm 6, 800, .inl fb)), (a 8, .inl (cm 8, 10240, .inl ff)), (a 9, .inl (cm 9, 10240, .inl fh)), (a 10, .inl (cm 10, 10240, .inr (.inl fa))), (a 11, .inl (cm 11, 10240, .inr (.inl fs))), (h0, .inr (11, gM a (upd (upd i 0 0) 46 (nI (0 + 3))) g)), (a 45, .inl (cm 45, 1400, .inl w10))] := hD
    refine lv_aload_n hx hb dX11_image_44 rfl (lv_at hl 0 rfl) ?_
    refine lv_aload_n hx hb dX11_image_45 rfl (lv_at hl 0 rfl) ?_
    refine lv_iload_n hx hb dX11_image_46 rfl (lv_at hl 1 rfl) ?_
    refine lv_bipush (v := 16) hx hb dX11_image_47 (by decide) ?_
    have hPc := hP.sub (ws' := [(h0, .inr (11, gM a (upd (upd i 0 0) 46 (nI (0 + 3))) g)), (a 3, .inl (cm 3, 85, .inr (.inl fn)))]) [8, 0] rfl
    have hKc := hK.sub (tys' := [(cm 3, .long)]) [0] rfl
    have hFc := va_free0 hS hA
    refine va_calll (va_runV (As := [.int (nI k), .int (nI 16)]) (rest := [.ref h0]) ⟨hx, hb, hml, hown, hts⟩ (c_of l D _ h0 a cm (upd (upd i 0 0) 46 (nI (0 + 3))) g fn k 16 (by first | assumption | omega) (by first | assumption | omega)) (cwV 2 hts g_c_imageM_c_of_89 rfl rfl rfl (by decide +kernel) ⟨(Nat.le_of_ble_eq_true rfl), (Nat.le_of_ble_eq_true rfl)⟩) (PcR_V (q0 := 0) hPc hKc rfl rfl) rfl rfl hl.1 rfl (lv_room (Nat.le_of_ble_eq_true rfl)) dX11_image_49 ⟨(Nat.le_of_ble_eq_true rfl), (Nat.le_of_ble_eq_true rfl)⟩) hS (fun q _ h => hFc q h) hFc (fun r12 uu tt H locs htt hvm hw hB hz1 hk1 hS => ?_)
    have hP := va_keep hP hk1
    try dsimp only at hw
    clear hB hz1 hk1 hFc hPc hKc
    obtain rfl : r12 = fn (17 * k + 16) := hw
    refine lv_topl (fun v13 ev13 => ?_)
    obtain rfl : v13 = lN gr := ev13.trans (h16)
    refine lv_iconst (v := 1) hx hb dX11_image_52 (by decide) ?_
    have hPc := hP.sub (ws' := [(h0, .inr (11, gM a (upd (upd i 0 0) 46 (nI (0 + 3))) g)), (a 45, .inl (cm 45, 1400, .inl w10))]) [8, 9] rfl
    have hKc := hK.sub (tys' := [(cm 45, .int)]) [8] rfl
    have hDc := hD.sub (ws' := [(h0, .inr (11, gM a (upd (upd i 0 0) 46 (nI (0 + 3))) g)), (a 45, .inl (cm 45, 1400, .inl w10))]) [8, 9] (by decide) rfl
    have hFc := va_free (wc := [(h0, .inr (11, gM a (upd (upd i 0 0) 46 (nI (0 + 3))) g)), (a 45, .inl (cm 45, 1400, .inl w10))]) hD hS hA [8, 9] rfl
    refine va_callv (va_runV (As := [.long (lN gr), .int (nI 1)]) (rest := []) ⟨hx, hb, hml, hown, hts⟩ (c_octetsOf l D _ h0 a cm (upd (upd i 0 0) 46 (nI (0 + 3))) g w10 (lN gr) (0 + 3) 1 rfl (by omega) (by omega)) (cwV 2 hts g_c_imageM_c_octetsOf_446 rfl rfl rfl (by decide +kernel) ⟨(Nat.le_of_ble_eq_true rfl), (Nat.le_of_ble_eq_true rfl)⟩) (PcW_V (q0 := 0) hPc hKc hDc rfl rfl) rfl rfl hl.1 rfl (lv_room (Nat.le_of_ble_eq_true rfl)) dX11_image_53 ⟨(Nat.le_of_ble_eq_true rfl), (Nat.le_of_ble_eq_true rfl)⟩) hS (fun q _ h => hFc q h) hFc (fun uu tt H locs htt hvm hw hB hz1 hk1 hS => ?_)
    obtain ⟨w15, w16⟩ := uu
    obtain ⟨hP1, hK1, hD1⟩ := hB
    rw [htt] at hP1
    have hK1 := va_K.moved hvm.symm hK1
    have hP1 : va_P D vwCl [(h0, .inr (11, gM a (upd (upd i 0 0) 46 w16) g)), (a 45, .inl (cm 45, 1400, .inl w15))] H := hP1
    obtain ⟨hP, hD⟩ := va_join (wr := [(a 3, .inl (cm 3, 85, .inr (.inl fn))), (a 4, .inl (cm 4, 800, .inl fk)), (a 5, .inl (cm 5, 800, .inl fv)), (a 6, .inl (cm 6, 800, .inl fb)), (a 8, .inl (cm 8, 10240, .inl ff)), (a 9, .inl (cm 9, 10240, .inl fh)), (a 10, .inl (cm 10, 10240, .inr (.inl fa))), (a 11, .inl (cm 11, 10240, .inr (.inl fs)))]) (w1 := [(h0, .inr (11, gM a (upd (upd i 0 0) 46 w16) g)), (a 45, .inl (cm 45, 1400, .inl w15))]) hP hD [8, 9] [0, 1, 2, 3, 4, 5, 6, 7] rfl rfl (by decide) (by decide) hk1 hFc hP1 hD1
    have hP : va_P D vwCl [(a 3, .inl (cm 3, 85, .inr (.inl fn))), (a 4, .inl (cm 4, 800, .inl fk)), (a 5, .inl (cm 5, 800, .inl fv)), (a 6, .inl (cm 6, 800, .inl fb)), (a 8, .inl (cm 8, 10240, .inl ff)), (a 9, .inl (cm 9, 10240, .inl fh)), (a 10, .inl (cm 10, 10240, .inr (.inl fa))), (a 11, .inl (cm 11, 10240, .inr (.inl fs))), (h0, .inr (11, gM a (upd (upd i 0 0) 46 w16) g)), (a 45, .inl (cm 45, 1400, .inl w15))] H := hP
    have hD : va_D A [(a 3, .inl (cm 3, 85, .inr (.inl fn))), (a 4, .inl (cm 4, 800, .inl fk)), (a 5, .inl (cm 5, 800, .inl fv)), (a 6, .inl (cm 6, 800, .inl fb)), (a 8, .inl (cm 8, 10240, .inl ff)), (a 9, .inl (cm 9, 10240, .inl fh)), (a 10, .inl (cm 10, 10240, .inr (.inl fa))), (a 11, .inl (cm 11, 10240, .inr (.inl fs))), (h0, .inr (11, gM a (upd (upd i 0 0) 46 w16) g)), (a 45, .inl (cm 45, 1400, .inl w15))] := hD
    try dsimp only at hw
    clear hz1 hk1 hFc hPc hKc hDc
    obtain rfl := hw
    have hP : va_P D vwCl [(a 3, .inl (cm 3, 85, .inr (.inl fn))), (a 4, .inl (cm 4, 800, .inl fk)), (a 5, .inl (cm 5, 800, .inl fv)), (a 6, .inl (cm 6, 800, .inl fb)), (a 8, .inl (cm 8, 10240, .inl ff)), (a 9, .inl (cm 9, 10240, .inl fh)), (a 10, .inl (cm 10, 10240, .inr (.inl fa))), (a 11, .inl (cm 11, 10240, .inr (.inl fs))), (h0, .inr (11, gM a (upd (upd i 0 0) 46 (nI (0 + 4))) g)), (a 45, .inl (cm 45, 1400, .inl w15))] H := hP
    have hD : va_D A [(a 3, .inl (cm 3, 85, .inr (.inl fn))), (a 4, .inl (cm 4, 800, .inl fk)), (a 5, .inl (cm 5, 800, .inl fv)), (a 6, .inl (cm 6, 800, .inl fb)), (a 8, .inl (cm 8, 10240, .inl ff)), (a 9, .inl (cm 9, 10240, .inl fh)), (a 10, .inl (cm 10, 10240, .inr (.inl fa))), (a 11, .inl (cm 11, 10240, .inr (.inl fs))), (h0, .inr (11, gM a (upd (upd i 0 0) 46 (nI (0 + 4))) g)), (a 45, .inl (cm 45, 1400, .inl w15))] := hD
    refine lv_aload_n hx hb dX11_image_56 rfl (lv_at hl 0 rfl) ?_
    refine lv_aload_n hx hb dX11_image_57 rfl (lv_at hl 0 rfl) ?_
    refine lv_iload_n hx hb dX11_image_58 rfl (lv_at hl 1 rfl) ?_
    refine lv_bipush (v := 13) hx hb dX11_image_59 (by decide) ?_
    have hPc := hP.sub (ws' := [(h0, .inr (11, gM a (upd (upd i 0 0) 46 (nI (0 + 4))) g)), (a 3, .inl (cm 3, 85, .inr (.inl fn)))]) [8, 0] rfl
    have hKc := hK.sub (tys' := [(cm 3, .long)]) [0] rfl
    have hFc := va_free0 hS hA
    refine va_calll (va_runV (As := [.int (nI k), .int (nI 13)]) (rest := [.ref h0]) ⟨hx, hb, hml, hown, hts⟩ (c_of l D _ h0 a cm (upd (upd i 0 0) 46 (nI (0 + 4))) g fn k 13 (by first | assumption | omega) (by first | assumption | omega)) (cwV 2 hts g_c_imageM_c_of_89 rfl rfl rfl (by decide +kernel) ⟨(Nat.le_of_ble_eq_true rfl), (Nat.le_of_ble_eq_true rfl)⟩) (PcR_V (q0 := 0) hPc hKc rfl rfl) rfl rfl hl.1 rfl (lv_room (Nat.le_of_ble_eq_true rfl)) dX11_image_61 ⟨(Nat.le_of_ble_eq_true rfl), (Nat.le_of_ble_eq_true rfl)⟩) hS (fun q _ h => hFc q h) hFc (fun r17 uu tt H locs htt hvm hw hB hz1 hk1 hS => ?_)
    have hP := va_keep hP hk1
    try dsimp only at hw
    clear hB hz1 hk1 hFc hPc hKc
    obtain rfl : r17 = fn (17 * k + 13) := hw
    refine lv_bipush (v := 8) hx hb dX11_image_64 (by decide) ?_
    have hPc := hP.sub (ws' := [(h0, .inr (11, gM a (upd (upd i 0 0) 46 (nI (0 + 4))) g)), (a 45, .inl (cm 45, 1400, .inl w15))]) [8, 9] rfl
    have hKc := hK.sub (tys' := [(cm 45, .int)]) [8] rfl
    have hDc := hD.sub (ws' := [(h0, .inr (11, gM a (upd (upd i 0 0) 46 (nI (0 + 4))) g)), (a 45, .inl (cm 45, 1400, .inl w15))]) [8, 9] (by decide) rfl
    have hFc := va_free (wc := [(h0, .inr (11, gM a (upd (upd i 0 0) 46 (nI (0 + 4))) g)), (a 45, .inl (cm 45, 1400, .inl w15))]) hD hS hA [8, 9] rfl
    refine va_callv (va_runV (As := [.long (fn (17 * k + 13)), .int (nI 8)]) (rest := []) ⟨hx, hb, hml, hown, hts⟩ (c_octetsOf l D _ h0 a cm (upd (upd i 0 0) 46 (nI (0 + 4))) g w15 (fn (17 * k + 13)) (0 + 4) 8 rfl (by omega) (by omega)) (cwV 2 hts g_c_imageM_c_octetsOf_446 rfl rfl rfl (by decide +kernel) ⟨(Nat.le_of_ble_eq_true rfl), (Nat.le_of_ble_eq_true rfl)⟩) (PcW_V (q0 := 0) hPc hKc hDc rfl rfl) rfl rfl hl.1 rfl (lv_room (Nat.le_of_ble_eq_true rfl)) dX11_image_66 ⟨(Nat.le_of_ble_eq_true rfl), (Nat.le_of_ble_eq_true rfl)⟩) hS (fun q _ h => hFc q h) hFc (fun uu tt H locs htt hvm hw hB hz1 hk1 hS => ?_)
    obtain ⟨w19, w20⟩ := uu
    obtain ⟨hP1, hK1, hD1⟩ := hB
    rw [htt] at hP1
    have hK1 := va_K.moved hvm.symm hK1
    have hP1 : va_P D vwCl [(h0, .inr (11, gM a (upd (upd i 0 0) 46 w20) g)), (a 45, .inl (cm 45, 1400, .inl w19))] H := hP1
    obtain ⟨hP, hD⟩ := va_join (wr := [(a 3, .inl (cm 3, 85, .inr (.inl fn))), (a 4, .inl (cm 4, 800, .inl fk)), (a 5, .inl (cm 5, 800, .inl fv)), (a 6, .inl (cm 6, 800, .inl fb)), (a 8, .inl (cm 8, 10240, .inl ff)), (a 9, .inl (cm 9, 10240, .inl fh)), (a 10, .inl (cm 10, 10240, .inr (.inl fa))), (a 11, .inl (cm 11, 10240, .inr (.inl fs)))]) (w1 := [(h0, .inr (11, gM a (upd (upd i 0 0) 46 w20) g)), (a 45, .inl (cm 45, 1400, .inl w19))]) hP hD [8, 9] [0, 1, 2, 3, 4, 5, 6, 7] rfl rfl (by decide) (by decide) hk1 hFc hP1 hD1
    have hP : va_P D vwCl [(a 3, .inl (cm 3, 85, .inr (.inl fn))), (a 4, .inl (cm 4, 800, .inl fk)), (a 5, .inl (cm 5, 800, .inl fv)), (a 6, .inl (cm 6, 800, .inl fb)), (a 8, .inl (cm 8, 10240, .inl ff)), (a 9, .inl (cm 9, 10240, .inl fh)), (a 10, .inl (cm 10, 10240, .inr (.inl fa))), (a 11, .inl (cm 11, 10240, .inr (.inl fs))), (h0, .inr (11, gM a (upd (upd i 0 0) 46 w20) g)), (a 45, .inl (cm 45, 1400, .inl w19))] H := hP
    have hD : va_D A [(a 3, .inl (cm 3, 85, .inr (.inl fn))), (a 4, .inl (cm 4, 800, .inl fk)), (a 5, .inl (cm 5, 800, .inl fv)), (a 6, .inl (cm 6, 800, .inl fb)), (a 8, .inl (cm 8, 10240, .inl ff)), (a 9, .inl (cm 9, 10240, .inl fh)), (a 10, .inl (cm 10, 10240, .inr (.inl fa))), (a 11, .inl (cm 11, 10240, .inr (.inl fs))), (h0, .inr (11, gM a (upd (upd i 0 0) 46 w20) g)), (a 45, .inl (cm 45, 1400, .inl w19))] := hD
    try dsimp only at hw
    clear hz1 hk1 hFc hPc hKc hDc
    obtain rfl := hw
    have hP : va_P D vwCl [(a 3, .inl (cm 3, 85, .inr (.inl fn))), (a 4, .inl (cm 4, 800, .inl fk)), (a 5, .inl (cm 5, 800, .inl fv)), (a 6, .inl (cm 6, 800, .inl fb)), (a 8, .inl (cm 8, 10240, .inl ff)), (a 9, .inl (cm 9, 10240, .inl fh)), (a 10, .inl (cm 10, 10240, .inr (.inl fa))), (a 11, .inl (cm 11, 10240, .inr (.inl fs))), (h0, .inr (11, gM a (upd (upd i 0 0) 46 (nI (0 + 12))) g)), (a 45, .inl (cm 45, 1400, .inl w19))] H := hP
    have hD : va_D A [(a 3, .inl (cm 3, 85, .inr (.inl fn))), (a 4, .inl (cm 4, 800, .inl fk)), (a 5, .inl (cm 5, 800, .inl fv)), (a 6, .inl (cm 6, 800, .inl fb)), (a 8, .inl (cm 8, 10240, .inl ff)), (a 9, .inl (cm 9, 10240, .inl fh)), (a 10, .inl (cm 10, 10240, .inr (.inl fa))), (a 11, .inl (cm 11, 10240, .inr (.inl fs))), (h0, .inr (11, gM a (upd (upd i 0 0) 46 (nI (0 + 12))) g)), (a 45, .inl (cm 45, 1400, .inl w19))] := hD
    refine lv_aload_n hx hb dX11_image_69 rfl (lv_at hl 0 rfl) ?_
    refine lv_aload_n hx hb dX11_image_70 rfl (lv_at hl 0 rfl) ?_
    refine lv_iload_n hx hb dX11_image_71 rfl (lv_at hl 1 rfl) ?_
    have hPc := hP.sub (ws' := [(h0, .inr (11, gM a (upd (upd i 0 0) 46 (nI (0 + 12))) g)), (a 3, .inl (cm 3, 85, .inr (.inl fn)))]) [8, 0] rfl
    have hKc := hK.sub (tys' := [(cm 3, .long)]) [0] rfl
    have hFc := va_free0 hS hA
    refine va_calli (va_runV (As := [.int (nI k)]) (rest := [.ref h0]) ⟨hx, hb, hml, hown, hts⟩ (c_manyOf l D _ h0 a cm (upd (upd i 0 0) 46 (nI (0 + 12))) g fn k cn (by first | assumption | omega) h1) (cwV 1 hts g_c_imageM_c_manyOf_95 rfl rfl rfl (by decide +kernel) ⟨(Nat.le_of_ble_eq_true rfl), (Nat.le_of_ble_eq_true rfl)⟩) (PcR_V (q0 := 0) hPc hKc rfl rfl) rfl rfl hl.1 rfl (lv_room (Nat.le_of_ble_eq_true rfl)) dX11_image_72 ⟨(Nat.le_of_ble_eq_true rfl), (Nat.le_of_ble_eq_true rfl)⟩) hS (fun q _ h => hFc q h) hFc (fun r21 uu tt H locs htt hvm hw hB hz1 hk1 hS => ?_)
    have hP := va_keep hP hk1
    try dsimp only at hw
    clear hB hz1 hk1 hFc hPc hKc
    obtain rfl : r21 = nI cn := hw
    refine lv_i2l hx hb dX11_image_75 rfl ?_
    refine lv_iconst (v := 1) hx hb dX11_image_76 (by decide) ?_
    have hPc := hP.sub (ws' := [(h0, .inr (11, gM a (upd (upd i 0 0) 46 (nI (0 + 12))) g)), (a 45, .inl (cm 45, 1400, .inl w19))]) [8, 9] rfl
    have hKc := hK.sub (tys' := [(cm 45, .int)]) [8] rfl
    have hDc := hD.sub (ws' := [(h0, .inr (11, gM a (upd (upd i 0 0) 46 (nI (0 + 12))) g)), (a 45, .inl (cm 45, 1400, .inl w19))]) [8, 9] (by decide) rfl
    have hFc := va_free (wc := [(h0, .inr (11, gM a (upd (upd i 0 0) 46 (nI (0 + 12))) g)), (a 45, .inl (cm 45, 1400, .inl w19))]) hD hS hA [8, 9] rfl
    refine va_callv (va_runV (As := [.long (Int32.toInt64 (nI cn)), .int (nI 1)]) (rest := []) ⟨hx, hb, hml, hown, hts⟩ (c_octetsOf l D _ h0 a cm (upd (upd i 0 0) 46 (nI (0 + 12))) g w19 (Int32.toInt64 (nI cn)) (0 + 12) 1 rfl (by omega) (by omega)) (cwV 2 hts g_c_imageM_c_octetsOf_446 rfl rfl rfl (by decide +kernel) ⟨(Nat.le_of_ble_eq_true rfl), (Nat.le_of_ble_eq_true rfl)⟩) (PcW_V (q0 := 0) hPc hKc hDc rfl rfl) rfl rfl hl.1 rfl (lv_room (Nat.le_of_ble_eq_true rfl)) dX11_image_77 ⟨(Nat.le_of_ble_eq_true rfl), (Nat.le_of_ble_eq_true rfl)⟩) hS (fun q _ h => hFc q h) hFc (fun uu tt H locs htt hvm hw hB hz1 hk1 hS => ?_)
    obtain ⟨w23, w24⟩ := uu
    obtain ⟨hP1, hK1, hD1⟩ := hB
    rw [htt] at hP1
    have hK1 := va_K.moved hvm.symm hK1
    have hP1 : va_P D vwCl [(h0, .inr (11, gM a (upd (upd i 0 0) 46 w24) g)), (a 45, .inl (cm 45, 1400, .inl w23))] H := hP1
    obtain ⟨hP, hD⟩ := va_join (wr := [(a 3, .inl (cm 3, 85, .inr (.inl fn))), (a 4, .inl (cm 4, 800, .inl fk)), (a 5, .inl (cm 5, 800, .inl fv)), (a 6, .inl (cm 6, 800, .inl fb)), (a 8, .inl (cm 8, 10240, .inl ff)), (a 9, .inl (cm 9, 10240, .inl fh)), (a 10, .inl (cm 10, 10240, .inr (.inl fa))), (a 11, .inl (cm 11, 10240, .inr (.inl fs)))]) (w1 := [(h0, .inr (11, gM a (upd (upd i 0 0) 46 w24) g)), (a 45, .inl (cm 45, 1400, .inl w23))]) hP hD [8, 9] [0, 1, 2, 3, 4, 5, 6, 7] rfl rfl (by decide) (by decide) hk1 hFc hP1 hD1
    have hP : va_P D vwCl [(a 3, .inl (cm 3, 85, .inr (.inl fn))), (a 4, .inl (cm 4, 800, .inl fk)), (a 5, .inl (cm 5, 800, .inl fv)), (a 6, .inl (cm 6, 800, .inl fb)), (a 8, .inl (cm 8, 10240, .inl ff)), (a 9, .inl (cm 9, 10240, .inl fh)), (a 10, .inl (cm 10, 10240, .inr (.inl fa))), (a 11, .inl (cm 11, 10240, .inr (.inl fs))), (h0, .inr (11, gM a (upd (upd i 0 0) 46 w24) g)), (a 45, .inl (cm 45, 1400, .inl w23))] H := hP
    have hD : va_D A [(a 3, .inl (cm 3, 85, .inr (.inl fn))), (a 4, .inl (cm 4, 800, .inl fk)), (a 5, .inl (cm 5, 800, .inl fv)), (a 6, .inl (cm 6, 800, .inl fb)), (a 8, .inl (cm 8, 10240, .inl ff)), (a 9, .inl (cm 9, 10240, .inl fh)), (a 10, .inl (cm 10, 10240, .inr (.inl fa))), (a 11, .inl (cm 11, 10240, .inr (.inl fs))), (h0, .inr (11, gM a (upd (upd i 0 0) 46 w24) g)), (a 45, .inl (cm 45, 1400, .inl w23))] := hD
    try dsimp only at hw
    clear hz1 hk1 hFc hPc hKc hDc
    obtain rfl := hw
    have hP : va_P D vwCl [(a 3, .inl (cm 3, 85, .inr (.inl fn))), (a 4, .inl (cm 4, 800, .inl fk)), (a 5, .inl (cm 5, 800, .inl fv)), (a 6, .inl (cm 6, 800, .inl fb)), (a 8, .inl (cm 8, 10240, .inl ff)), (a 9, .inl (cm 9, 10240, .inl fh)), (a 10, .inl (cm 10, 10240, .inr (.inl fa))), (a 11, .inl (cm 11, 10240, .inr (.inl fs))), (h0, .inr (11, gM a (upd (upd i 0 0) 46 (nI (0 + 13))) g)), (a 45, .inl (cm 45, 1400, .inl w23))] H := hP
    have hD : va_D A [(a 3, .inl (cm 3, 85, .inr (.inl fn))), (a 4, .inl (cm 4, 800, .inl fk)), (a 5, .inl (cm 5, 800, .inl fv)), (a 6, .inl (cm 6, 800, .inl fb)), (a 8, .inl (cm 8, 10240, .inl ff)), (a 9, .inl (cm 9, 10240, .inl fh)), (a 10, .inl (cm 10, 10240, .inr (.inl fa))), (a 11, .inl (cm 11, 10240, .inr (.inl fs))), (h0, .inr (11, gM a (upd (upd i 0 0) 46 (nI (0 + 13))) g)), (a 45, .inl (cm 45, 1400, .inl w23))] := hD
    refine lv_sipush (v := 160) hx hb dX11_image_80 (by decide) ?_
    refine lv_iload_n hx hb dX11_image_83 rfl (lv_at hl 1 rfl) ?_
    refine lv_imul hx hb dX11_image_84 ?_
    refine lv_topi (fun v25 ev25 => ?_)
    obtain rfl : v25 = nI (160 * k + 0) := ev25.trans (pk_mul 160 k)
    refine lv_istore_n (lv' := [(2, .int (nI (160 * k + 0))), (0, .ref h0), (1, .int (nI k))]) hx hb dX11_image_85 rfl hl (by decide) rfl (fun ls hl => ?_)
    refine lp_img1 l D h0 a cm (upd (upd i 0 0) 46 (nI (0 + 13))) g fn fk fv fb ff fh fa fs k cn (hk) (h1) (hcn) hx hb hml hown hts hA (hK.sub [0, 1, 2, 3, 4, 5, 6, 7, 8] rfl) ?_ (cn + 1) 0 (0 + 13) w23 (Nat.zero_le _) (by omega) (by omega) _ _ _ (hP.sub [8, 0, 1, 2, 3, 4, 5, 6, 7, 9] rfl) (hD.sub [8, 0, 1, 2, 3, 4, 5, 6, 7, 9] (by decide) rfl) hS (lv_sub hl [0, 1, 2] rfl)
    intro x_26 nw_27 gy_28 hx2_29 hnw_30 hx31 H locs ls hP hD hS hl
    refine lv_bipush (v := 7) hx hb dX11_image_131 (by decide) ?_
    refine lv_istore_n (lv' := [(2, .int 7), (0, .ref h0), (1, .int (nI k))]) hx hb dX11_image_133 rfl hl (by decide) rfl (fun ls hl => ?_)
    refine lv_iconst (v := 0) hx hb dX11_image_134 (by decide) ?_
    refine lv_istore_n (lv' := [(3, .int 0), (2, .int 7), (0, .ref h0), (1, .int (nI k))]) hx hb dX11_image_135 rfl hl (by decide) rfl (fun ls hl => ?_)
    refine lp_img2 l D h0 a cm (upd (upd (upd (upd i 0 0) 46 (nI (0 + 13))) 0 0) 46 (nI nw_27)) g fn fk fv fb ff fh fa fs nw_27 gy_28 (by omega) hx hb hml hown hts hA (hK.sub [0, 1, 2, 3, 4, 5, 6, 7, 8] rfl) ?_ (nw_27 + 1) 0 7 (Nat.zero_le _) (by omega) _ _ _ (hP.sub [0, 1, 2, 3, 4, 5, 6, 7, 8, 9] rfl) (hD.sub [0, 1, 2, 3, 4, 5, 6, 7, 8, 9] (by decide) rfl) hS (lv_sub hl [0, 1, 2] rfl)
    intro y_32 su_33 hy2_34 H locs ls hP hD hS hl
    refine lv_aload_n hx hb dX11_image_165 rfl (lv_at hl 1 rfl) ?_
    refine lv_iload_n hx hb dX11_image_166 rfl (lv_at hl 0 rfl) ?_
    refine lv_i2l hx hb dX11_image_167 rfl ?_
    have hPc := hP.sub (ws' := [(h0, .inr (11, gM a (upd (upd (upd (upd (upd (upd i 0 0) 46 (nI (0 + 13))) 0 0) 46 (nI nw_27)) 0 0) 46 (nI nw_27)) g)), (a 45, .inl (cm 45, 1400, .inl gy_28))]) [0, 9] rfl
    have hKc := hK.sub (tys' := [(cm 45, .int)]) [8] rfl
    have hDc := hD.sub (ws' := [(h0, .inr (11, gM a (upd (upd (upd (upd (upd (upd i 0 0) 46 (nI (0 + 13))) 0 0) 46 (nI nw_27)) 0 0) 46 (nI nw_27)) g)), (a 45, .inl (cm 45, 1400, .inl gy_28))]) [0, 9] (by decide) rfl
    have hFc := va_free (wc := [(h0, .inr (11, gM a (upd (upd (upd (upd (upd (upd i 0 0) 46 (nI (0 + 13))) 0 0) 46 (nI nw_27)) 0 0) 46 (nI nw_27)) g)), (a 45, .inl (cm 45, 1400, .inl gy_28))]) hD hS hA [0, 9] rfl
    refine va_callv (va_runV (As := [.long (Int32.toInt64 su_33)]) (rest := []) ⟨hx, hb, hml, hown, hts⟩ (c_octet1 l D _ h0 a cm (upd (upd (upd (upd (upd (upd i 0 0) 46 (nI (0 + 13))) 0 0) 46 (nI nw_27)) 0 0) 46 (nI nw_27)) g gy_28 (Int32.toInt64 su_33) nw_27 rfl (by omega)) (cwV 1 hts g_c_imageM_c_octet1_442 rfl rfl rfl (by decide +kernel) ⟨(Nat.le_of_ble_eq_true rfl), (Nat.le_of_ble_eq_true rfl)⟩) (PcW_V (q0 := 0) hPc hKc hDc rfl rfl) rfl rfl hl.1 rfl (lv_room (Nat.le_of_ble_eq_true rfl)) dX11_image_168 ⟨(Nat.le_of_ble_eq_true rfl), (Nat.le_of_ble_eq_true rfl)⟩) hS (fun q _ h => hFc q h) hFc (fun uu tt H locs htt hvm hw hB hz1 hk1 hS => ?_)
    obtain ⟨w36, w37⟩ := uu
    obtain ⟨hP1, hK1, hD1⟩ := hB
    rw [htt] at hP1
    have hK1 := va_K.moved hvm.symm hK1
    have hP1 : va_P D vwCl [(h0, .inr (11, gM a (upd (upd (upd (upd (upd (upd i 0 0) 46 (nI (0 + 13))) 0 0) 46 (nI nw_27)) 0 0) 46 w37) g)), (a 45, .inl (cm 45, 1400, .inl w36))] H := hP1
    obtain ⟨hP, hD⟩ := va_join (wr := [(a 3, .inl (cm 3, 85, .inr (.inl fn))), (a 4, .inl (cm 4, 800, .inl fk)), (a 5, .inl (cm 5, 800, .inl fv)), (a 6, .inl (cm 6, 800, .inl fb)), (a 8, .inl (cm 8, 10240, .inl ff)), (a 9, .inl (cm 9, 10240, .inl fh)), (a 10, .inl (cm 10, 10240, .inr (.inl fa))), (a 11, .inl (cm 11, 10240, .inr (.inl fs)))]) (w1 := [(h0, .inr (11, gM a (upd (upd (upd (upd (upd (upd i 0 0) 46 (nI (0 + 13))) 0 0) 46 (nI nw_27)) 0 0) 46 w37) g)), (a 45, .inl (cm 45, 1400, .inl w36))]) hP hD [0, 9] [1, 2, 3, 4, 5, 6, 7, 8] rfl rfl (by decide) (by decide) hk1 hFc hP1 hD1
    have hP : va_P D vwCl [(a 3, .inl (cm 3, 85, .inr (.inl fn))), (a 4, .inl (cm 4, 800, .inl fk)), (a 5, .inl (cm 5, 800, .inl fv)), (a 6, .inl (cm 6, 800, .inl fb)), (a 8, .inl (cm 8, 10240, .inl ff)), (a 9, .inl (cm 9, 10240, .inl fh)), (a 10, .inl (cm 10, 10240, .inr (.inl fa))), (a 11, .inl (cm 11, 10240, .inr (.inl fs))), (h0, .inr (11, gM a (upd (upd (upd (upd (upd (upd i 0 0) 46 (nI (0 + 13))) 0 0) 46 (nI nw_27)) 0 0) 46 w37) g)), (a 45, .inl (cm 45, 1400, .inl w36))] H := hP
    have hD : va_D A [(a 3, .inl (cm 3, 85, .inr (.inl fn))), (a 4, .inl (cm 4, 800, .inl fk)), (a 5, .inl (cm 5, 800, .inl fv)), (a 6, .inl (cm 6, 800, .inl fb)), (a 8, .inl (cm 8, 10240, .inl ff)), (a 9, .inl (cm 9, 10240, .inl fh)), (a 10, .inl (cm 10, 10240, .inr (.inl fa))), (a 11, .inl (cm 11, 10240, .inr (.inl fs))), (h0, .inr (11, gM a (upd (upd (upd (upd (upd (upd i 0 0) 46 (nI (0 + 13))) 0 0) 46 (nI nw_27)) 0 0) 46 w37) g)), (a 45, .inl (cm 45, 1400, .inl w36))] := hD
    try dsimp only at hw
    clear hz1 hk1 hFc hPc hKc hDc
    obtain rfl := hw
    have hP : va_P D vwCl [(a 3, .inl (cm 3, 85, .inr (.inl fn))), (a 4, .inl (cm 4, 800, .inl fk)), (a 5, .inl (cm 5, 800, .inl fv)), (a 6, .inl (cm 6, 800, .inl fb)), (a 8, .inl (cm 8, 10240, .inl ff)), (a 9, .inl (cm 9, 10240, .inl fh)), (a 10, .inl (cm 10, 10240, .inr (.inl fa))), (a 11, .inl (cm 11, 10240, .inr (.inl fs))), (h0, .inr (11, gM a (upd (upd (upd (upd (upd (upd i 0 0) 46 (nI (0 + 13))) 0 0) 46 (nI nw_27)) 0 0) 46 (nI (nw_27 + 1))) g)), (a 45, .inl (cm 45, 1400, .inl w36))] H := hP
    have hD : va_D A [(a 3, .inl (cm 3, 85, .inr (.inl fn))), (a 4, .inl (cm 4, 800, .inl fk)), (a 5, .inl (cm 5, 800, .inl fv)), (a 6, .inl (cm 6, 800, .inl fb)), (a 8, .inl (cm 8, 10240, .inl ff)), (a 9, .inl (cm 9, 10240, .inl fh)), (a 10, .inl (cm 10, 10240, .inr (.inl fa))), (a 11, .inl (cm 11, 10240, .inr (.inl fs))), (h0, .inr (11, gM a (upd (upd (upd (upd (upd (upd i 0 0) 46 (nI (0 + 13))) 0 0) 46 (nI nw_27)) 0 0) 46 (nI (nw_27 + 1))) g)), (a 45, .inl (cm 45, 1400, .inl w36))] := hD
    refine lv_aload_n hx hb dX11_image_171 rfl (lv_at hl 1 rfl) ?_
    refine va_get (D := D) (ci := 11) (v := .int (nI (nw_27 + 1))) (C := RX11) (T := TX11) (N := 47) hx hb hts hin_X11 hown hK hP 8 rfl rfl 46 (by decide) (hts (.fieldLink RX11 437 "ClashFreeModel" "octetMany" "I") (List.mem_of_getElem? (i := 10) rfl)) (fun _ h9 => h9) rfl dX11_image_172 ?_
    exact W.iret (v := nI (nw_27 + 1)) hx hb hr (fun t ht hW => ⟨⟨nI (nw_27 + 1), (w36, 0, (nI (nw_27 + 1))), rfl, ⟨⟨_, rfl, by omega⟩, by rw [imA_1 hk hth, lsR_T hk hT fv, tabl_len]; exact congrArg nI (by omega)⟩, by rw [ht]; exact hP.sub [8, 0, 1, 2, 3, 4, 5, 6, 7, 9] rfl, va_K.moved hW.alike (hK.sub [0, 1, 2, 3, 4, 5, 6, 7, 8] rfl), hD.sub [8, 0, 1, 2, 3, 4, 5, 6, 7, 9] (by decide) rfl⟩, hS.F ht⟩) hS.2.2 dX11_image_175
  ·
    refine lv_if_ne (tgt := 15) hx hb dX11_image_10 (by decide) (fun hc => absurd (by decide) hc) (fun hc => ?_)
    refine lv_iconst (v := (-1)) hx hb dX11_image_13 (by decide) ?_
    exact W.iret (v := (-1)) hx hb hr (fun t ht hW => ⟨⟨(-1), (fy, 0, (i 46)), rfl, ⟨⟨_, htp, htp2⟩, (imA_0 hA_r1).symm⟩, by rw [ht]; exact hP.sub [0, 1, 2, 3, 4, 5, 6, 7, 8, 9] rfl, va_K.moved hW.alike (hK.sub [0, 1, 2, 3, 4, 5, 6, 7, 8] rfl), hD.sub [0, 1, 2, 3, 4, 5, 6, 7, 8, 9] (by decide) rfl⟩, hS.F ht⟩) hS.2.2 dX11_image_14

