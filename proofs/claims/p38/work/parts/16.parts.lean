theorem dX11_parts_0 : decode cX11_parts 0 = .ok (.aload_n 0, 1) := by decide +kernel
theorem dX11_parts_1 : decode cX11_parts 1 = .ok (.iload_n 1, 1) := by decide +kernel
theorem dX11_parts_2 : decode cX11_parts 2 = .ok (.bipush 6, 2) := by decide +kernel
theorem dX11_parts_4 : decode cX11_parts 4 = .ok (.lload_n 2, 1) := by decide +kernel
theorem dX11_parts_5 : decode cX11_parts 5 = .ok (.invokevirtual 126, 3) := by decide +kernel
theorem dX11_parts_8 : decode cX11_parts 8 = .ok (.aload_n 0, 1) := by decide +kernel
theorem dX11_parts_9 : decode cX11_parts 9 = .ok (.iload_n 1, 1) := by decide +kernel
theorem dX11_parts_10 : decode cX11_parts 10 = .ok (.bipush 7, 2) := by decide +kernel
theorem dX11_parts_12 : decode cX11_parts 12 = .ok (.lload 4, 2) := by decide +kernel
theorem dX11_parts_14 : decode cX11_parts 14 = .ok (.invokevirtual 126, 3) := by decide +kernel
theorem dX11_parts_17 : decode cX11_parts 17 = .ok (.iconst 0, 1) := by decide +kernel
theorem dX11_parts_18 : decode cX11_parts 18 = .ok (.istore 7, 2) := by decide +kernel
theorem dX11_parts_20 : decode cX11_parts 20 = .ok (.iload 7, 2) := by decide +kernel
theorem dX11_parts_22 : decode cX11_parts 22 = .ok (.aload_n 0, 1) := by decide +kernel
theorem dX11_parts_23 : decode cX11_parts 23 = .ok (.iload_n 1, 1) := by decide +kernel
theorem dX11_parts_24 : decode cX11_parts 24 = .ok (.invokevirtual 152, 3) := by decide +kernel
theorem dX11_parts_27 : decode cX11_parts 27 = .ok (.if_icmp .ge 23, 3) := by decide +kernel
theorem dX11_parts_30 : decode cX11_parts 30 = .ok (.aload_n 0, 1) := by decide +kernel
theorem dX11_parts_31 : decode cX11_parts 31 = .ok (.getfield 33, 3) := by decide +kernel
theorem dX11_parts_34 : decode cX11_parts 34 = .ok (.sipush 2048, 3) := by decide +kernel
theorem dX11_parts_37 : decode cX11_parts 37 = .ok (.iload_n 1, 1) := by decide +kernel
theorem dX11_parts_38 : decode cX11_parts 38 = .ok (.imul, 1) := by decide +kernel
theorem dX11_parts_39 : decode cX11_parts 39 = .ok (.iload 7, 2) := by decide +kernel
theorem dX11_parts_41 : decode cX11_parts 41 = .ok (.iadd, 1) := by decide +kernel
theorem dX11_parts_42 : decode cX11_parts 42 = .ok (.iconst 0, 1) := by decide +kernel
theorem dX11_parts_43 : decode cX11_parts 43 = .ok (.iastore, 1) := by decide +kernel
theorem dX11_parts_44 : decode cX11_parts 44 = .ok (.iinc 7 1, 3) := by decide +kernel
theorem dX11_parts_47 : decode cX11_parts 47 = .ok (.goto (-27), 3) := by decide +kernel
theorem dX11_parts_50 : decode cX11_parts 50 = .ok (.sipush 160, 3) := by decide +kernel
theorem dX11_parts_53 : decode cX11_parts 53 = .ok (.iload_n 1, 1) := by decide +kernel
theorem dX11_parts_54 : decode cX11_parts 54 = .ok (.imul, 1) := by decide +kernel
theorem dX11_parts_55 : decode cX11_parts 55 = .ok (.istore 7, 2) := by decide +kernel
theorem dX11_parts_57 : decode cX11_parts 57 = .ok (.iload 7, 2) := by decide +kernel
theorem dX11_parts_59 : decode cX11_parts 59 = .ok (.sipush 160, 3) := by decide +kernel
theorem dX11_parts_62 : decode cX11_parts 62 = .ok (.iload_n 1, 1) := by decide +kernel
theorem dX11_parts_63 : decode cX11_parts 63 = .ok (.imul, 1) := by decide +kernel
theorem dX11_parts_64 : decode cX11_parts 64 = .ok (.aload_n 0, 1) := by decide +kernel
theorem dX11_parts_65 : decode cX11_parts 65 = .ok (.iload_n 1, 1) := by decide +kernel
theorem dX11_parts_66 : decode cX11_parts 66 = .ok (.invokevirtual 95, 3) := by decide +kernel
theorem dX11_parts_69 : decode cX11_parts 69 = .ok (.iadd, 1) := by decide +kernel
theorem dX11_parts_70 : decode cX11_parts 70 = .ok (.if_icmp .ge 50, 3) := by decide +kernel
theorem dX11_parts_73 : decode cX11_parts 73 = .ok (.aload_n 0, 1) := by decide +kernel
theorem dX11_parts_74 : decode cX11_parts 74 = .ok (.getfield 24, 3) := by decide +kernel
theorem dX11_parts_77 : decode cX11_parts 77 = .ok (.iload 7, 2) := by decide +kernel
theorem dX11_parts_79 : decode cX11_parts 79 = .ok (.aload_n 0, 1) := by decide +kernel
theorem dX11_parts_80 : decode cX11_parts 80 = .ok (.iload_n 1, 1) := by decide +kernel
theorem dX11_parts_81 : decode cX11_parts 81 = .ok (.aload_n 0, 1) := by decide +kernel
theorem dX11_parts_82 : decode cX11_parts 82 = .ok (.getfield 17, 3) := by decide +kernel
theorem dX11_parts_85 : decode cX11_parts 85 = .ok (.iload 7, 2) := by decide +kernel
theorem dX11_parts_87 : decode cX11_parts 87 = .ok (.iaload, 1) := by decide +kernel
theorem dX11_parts_88 : decode cX11_parts 88 = .ok (.invokevirtual 155, 3) := by decide +kernel
theorem dX11_parts_91 : decode cX11_parts 91 = .ok (.iastore, 1) := by decide +kernel
theorem dX11_parts_92 : decode cX11_parts 92 = .ok (.aload_n 0, 1) := by decide +kernel
theorem dX11_parts_93 : decode cX11_parts 93 = .ok (.getfield 33, 3) := by decide +kernel
theorem dX11_parts_96 : decode cX11_parts 96 = .ok (.sipush 2048, 3) := by decide +kernel
theorem dX11_parts_99 : decode cX11_parts 99 = .ok (.iload_n 1, 1) := by decide +kernel
theorem dX11_parts_100 : decode cX11_parts 100 = .ok (.imul, 1) := by decide +kernel
theorem dX11_parts_101 : decode cX11_parts 101 = .ok (.aload_n 0, 1) := by decide +kernel
theorem dX11_parts_102 : decode cX11_parts 102 = .ok (.getfield 24, 3) := by decide +kernel
theorem dX11_parts_105 : decode cX11_parts 105 = .ok (.iload 7, 2) := by decide +kernel
theorem dX11_parts_107 : decode cX11_parts 107 = .ok (.iaload, 1) := by decide +kernel
theorem dX11_parts_108 : decode cX11_parts 108 = .ok (.iadd, 1) := by decide +kernel
theorem dX11_parts_109 : decode cX11_parts 109 = .ok (.dup2, 1) := by decide +kernel
theorem dX11_parts_110 : decode cX11_parts 110 = .ok (.iaload, 1) := by decide +kernel
theorem dX11_parts_111 : decode cX11_parts 111 = .ok (.iconst 1, 1) := by decide +kernel
theorem dX11_parts_112 : decode cX11_parts 112 = .ok (.iadd, 1) := by decide +kernel
theorem dX11_parts_113 : decode cX11_parts 113 = .ok (.iastore, 1) := by decide +kernel
theorem dX11_parts_114 : decode cX11_parts 114 = .ok (.iinc 7 1, 3) := by decide +kernel
theorem dX11_parts_117 : decode cX11_parts 117 = .ok (.goto (-60), 3) := by decide +kernel
theorem dX11_parts_120 : decode cX11_parts 120 = .ok (.lconst 0, 1) := by decide +kernel
theorem dX11_parts_121 : decode cX11_parts 121 = .ok (.lstore 7, 2) := by decide +kernel
theorem dX11_parts_123 : decode cX11_parts 123 = .ok (.iconst 0, 1) := by decide +kernel
theorem dX11_parts_124 : decode cX11_parts 124 = .ok (.istore 9, 2) := by decide +kernel
theorem dX11_parts_126 : decode cX11_parts 126 = .ok (.iload 9, 2) := by decide +kernel
theorem dX11_parts_128 : decode cX11_parts 128 = .ok (.aload_n 0, 1) := by decide +kernel
theorem dX11_parts_129 : decode cX11_parts 129 = .ok (.iload_n 1, 1) := by decide +kernel
theorem dX11_parts_130 : decode cX11_parts 130 = .ok (.invokevirtual 152, 3) := by decide +kernel
theorem dX11_parts_133 : decode cX11_parts 133 = .ok (.if_icmp .ge 51, 3) := by decide +kernel
theorem dX11_parts_136 : decode cX11_parts 136 = .ok (.aload_n 0, 1) := by decide +kernel
theorem dX11_parts_137 : decode cX11_parts 137 = .ok (.getfield 30, 3) := by decide +kernel
theorem dX11_parts_140 : decode cX11_parts 140 = .ok (.sipush 2048, 3) := by decide +kernel
theorem dX11_parts_143 : decode cX11_parts 143 = .ok (.iload_n 1, 1) := by decide +kernel
theorem dX11_parts_144 : decode cX11_parts 144 = .ok (.imul, 1) := by decide +kernel
theorem dX11_parts_145 : decode cX11_parts 145 = .ok (.iload 9, 2) := by decide +kernel
theorem dX11_parts_147 : decode cX11_parts 147 = .ok (.iadd, 1) := by decide +kernel
theorem dX11_parts_148 : decode cX11_parts 148 = .ok (.iload 6, 2) := by decide +kernel
theorem dX11_parts_150 : decode cX11_parts 150 = .ok (.aload_n 0, 1) := by decide +kernel
theorem dX11_parts_151 : decode cX11_parts 151 = .ok (.getfield 33, 3) := by decide +kernel
theorem dX11_parts_154 : decode cX11_parts 154 = .ok (.sipush 2048, 3) := by decide +kernel
theorem dX11_parts_157 : decode cX11_parts 157 = .ok (.iload_n 1, 1) := by decide +kernel
theorem dX11_parts_158 : decode cX11_parts 158 = .ok (.imul, 1) := by decide +kernel
theorem dX11_parts_159 : decode cX11_parts 159 = .ok (.iload 9, 2) := by decide +kernel
theorem dX11_parts_161 : decode cX11_parts 161 = .ok (.iadd, 1) := by decide +kernel
theorem dX11_parts_162 : decode cX11_parts 162 = .ok (.iaload, 1) := by decide +kernel
theorem dX11_parts_163 : decode cX11_parts 163 = .ok (.imul, 1) := by decide +kernel
theorem dX11_parts_164 : decode cX11_parts 164 = .ok (.iastore, 1) := by decide +kernel
theorem dX11_parts_165 : decode cX11_parts 165 = .ok (.lload 7, 2) := by decide +kernel
theorem dX11_parts_167 : decode cX11_parts 167 = .ok (.aload_n 0, 1) := by decide +kernel
theorem dX11_parts_168 : decode cX11_parts 168 = .ok (.iload_n 1, 1) := by decide +kernel
theorem dX11_parts_169 : decode cX11_parts 169 = .ok (.iload 9, 2) := by decide +kernel
theorem dX11_parts_171 : decode cX11_parts 171 = .ok (.invokevirtual 137, 3) := by decide +kernel
theorem dX11_parts_174 : decode cX11_parts 174 = .ok (.i2l, 1) := by decide +kernel
theorem dX11_parts_175 : decode cX11_parts 175 = .ok (.ladd, 1) := by decide +kernel
theorem dX11_parts_176 : decode cX11_parts 176 = .ok (.lstore 7, 2) := by decide +kernel
theorem dX11_parts_178 : decode cX11_parts 178 = .ok (.iinc 9 1, 3) := by decide +kernel
theorem dX11_parts_181 : decode cX11_parts 181 = .ok (.goto (-55), 3) := by decide +kernel
theorem dX11_parts_184 : decode cX11_parts 184 = .ok (.aload_n 0, 1) := by decide +kernel
theorem dX11_parts_185 : decode cX11_parts 185 = .ok (.iload_n 1, 1) := by decide +kernel
theorem dX11_parts_186 : decode cX11_parts 186 = .ok (.iconst 5, 1) := by decide +kernel
theorem dX11_parts_187 : decode cX11_parts 187 = .ok (.lload 7, 2) := by decide +kernel
theorem dX11_parts_189 : decode cX11_parts 189 = .ok (.invokevirtual 126, 3) := by decide +kernel
theorem dX11_parts_192 : decode cX11_parts 192 = .ok (.lload 7, 2) := by decide +kernel
theorem dX11_parts_194 : decode cX11_parts 194 = .ok (.lreturn, 1) := by decide +kernel
theorem up_all {P : Nat → Int32 → Prop} {g : Nat → Int32} {o j : Nat} {v : Int32} (h : ∀ b, b < j → P b (g (o + b))) (hv : P j v) : ∀ b, b < j + 1 → P b (upd g (o + j) v (o + b)) := by
  intro b hb
  by_cases e : b = j
  · subst e
    rw [pk_us]
    exact hv
  · rw [pk_un (by omega)]
    exact h b (by omega)
theorem up_fr {g g0 : Nat → Int32} {o w j : Nat} {v : Int32} (hj : j < w) (h : ∀ x, (x < o ∨ o + w ≤ x) → g x = g0 x) : ∀ x, (x < o ∨ o + w ≤ x) → upd g (o + j) v x = g0 x := by
  intro x hx
  rw [pk_un (by omega)]
  exact h x hx
theorem cntJ_s (J : Nat → Nat) (x b : Nat) : cntJ J (x + 1) b = cntJ J x b + (if J x = b then 1 else 0) := by
  show cnt _ x + (if decide (J x = b) = true then 1 else 0) = _
  simp only [decide_eq_true_eq]
  rfl
theorem cntJ_le (J : Nat → Nat) (x b : Nat) : cntJ J x b ≤ x := cnt_le _ _
theorem hs_step {gh : Nat → Int32} {J : Nat → Nat} {x k nb : Nat} (hh : ∀ b, b < nb → gh (2048 * k + b) = nI (cntJ J x b)) : ∀ b, b < nb → upd gh (2048 * k + J x) (nI (cntJ J x (J x) + 1)) (2048 * k + b) = nI (cntJ J (x + 1) b) := by
  intro b hb
  rw [cntJ_s]
  by_cases e : b = J x
  · subst e
    rw [pk_us, if_pos rfl]
  · rw [pk_un (by omega), if_neg (fun q => e q.symm), Nat.add_zero]
    exact hh b hb
def own_c_parts : List Cond := [.methodLink RX11 152 yX11_buckets, .instanceMethod yX11_buckets, .selects RX11 yX11_buckets yX11_buckets, .initialized RX11, .fieldLink RX11 33 "ClashFreeModel" "has" "[I", .methodLink RX11 95 yX11_manyOf, .instanceMethod yX11_manyOf, .selects RX11 yX11_manyOf yX11_manyOf, .fieldLink RX11 24 "ClashFreeModel" "inBucket" "[I", .fieldLink RX11 17 "ClashFreeModel" "keys" "[I", .methodLink RX11 155 yX11_bucketOf, .instanceMethod yX11_bucketOf, .selects RX11 yX11_bucketOf yX11_bucketOf, .fieldLink RX11 30 "ClashFreeModel" "roofs" "[I", .methodLink RX11 137 yX11_roomsOf, .instanceMethod yX11_roomsOf, .selects RX11 yX11_roomsOf yX11_roomsOf, .methodLink RX11 126 yX11_lays, .instanceMethod yX11_lays, .selects RX11 yX11_lays yX11_lays]
def wp_c_parts : List Cond := .code yX11_parts cX11_parts 10 (some .long) :: (own_c_parts ++ (wp_c_buckets ++ (wp_c_manyOf ++ (wp_c_bucketOf ++ (wp_c_roomsOf ++ (wp_c_lays ++ (wsX110 ++ ([] : List Cond))))))))
set_option maxRecDepth 20000 in
theorem inown_c_parts : ∀ w ∈ own_c_parts, w ∈ lw_tbl := mem_places [1426, 1428, 46, 115, 1225, 1396, 1398, 40, 1222, 1220, 1430, 1432, 47, 1224, 1437, 1439, 48, 1388, 1390, 38] (by decide +kernel)
set_option maxRecDepth 20000 in
theorem in_c_parts : ∀ w ∈ wp_c_parts, w ∈ lw_tbl := List.forall_mem_cons.mpr ⟨List.mem_of_getElem? (i := 1425) (by decide +kernel), List.forall_mem_append.mpr ⟨inown_c_parts, List.forall_mem_append.mpr ⟨in_c_buckets, List.forall_mem_append.mpr ⟨in_c_manyOf, List.forall_mem_append.mpr ⟨in_c_bucketOf, List.forall_mem_append.mpr ⟨in_c_roomsOf, List.forall_mem_append.mpr ⟨in_c_lays, List.forall_mem_append.mpr ⟨lwb_X11, fun _ h => absurd h List.not_mem_nil⟩⟩⟩⟩⟩⟩⟩⟩
set_option maxRecDepth 20000 in
theorem good_c_parts : wp_c_parts.all goodWord = true := by decide +kernel
set_option maxRecDepth 20000 in
theorem g_c_parts_c_buckets_152 : GoodIn wp_c_parts (wsV RX11 152 RX11 yX11_buckets wp_c_buckets) := goodIn_sub (List.forall_mem_append.mpr ⟨List.forall_mem_cons.mpr ⟨(List.mem_of_getElem? (i := 1) rfl), List.forall_mem_cons.mpr ⟨(List.mem_of_getElem? (i := 2) rfl), List.forall_mem_cons.mpr ⟨(List.mem_of_getElem? (i := 3) rfl), List.forall_mem_cons.mpr ⟨(List.mem_of_getElem? (i := 4) rfl), fun _ h => absurd h List.not_mem_nil⟩⟩⟩⟩, (fun _ h => (List.mem_cons_of_mem _ (List.mem_append_right _ (List.mem_append_left _ h))))⟩) (by decide +kernel)
set_option maxRecDepth 20000 in
theorem g_c_parts_c_manyOf_95 : GoodIn wp_c_parts (wsV RX11 95 RX11 yX11_manyOf wp_c_manyOf) := goodIn_sub (List.forall_mem_append.mpr ⟨List.forall_mem_cons.mpr ⟨(List.mem_of_getElem? (i := 6) rfl), List.forall_mem_cons.mpr ⟨(List.mem_of_getElem? (i := 7) rfl), List.forall_mem_cons.mpr ⟨(List.mem_of_getElem? (i := 8) rfl), List.forall_mem_cons.mpr ⟨(List.mem_of_getElem? (i := 4) rfl), fun _ h => absurd h List.not_mem_nil⟩⟩⟩⟩, (fun _ h => (List.mem_cons_of_mem _ (List.mem_append_right _ (List.mem_append_right _ (List.mem_append_left _ h)))))⟩) (by decide +kernel)
set_option maxRecDepth 20000 in
theorem g_c_parts_c_bucketOf_155 : GoodIn wp_c_parts (wsV RX11 155 RX11 yX11_bucketOf wp_c_bucketOf) := goodIn_sub (List.forall_mem_append.mpr ⟨List.forall_mem_cons.mpr ⟨(List.mem_of_getElem? (i := 11) rfl), List.forall_mem_cons.mpr ⟨(List.mem_of_getElem? (i := 12) rfl), List.forall_mem_cons.mpr ⟨(List.mem_of_getElem? (i := 13) rfl), List.forall_mem_cons.mpr ⟨(List.mem_of_getElem? (i := 4) rfl), fun _ h => absurd h List.not_mem_nil⟩⟩⟩⟩, (fun _ h => (List.mem_cons_of_mem _ (List.mem_append_right _ (List.mem_append_right _ (List.mem_append_right _ (List.mem_append_left _ h))))))⟩) (by decide +kernel)
set_option maxRecDepth 20000 in
theorem g_c_parts_c_roomsOf_137 : GoodIn wp_c_parts (wsV RX11 137 RX11 yX11_roomsOf wp_c_roomsOf) := goodIn_sub (List.forall_mem_append.mpr ⟨List.forall_mem_cons.mpr ⟨(List.mem_of_getElem? (i := 15) rfl), List.forall_mem_cons.mpr ⟨(List.mem_of_getElem? (i := 16) rfl), List.forall_mem_cons.mpr ⟨(List.mem_of_getElem? (i := 17) rfl), List.forall_mem_cons.mpr ⟨(List.mem_of_getElem? (i := 4) rfl), fun _ h => absurd h List.not_mem_nil⟩⟩⟩⟩, (fun _ h => (List.mem_cons_of_mem _ (List.mem_append_right _ (List.mem_append_right _ (List.mem_append_right _ (List.mem_append_right _ (List.mem_append_left _ h)))))))⟩) (by decide +kernel)
set_option maxRecDepth 20000 in
theorem g_c_parts_c_lays_126 : GoodIn wp_c_parts (wsV RX11 126 RX11 yX11_lays wp_c_lays) := goodIn_sub (List.forall_mem_append.mpr ⟨List.forall_mem_cons.mpr ⟨(List.mem_of_getElem? (i := 18) rfl), List.forall_mem_cons.mpr ⟨(List.mem_of_getElem? (i := 19) rfl), List.forall_mem_cons.mpr ⟨(List.mem_of_getElem? (i := 20) rfl), List.forall_mem_cons.mpr ⟨(List.mem_of_getElem? (i := 4) rfl), fun _ h => absurd h List.not_mem_nil⟩⟩⟩⟩, (fun _ h => (List.mem_cons_of_mem _ (List.mem_append_right _ (List.mem_append_right _ (List.mem_append_right _ (List.mem_append_right _ (List.mem_append_right _ (List.mem_append_left _ h))))))))⟩) (by decide +kernel)
set_option maxHeartbeats 4000000 in
set_option maxRecDepth 100000 in
theorem lp_pt1 (l : Launch) {p : Program} {e : Env} {s : State} {m : MethodId} {args : Array Value} {below : List Frame} {meth : Method} {c : Code} {Q : State → Prop} {A : Nat → Prop} (D : va_G) (h0 : Nat) (a : Nat → Nat) (cm : Nat → ClassId) (i : Nat → Int32) (g : Nat → Int64) (fn : Nat → Int64) (fk : Nat → Int32) (fb : Nat → Int32) (ff : Nat → Int32) (fh : Nat → Int32) (k : Nat) (cn : Nat) (nb : Nat) (K : Nat → Nat) (ka : Nat) (kb : Nat) (tm : Nat) (J : Nat → Nat) (hk : k < 5) (h1 : fn (17 * k + 1) = lN cn) (hcn : cn ≤ 160) (h4 : fn (17 * k + 4) = lN nb) (hn1 : 1 ≤ nb) (hn2 : nb ≤ 2048) (hKy : KyS k fk cn K) (hka : ka < 2147483647) (hkb : kb < 2147483647) (htm : tm ≤ 2) (hJ : ∀ y, y < cn → J y = (ka * K y + kb) % 2147483647 % nb) (hx : p.tables.exec = Jvm.exec) (hb : c.code = cX11_parts) (hml : c.maxLocals = 10) (hown : s.vm.findClass RX11 = some m.cls) (hts : ∀ w ∈ wp_c_parts, w.before args s = true) (hA : ∀ q, s.heap.size ≤ q → A q) (hK : va_K D vwCl [(cm 3, .long), (cm 4, .int), (cm 6, .int), (cm 8, .int), (cm 9, .int)] s) (kx50 : ∀ (j : Nat), ∀ (gh : Nat → Int32), (j ≤ nb) → (∀ b, b < j → gh (2048 * k + b) = 0) → (∀ x, (x < 2048 * k ∨ 2048 * k + 2048 ≤ x) → gh x = fh x) → (nb ≤ j) → ∀ (H : Heap) (locs : List Loc) (ls : Array Slot), va_P D vwCl [(h0, .inr (11, gM a i g)), (a 3, .inl (cm 3, 85, .inr (.inl fn))), (a 4, .inl (cm 4, 800, .inl fk)), (a 6, .inl (cm 6, 800, .inl fb)), (a 8, .inl (cm 8, 10240, .inl ff)), (a 9, .inl (cm 9, 10240, .inl gh))] H → va_D A [(h0, .inr (11, gM a i g)), (a 3, .inl (cm 3, 85, .inr (.inl fn))), (a 4, .inl (cm 4, 800, .inl fk)), (a 6, .inl (cm 6, 800, .inl fb)), (a 8, .inl (cm 8, 10240, .inl ff)), (a 9, .inl (cm 9, 10240, .inl gh))] → va_S A s.heap H locs → lv_has ls 10 [(0, .ref h0), (1, .int (nI k)), (2, .long (lN ka)), (4, .long (lN kb)), (6, .int (nI tm))] → W p l e ({ frames := 5, cells := 0, slots := 0, locals := 130 }) s m args below meth c H locs 0 0 Q (F0 m 50 ls [])) : ∀ (N : Nat), ∀ (j : Nat), ∀ (gh : Nat → Int32), (j ≤ nb) → (∀ b, b < j → gh (2048 * k + b) = 0) → (∀ x, (x < 2048 * k ∨ 2048 * k + 2048 ≤ x) → gh x = fh x) → nb - j < N → ∀ (H : Heap) (locs : List Loc) (ls : Array Slot), va_P D vwCl [(h0, .inr (11, gM a i g)), (a 3, .inl (cm 3, 85, .inr (.inl fn))), (a 4, .inl (cm 4, 800, .inl fk)), (a 6, .inl (cm 6, 800, .inl fb)), (a 8, .inl (cm 8, 10240, .inl ff)), (a 9, .inl (cm 9, 10240, .inl gh))] H → va_D A [(h0, .inr (11, gM a i g)), (a 3, .inl (cm 3, 85, .inr (.inl fn))), (a 4, .inl (cm 4, 800, .inl fk)), (a 6, .inl (cm 6, 800, .inl fb)), (a 8, .inl (cm 8, 10240, .inl ff)), (a 9, .inl (cm 9, 10240, .inl gh))] → va_S A s.heap H locs → lv_has ls 10 [(7, .int (nI j)), (0, .ref h0), (1, .int (nI k)), (2, .long (lN ka)), (4, .long (lN kb)), (6, .int (nI tm))] → W p l e ({ frames := 5, cells := 0, slots := 0, locals := 130 }) s m args below meth c H locs 0 0 Q (F0 m 20 ls []) := by
  have hin_X11 : ∀ w ∈ wsX110, w ∈ wp_c_parts := fun _ h => (List.mem_cons_of_mem _ (List.mem_append_right _ (List.mem_append_right _ (List.mem_append_right _ (List.mem_append_right _ (List.mem_append_right _ (List.mem_append_right _ (List.mem_append_left _ h))))))))
  intro N
  induction N with
  | zero =>
    intro j gh hj1 hz hf hm
    exact absurd hm (Nat.not_lt_zero _)
  | succ N ih =>
    intro j gh hj1 hz hf hm H locs ls hP hD hS hl
    refine lv_iload hx hb dX11_parts_20 (lv_at hl 0 rfl) ?_
    refine lv_aload_n hx hb dX11_parts_22 rfl (lv_at hl 1 rfl) ?_
    refine lv_iload_n hx hb dX11_parts_23 rfl (lv_at hl 2 rfl) ?_
    have hPc := hP.sub (ws' := [(h0, .inr (11, gM a i g)), (a 3, .inl (cm 3, 85, .inr (.inl fn)))]) [0, 1] rfl
    have hKc := hK.sub (tys' := [(cm 3, .long)]) [0] rfl
    have hFc := va_free0 hS hA
    refine va_calli (va_runV (As := [.int (nI k)]) (rest := [.int (nI j)]) ⟨hx, hb, hml, hown, hts⟩ (c_buckets l D _ h0 a cm i g fn k nb (by first | assumption | omega) h4) (cwV 1 hts g_c_parts_c_buckets_152 rfl rfl rfl (by decide +kernel) ⟨(Nat.le_of_ble_eq_true rfl), (Nat.le_of_ble_eq_true rfl)⟩) (PcR_V (q0 := 0) hPc hKc rfl rfl) rfl rfl hl.1 rfl (lv_room (Nat.le_of_ble_eq_true rfl)) dX11_parts_24 ⟨(Nat.le_of_ble_eq_true rfl), (Nat.le_of_ble_eq_true rfl)⟩) hS (fun q _ h => hFc q h) hFc (fun r1 uu tt H locs htt hvm hw hB hz1 hk1 hS => ?_)
    have hP := va_keep hP hk1
    try dsimp only at hw
    clear hB hz1 hk1 hFc hPc hKc
    obtain rfl : r1 = nI nb := hw
    refine lv_icmp_ge (tgt := 50) hx hb dX11_parts_27 (by decide) (fun hc2 => ?_) (fun hc2 => ?_)
    ·
      have hge_j : nb ≤ j := (nI_leI (by omega) (by omega)).mp hc2
      exact kx50 j gh (hj1) (hz) (hf) (by omega) H locs ls (hP.sub [0, 1, 2, 3, 4, 5] rfl) (hD.sub [0, 1, 2, 3, 4, 5] (by decide) rfl) hS (lv_sub hl [1, 2, 3, 4, 5] rfl)
    ·
      have hlt_j : j < nb := by
        rcases Nat.lt_or_ge j nb with z | z
        · exact z
        · exact absurd (nI_le z (by omega)) hc2
      refine lv_aload_n hx hb dX11_parts_30 rfl (lv_at hl 1 rfl) ?_
      refine va_get (D := D) (ci := 11) (v := .ref (a 9)) (C := RX11) (T := TX11) (N := 47) hx hb hts hin_X11 hown hK hP 0 rfl rfl 9 (by decide) (hts (.fieldLink RX11 33 "ClashFreeModel" "has" "[I") (List.mem_of_getElem? (i := 5) rfl)) (fun _ h9 => h9) rfl dX11_parts_31 ?_
      refine lv_sipush (v := 2048) hx hb dX11_parts_34 (by decide) ?_
      refine lv_iload_n hx hb dX11_parts_37 rfl (lv_at hl 2 rfl) ?_
      refine lv_imul hx hb dX11_parts_38 ?_
      refine lv_iload hx hb dX11_parts_39 (lv_at hl 0 rfl) ?_
      refine lv_iadd hx hb dX11_parts_41 ?_
      refine lv_topi (fun v3 ev3 => ?_)
      obtain rfl : v3 = nI (2048 * k + j) := ev3.trans (ix2048 k j)
      refine lv_iconst (v := 0) hx hb dX11_parts_42 (by decide) ?_
      refine va_iast hx hb hK hP hD hS 5 4 rfl rfl (vp_in_nI (by omega) (by decide)) dX11_parts_43 (fun H locs hP hD hS => ?_)
      have hP : va_P D vwCl [(h0, .inr (11, gM a i g)), (a 3, .inl (cm 3, 85, .inr (.inl fn))), (a 4, .inl (cm 4, 800, .inl fk)), (a 6, .inl (cm 6, 800, .inl fb)), (a 8, .inl (cm 8, 10240, .inl ff)), (a 9, .inl (cm 9, 10240, .inl (upd gh (Int32.toNatClampNeg (nI (2048 * k + j))) 0)))] H := hP
      have hD : va_D A [(h0, .inr (11, gM a i g)), (a 3, .inl (cm 3, 85, .inr (.inl fn))), (a 4, .inl (cm 4, 800, .inl fk)), (a 6, .inl (cm 6, 800, .inl fb)), (a 8, .inl (cm 8, 10240, .inl ff)), (a 9, .inl (cm 9, 10240, .inl (upd gh (Int32.toNatClampNeg (nI (2048 * k + j))) 0)))] := hD
      rw [show (upd gh (Int32.toNatClampNeg (nI (2048 * k + j))) 0) = (upd gh (2048 * k + j) 0) from by rw [nI_clamp (by omega)]] at hP hD
      refine lv_iinc (v := nI (j + 1)) (lv' := [(7, .int (nI (j + 1))), (0, .ref h0), (1, .int (nI k)), (2, .long (lN ka)), (4, .long (lN kb)), (6, .int (nI tm))]) hx hb dX11_parts_44 hl (k := 0) rfl (nI_1 j) (by decide) rfl (fun ls hl => ?_)
      refine lv_goto (tgt := 20) hx hb dX11_parts_47 (by decide) ?_
      exact ih (j + 1) (upd gh (2048 * k + j) 0) (by omega) (up_all (P := fun _ y => y = 0) hz rfl) (up_fr (by omega) hf) (by omega) H locs ls (hP.sub [0, 1, 2, 3, 4, 5] rfl) (hD.sub [0, 1, 2, 3, 4, 5] (by decide) rfl) hS (lv_sub hl [0, 1, 2, 3, 4, 5] rfl)
set_option maxHeartbeats 4000000 in
set_option maxRecDepth 100000 in
theorem lp_pt2 (l : Launch) {p : Program} {e : Env} {s : State} {m : MethodId} {args : Array Value} {below : List Frame} {meth : Method} {c : Code} {Q : State → Prop} {A : Nat → Prop} (D : va_G) (h0 : Nat) (a : Nat → Nat) (cm : Nat → ClassId) (i : Nat → Int32) (g : Nat → Int64) (fn : Nat → Int64) (fk : Nat → Int32) (fb : Nat → Int32) (ff : Nat → Int32) (fh : Nat → Int32) (k : Nat) (cn : Nat) (nb : Nat) (K : Nat → Nat) (ka : Nat) (kb : Nat) (tm : Nat) (J : Nat → Nat) (hk : k < 5) (h1 : fn (17 * k + 1) = lN cn) (hcn : cn ≤ 160) (h4 : fn (17 * k + 4) = lN nb) (hn1 : 1 ≤ nb) (hn2 : nb ≤ 2048) (hKy : KyS k fk cn K) (hka : ka < 2147483647) (hkb : kb < 2147483647) (htm : tm ≤ 2) (hJ : ∀ y, y < cn → J y = (ka * K y + kb) % 2147483647 % nb) (h6 : fn (17 * k + 6) = lN ka) (h7 : fn (17 * k + 7) = lN kb) (hx : p.tables.exec = Jvm.exec) (hb : c.code = cX11_parts) (hml : c.maxLocals = 10) (hown : s.vm.findClass RX11 = some m.cls) (hts : ∀ w ∈ wp_c_parts, w.before args s = true) (hA : ∀ q, s.heap.size ≤ q → A q) (hK : va_K D vwCl [(cm 3, .long), (cm 4, .int), (cm 6, .int), (cm 8, .int), (cm 9, .int)] s) (kx120 : ∀ (x : Nat), ∀ (gb : Nat → Int32), ∀ (gh : Nat → Int32), (x ≤ cn) → (∀ y, y < x → gb (160 * k + y) = nI (J y)) → (∀ b, b < nb → gh (2048 * k + b) = nI (cntJ J x b)) → (∀ x, (x < 160 * k ∨ 160 * k + 160 ≤ x) → gb x = fb x) → (∀ x, (x < 2048 * k ∨ 2048 * k + 2048 ≤ x) → gh x = fh x) → (cn ≤ x) → ∀ (H : Heap) (locs : List Loc) (ls : Array Slot), va_P D vwCl [(h0, .inr (11, gM a i g)), (a 3, .inl (cm 3, 85, .inr (.inl fn))), (a 4, .inl (cm 4, 800, .inl fk)), (a 6, .inl (cm 6, 800, .inl gb)), (a 8, .inl (cm 8, 10240, .inl ff)), (a 9, .inl (cm 9, 10240, .inl gh))] H → va_D A [(h0, .inr (11, gM a i g)), (a 3, .inl (cm 3, 85, .inr (.inl fn))), (a 4, .inl (cm 4, 800, .inl fk)), (a 6, .inl (cm 6, 800, .inl gb)), (a 8, .inl (cm 8, 10240, .inl ff)), (a 9, .inl (cm 9, 10240, .inl gh))] → va_S A s.heap H locs → lv_has ls 10 [(0, .ref h0), (1, .int (nI k)), (2, .long (lN ka)), (4, .long (lN kb)), (6, .int (nI tm))] → W p l e ({ frames := 5, cells := 0, slots := 0, locals := 130 }) s m args below meth c H locs 0 0 Q (F0 m 120 ls [])) : ∀ (N : Nat), ∀ (x : Nat), ∀ (gb : Nat → Int32), ∀ (gh : Nat → Int32), (x ≤ cn) → (∀ y, y < x → gb (160 * k + y) = nI (J y)) → (∀ b, b < nb → gh (2048 * k + b) = nI (cntJ J x b)) → (∀ x, (x < 160 * k ∨ 160 * k + 160 ≤ x) → gb x = fb x) → (∀ x, (x < 2048 * k ∨ 2048 * k + 2048 ≤ x) → gh x = fh x) → cn - x < N → ∀ (H : Heap) (locs : List Loc) (ls : Array Slot), va_P D vwCl [(h0, .inr (11, gM a i g)), (a 3, .inl (cm 3, 85, .inr (.inl fn))), (a 4, .inl (cm 4, 800, .inl fk)), (a 6, .inl (cm 6, 800, .inl gb)), (a 8, .inl (cm 8, 10240, .inl ff)), (a 9, .inl (cm 9, 10240, .inl gh))] H → va_D A [(h0, .inr (11, gM a i g)), (a 3, .inl (cm 3, 85, .inr (.inl fn))), (a 4, .inl (cm 4, 800, .inl fk)), (a 6, .inl (cm 6, 800, .inl gb)), (a 8, .inl (cm 8, 10240, .inl ff)), (a 9, .inl (cm 9, 10240, .inl gh))] → va_S A s.heap H locs → lv_has ls 10 [(7, .int (nI (160 * k + x))), (0, .ref h0), (1, .int (nI k)), (2, .long (lN ka)), (4, .long (lN kb)), (6, .int (nI tm))] → W p l e ({ frames := 5, cells := 0, slots := 0, locals := 130 }) s m args below meth c H locs 0 0 Q (F0 m 57 ls []) := by
  have hin_X11 : ∀ w ∈ wsX110, w ∈ wp_c_parts := fun _ h => (List.mem_cons_of_mem _ (List.mem_append_right _ (List.mem_append_right _ (List.mem_append_right _ (List.mem_append_right _ (List.mem_append_right _ (List.mem_append_right _ (List.mem_append_left _ h))))))))
  intro N
  induction N with
  | zero =>
    intro x gb gh hx2 hb2 hh hf1 hf2 hm
    exact absurd hm (Nat.not_lt_zero _)
  | succ N ih =>
    intro x gb gh hx2 hb2 hh hf1 hf2 hm H locs ls hP hD hS hl
    have hKl : ∀ z, z < cn → K z < 2147483647 := fun z a => (hKy.1 z a).2
    have hJl : ∀ y, y < cn → J y < nb := fun y a => by rw [hJ y a]; exact Nat.mod_lt _ (by omega)
    refine lv_iload hx hb dX11_parts_57 (lv_at hl 0 rfl) ?_
    refine lv_sipush (v := 160) hx hb dX11_parts_59 (by decide) ?_
    refine lv_iload_n hx hb dX11_parts_62 rfl (lv_at hl 2 rfl) ?_
    refine lv_imul hx hb dX11_parts_63 ?_
    refine lv_aload_n hx hb dX11_parts_64 rfl (lv_at hl 1 rfl) ?_
    refine lv_iload_n hx hb dX11_parts_65 rfl (lv_at hl 2 rfl) ?_
    have hPc := hP.sub (ws' := [(h0, .inr (11, gM a i g)), (a 3, .inl (cm 3, 85, .inr (.inl fn)))]) [0, 1] rfl
    have hKc := hK.sub (tys' := [(cm 3, .long)]) [0] rfl
    have hFc := va_free0 hS hA
    refine va_calli (va_runV (As := [.int (nI k)]) (rest := [.int (160 * (nI k)), .int (nI (160 * k + x))]) ⟨hx, hb, hml, hown, hts⟩ (c_manyOf l D _ h0 a cm i g fn k cn (by first | assumption | omega) h1) (cwV 1 hts g_c_parts_c_manyOf_95 rfl rfl rfl (by decide +kernel) ⟨(Nat.le_of_ble_eq_true rfl), (Nat.le_of_ble_eq_true rfl)⟩) (PcR_V (q0 := 0) hPc hKc rfl rfl) rfl rfl hl.1 rfl (lv_room (Nat.le_of_ble_eq_true rfl)) dX11_parts_66 ⟨(Nat.le_of_ble_eq_true rfl), (Nat.le_of_ble_eq_true rfl)⟩) hS (fun q _ h => hFc q h) hFc (fun r1 uu tt H locs htt hvm hw hB hz1 hk1 hS => ?_)
    have hP := va_keep hP hk1
    try dsimp only at hw
    clear hB hz1 hk1 hFc hPc hKc
    obtain rfl : r1 = nI cn := hw
    refine lv_iadd hx hb dX11_parts_69 ?_
    refine lv_topi (fun v2 ev2 => ?_)
    obtain rfl : v2 = nI (160 * k + cn) := ev2.trans (ix160 k _)
    refine lv_icmp_ge (tgt := 120) hx hb dX11_parts_70 (by decide) (fun hc3 => ?_) (fun hc3 => ?_)
    ·
      have hge_x : cn ≤ x := by
        have := (nI_leI (a := 160 * k + cn) (b := 160 * k + x) (by omega) (by omega)).mp hc3
        omega
      exact kx120 x gb gh (hx2) (hb2) (hh) (hf1) (hf2) (by omega) H locs ls (hP.sub [0, 1, 2, 3, 4, 5] rfl) (hD.sub [0, 1, 2, 3, 4, 5] (by decide) rfl) hS (lv_sub hl [1, 2, 3, 4, 5] rfl)
    ·
      have hlt_x : x < cn := by
        rcases Nat.lt_or_ge x cn with z | z
        · exact z
        · exact absurd (nI_le (show 160 * k + cn ≤ 160 * k + x by omega) (by omega)) hc3
      refine lv_aload_n hx hb dX11_parts_73 rfl (lv_at hl 1 rfl) ?_
      refine va_get (D := D) (ci := 11) (v := .ref (a 6)) (C := RX11) (T := TX11) (N := 47) hx hb hts hin_X11 hown hK hP 0 rfl rfl 6 (by decide) (hts (.fieldLink RX11 24 "ClashFreeModel" "inBucket" "[I") (List.mem_of_getElem? (i := 9) rfl)) (fun _ h9 => h9) rfl dX11_parts_74 ?_
      refine lv_iload hx hb dX11_parts_77 (lv_at hl 0 rfl) ?_
      refine lv_aload_n hx hb dX11_parts_79 rfl (lv_at hl 1 rfl) ?_
      refine lv_iload_n hx hb dX11_parts_80 rfl (lv_at hl 2 rfl) ?_
      refine lv_aload_n hx hb dX11_parts_81 rfl (lv_at hl 1 rfl) ?_
      refine va_get (D := D) (ci := 11) (v := .ref (a 4)) (C := RX11) (T := TX11) (N := 47) hx hb hts hin_X11 hown hK hP 0 rfl rfl 4 (by decide) (hts (.fieldLink RX11 17 "ClashFreeModel" "keys" "[I") (List.mem_of_getElem? (i := 10) rfl)) (fun _ h9 => h9) rfl dX11_parts_82 ?_
      refine lv_iload hx hb dX11_parts_85 (lv_at hl 0 rfl) ?_
      refine va_iald hx hb hK hP 2 1 rfl rfl (vp_in_nI (by omega) (by decide)) dX11_parts_87 ?_
      refine lv_topi (fun v4 ev4 => ?_)
      obtain rfl : v4 = nI (K x) := ev4.trans (by rw [nI_clamp (by omega)]; exact (hKy.1 _ (by omega)).1)
      have hPc := hP.sub (ws' := [(h0, .inr (11, gM a i g)), (a 3, .inl (cm 3, 85, .inr (.inl fn)))]) [0, 1] rfl
      have hKc := hK.sub (tys' := [(cm 3, .long)]) [0] rfl
      have hFc := va_free0 hS hA
      refine va_calli (va_runV (As := [.int (nI k), .int (nI (K x))]) (rest := [.int (nI (160 * k + x)), .ref (a 6)]) ⟨hx, hb, hml, hown, hts⟩ (c_bucketOf l D _ h0 a cm i g fn k (K x) ka kb nb (by first | assumption | omega) (by first | assumption | omega | exact hKl _ (by omega)) h6 h7 h4 (by first | assumption | omega) (by first | assumption | omega) (by first | assumption | omega) (by first | assumption | omega)) (cwV 2 hts g_c_parts_c_bucketOf_155 rfl rfl rfl (by decide +kernel) ⟨(Nat.le_of_ble_eq_true rfl), (Nat.le_of_ble_eq_true rfl)⟩) (PcR_V (q0 := 0) hPc hKc rfl rfl) rfl rfl hl.1 rfl (lv_room (Nat.le_of_ble_eq_true rfl)) dX11_parts_88 ⟨(Nat.le_of_ble_eq_true rfl), (Nat.le_of_ble_eq_true rfl)⟩) hS (fun q _ h => hFc q h) hFc (fun r5 uu tt H locs htt hvm hw hB hz1 hk1 hS => ?_)
      have hP := va_keep hP hk1
      try dsimp only at hw
      clear hB hz1 hk1 hFc hPc hKc
      obtain rfl : r5 = nI ((ka * (K x) + kb) % 2147483647 % nb) := hw
      refine lv_topi (fun v6 ev6 => ?_)
      obtain rfl : v6 = nI (J x) := ev6.trans (by rw [hJ x (by omega)])
      refine va_iast hx hb hK hP hD hS 3 2 rfl rfl (vp_in_nI (by omega) (by decide)) dX11_parts_91 (fun H locs hP hD hS => ?_)
      have hP : va_P D vwCl [(h0, .inr (11, gM a i g)), (a 3, .inl (cm 3, 85, .inr (.inl fn))), (a 4, .inl (cm 4, 800, .inl fk)), (a 6, .inl (cm 6, 800, .inl (upd gb (Int32.toNatClampNeg (nI (160 * k + x))) (nI (J x))))), (a 8, .inl (cm 8, 10240, .inl ff)), (a 9, .inl (cm 9, 10240, .inl gh))] H := hP
      have hD : va_D A [(h0, .inr (11, gM a i g)), (a 3, .inl (cm 3, 85, .inr (.inl fn))), (a 4, .inl (cm 4, 800, .inl fk)), (a 6, .inl (cm 6, 800, .inl (upd gb (Int32.toNatClampNeg (nI (160 * k + x))) (nI (J x))))), (a 8, .inl (cm 8, 10240, .inl ff)), (a 9, .inl (cm 9, 10240, .inl gh))] := hD
      rw [show (upd gb (Int32.toNatClampNeg (nI (160 * k + x))) (nI (J x))) = (upd gb (160 * k + x) (nI (J x))) from by rw [nI_clamp (by omega)]] at hP hD
      refine lv_aload_n hx hb dX11_parts_92 rfl (lv_at hl 1 rfl) ?_
      refine va_get (D := D) (ci := 11) (v := .ref (a 9)) (C := RX11) (T := TX11) (N := 47) hx hb hts hin_X11 hown hK hP 0 rfl rfl 9 (by decide) (hts (.fieldLink RX11 33 "ClashFreeModel" "has" "[I") (List.mem_of_getElem? (i := 5) rfl)) (fun _ h9 => h9) rfl dX11_parts_93 ?_
      refine lv_sipush (v := 2048) hx hb dX11_parts_96 (by decide) ?_
      refine lv_iload_n hx hb dX11_parts_99 rfl (lv_at hl 2 rfl) ?_
      refine lv_imul hx hb dX11_parts_100 ?_
      refine lv_aload_n hx hb dX11_parts_101 rfl (lv_at hl 1 rfl) ?_
      refine va_get (D := D) (ci := 11) (v := .ref (a 6)) (C := RX11) (T := TX11) (N := 47) hx hb hts hin_X11 hown hK hP 0 rfl rfl 6 (by decide) (hts (.fieldLink RX11 24 "ClashFreeModel" "inBucket" "[I") (List.mem_of_getElem? (i := 9) rfl)) (fun _ h9 => h9) rfl dX11_parts_102 ?_
      refine lv_iload hx hb dX11_parts_105 (lv_at hl 0 rfl) ?_
      refine va_iald hx hb hK hP 3 2 rfl rfl (vp_in_nI (by omega) (by decide)) dX11_parts_107 ?_
      refine lv_topi (fun v7 ev7 => ?_)
      obtain rfl : v7 = nI (J x) := ev7.trans (by rw [nI_clamp (by omega)]; exact pk_us)
      refine lv_iadd hx hb dX11_parts_108 ?_
      refine lv_topi (fun v8 ev8 => ?_)
      obtain rfl : v8 = nI (2048 * k + J x) := ev8.trans (ix2048 k _)
      refine lv_dup2_11 hx hb dX11_parts_109 rfl rfl ?_
      refine va_iald hx hb hK hP 5 4 rfl rfl (vp_in_nI (by have := hJl x (by omega); omega) (by decide)) dX11_parts_110 ?_
      refine lv_topi (fun v9 ev9 => ?_)
      obtain rfl : v9 = nI (cntJ J x (J x)) := ev9.trans (by rw [nI_clamp (by have := hJl x (by omega); omega)]; exact hh _ (hJl x (by omega)))
      refine lv_iconst (v := 1) hx hb dX11_parts_111 (by decide) ?_
      refine lv_iadd hx hb dX11_parts_112 ?_
      refine lv_topi (fun v10 ev10 => ?_)
      obtain rfl : v10 = nI (cntJ J x (J x) + 1) := ev10.trans (nI_1 _)
      refine va_iast hx hb hK hP hD hS 5 4 rfl rfl (vp_in_nI (by have := hJl x (by omega); omega) (by decide)) dX11_parts_113 (fun H locs hP hD hS => ?_)
      have hP : va_P D vwCl [(h0, .inr (11, gM a i g)), (a 3, .inl (cm 3, 85, .inr (.inl fn))), (a 4, .inl (cm 4, 800, .inl fk)), (a 6, .inl (cm 6, 800, .inl (upd gb (160 * k + x) (nI (J x))))), (a 8, .inl (cm 8, 10240, .inl ff)), (a 9, .inl (cm 9, 10240, .inl (upd gh (Int32.toNatClampNeg (nI (2048 * k + J x))) (nI (cntJ J x (J x) + 1)))))] H := hP
      have hD : va_D A [(h0, .inr (11, gM a i g)), (a 3, .inl (cm 3, 85, .inr (.inl fn))), (a 4, .inl (cm 4, 800, .inl fk)), (a 6, .inl (cm 6, 800, .inl (upd gb (160 * k + x) (nI (J x))))), (a 8, .inl (cm 8, 10240, .inl ff)), (a 9, .inl (cm 9, 10240, .inl (upd gh (Int32.toNatClampNeg (nI (2048 * k + J x))) (nI (cntJ J x (J x) + 1)))))] := hD
      rw [show (upd gh (Int32.toNatClampNeg (nI (2048 * k + J x))) (nI (cntJ J x (J x) + 1))) = (upd gh (2048 * k + J x) (nI (cntJ J x (J x) + 1))) from by rw [nI_clamp (by have := hJl x (by omega); omega)]] at hP hD
      refine lv_iinc (v := nI (160 * k + (x + 1))) (lv' := [(7, .int (nI (160 * k + (x + 1)))), (0, .ref h0), (1, .int (nI k)), (2, .long (lN ka)), (4, .long (lN kb)), (6, .int (nI tm))]) hx hb dX11_parts_114 hl (k := 0) rfl (nI_1 _) (by decide) rfl (fun ls hl => ?_)
      refine lv_goto (tgt := 57) hx hb dX11_parts_117 (by decide) ?_
      exact ih (x + 1) (upd gb (160 * k + x) (nI (J x))) (upd gh (2048 * k + J x) (nI (cntJ J x (J x) + 1))) (by omega) (up_all (P := fun y v => v = nI (J y)) hb2 rfl) (hs_step hh) (up_fr (by omega) hf1) (up_fr (by have := hJl x (by omega); omega) hf2) (by omega) H locs ls (hP.sub [0, 1, 2, 3, 4, 5] rfl) (hD.sub [0, 1, 2, 3, 4, 5] (by decide) rfl) hS (lv_sub hl [0, 1, 2, 3, 4, 5] rfl)
set_option maxHeartbeats 4000000 in
set_option maxRecDepth 100000 in
theorem lp_pt3 (l : Launch) {p : Program} {e : Env} {s : State} {m : MethodId} {args : Array Value} {below : List Frame} {meth : Method} {c : Code} {Q : State → Prop} {A : Nat → Prop} (D : va_G) (h0 : Nat) (a : Nat → Nat) (cm : Nat → ClassId) (i : Nat → Int32) (g : Nat → Int64) (fn : Nat → Int64) (fk : Nat → Int32) (fb : Nat → Int32) (ff : Nat → Int32) (fh : Nat → Int32) (k : Nat) (cn : Nat) (nb : Nat) (K : Nat → Nat) (ka : Nat) (kb : Nat) (tm : Nat) (J : Nat → Nat) (hk : k < 5) (h1 : fn (17 * k + 1) = lN cn) (hcn : cn ≤ 160) (h4 : fn (17 * k + 4) = lN nb) (hn1 : 1 ≤ nb) (hn2 : nb ≤ 2048) (hKy : KyS k fk cn K) (hka : ka < 2147483647) (hkb : kb < 2147483647) (htm : tm ≤ 2) (hJ : ∀ y, y < cn → J y = (ka * K y + kb) % 2147483647 % nb) (hh : ∀ b, b < nb → fh (2048 * k + b) = nI (cntJ J cn b)) (hx : p.tables.exec = Jvm.exec) (hb : c.code = cX11_parts) (hml : c.maxLocals = 10) (hown : s.vm.findClass RX11 = some m.cls) (hts : ∀ w ∈ wp_c_parts, w.before args s = true) (hA : ∀ q, s.heap.size ≤ q → A q) (hK : va_K D vwCl [(cm 3, .long), (cm 4, .int), (cm 6, .int), (cm 8, .int), (cm 9, .int)] s) (kx184 : ∀ (j : Nat), ∀ (gf : Nat → Int32), ∀ (sm : Int64), (j ≤ nb) → (∀ b, b < j → gf (2048 * k + b) = nI (tm * cntJ J cn b)) → (∀ x, (x < 2048 * k ∨ 2048 * k + 2048 ≤ x) → gf x = ff x) → (nb ≤ j) → ∀ (H : Heap) (locs : List Loc) (ls : Array Slot), va_P D vwCl [(h0, .inr (11, gM a i g)), (a 3, .inl (cm 3, 85, .inr (.inl fn))), (a 4, .inl (cm 4, 800, .inl fk)), (a 6, .inl (cm 6, 800, .inl fb)), (a 8, .inl (cm 8, 10240, .inl gf)), (a 9, .inl (cm 9, 10240, .inl fh))] H → va_D A [(h0, .inr (11, gM a i g)), (a 3, .inl (cm 3, 85, .inr (.inl fn))), (a 4, .inl (cm 4, 800, .inl fk)), (a 6, .inl (cm 6, 800, .inl fb)), (a 8, .inl (cm 8, 10240, .inl gf)), (a 9, .inl (cm 9, 10240, .inl fh))] → va_S A s.heap H locs → lv_has ls 10 [(7, .long sm), (0, .ref h0), (1, .int (nI k)), (2, .long (lN ka)), (4, .long (lN kb)), (6, .int (nI tm))] → W p l e ({ frames := 5, cells := 0, slots := 0, locals := 130 }) s m args below meth c H locs 0 0 Q (F0 m 184 ls [])) : ∀ (N : Nat), ∀ (j : Nat), ∀ (gf : Nat → Int32), ∀ (sm : Int64), (j ≤ nb) → (∀ b, b < j → gf (2048 * k + b) = nI (tm * cntJ J cn b)) → (∀ x, (x < 2048 * k ∨ 2048 * k + 2048 ≤ x) → gf x = ff x) → nb - j < N → ∀ (H : Heap) (locs : List Loc) (ls : Array Slot), va_P D vwCl [(h0, .inr (11, gM a i g)), (a 3, .inl (cm 3, 85, .inr (.inl fn))), (a 4, .inl (cm 4, 800, .inl fk)), (a 6, .inl (cm 6, 800, .inl fb)), (a 8, .inl (cm 8, 10240, .inl gf)), (a 9, .inl (cm 9, 10240, .inl fh))] H → va_D A [(h0, .inr (11, gM a i g)), (a 3, .inl (cm 3, 85, .inr (.inl fn))), (a 4, .inl (cm 4, 800, .inl fk)), (a 6, .inl (cm 6, 800, .inl fb)), (a 8, .inl (cm 8, 10240, .inl gf)), (a 9, .inl (cm 9, 10240, .inl fh))] → va_S A s.heap H locs → lv_has ls 10 [(9, .int (nI j)), (7, .long sm), (0, .ref h0), (1, .int (nI k)), (2, .long (lN ka)), (4, .long (lN kb)), (6, .int (nI tm))] → W p l e ({ frames := 5, cells := 0, slots := 0, locals := 130 }) s m args below meth c H locs 0 0 Q (F0 m 126 ls []) := by
  have hin_X11 : ∀ w ∈ wsX110, w ∈ wp_c_parts := fun _ h => (List.mem_cons_of_mem _ (List.mem_append_right _ (List.mem_append_right _ (List.mem_append_right _ (List.mem_append_right _ (List.mem_append_right _ (List.mem_append_right _ (List.mem_append_left _ h))))))))
  intro N
  induction N with
  | zero =>
    intro j gf sm hj1 hr3 hf hm
    exact absurd hm (Nat.not_lt_zero _)
  | succ N ih =>
    intro j gf sm hj1 hr3 hf hm H locs ls hP hD hS hl
    refine lv_iload hx hb dX11_parts_126 (lv_at hl 0 rfl) ?_
    refine lv_aload_n hx hb dX11_parts_128 rfl (lv_at hl 2 rfl) ?_
    refine lv_iload_n hx hb dX11_parts_129 rfl (lv_at hl 3 rfl) ?_
    have hPc := hP.sub (ws' := [(h0, .inr (11, gM a i g)), (a 3, .inl (cm 3, 85, .inr (.inl fn)))]) [0, 1] rfl
    have hKc := hK.sub (tys' := [(cm 3, .long)]) [0] rfl
    have hFc := va_free0 hS hA
    refine va_calli (va_runV (As := [.int (nI k)]) (rest := [.int (nI j)]) ⟨hx, hb, hml, hown, hts⟩ (c_buckets l D _ h0 a cm i g fn k nb (by first | assumption | omega) h4) (cwV 1 hts g_c_parts_c_buckets_152 rfl rfl rfl (by decide +kernel) ⟨(Nat.le_of_ble_eq_true rfl), (Nat.le_of_ble_eq_true rfl)⟩) (PcR_V (q0 := 0) hPc hKc rfl rfl) rfl rfl hl.1 rfl (lv_room (Nat.le_of_ble_eq_true rfl)) dX11_parts_130 ⟨(Nat.le_of_ble_eq_true rfl), (Nat.le_of_ble_eq_true rfl)⟩) hS (fun q _ h => hFc q h) hFc (fun r1 uu tt H locs htt hvm hw hB hz1 hk1 hS => ?_)
    have hP := va_keep hP hk1
    try dsimp only at hw
    clear hB hz1 hk1 hFc hPc hKc
    obtain rfl : r1 = nI nb := hw
    refine lv_icmp_ge (tgt := 184) hx hb dX11_parts_133 (by decide) (fun hc2 => ?_) (fun hc2 => ?_)
    ·
      have hge_j : nb ≤ j := (nI_leI (by omega) (by omega)).mp hc2
      exact kx184 j gf sm (hj1) (hr3) (hf) (by omega) H locs ls (hP.sub [0, 1, 2, 3, 4, 5] rfl) (hD.sub [0, 1, 2, 3, 4, 5] (by decide) rfl) hS (lv_sub hl [1, 2, 3, 4, 5, 6] rfl)
    ·
      have hlt_j : j < nb := by
        rcases Nat.lt_or_ge j nb with z | z
        · exact z
        · exact absurd (nI_le z (by omega)) hc2
      refine lv_aload_n hx hb dX11_parts_136 rfl (lv_at hl 2 rfl) ?_
      refine va_get (D := D) (ci := 11) (v := .ref (a 8)) (C := RX11) (T := TX11) (N := 47) hx hb hts hin_X11 hown hK hP 0 rfl rfl 8 (by decide) (hts (.fieldLink RX11 30 "ClashFreeModel" "roofs" "[I") (List.mem_of_getElem? (i := 14) rfl)) (fun _ h9 => h9) rfl dX11_parts_137 ?_
      refine lv_sipush (v := 2048) hx hb dX11_parts_140 (by decide) ?_
      refine lv_iload_n hx hb dX11_parts_143 rfl (lv_at hl 3 rfl) ?_
      refine lv_imul hx hb dX11_parts_144 ?_
      refine lv_iload hx hb dX11_parts_145 (lv_at hl 0 rfl) ?_
      refine lv_iadd hx hb dX11_parts_147 ?_
      refine lv_topi (fun v3 ev3 => ?_)
      obtain rfl : v3 = nI (2048 * k + j) := ev3.trans (ix2048 k j)
      refine lv_iload hx hb dX11_parts_148 (lv_at hl 6 rfl) ?_
      refine lv_aload_n hx hb dX11_parts_150 rfl (lv_at hl 2 rfl) ?_
      refine va_get (D := D) (ci := 11) (v := .ref (a 9)) (C := RX11) (T := TX11) (N := 47) hx hb hts hin_X11 hown hK hP 0 rfl rfl 9 (by decide) (hts (.fieldLink RX11 33 "ClashFreeModel" "has" "[I") (List.mem_of_getElem? (i := 5) rfl)) (fun _ h9 => h9) rfl dX11_parts_151 ?_
      refine lv_sipush (v := 2048) hx hb dX11_parts_154 (by decide) ?_
      refine lv_iload_n hx hb dX11_parts_157 rfl (lv_at hl 3 rfl) ?_
      refine lv_imul hx hb dX11_parts_158 ?_
      refine lv_iload hx hb dX11_parts_159 (lv_at hl 0 rfl) ?_
      refine lv_iadd hx hb dX11_parts_161 ?_
      refine lv_topi (fun v4 ev4 => ?_)
      obtain rfl : v4 = nI (2048 * k + j) := ev4.trans (ix2048 k j)
      refine va_iald hx hb hK hP 5 4 rfl rfl (vp_in_nI (by omega) (by decide)) dX11_parts_162 ?_
      refine lv_topi (fun v5 ev5 => ?_)
      obtain rfl : v5 = nI (cntJ J cn j) := ev5.trans (by rw [nI_clamp (by omega)]; exact hh _ hlt_j)
      refine lv_imul hx hb dX11_parts_163 ?_
      refine lv_topi (fun v6 ev6 => ?_)
      obtain rfl : v6 = nI (tm * cntJ J cn j) := ev6.trans (pk_mul _ _)
      refine va_iast hx hb hK hP hD hS 4 3 rfl rfl (vp_in_nI (by omega) (by decide)) dX11_parts_164 (fun H locs hP hD hS => ?_)
      have hP : va_P D vwCl [(h0, .inr (11, gM a i g)), (a 3, .inl (cm 3, 85, .inr (.inl fn))), (a 4, .inl (cm 4, 800, .inl fk)), (a 6, .inl (cm 6, 800, .inl fb)), (a 8, .inl (cm 8, 10240, .inl (upd gf (Int32.toNatClampNeg (nI (2048 * k + j))) (nI (tm * cntJ J cn j))))), (a 9, .inl (cm 9, 10240, .inl fh))] H := hP
      have hD : va_D A [(h0, .inr (11, gM a i g)), (a 3, .inl (cm 3, 85, .inr (.inl fn))), (a 4, .inl (cm 4, 800, .inl fk)), (a 6, .inl (cm 6, 800, .inl fb)), (a 8, .inl (cm 8, 10240, .inl (upd gf (Int32.toNatClampNeg (nI (2048 * k + j))) (nI (tm * cntJ J cn j))))), (a 9, .inl (cm 9, 10240, .inl fh))] := hD
      rw [show (upd gf (Int32.toNatClampNeg (nI (2048 * k + j))) (nI (tm * cntJ J cn j))) = (upd gf (2048 * k + j) (nI (tm * cntJ J cn j))) from by rw [nI_clamp (by omega)]] at hP hD
      refine lv_lload hx hb dX11_parts_165 (lv_at hl 1 rfl) ?_
      refine lv_aload_n hx hb dX11_parts_167 rfl (lv_at hl 2 rfl) ?_
      refine lv_iload_n hx hb dX11_parts_168 rfl (lv_at hl 3 rfl) ?_
      refine lv_iload hx hb dX11_parts_169 (lv_at hl 0 rfl) ?_
      have hPc := hP.sub (ws' := [(h0, .inr (11, gM a i g)), (a 8, .inl (cm 8, 10240, .inl (upd gf (2048 * k + j) (nI (tm * cntJ J cn j)))))]) [0, 4] rfl
      have hKc := hK.sub (tys' := [(cm 8, .int)]) [3] rfl
      have hFc := va_free0 hS hA
      refine va_calli (va_runV (As := [.int (nI k), .int (nI j)]) (rest := [.long sm]) ⟨hx, hb, hml, hown, hts⟩ (c_roomsOf l D _ h0 a cm i g (upd gf (2048 * k + j) (nI (tm * cntJ J cn j))) k j (tm * cntJ J cn j) (by first | assumption | omega) (by first | assumption | omega) pk_us) (cwV 2 hts g_c_parts_c_roomsOf_137 rfl rfl rfl (by decide +kernel) ⟨(Nat.le_of_ble_eq_true rfl), (Nat.le_of_ble_eq_true rfl)⟩) (PcR_V (q0 := 0) hPc hKc rfl rfl) rfl rfl hl.1 rfl (lv_room (Nat.le_of_ble_eq_true rfl)) dX11_parts_171 ⟨(Nat.le_of_ble_eq_true rfl), (Nat.le_of_ble_eq_true rfl)⟩) hS (fun q _ h => hFc q h) hFc (fun r7 uu tt H locs htt hvm hw hB hz1 hk1 hS => ?_)
      have hP := va_keep hP hk1
      try dsimp only at hw
      clear hB hz1 hk1 hFc hPc hKc
      obtain rfl : r7 = nI ((tm * cntJ J cn j) * (tm * cntJ J cn j)) := hw
      refine lv_i2l hx hb dX11_parts_174 rfl ?_
      refine lv_ladd hx hb dX11_parts_175 ?_
      refine lv_topl (fun v8 ev8 => ?_)
      refine lv_lstore (lv' := [(7, .long v8), (9, .int (nI j)), (0, .ref h0), (1, .int (nI k)), (2, .long (lN ka)), (4, .long (lN kb)), (6, .int (nI tm))]) hx hb dX11_parts_176 hl (by decide) rfl (fun ls hl => ?_)
      refine lv_iinc (v := nI (j + 1)) (lv' := [(9, .int (nI (j + 1))), (7, .long v8), (0, .ref h0), (1, .int (nI k)), (2, .long (lN ka)), (4, .long (lN kb)), (6, .int (nI tm))]) hx hb dX11_parts_178 hl (k := 1) rfl (nI_1 j) (by decide) rfl (fun ls hl => ?_)
      refine lv_goto (tgt := 126) hx hb dX11_parts_181 (by decide) ?_
      exact ih (j + 1) (upd gf (2048 * k + j) (nI (tm * cntJ J cn j))) v8 (by omega) (up_all (P := fun b v => v = nI (tm * cntJ J cn b)) hr3 rfl) (up_fr (by omega) hf) (by omega) H locs ls (hP.sub [0, 1, 2, 3, 4, 5] rfl) (hD.sub [0, 1, 2, 3, 4, 5] (by decide) rfl) hS (lv_sub hl [0, 1, 2, 3, 4, 5, 6] rfl)
set_option maxHeartbeats 4000000 in
set_option maxRecDepth 100000 in
theorem c_parts (l : Launch) (D : va_G) (sz : Nat) (h0 : Nat) (a : Nat → Nat) (cm : Nat → ClassId) (i : Nat → Int32) (g : Nat → Int64) (fn : Nat → Int64) (fk : Nat → Int32) (fb : Nat → Int32) (ff : Nat → Int32) (fh : Nat → Int32) (k : Nat) (cn : Nat) (nb : Nat) (K : Nat → Nat) (ka : Nat) (kb : Nat) (tm : Nat) (J : Nat → Nat) (hk : k < 5) (h1 : fn (17 * k + 1) = lN cn) (hcn : cn ≤ 160) (h4 : fn (17 * k + 4) = lN nb) (hn1 : 1 ≤ nb) (hn2 : nb ≤ 2048) (hKy : KyS k fk cn K) (hka : ka < 2147483647) (hkb : kb < 2147483647) (htm : tm ≤ 2) (hJ : ∀ y, y < cn → J y = (ka * K y + kb) % 2147483647 % nb) : Met l yX11_parts wp_c_parts ({ frames := 5, cells := 0, slots := 0, locals := 130 }) (PcW D [.ref h0, .int (nI k), .long (lN ka), .long (lN kb), .int (nI tm)] sz [(h0, .inr (11, gM a i g)), (a 3, .inl (cm 3, 85, .inr (.inl fn))), (a 4, .inl (cm 4, 800, .inl fk)), (a 6, .inl (cm 6, 800, .inl fb)), (a 8, .inl (cm 8, 10240, .inl ff)), (a 9, .inl (cm 9, 10240, .inl fh))] [(cm 3, .long), (cm 4, .int), (cm 6, .int), (cm 8, .int), (cm 9, .int)]) (va_Ql (fun (r : Int64) (u : (Nat → Int64) × (Nat → Int32) × (Nat → Int32) × (Nat → Int32)) => (∀ x, x ≠ 17 * k + 5 → x ≠ 17 * k + 6 → x ≠ 17 * k + 7 → u.1 x = fn x) ∧ u.1 (17 * k + 6) = lN ka ∧ u.1 (17 * k + 7) = lN kb ∧ BkS k u.2.1 cn nb J ∧ (∀ b, b < nb → u.2.2.2 (2048 * k + b) = nI (cntJ J cn b)) ∧ (∀ b, b < nb → u.2.2.1 (2048 * k + b) = nI (tm * cntJ J cn b)) ∧ (∀ x, (x < 160 * k ∨ 160 * k + 160 ≤ x) → u.2.1 x = fb x) ∧ (∀ x, (x < 2048 * k ∨ 2048 * k + 2048 ≤ x) → u.2.2.1 x = ff x) ∧ (∀ x, (x < 2048 * k ∨ 2048 * k + 2048 ≤ x) → u.2.2.2 x = fh x)) (fun (u : (Nat → Int64) × (Nat → Int32) × (Nat → Int32) × (Nat → Int32)) t => va_P D vwCl [(h0, .inr (11, gM a i g)), (a 3, .inl (cm 3, 85, .inr (.inl u.1))), (a 4, .inl (cm 4, 800, .inl fk)), (a 6, .inl (cm 6, 800, .inl u.2.1)), (a 8, .inl (cm 8, 10240, .inl u.2.2.1)), (a 9, .inl (cm 9, 10240, .inl u.2.2.2))] t.heap ∧ va_K D vwCl [(cm 3, .long), (cm 4, .int), (cm 6, .int), (cm 8, .int), (cm 9, .int)] t ∧ va_D (va_A [(h0, .inr (11, gM a i g)), (a 3, .inl (cm 3, 85, .inr (.inl fn))), (a 4, .inl (cm 4, 800, .inl fk)), (a 6, .inl (cm 6, 800, .inl fb)), (a 8, .inl (cm 8, 10240, .inl ff)), (a 9, .inl (cm 9, 10240, .inl fh))] sz) [(h0, .inr (11, gM a i g)), (a 3, .inl (cm 3, 85, .inr (.inl u.1))), (a 4, .inl (cm 4, 800, .inl fk)), (a 6, .inl (cm 6, 800, .inl u.2.1)), (a 8, .inl (cm 8, 10240, .inl u.2.2.1)), (a 9, .inl (cm 9, 10240, .inl u.2.2.2))]) (va_A [(h0, .inr (11, gM a i g)), (a 3, .inl (cm 3, 85, .inr (.inl fn))), (a 4, .inl (cm 4, 800, .inl fk)), (a 6, .inl (cm 6, 800, .inl fb)), (a 8, .inl (cm 8, 10240, .inl ff)), (a 9, .inl (cm 9, 10240, .inl fh))] sz)) 0 0 (va_A [(h0, .inr (11, gM a i g)), (a 3, .inl (cm 3, 85, .inr (.inl fn))), (a 4, .inl (cm 4, 800, .inl fk)), (a 6, .inl (cm 6, 800, .inl fb)), (a 8, .inl (cm 8, 10240, .inl ff)), (a 9, .inl (cm 9, 10240, .inl fh))] sz) := by
  refine Met.ofW (cc := cX11_parts) (maxL := 10) (ret := (some .long)) (by decide) rfl ?_
  intro p e s m args below meth c s₁ B hml hv
  obtain ⟨rfl, hsz, hP, hK, hD0⟩ := hv
  have hx := B.exec
  have hb := B.bytes
  have hr := B.returns
  have hts := atoms_spec (ws := wp_c_parts) B.pre
  have hin_X11 : ∀ w ∈ wsX110, w ∈ wp_c_parts := fun _ h => (List.mem_cons_of_mem _ (List.mem_append_right _ (List.mem_append_right _ (List.mem_append_right _ (List.mem_append_right _ (List.mem_append_right _ (List.mem_append_right _ (List.mem_append_left _ h))))))))
  have hown : s.vm.findClass RX11 = some m.cls := findClass_of_methodNamed B.named
  have hlocks := B.notSynchronized
  subst hsz
  have hD := hD0.self (sz := s.heap.size)
  generalize hAe : va_A [(h0, .inr (11, gM a i g)), (a 3, .inl (cm 3, 85, .inr (.inl fn))), (a 4, .inl (cm 4, 800, .inl fk)), (a 6, .inl (cm 6, 800, .inl fb)), (a 8, .inl (cm 8, 10240, .inl ff)), (a 9, .inl (cm 9, 10240, .inl fh))] s.heap.size = A at hD ⊢
  have hA : ∀ q : Nat, s.heap.size ≤ q → A q := fun q h => by rw [← hAe]; exact Or.inr h
  have hS : va_S A s.heap s.heap [] := va_S.rf
  have hP : va_P D vwCl [(h0, .inr (11, gM a i g)), (a 3, .inl (cm 3, 85, .inr (.inl fn))), (a 4, .inl (cm 4, 800, .inl fk)), (a 6, .inl (cm 6, 800, .inl fb)), (a 8, .inl (cm 8, 10240, .inl ff)), (a 9, .inl (cm 9, 10240, .inl fh))] s.heap := hP
  have hl := lv_entry ([.ref h0, .int (nI k), .long (lN ka), .long (lN kb), .int (nI tm)]) (n := 10) (Nat.le_of_ble_eq_true rfl)
  rw [lg_entry_eq]
  generalize (lg_sl ([.ref h0, .int (nI k), .long (lN ka), .long (lN kb), .int (nI tm)]) ++ List.replicate (10 - (lg_sl ([.ref h0, .int (nI k), .long (lN ka), .long (lN kb), .int (nI tm)])).length) Slot.unset).toArray = ls at hl ⊢
  have hl : lv_has ls 10 [(0, .ref h0), (1, .int (nI k)), (2, .long (lN ka)), (4, .long (lN kb)), (6, .int (nI tm))] := hl
  refine lv_aload_n hx hb dX11_parts_0 rfl (lv_at hl 0 rfl) ?_
  refine lv_iload_n hx hb dX11_parts_1 rfl (lv_at hl 1 rfl) ?_
  refine lv_bipush (v := 6) hx hb dX11_parts_2 (by decide) ?_
  refine lv_lload_n hx hb dX11_parts_4 rfl (lv_at hl 2 rfl) ?_
  have hPc := hP.sub (ws' := [(h0, .inr (11, gM a i g)), (a 3, .inl (cm 3, 85, .inr (.inl fn)))]) [0, 1] rfl
  have hKc := hK.sub (tys' := [(cm 3, .long)]) [0] rfl
  have hDc := hD.sub (ws' := [(h0, .inr (11, gM a i g)), (a 3, .inl (cm 3, 85, .inr (.inl fn)))]) [0, 1] (by decide) rfl
  have hFc := va_free (wc := [(h0, .inr (11, gM a i g)), (a 3, .inl (cm 3, 85, .inr (.inl fn)))]) hD hS hA [0, 1] rfl
  refine va_callv (va_runV (As := [.int (nI k), .int (nI 6), .long (lN ka)]) (rest := []) ⟨hx, hb, hml, hown, hts⟩ (c_lays l D _ h0 a cm i g fn k 6 (lN ka) (by first | assumption | omega) (by first | assumption | omega)) (cwV 3 hts g_c_parts_c_lays_126 rfl rfl rfl (by decide +kernel) ⟨(Nat.le_of_ble_eq_true rfl), (Nat.le_of_ble_eq_true rfl)⟩) (PcW_V (q0 := 0) hPc hKc hDc rfl rfl) rfl rfl hl.1 rfl (lv_room (Nat.le_of_ble_eq_true rfl)) dX11_parts_5 ⟨(Nat.le_of_ble_eq_true rfl), (Nat.le_of_ble_eq_true rfl)⟩) hS (fun q _ h => hFc q h) hFc (fun uu tt H locs htt hvm hw hB hz1 hk1 hS => ?_)
  obtain ⟨w2, rfl⟩ : ∃ z, z = uu := ⟨_, rfl⟩
  obtain ⟨hP1, hK1, hD1⟩ := hB
  rw [htt] at hP1
  have hK1 := va_K.moved hvm.symm hK1
  have hP1 : va_P D vwCl [(h0, .inr (11, gM a i g)), (a 3, .inl (cm 3, 85, .inr (.inl w2)))] H := hP1
  obtain ⟨hP, hD⟩ := va_join (wr := [(a 4, .inl (cm 4, 800, .inl fk)), (a 6, .inl (cm 6, 800, .inl fb)), (a 8, .inl (cm 8, 10240, .inl ff)), (a 9, .inl (cm 9, 10240, .inl fh))]) (w1 := [(h0, .inr (11, gM a i g)), (a 3, .inl (cm 3, 85, .inr (.inl w2)))]) hP hD [0, 1] [2, 3, 4, 5] rfl rfl (by decide) (by decide) hk1 hFc hP1 hD1
  have hP : va_P D vwCl [(a 4, .inl (cm 4, 800, .inl fk)), (a 6, .inl (cm 6, 800, .inl fb)), (a 8, .inl (cm 8, 10240, .inl ff)), (a 9, .inl (cm 9, 10240, .inl fh)), (h0, .inr (11, gM a i g)), (a 3, .inl (cm 3, 85, .inr (.inl w2)))] H := hP
  have hD : va_D A [(a 4, .inl (cm 4, 800, .inl fk)), (a 6, .inl (cm 6, 800, .inl fb)), (a 8, .inl (cm 8, 10240, .inl ff)), (a 9, .inl (cm 9, 10240, .inl fh)), (h0, .inr (11, gM a i g)), (a 3, .inl (cm 3, 85, .inr (.inl w2)))] := hD
  try dsimp only at hw
  clear hz1 hk1 hFc hPc hKc hDc
  have hL3 := hw
  refine lv_aload_n hx hb dX11_parts_8 rfl (lv_at hl 0 rfl) ?_
  refine lv_iload_n hx hb dX11_parts_9 rfl (lv_at hl 1 rfl) ?_
  refine lv_bipush (v := 7) hx hb dX11_parts_10 (by decide) ?_
  refine lv_lload hx hb dX11_parts_12 (lv_at hl 3 rfl) ?_
  have hPc := hP.sub (ws' := [(h0, .inr (11, gM a i g)), (a 3, .inl (cm 3, 85, .inr (.inl w2)))]) [4, 5] rfl
  have hKc := hK.sub (tys' := [(cm 3, .long)]) [0] rfl
  have hDc := hD.sub (ws' := [(h0, .inr (11, gM a i g)), (a 3, .inl (cm 3, 85, .inr (.inl w2)))]) [4, 5] (by decide) rfl
  have hFc := va_free (wc := [(h0, .inr (11, gM a i g)), (a 3, .inl (cm 3, 85, .inr (.inl w2)))]) hD hS hA [4, 5] rfl
  refine va_callv (va_runV (As := [.int (nI k), .int (nI 7), .long (lN kb)]) (rest := []) ⟨hx, hb, hml, hown, hts⟩ (c_lays l D _ h0 a cm i g w2 k 7 (lN kb) (by first | assumption | omega) (by first | assumption | omega)) (cwV 3 hts g_c_parts_c_lays_126 rfl rfl rfl (by decide +kernel) ⟨(Nat.le_of_ble_eq_true rfl), (Nat.le_of_ble_eq_true rfl)⟩) (PcW_V (q0 := 0) hPc hKc hDc rfl rfl) rfl rfl hl.1 rfl (lv_room (Nat.le_of_ble_eq_true rfl)) dX11_parts_14 ⟨(Nat.le_of_ble_eq_true rfl), (Nat.le_of_ble_eq_true rfl)⟩) hS (fun q _ h => hFc q h) hFc (fun uu tt H locs htt hvm hw hB hz1 hk1 hS => ?_)
  obtain ⟨w5, rfl⟩ : ∃ z, z = uu := ⟨_, rfl⟩
  obtain ⟨hP1, hK1, hD1⟩ := hB
  rw [htt] at hP1
  have hK1 := va_K.moved hvm.symm hK1
  have hP1 : va_P D vwCl [(h0, .inr (11, gM a i g)), (a 3, .inl (cm 3, 85, .inr (.inl w5)))] H := hP1
  obtain ⟨hP, hD⟩ := va_join (wr := [(a 4, .inl (cm 4, 800, .inl fk)), (a 6, .inl (cm 6, 800, .inl fb)), (a 8, .inl (cm 8, 10240, .inl ff)), (a 9, .inl (cm 9, 10240, .inl fh))]) (w1 := [(h0, .inr (11, gM a i g)), (a 3, .inl (cm 3, 85, .inr (.inl w5)))]) hP hD [4, 5] [0, 1, 2, 3] rfl rfl (by decide) (by decide) hk1 hFc hP1 hD1
  have hP : va_P D vwCl [(a 4, .inl (cm 4, 800, .inl fk)), (a 6, .inl (cm 6, 800, .inl fb)), (a 8, .inl (cm 8, 10240, .inl ff)), (a 9, .inl (cm 9, 10240, .inl fh)), (h0, .inr (11, gM a i g)), (a 3, .inl (cm 3, 85, .inr (.inl w5)))] H := hP
  have hD : va_D A [(a 4, .inl (cm 4, 800, .inl fk)), (a 6, .inl (cm 6, 800, .inl fb)), (a 8, .inl (cm 8, 10240, .inl ff)), (a 9, .inl (cm 9, 10240, .inl fh)), (h0, .inr (11, gM a i g)), (a 3, .inl (cm 3, 85, .inr (.inl w5)))] := hD
  try dsimp only at hw
  clear hz1 hk1 hFc hPc hKc hDc
  have hL6 := hw
  refine lv_iconst (v := 0) hx hb dX11_parts_17 (by decide) ?_
  refine lv_istore (lv' := [(7, .int 0), (0, .ref h0), (1, .int (nI k)), (2, .long (lN ka)), (4, .long (lN kb)), (6, .int (nI tm))]) hx hb dX11_parts_18 hl (by decide) rfl (fun ls hl => ?_)
  refine lp_pt1 l D h0 a cm i g w5 fk fb ff fh k cn nb K ka kb tm J (hk) (((hL6.2 _ (by omega)).trans ((hL3.2 _ (by omega)).trans h1))) (hcn) (((hL6.2 _ (by omega)).trans ((hL3.2 _ (by omega)).trans h4))) (hn1) (hn2) (hKy) (hka) (hkb) (htm) (hJ) hx hb hml hown hts hA (hK.sub [0, 1, 2, 3, 4] rfl) ?_ (nb + 1) 0 fh (Nat.zero_le _) (fun b h => absurd h (Nat.not_lt_zero _)) (fun _ _ => rfl) (by omega) _ _ _ (hP.sub [4, 5, 0, 1, 2, 3] rfl) (hD.sub [4, 5, 0, 1, 2, 3] (by decide) rfl) hS (lv_sub hl [0, 1, 2, 3, 4, 5] rfl)
  intro j_7 gh_8 hj1_9 hz_10 hf_11 hx12 H locs ls hP hD hS hl
  refine lv_sipush (v := 160) hx hb dX11_parts_50 (by decide) ?_
  refine lv_iload_n hx hb dX11_parts_53 rfl (lv_at hl 1 rfl) ?_
  refine lv_imul hx hb dX11_parts_54 ?_
  refine lv_topi (fun v13 ev13 => ?_)
  obtain rfl : v13 = nI (160 * k + 0) := ev13.trans (pk_mul 160 k)
  refine lv_istore (lv' := [(7, .int (nI (160 * k + 0))), (0, .ref h0), (1, .int (nI k)), (2, .long (lN ka)), (4, .long (lN kb)), (6, .int (nI tm))]) hx hb dX11_parts_55 hl (by decide) rfl (fun ls hl => ?_)
  refine lp_pt2 l D h0 a cm i g w5 fk fb ff gh_8 k cn nb K ka kb tm J (hk) (((hL6.2 _ (by omega)).trans ((hL3.2 _ (by omega)).trans h1))) (hcn) (((hL6.2 _ (by omega)).trans ((hL3.2 _ (by omega)).trans h4))) (hn1) (hn2) (hKy) (hka) (hkb) (htm) (hJ) (((hL6.2 _ (by omega)).trans hL3.1)) (hL6.1) hx hb hml hown hts hA (hK.sub [0, 1, 2, 3, 4] rfl) ?_ (cn + 1) 0 fb gh_8 (Nat.zero_le _) (fun b h => absurd h (Nat.not_lt_zero _)) (fun b hb => by rw [hz_10 b (by omega)]; rfl) (fun _ _ => rfl) (fun _ _ => rfl) (by omega) _ _ _ (hP.sub [0, 1, 2, 3, 4, 5] rfl) (hD.sub [0, 1, 2, 3, 4, 5] (by decide) rfl) hS (lv_sub hl [0, 1, 2, 3, 4, 5] rfl)
  intro x_14 gb_15 gh_16 hx2_17 hb2_18 hh_19 hf1_20 hf2_21 hx22 H locs ls hP hD hS hl
  refine lv_lconst (v := 0) hx hb dX11_parts_120 (by decide) ?_
  refine lv_lstore (lv' := [(7, .long 0), (0, .ref h0), (1, .int (nI k)), (2, .long (lN ka)), (4, .long (lN kb)), (6, .int (nI tm))]) hx hb dX11_parts_121 hl (by decide) rfl (fun ls hl => ?_)
  refine lv_iconst (v := 0) hx hb dX11_parts_123 (by decide) ?_
  refine lv_istore (lv' := [(9, .int 0), (7, .long 0), (0, .ref h0), (1, .int (nI k)), (2, .long (lN ka)), (4, .long (lN kb)), (6, .int (nI tm))]) hx hb dX11_parts_124 hl (by decide) rfl (fun ls hl => ?_)
  have hxc : x_14 = cn := by omega
  have hhc : ∀ b, b < nb → gh_16 (2048 * k + b) = nI (cntJ J cn b) := by rw [← hxc]; exact hh_19
  refine lp_pt3 l D h0 a cm i g w5 fk gb_15 ff gh_16 k cn nb K ka kb tm J (hk) (((hL6.2 _ (by omega)).trans ((hL3.2 _ (by omega)).trans h1))) (hcn) (((hL6.2 _ (by omega)).trans ((hL3.2 _ (by omega)).trans h4))) (hn1) (hn2) (hKy) (hka) (hkb) (htm) (hJ) (hhc) hx hb hml hown hts hA (hK.sub [0, 1, 2, 3, 4] rfl) ?_ (nb + 1) 0 ff 0 (Nat.zero_le _) (fun b h => absurd h (Nat.not_lt_zero _)) (fun _ _ => rfl) (by omega) _ _ _ (hP.sub [0, 1, 2, 3, 4, 5] rfl) (hD.sub [0, 1, 2, 3, 4, 5] (by decide) rfl) hS (lv_sub hl [0, 1, 2, 3, 4, 5, 6] rfl)
  intro j_23 gf_24 sm_25 hj1_26 hr3_27 hf_28 hx29 H locs ls hP hD hS hl
  refine lv_aload_n hx hb dX11_parts_184 rfl (lv_at hl 1 rfl) ?_
  refine lv_iload_n hx hb dX11_parts_185 rfl (lv_at hl 2 rfl) ?_
  refine lv_iconst (v := 5) hx hb dX11_parts_186 (by decide) ?_
  refine lv_lload hx hb dX11_parts_187 (lv_at hl 0 rfl) ?_
  have hPc := hP.sub (ws' := [(h0, .inr (11, gM a i g)), (a 3, .inl (cm 3, 85, .inr (.inl w5)))]) [0, 1] rfl
  have hKc := hK.sub (tys' := [(cm 3, .long)]) [0] rfl
  have hDc := hD.sub (ws' := [(h0, .inr (11, gM a i g)), (a 3, .inl (cm 3, 85, .inr (.inl w5)))]) [0, 1] (by decide) rfl
  have hFc := va_free (wc := [(h0, .inr (11, gM a i g)), (a 3, .inl (cm 3, 85, .inr (.inl w5)))]) hD hS hA [0, 1] rfl
  refine va_callv (va_runV (As := [.int (nI k), .int (nI 5), .long sm_25]) (rest := []) ⟨hx, hb, hml, hown, hts⟩ (c_lays l D _ h0 a cm i g w5 k 5 sm_25 (by first | assumption | omega) (by first | assumption | omega)) (cwV 3 hts g_c_parts_c_lays_126 rfl rfl rfl (by decide +kernel) ⟨(Nat.le_of_ble_eq_true rfl), (Nat.le_of_ble_eq_true rfl)⟩) (PcW_V (q0 := 0) hPc hKc hDc rfl rfl) rfl rfl hl.1 rfl (lv_room (Nat.le_of_ble_eq_true rfl)) dX11_parts_189 ⟨(Nat.le_of_ble_eq_true rfl), (Nat.le_of_ble_eq_true rfl)⟩) hS (fun q _ h => hFc q h) hFc (fun uu tt H locs htt hvm hw hB hz1 hk1 hS => ?_)
  obtain ⟨w31, rfl⟩ : ∃ z, z = uu := ⟨_, rfl⟩
  obtain ⟨hP1, hK1, hD1⟩ := hB
  rw [htt] at hP1
  have hK1 := va_K.moved hvm.symm hK1
  have hP1 : va_P D vwCl [(h0, .inr (11, gM a i g)), (a 3, .inl (cm 3, 85, .inr (.inl w31)))] H := hP1
  obtain ⟨hP, hD⟩ := va_join (wr := [(a 4, .inl (cm 4, 800, .inl fk)), (a 6, .inl (cm 6, 800, .inl gb_15)), (a 8, .inl (cm 8, 10240, .inl gf_24)), (a 9, .inl (cm 9, 10240, .inl gh_16))]) (w1 := [(h0, .inr (11, gM a i g)), (a 3, .inl (cm 3, 85, .inr (.inl w31)))]) hP hD [0, 1] [2, 3, 4, 5] rfl rfl (by decide) (by decide) hk1 hFc hP1 hD1
  have hP : va_P D vwCl [(a 4, .inl (cm 4, 800, .inl fk)), (a 6, .inl (cm 6, 800, .inl gb_15)), (a 8, .inl (cm 8, 10240, .inl gf_24)), (a 9, .inl (cm 9, 10240, .inl gh_16)), (h0, .inr (11, gM a i g)), (a 3, .inl (cm 3, 85, .inr (.inl w31)))] H := hP
  have hD : va_D A [(a 4, .inl (cm 4, 800, .inl fk)), (a 6, .inl (cm 6, 800, .inl gb_15)), (a 8, .inl (cm 8, 10240, .inl gf_24)), (a 9, .inl (cm 9, 10240, .inl gh_16)), (h0, .inr (11, gM a i g)), (a 3, .inl (cm 3, 85, .inr (.inl w31)))] := hD
  try dsimp only at hw
  clear hz1 hk1 hFc hPc hKc hDc
  have hL32 := hw
  refine lv_lload hx hb dX11_parts_192 (lv_at hl 0 rfl) ?_
  exact W.lret (v := sm_25) hx hb hr (fun t ht hW => ⟨⟨sm_25, (w31, gb_15, gf_24, gh_16), rfl, ⟨fun x e5 e6 e7 => (hL32.2 x e5).trans ((hL6.2 x e7).trans (hL3.2 x e6)), (hL32.2 _ (by omega)).trans ((hL6.2 _ (by omega)).trans hL3.1), (hL32.2 _ (by omega)).trans hL6.1, fun y hy => ⟨hb2_18 y (by omega), by rw [hJ y hy]; exact Nat.mod_lt _ (by omega)⟩, hhc, fun b hb => hr3_27 b (by omega), hf1_20, hf_28, fun x hx => (hf2_21 x hx).trans (hf_11 x hx)⟩, by rw [ht]; exact hP.sub [4, 5, 0, 1, 2, 3] rfl, va_K.moved hW.alike (hK.sub [0, 1, 2, 3, 4] rfl), hD.sub [4, 5, 0, 1, 2, 3] (by decide) rfl⟩, hS.F ht⟩) hS.2.2 dX11_parts_194

