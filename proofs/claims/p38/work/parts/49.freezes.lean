theorem dX11_freezes_0 : decode cX11_freezes 0 = .ok (.aload_n 0, 1) := by decide +kernel
theorem dX11_freezes_1 : decode cX11_freezes 1 = .ok (.iload_n 1, 1) := by decide +kernel
theorem dX11_freezes_2 : decode cX11_freezes 2 = .ok (.invokevirtual 95, 3) := by decide +kernel
theorem dX11_freezes_5 : decode cX11_freezes 5 = .ok (.istore 4, 2) := by decide +kernel
theorem dX11_freezes_7 : decode cX11_freezes 7 = .ok (.iconst 0, 1) := by decide +kernel
theorem dX11_freezes_8 : decode cX11_freezes 8 = .ok (.istore 5, 2) := by decide +kernel
theorem dX11_freezes_10 : decode cX11_freezes 10 = .ok (.iload 5, 2) := by decide +kernel
theorem dX11_freezes_12 : decode cX11_freezes 12 = .ok (.iload 4, 2) := by decide +kernel
theorem dX11_freezes_14 : decode cX11_freezes 14 = .ok (.if_icmp .ge 33, 3) := by decide +kernel
theorem dX11_freezes_17 : decode cX11_freezes 17 = .ok (.aload_n 0, 1) := by decide +kernel
theorem dX11_freezes_18 : decode cX11_freezes 18 = .ok (.getfield 17, 3) := by decide +kernel
theorem dX11_freezes_21 : decode cX11_freezes 21 = .ok (.sipush 640, 3) := by decide +kernel
theorem dX11_freezes_24 : decode cX11_freezes 24 = .ok (.iload 5, 2) := by decide +kernel
theorem dX11_freezes_26 : decode cX11_freezes 26 = .ok (.iadd, 1) := by decide +kernel
theorem dX11_freezes_27 : decode cX11_freezes 27 = .ok (.aload_n 0, 1) := by decide +kernel
theorem dX11_freezes_28 : decode cX11_freezes 28 = .ok (.getfield 17, 3) := by decide +kernel
theorem dX11_freezes_31 : decode cX11_freezes 31 = .ok (.sipush 160, 3) := by decide +kernel
theorem dX11_freezes_34 : decode cX11_freezes 34 = .ok (.iload_n 1, 1) := by decide +kernel
theorem dX11_freezes_35 : decode cX11_freezes 35 = .ok (.imul, 1) := by decide +kernel
theorem dX11_freezes_36 : decode cX11_freezes 36 = .ok (.iload 5, 2) := by decide +kernel
theorem dX11_freezes_38 : decode cX11_freezes 38 = .ok (.iadd, 1) := by decide +kernel
theorem dX11_freezes_39 : decode cX11_freezes 39 = .ok (.iaload, 1) := by decide +kernel
theorem dX11_freezes_40 : decode cX11_freezes 40 = .ok (.iastore, 1) := by decide +kernel
theorem dX11_freezes_41 : decode cX11_freezes 41 = .ok (.iinc 5 1, 3) := by decide +kernel
theorem dX11_freezes_44 : decode cX11_freezes 44 = .ok (.goto (-34), 3) := by decide +kernel
theorem dX11_freezes_47 : decode cX11_freezes 47 = .ok (.aload_n 0, 1) := by decide +kernel
theorem dX11_freezes_48 : decode cX11_freezes 48 = .ok (.iconst 4, 1) := by decide +kernel
theorem dX11_freezes_49 : decode cX11_freezes 49 = .ok (.iconst 1, 1) := by decide +kernel
theorem dX11_freezes_50 : decode cX11_freezes 50 = .ok (.iload 4, 2) := by decide +kernel
theorem dX11_freezes_52 : decode cX11_freezes 52 = .ok (.i2l, 1) := by decide +kernel
theorem dX11_freezes_53 : decode cX11_freezes 53 = .ok (.invokevirtual 126, 3) := by decide +kernel
theorem dX11_freezes_56 : decode cX11_freezes 56 = .ok (.aload_n 0, 1) := by decide +kernel
theorem dX11_freezes_57 : decode cX11_freezes 57 = .ok (.iconst 4, 1) := by decide +kernel
theorem dX11_freezes_58 : decode cX11_freezes 58 = .ok (.iconst 4, 1) := by decide +kernel
theorem dX11_freezes_59 : decode cX11_freezes 59 = .ok (.iload 4, 2) := by decide +kernel
theorem dX11_freezes_61 : decode cX11_freezes 61 = .ok (.iconst 1, 1) := by decide +kernel
theorem dX11_freezes_62 : decode cX11_freezes 62 = .ok (.if_icmp .ge 7, 3) := by decide +kernel
theorem dX11_freezes_65 : decode cX11_freezes 65 = .ok (.lconst 1, 1) := by decide +kernel
theorem dX11_freezes_66 : decode cX11_freezes 66 = .ok (.goto 6, 3) := by decide +kernel
theorem dX11_freezes_69 : decode cX11_freezes 69 = .ok (.iload 4, 2) := by decide +kernel
theorem dX11_freezes_71 : decode cX11_freezes 71 = .ok (.i2l, 1) := by decide +kernel
theorem dX11_freezes_72 : decode cX11_freezes 72 = .ok (.invokevirtual 126, 3) := by decide +kernel
theorem dX11_freezes_75 : decode cX11_freezes 75 = .ok (.aload_n 0, 1) := by decide +kernel
theorem dX11_freezes_76 : decode cX11_freezes 76 = .ok (.lload_n 2, 1) := by decide +kernel
theorem dX11_freezes_77 : decode cX11_freezes 77 = .ok (.putfield 105, 3) := by decide +kernel
theorem dX11_freezes_80 : decode cX11_freezes 80 = .ok (.aload_n 0, 1) := by decide +kernel
theorem dX11_freezes_81 : decode cX11_freezes 81 = .ok (.iconst 0, 1) := by decide +kernel
theorem dX11_freezes_82 : decode cX11_freezes 82 = .ok (.putfield 123, 3) := by decide +kernel
theorem dX11_freezes_85 : decode cX11_freezes 85 = .ok (.iconst 0, 1) := by decide +kernel
theorem dX11_freezes_86 : decode cX11_freezes 86 = .ok (.istore 5, 2) := by decide +kernel
theorem dX11_freezes_88 : decode cX11_freezes 88 = .ok (.iload 5, 2) := by decide +kernel
theorem dX11_freezes_90 : decode cX11_freezes 90 = .ok (.ifCond .ne 52, 3) := by decide +kernel
theorem dX11_freezes_93 : decode cX11_freezes 93 = .ok (.aload_n 0, 1) := by decide +kernel
theorem dX11_freezes_94 : decode cX11_freezes 94 = .ok (.getfield 123, 3) := by decide +kernel
theorem dX11_freezes_97 : decode cX11_freezes 97 = .ok (.sipush 1000, 3) := by decide +kernel
theorem dX11_freezes_100 : decode cX11_freezes 100 = .ok (.if_icmp .ge 42, 3) := by decide +kernel
theorem dX11_freezes_103 : decode cX11_freezes 103 = .ok (.aload_n 0, 1) := by decide +kernel
theorem dX11_freezes_104 : decode cX11_freezes 104 = .ok (.invokevirtual 141, 3) := by decide +kernel
theorem dX11_freezes_107 : decode cX11_freezes 107 = .ok (.aload_n 0, 1) := by decide +kernel
theorem dX11_freezes_108 : decode cX11_freezes 108 = .ok (.iconst 4, 1) := by decide +kernel
theorem dX11_freezes_109 : decode cX11_freezes 109 = .ok (.aload_n 0, 1) := by decide +kernel
theorem dX11_freezes_110 : decode cX11_freezes 110 = .ok (.getfield 117, 3) := by decide +kernel
theorem dX11_freezes_113 : decode cX11_freezes 113 = .ok (.aload_n 0, 1) := by decide +kernel
theorem dX11_freezes_114 : decode cX11_freezes 114 = .ok (.getfield 120, 3) := by decide +kernel
theorem dX11_freezes_117 : decode cX11_freezes 117 = .ok (.iconst 1, 1) := by decide +kernel
theorem dX11_freezes_118 : decode cX11_freezes 118 = .ok (.invokevirtual 165, 3) := by decide +kernel
theorem dX11_freezes_121 : decode cX11_freezes 121 = .ok (.ldc2_w 87, 3) := by decide +kernel
theorem dX11_freezes_124 : decode cX11_freezes 124 = .ok (.iload 4, 2) := by decide +kernel
theorem dX11_freezes_126 : decode cX11_freezes 126 = .ok (.i2l, 1) := by decide +kernel
theorem dX11_freezes_127 : decode cX11_freezes 127 = .ok (.lmul, 1) := by decide +kernel
theorem dX11_freezes_128 : decode cX11_freezes 128 = .ok (.lcmp, 1) := by decide +kernel
theorem dX11_freezes_129 : decode cX11_freezes 129 = .ok (.ifCond .gt 7, 3) := by decide +kernel
theorem dX11_freezes_132 : decode cX11_freezes 132 = .ok (.iconst 1, 1) := by decide +kernel
theorem dX11_freezes_133 : decode cX11_freezes 133 = .ok (.goto 4, 3) := by decide +kernel
theorem dX11_freezes_136 : decode cX11_freezes 136 = .ok (.iconst 0, 1) := by decide +kernel
theorem dX11_freezes_137 : decode cX11_freezes 137 = .ok (.istore 5, 2) := by decide +kernel
theorem dX11_freezes_139 : decode cX11_freezes 139 = .ok (.goto (-51), 3) := by decide +kernel
theorem dX11_freezes_142 : decode cX11_freezes 142 = .ok (.iload 5, 2) := by decide +kernel
theorem dX11_freezes_144 : decode cX11_freezes 144 = .ok (.ifCond .ne 5, 3) := by decide +kernel
theorem dX11_freezes_147 : decode cX11_freezes 147 = .ok (.iconst 0, 1) := by decide +kernel
theorem dX11_freezes_148 : decode cX11_freezes 148 = .ok (.ireturn, 1) := by decide +kernel
theorem dX11_freezes_149 : decode cX11_freezes 149 = .ok (.aload_n 0, 1) := by decide +kernel
theorem dX11_freezes_150 : decode cX11_freezes 150 = .ok (.aload_n 0, 1) := by decide +kernel
theorem dX11_freezes_151 : decode cX11_freezes 151 = .ok (.getfield 123, 3) := by decide +kernel
theorem dX11_freezes_154 : decode cX11_freezes 154 = .ok (.putfield 259, 3) := by decide +kernel
theorem dX11_freezes_157 : decode cX11_freezes 157 = .ok (.iconst 0, 1) := by decide +kernel
theorem dX11_freezes_158 : decode cX11_freezes 158 = .ok (.istore 6, 2) := by decide +kernel
theorem dX11_freezes_160 : decode cX11_freezes 160 = .ok (.iload 6, 2) := by decide +kernel
theorem dX11_freezes_162 : decode cX11_freezes 162 = .ok (.aload_n 0, 1) := by decide +kernel
theorem dX11_freezes_163 : decode cX11_freezes 163 = .ok (.iconst 4, 1) := by decide +kernel
theorem dX11_freezes_164 : decode cX11_freezes 164 = .ok (.invokevirtual 152, 3) := by decide +kernel
theorem dX11_freezes_167 : decode cX11_freezes 167 = .ok (.if_icmp .ge 16, 3) := by decide +kernel
theorem dX11_freezes_170 : decode cX11_freezes 170 = .ok (.aload_n 0, 1) := by decide +kernel
theorem dX11_freezes_171 : decode cX11_freezes 171 = .ok (.iconst 4, 1) := by decide +kernel
theorem dX11_freezes_172 : decode cX11_freezes 172 = .ok (.iload 6, 2) := by decide +kernel
theorem dX11_freezes_174 : decode cX11_freezes 174 = .ok (.invokevirtual 171, 3) := by decide +kernel
theorem dX11_freezes_177 : decode cX11_freezes 177 = .ok (.iinc 6 1, 3) := by decide +kernel
theorem dX11_freezes_180 : decode cX11_freezes 180 = .ok (.goto (-20), 3) := by decide +kernel
theorem dX11_freezes_183 : decode cX11_freezes 183 = .ok (.aload_n 0, 1) := by decide +kernel
theorem dX11_freezes_184 : decode cX11_freezes 184 = .ok (.aload_n 0, 1) := by decide +kernel
theorem dX11_freezes_185 : decode cX11_freezes 185 = .ok (.getfield 123, 3) := by decide +kernel
theorem dX11_freezes_188 : decode cX11_freezes 188 = .ok (.aload_n 0, 1) := by decide +kernel
theorem dX11_freezes_189 : decode cX11_freezes 189 = .ok (.getfield 259, 3) := by decide +kernel
theorem dX11_freezes_192 : decode cX11_freezes 192 = .ok (.isub, 1) := by decide +kernel
theorem dX11_freezes_193 : decode cX11_freezes 193 = .ok (.putfield 262, 3) := by decide +kernel
theorem dX11_freezes_196 : decode cX11_freezes 196 = .ok (.iconst 1, 1) := by decide +kernel
theorem dX11_freezes_197 : decode cX11_freezes 197 = .ok (.ireturn, 1) := by decide +kernel
theorem Ky_cp {k k2 cn : Nat} {K : Nat → Nat} {f g : Nat → Int32} (h : KyS k2 f cn K) (c : Cp160 k k2 cn f g) : KyS k g cn K := ⟨fun j hj => ⟨(c.1 j hj).trans (h.1 j hj).1, (h.1 j hj).2⟩, h.2⟩
def FzG (cn nb : Nat) (gb gf : Nat → Int32) : Prop := ∃ J, BkS 4 gb cn nb J ∧ ∀ b, b < nb → gf (2048 * 4 + b) = nI (1 * cntJ J cn b)
theorem MInv.fz {fn gn : Nat → Int64} {fk fb ff fh gk gb gf gh : Nat → Int32} {fa fs ga gs : Nat → Int64} (h : MInv fn fk fb ff fh fa fs) (ha : RngL ga) (hs : RngL gs) (e1 : ∀ x, x < 68 → gn x = fn x) (e2 : ∀ x, (x < 160 * 4 ∨ 160 * 4 + 160 ≤ x) → gk x = fk x) (e3 : ∀ x, (x < 160 * 4 ∨ 160 * 4 + 160 ≤ x) → gb x = fb x) (e4 : ∀ x, (x < 2048 * 4 ∨ 2048 * 4 + 2048 ≤ x) → gf x = ff x) (e5 : ∀ x, (x < 2048 * 4 ∨ 2048 * 4 + 2048 ≤ x) → gh x = fh x) : MInv gn gk gb gf gh ga gs := by
  refine ⟨ha, hs, fun j hj ht => ?_⟩
  rw [e1 _ (by omega)] at ht
  obtain ⟨cn, nb, K, J, hT⟩ := h.2.2 j hj ht
  exact ⟨cn, nb, K, J, hT.frame (fun x a b => e1 x (by omega)) (fun x a b => e2 x (by omega)) (fun x a b => e3 x (by omega)) (fun x a b => e4 x (by omega)) (fun x a b => e5 x (by omega))⟩
def own_c_freezes : List Cond := [.fieldLink RX11 17 "ClashFreeModel" "keys" "[I", .fieldLink RX11 123 "ClashFreeModel" "drawn" "I", .methodLink RX11 141 yX11_drawsPair, .instanceMethod yX11_drawsPair, .selects RX11 yX11_drawsPair yX11_drawsPair, .initialized RX11, .fieldLink RX11 117 "ClashFreeModel" "pairA" "J", .fieldLink RX11 120 "ClashFreeModel" "pairB" "J", .methodLink RX11 165 yX11_parts, .instanceMethod yX11_parts, .selects RX11 yX11_parts yX11_parts, .constantLong RX11 87 (3), .methodLink RX11 152 yX11_buckets, .instanceMethod yX11_buckets, .selects RX11 yX11_buckets yX11_buckets, .methodLink RX11 171 yX11_buildsBucket, .instanceMethod yX11_buildsBucket, .selects RX11 yX11_buildsBucket yX11_buildsBucket, .methodLink RX11 95 yX11_manyOf, .instanceMethod yX11_manyOf, .selects RX11 yX11_manyOf yX11_manyOf, .methodLink RX11 126 yX11_lays, .instanceMethod yX11_lays, .selects RX11 yX11_lays yX11_lays, .fieldLink RX11 105 "ClashFreeModel" "seed" "J", .fieldLink RX11 259 "ClashFreeModel" "outerPairs" "I", .fieldLink RX11 262 "ClashFreeModel" "innerPairs" "I"]
def wp_c_freezes : List Cond := .code yX11_freezes cX11_freezes 7 (some .boolean) :: (own_c_freezes ++ (wp_c_drawsPair ++ (wp_c_parts ++ (wp_c_buckets ++ (wp_c_buildsBucket ++ (wp_c_manyOf ++ (wp_c_lays ++ (wsX110 ++ ([] : List Cond)))))))))
set_option maxRecDepth 20000 in
theorem inown_c_freezes : ∀ w ∈ own_c_freezes, w ∈ lw_tbl := mem_places [1220, 1231, 1410, 1412, 43, 115, 1229, 1230, 1422, 1424, 45, 1378, 1426, 1428, 46, 1442, 1444, 49, 1396, 1398, 40, 1388, 1390, 38, 1228, 1233, 1234] (by decide +kernel)
set_option maxRecDepth 20000 in
theorem in_c_freezes : ∀ w ∈ wp_c_freezes, w ∈ lw_tbl := List.forall_mem_cons.mpr ⟨List.mem_of_getElem? (i := 1623) (by decide +kernel), List.forall_mem_append.mpr ⟨inown_c_freezes, List.forall_mem_append.mpr ⟨in_c_drawsPair, List.forall_mem_append.mpr ⟨in_c_parts, List.forall_mem_append.mpr ⟨in_c_buckets, List.forall_mem_append.mpr ⟨in_c_buildsBucket, List.forall_mem_append.mpr ⟨in_c_manyOf, List.forall_mem_append.mpr ⟨in_c_lays, List.forall_mem_append.mpr ⟨lwb_X11, fun _ h => absurd h List.not_mem_nil⟩⟩⟩⟩⟩⟩⟩⟩⟩
set_option maxRecDepth 20000 in
theorem good_c_freezes : wp_c_freezes.all goodWord = true := by decide +kernel
set_option maxRecDepth 20000 in
theorem g_c_freezes_c_drawsPair_141 : GoodIn wp_c_freezes (wsV RX11 141 RX11 yX11_drawsPair wp_c_drawsPair) := goodIn_sub (List.forall_mem_append.mpr ⟨List.forall_mem_cons.mpr ⟨(List.mem_of_getElem? (i := 3) rfl), List.forall_mem_cons.mpr ⟨(List.mem_of_getElem? (i := 4) rfl), List.forall_mem_cons.mpr ⟨(List.mem_of_getElem? (i := 5) rfl), List.forall_mem_cons.mpr ⟨(List.mem_of_getElem? (i := 6) rfl), fun _ h => absurd h List.not_mem_nil⟩⟩⟩⟩, (fun _ h => (List.mem_cons_of_mem _ (List.mem_append_right _ (List.mem_append_left _ h))))⟩) (by decide +kernel)
set_option maxRecDepth 20000 in
theorem g_c_freezes_c_parts_165 : GoodIn wp_c_freezes (wsV RX11 165 RX11 yX11_parts wp_c_parts) := goodIn_sub (List.forall_mem_append.mpr ⟨List.forall_mem_cons.mpr ⟨(List.mem_of_getElem? (i := 9) rfl), List.forall_mem_cons.mpr ⟨(List.mem_of_getElem? (i := 10) rfl), List.forall_mem_cons.mpr ⟨(List.mem_of_getElem? (i := 11) rfl), List.forall_mem_cons.mpr ⟨(List.mem_of_getElem? (i := 6) rfl), fun _ h => absurd h List.not_mem_nil⟩⟩⟩⟩, (fun _ h => (List.mem_cons_of_mem _ (List.mem_append_right _ (List.mem_append_right _ (List.mem_append_left _ h)))))⟩) (by decide +kernel)
set_option maxRecDepth 20000 in
theorem g_c_freezes_c_buckets_152 : GoodIn wp_c_freezes (wsV RX11 152 RX11 yX11_buckets wp_c_buckets) := goodIn_sub (List.forall_mem_append.mpr ⟨List.forall_mem_cons.mpr ⟨(List.mem_of_getElem? (i := 13) rfl), List.forall_mem_cons.mpr ⟨(List.mem_of_getElem? (i := 14) rfl), List.forall_mem_cons.mpr ⟨(List.mem_of_getElem? (i := 15) rfl), List.forall_mem_cons.mpr ⟨(List.mem_of_getElem? (i := 6) rfl), fun _ h => absurd h List.not_mem_nil⟩⟩⟩⟩, (fun _ h => (List.mem_cons_of_mem _ (List.mem_append_right _ (List.mem_append_right _ (List.mem_append_right _ (List.mem_append_left _ h))))))⟩) (by decide +kernel)
set_option maxRecDepth 20000 in
theorem g_c_freezes_c_buildsBucket_171 : GoodIn wp_c_freezes (wsV RX11 171 RX11 yX11_buildsBucket wp_c_buildsBucket) := goodIn_sub (List.forall_mem_append.mpr ⟨List.forall_mem_cons.mpr ⟨(List.mem_of_getElem? (i := 16) rfl), List.forall_mem_cons.mpr ⟨(List.mem_of_getElem? (i := 17) rfl), List.forall_mem_cons.mpr ⟨(List.mem_of_getElem? (i := 18) rfl), List.forall_mem_cons.mpr ⟨(List.mem_of_getElem? (i := 6) rfl), fun _ h => absurd h List.not_mem_nil⟩⟩⟩⟩, (fun _ h => (List.mem_cons_of_mem _ (List.mem_append_right _ (List.mem_append_right _ (List.mem_append_right _ (List.mem_append_right _ (List.mem_append_left _ h)))))))⟩) (by decide +kernel)
set_option maxRecDepth 20000 in
theorem g_c_freezes_c_manyOf_95 : GoodIn wp_c_freezes (wsV RX11 95 RX11 yX11_manyOf wp_c_manyOf) := goodIn_sub (List.forall_mem_append.mpr ⟨List.forall_mem_cons.mpr ⟨(List.mem_of_getElem? (i := 19) rfl), List.forall_mem_cons.mpr ⟨(List.mem_of_getElem? (i := 20) rfl), List.forall_mem_cons.mpr ⟨(List.mem_of_getElem? (i := 21) rfl), List.forall_mem_cons.mpr ⟨(List.mem_of_getElem? (i := 6) rfl), fun _ h => absurd h List.not_mem_nil⟩⟩⟩⟩, (fun _ h => (List.mem_cons_of_mem _ (List.mem_append_right _ (List.mem_append_right _ (List.mem_append_right _ (List.mem_append_right _ (List.mem_append_right _ (List.mem_append_left _ h))))))))⟩) (by decide +kernel)
set_option maxRecDepth 20000 in
theorem g_c_freezes_c_lays_126 : GoodIn wp_c_freezes (wsV RX11 126 RX11 yX11_lays wp_c_lays) := goodIn_sub (List.forall_mem_append.mpr ⟨List.forall_mem_cons.mpr ⟨(List.mem_of_getElem? (i := 22) rfl), List.forall_mem_cons.mpr ⟨(List.mem_of_getElem? (i := 23) rfl), List.forall_mem_cons.mpr ⟨(List.mem_of_getElem? (i := 24) rfl), List.forall_mem_cons.mpr ⟨(List.mem_of_getElem? (i := 6) rfl), fun _ h => absurd h List.not_mem_nil⟩⟩⟩⟩, (fun _ h => (List.mem_cons_of_mem _ (List.mem_append_right _ (List.mem_append_right _ (List.mem_append_right _ (List.mem_append_right _ (List.mem_append_right _ (List.mem_append_right _ (List.mem_append_left _ h)))))))))⟩) (by decide +kernel)
set_option maxHeartbeats 4000000 in
set_option maxRecDepth 100000 in
theorem lp_fzA (l : Launch) {p : Program} {e : Env} {s : State} {m : MethodId} {args : Array Value} {below : List Frame} {meth : Method} {c : Code} {Q : State → Prop} {A : Nat → Prop} (D : va_G) (h0 : Nat) (a : Nat → Nat) (cm : Nat → ClassId) (i : Nat → Int32) (g : Nat → Int64) (fn : Nat → Int64) (fk : Nat → Int32) (fb : Nat → Int32) (fr : Nat → Int32) (ff : Nat → Int32) (fh : Nat → Int32) (fa : Nat → Int64) (fs : Nat → Int64) (k : Nat) (cn : Nat) (y2 : Int64) (hk : k < 4) (hcn : cn ≤ 160) (hx : p.tables.exec = Jvm.exec) (hb : c.code = cX11_freezes) (hml : c.maxLocals = 7) (hown : s.vm.findClass RX11 = some m.cls) (hts : ∀ w ∈ wp_c_freezes, w.before args s = true) (hA : ∀ q, s.heap.size ≤ q → A q) (hK : va_K D vwCl [(cm 3, .long), (cm 4, .int), (cm 6, .int), (cm 7, .int), (cm 8, .int), (cm 9, .int), (cm 10, .long), (cm 11, .long)] s) (kx47 : ∀ (y : Nat), ∀ (gk : Nat → Int32), (y ≤ cn) → (Cp160 4 k y fk gk) → (cn ≤ y) → ∀ (H : Heap) (locs : List Loc) (ls : Array Slot), va_P D vwCl [(h0, .inr (11, gM a i g)), (a 3, .inl (cm 3, 85, .inr (.inl fn))), (a 4, .inl (cm 4, 800, .inl gk)), (a 6, .inl (cm 6, 800, .inl fb)), (a 7, .inl (cm 7, 800, .inl fr)), (a 8, .inl (cm 8, 10240, .inl ff)), (a 9, .inl (cm 9, 10240, .inl fh)), (a 10, .inl (cm 10, 10240, .inr (.inl fa))), (a 11, .inl (cm 11, 10240, .inr (.inl fs)))] H → va_D A [(h0, .inr (11, gM a i g)), (a 3, .inl (cm 3, 85, .inr (.inl fn))), (a 4, .inl (cm 4, 800, .inl gk)), (a 6, .inl (cm 6, 800, .inl fb)), (a 7, .inl (cm 7, 800, .inl fr)), (a 8, .inl (cm 8, 10240, .inl ff)), (a 9, .inl (cm 9, 10240, .inl fh)), (a 10, .inl (cm 10, 10240, .inr (.inl fa))), (a 11, .inl (cm 11, 10240, .inr (.inl fs)))] → va_S A s.heap H locs → lv_has ls 7 [(4, .int (nI cn)), (0, .ref h0), (1, .int (nI k)), (2, .long y2)] → W p l e ({ frames := 7, cells := 0, slots := 0, locals := 180 }) s m args below meth c H locs 0 0 Q (F0 m 47 ls [])) : ∀ (N : Nat), ∀ (y : Nat), ∀ (gk : Nat → Int32), (y ≤ cn) → (Cp160 4 k y fk gk) → cn - y < N → ∀ (H : Heap) (locs : List Loc) (ls : Array Slot), va_P D vwCl [(h0, .inr (11, gM a i g)), (a 3, .inl (cm 3, 85, .inr (.inl fn))), (a 4, .inl (cm 4, 800, .inl gk)), (a 6, .inl (cm 6, 800, .inl fb)), (a 7, .inl (cm 7, 800, .inl fr)), (a 8, .inl (cm 8, 10240, .inl ff)), (a 9, .inl (cm 9, 10240, .inl fh)), (a 10, .inl (cm 10, 10240, .inr (.inl fa))), (a 11, .inl (cm 11, 10240, .inr (.inl fs)))] H → va_D A [(h0, .inr (11, gM a i g)), (a 3, .inl (cm 3, 85, .inr (.inl fn))), (a 4, .inl (cm 4, 800, .inl gk)), (a 6, .inl (cm 6, 800, .inl fb)), (a 7, .inl (cm 7, 800, .inl fr)), (a 8, .inl (cm 8, 10240, .inl ff)), (a 9, .inl (cm 9, 10240, .inl fh)), (a 10, .inl (cm 10, 10240, .inr (.inl fa))), (a 11, .inl (cm 11, 10240, .inr (.inl fs)))] → va_S A s.heap H locs → lv_has ls 7 [(5, .int (nI y)), (4, .int (nI cn)), (0, .ref h0), (1, .int (nI k)), (2, .long y2)] → W p l e ({ frames := 7, cells := 0, slots := 0, locals := 180 }) s m args below meth c H locs 0 0 Q (F0 m 10 ls []) := by
  have hin_X11 : ∀ w ∈ wsX110, w ∈ wp_c_freezes := fun _ h => (List.mem_cons_of_mem _ (List.mem_append_right _ (List.mem_append_right _ (List.mem_append_right _ (List.mem_append_right _ (List.mem_append_right _ (List.mem_append_right _ (List.mem_append_right _ (List.mem_append_left _ h)))))))))
  intro N
  induction N with
  | zero =>
    intro y gk hy1 hC hm
    exact absurd hm (Nat.not_lt_zero _)
  | succ N ih =>
    intro y gk hy1 hC hm H locs ls hP hD hS hl
    refine lv_iload hx hb dX11_freezes_10 (lv_at hl 0 rfl) ?_
    refine lv_iload hx hb dX11_freezes_12 (lv_at hl 1 rfl) ?_
    refine lv_icmp_ge (tgt := 47) hx hb dX11_freezes_14 (by decide) (fun hc1 => ?_) (fun hc1 => ?_)
    ·
      have hge_y : cn ≤ y := (nI_leI (by omega) (by omega)).mp hc1
      exact kx47 y gk (hy1) (hC) (by omega) H locs ls (hP.sub [0, 1, 2, 3, 4, 5, 6, 7, 8] rfl) (hD.sub [0, 1, 2, 3, 4, 5, 6, 7, 8] (by decide) rfl) hS (lv_sub hl [1, 2, 3, 4] rfl)
    ·
      have hlt_y : y < cn := by
        rcases Nat.lt_or_ge y cn with z | z
        · exact z
        · exact absurd (nI_le z (by omega)) hc1
      refine lv_aload_n hx hb dX11_freezes_17 rfl (lv_at hl 2 rfl) ?_
      refine va_get (D := D) (ci := 11) (v := .ref (a 4)) (C := RX11) (T := TX11) (N := 47) hx hb hts hin_X11 hown hK hP 0 rfl rfl 4 (by decide) (hts (.fieldLink RX11 17 "ClashFreeModel" "keys" "[I") (List.mem_of_getElem? (i := 1) rfl)) (fun _ h9 => h9) rfl dX11_freezes_18 ?_
      refine lv_sipush (v := 640) hx hb dX11_freezes_21 (by decide) ?_
      refine lv_iload hx hb dX11_freezes_24 (lv_at hl 0 rfl) ?_
      refine lv_iadd hx hb dX11_freezes_26 ?_
      refine lv_topi (fun v2 ev2 => ?_)
      obtain rfl : v2 = nI (160 * 4 + y) := ev2.trans (nI_add 640 y)
      refine lv_aload_n hx hb dX11_freezes_27 rfl (lv_at hl 2 rfl) ?_
      refine va_get (D := D) (ci := 11) (v := .ref (a 4)) (C := RX11) (T := TX11) (N := 47) hx hb hts hin_X11 hown hK hP 0 rfl rfl 4 (by decide) (hts (.fieldLink RX11 17 "ClashFreeModel" "keys" "[I") (List.mem_of_getElem? (i := 1) rfl)) (fun _ h9 => h9) rfl dX11_freezes_28 ?_
      refine lv_sipush (v := 160) hx hb dX11_freezes_31 (by decide) ?_
      refine lv_iload_n hx hb dX11_freezes_34 rfl (lv_at hl 3 rfl) ?_
      refine lv_imul hx hb dX11_freezes_35 ?_
      refine lv_iload hx hb dX11_freezes_36 (lv_at hl 0 rfl) ?_
      refine lv_iadd hx hb dX11_freezes_38 ?_
      refine lv_topi (fun v3 ev3 => ?_)
      obtain rfl : v3 = nI (160 * k + y) := ev3.trans (ix160 k _)
      refine va_iald hx hb hK hP 2 1 rfl rfl (vp_in_nI (by omega) (by decide)) dX11_freezes_39 ?_
      refine lv_topi (fun v4 ev4 => ?_)
      obtain rfl : v4 = gk (160 * k + y) := ev4.trans (by rw [nI_clamp (by omega)])
      refine va_iast hx hb hK hP hD hS 2 1 rfl rfl (vp_in_nI (by omega) (by decide)) dX11_freezes_40 (fun H locs hP hD hS => ?_)
      have hP : va_P D vwCl [(h0, .inr (11, gM a i g)), (a 3, .inl (cm 3, 85, .inr (.inl fn))), (a 4, .inl (cm 4, 800, .inl (upd gk (Int32.toNatClampNeg (nI (160 * 4 + y))) (gk (160 * k + y))))), (a 6, .inl (cm 6, 800, .inl fb)), (a 7, .inl (cm 7, 800, .inl fr)), (a 8, .inl (cm 8, 10240, .inl ff)), (a 9, .inl (cm 9, 10240, .inl fh)), (a 10, .inl (cm 10, 10240, .inr (.inl fa))), (a 11, .inl (cm 11, 10240, .inr (.inl fs)))] H := hP
      have hD : va_D A [(h0, .inr (11, gM a i g)), (a 3, .inl (cm 3, 85, .inr (.inl fn))), (a 4, .inl (cm 4, 800, .inl (upd gk (Int32.toNatClampNeg (nI (160 * 4 + y))) (gk (160 * k + y))))), (a 6, .inl (cm 6, 800, .inl fb)), (a 7, .inl (cm 7, 800, .inl fr)), (a 8, .inl (cm 8, 10240, .inl ff)), (a 9, .inl (cm 9, 10240, .inl fh)), (a 10, .inl (cm 10, 10240, .inr (.inl fa))), (a 11, .inl (cm 11, 10240, .inr (.inl fs)))] := hD
      rw [show (upd gk (Int32.toNatClampNeg (nI (160 * 4 + y))) (gk (160 * k + y))) = (upd gk (160 * 4 + y) (gk (160 * k + y))) from by rw [nI_clamp (by omega)]] at hP hD
      refine lv_iinc (v := nI (y + 1)) (lv' := [(5, .int (nI (y + 1))), (4, .int (nI cn)), (0, .ref h0), (1, .int (nI k)), (2, .long y2)]) hx hb dX11_freezes_41 hl (k := 0) rfl (nI_1 _) (by decide) rfl (fun ls hl => ?_)
      refine lv_goto (tgt := 10) hx hb dX11_freezes_44 (by decide) ?_
      exact ih (y + 1) (upd gk (160 * 4 + y) (gk (160 * k + y))) (by omega) (Cp160_s (by omega) (by omega) hC) (by omega) H locs ls (hP.sub [0, 1, 2, 3, 4, 5, 6, 7, 8] rfl) (hD.sub [0, 1, 2, 3, 4, 5, 6, 7, 8] (by decide) rfl) hS (lv_sub hl [0, 1, 2, 3, 4] rfl)
set_option maxHeartbeats 4000000 in
set_option maxRecDepth 100000 in
theorem lp_fzB (l : Launch) {p : Program} {e : Env} {s : State} {m : MethodId} {args : Array Value} {below : List Frame} {meth : Method} {c : Code} {Q : State → Prop} {A : Nat → Prop} (D : va_G) (h0 : Nat) (a : Nat → Nat) (cm : Nat → ClassId) (i : Nat → Int32) (g : Nat → Int64) (fn : Nat → Int64) (fk : Nat → Int32) (fb : Nat → Int32) (fr : Nat → Int32) (ff : Nat → Int32) (fh : Nat → Int32) (fa : Nat → Int64) (fs : Nat → Int64) (cn : Nat) (K : Nat → Nat) (nb : Nat) (hcn : cn ≤ 160) (hKy : KyS 4 fk cn K) (hn1 : 1 ≤ nb) (hn2 : nb ≤ 2048) (hx : p.tables.exec = Jvm.exec) (hb : c.code = cX11_freezes) (hml : c.maxLocals = 7) (hown : s.vm.findClass RX11 = some m.cls) (hts : ∀ w ∈ wp_c_freezes, w.before args s = true) (hA : ∀ q, s.heap.size ≤ q → A q) (hK : va_K D vwCl [(cm 3, .long), (cm 4, .int), (cm 6, .int), (cm 7, .int), (cm 8, .int), (cm 9, .int), (cm 10, .long), (cm 11, .long)] s) (kx142 : ∀ (dn : Nat), ∀ (go : Int32), ∀ (sd : Int64), ∀ (pa : Int64), ∀ (pb : Int64), ∀ (gn : Nat → Int64), ∀ (gb : Nat → Int32), ∀ (gf : Nat → Int32), ∀ (gh : Nat → Int32), (dn ≤ 1000) → (go = 0 ∨ (go = 1 ∧ FzG cn nb gb gf)) → (gn (17 * 4 + 1) = lN cn) → (gn (17 * 4 + 4) = lN nb) → (∀ x, x < 68 → gn x = fn x) → (∀ x, (x < 160 * 4 ∨ 160 * 4 + 160 ≤ x) → gb x = fb x) → (∀ x, (x < 2048 * 4 ∨ 2048 * 4 + 2048 ≤ x) → gf x = ff x) → (∀ x, (x < 2048 * 4 ∨ 2048 * 4 + 2048 ≤ x) → gh x = fh x) → ∀ (H : Heap) (locs : List Loc) (ls : Array Slot), va_P D vwCl [(h0, .inr (11, gM a (upd i 15 (nI dn)) (vp_updL (vp_updL (vp_updL (fun _ => 0) 12 sd) 13 pa) 14 pb))), (a 3, .inl (cm 3, 85, .inr (.inl gn))), (a 4, .inl (cm 4, 800, .inl fk)), (a 6, .inl (cm 6, 800, .inl gb)), (a 7, .inl (cm 7, 800, .inl fr)), (a 8, .inl (cm 8, 10240, .inl gf)), (a 9, .inl (cm 9, 10240, .inl gh)), (a 10, .inl (cm 10, 10240, .inr (.inl fa))), (a 11, .inl (cm 11, 10240, .inr (.inl fs)))] H → va_D A [(h0, .inr (11, gM a (upd i 15 (nI dn)) (vp_updL (vp_updL (vp_updL (fun _ => 0) 12 sd) 13 pa) 14 pb))), (a 3, .inl (cm 3, 85, .inr (.inl gn))), (a 4, .inl (cm 4, 800, .inl fk)), (a 6, .inl (cm 6, 800, .inl gb)), (a 7, .inl (cm 7, 800, .inl fr)), (a 8, .inl (cm 8, 10240, .inl gf)), (a 9, .inl (cm 9, 10240, .inl gh)), (a 10, .inl (cm 10, 10240, .inr (.inl fa))), (a 11, .inl (cm 11, 10240, .inr (.inl fs)))] → va_S A s.heap H locs → lv_has ls 7 [(5, .int go), (0, .ref h0)] → W p l e ({ frames := 7, cells := 0, slots := 0, locals := 180 }) s m args below meth c H locs 0 0 Q (F0 m 142 ls [])) : ∀ (N : Nat), ∀ (dn : Nat), ∀ (go : Int32), ∀ (sd : Int64), ∀ (pa : Int64), ∀ (pb : Int64), ∀ (gn : Nat → Int64), ∀ (gb : Nat → Int32), ∀ (gf : Nat → Int32), ∀ (gh : Nat → Int32), (dn ≤ 1000) → (go = 0 ∨ (go = 1 ∧ FzG cn nb gb gf)) → (gn (17 * 4 + 1) = lN cn) → (gn (17 * 4 + 4) = lN nb) → (∀ x, x < 68 → gn x = fn x) → (∀ x, (x < 160 * 4 ∨ 160 * 4 + 160 ≤ x) → gb x = fb x) → (∀ x, (x < 2048 * 4 ∨ 2048 * 4 + 2048 ≤ x) → gf x = ff x) → (∀ x, (x < 2048 * 4 ∨ 2048 * 4 + 2048 ≤ x) → gh x = fh x) → 1000 - dn < N → ∀ (H : Heap) (locs : List Loc) (ls : Array Slot), va_P D vwCl [(h0, .inr (11, gM a (upd i 15 (nI dn)) (vp_updL (vp_updL (vp_updL (fun _ => 0) 12 sd) 13 pa) 14 pb))), (a 3, .inl (cm 3, 85, .inr (.inl gn))), (a 4, .inl (cm 4, 800, .inl fk)), (a 6, .inl (cm 6, 800, .inl gb)), (a 7, .inl (cm 7, 800, .inl fr)), (a 8, .inl (cm 8, 10240, .inl gf)), (a 9, .inl (cm 9, 10240, .inl gh)), (a 10, .inl (cm 10, 10240, .inr (.inl fa))), (a 11, .inl (cm 11, 10240, .inr (.inl fs)))] H → va_D A [(h0, .inr (11, gM a (upd i 15 (nI dn)) (vp_updL (vp_updL (vp_updL (fun _ => 0) 12 sd) 13 pa) 14 pb))), (a 3, .inl (cm 3, 85, .inr (.inl gn))), (a 4, .inl (cm 4, 800, .inl fk)), (a 6, .inl (cm 6, 800, .inl gb)), (a 7, .inl (cm 7, 800, .inl fr)), (a 8, .inl (cm 8, 10240, .inl gf)), (a 9, .inl (cm 9, 10240, .inl gh)), (a 10, .inl (cm 10, 10240, .inr (.inl fa))), (a 11, .inl (cm 11, 10240, .inr (.inl fs)))] → va_S A s.heap H locs → lv_has ls 7 [(5, .int go), (4, .int (nI cn)), (0, .ref h0)] → W p l e ({ frames := 7, cells := 0, slots := 0, locals := 180 }) s m args below meth c H locs 0 0 Q (F0 m 88 ls []) := by
  have hin_X11 : ∀ w ∈ wsX110, w ∈ wp_c_freezes := fun _ h => (List.mem_cons_of_mem _ (List.mem_append_right _ (List.mem_append_right _ (List.mem_append_right _ (List.mem_append_right _ (List.mem_append_right _ (List.mem_append_right _ (List.mem_append_right _ (List.mem_append_left _ h)))))))))
  intro N
  induction N with
  | zero =>
    intro dn go sd pa pb gn gb gf gh hd2 hgo g1 g4 gr1 f1 f2 f3 hm
    exact absurd hm (Nat.not_lt_zero _)
  | succ N ih =>
    intro dn go sd pa pb gn gb gf gh hd2 hgo g1 g4 gr1 f1 f2 f3 hm H locs ls hP hD hS hl
    refine lv_iload hx hb dX11_freezes_88 (lv_at hl 0 rfl) ?_
    refine lv_if_ne (tgt := 142) hx hb dX11_freezes_90 (by decide) (fun hc1 => ?_) (fun hc1 => ?_)
    ·
      exact kx142 dn go sd pa pb gn gb gf gh (hd2) (hgo) (g1) (g4) (gr1) (f1) (f2) (f3) H locs ls (hP.sub [0, 1, 2, 3, 4, 5, 6, 7, 8] rfl) (hD.sub [0, 1, 2, 3, 4, 5, 6, 7, 8] (by decide) rfl) hS (lv_sub hl [0, 2] rfl)
    ·
      refine lv_aload_n hx hb dX11_freezes_93 rfl (lv_at hl 2 rfl) ?_
      refine va_get (D := D) (ci := 11) (v := .int (nI dn)) (C := RX11) (T := TX11) (N := 47) hx hb hts hin_X11 hown hK hP 0 rfl rfl 15 (by decide) (hts (.fieldLink RX11 123 "ClashFreeModel" "drawn" "I") (List.mem_of_getElem? (i := 2) rfl)) (fun _ h9 => h9) rfl dX11_freezes_94 ?_
      refine lv_sipush (v := 1000) hx hb dX11_freezes_97 (by decide) ?_
      refine lv_icmp_ge (tgt := 142) hx hb dX11_freezes_100 (by decide) (fun hc2 => ?_) (fun hc2 => ?_)
      ·
        exact kx142 dn go sd pa pb gn gb gf gh (hd2) (hgo) (g1) (g4) (gr1) (f1) (f2) (f3) H locs ls (hP.sub [0, 1, 2, 3, 4, 5, 6, 7, 8] rfl) (hD.sub [0, 1, 2, 3, 4, 5, 6, 7, 8] (by decide) rfl) hS (lv_sub hl [0, 2] rfl)
      ·
        have hd4 : dn < 1000 := by
          rcases Nat.lt_or_ge dn 1000 with z | z
          · exact z
          · exact absurd (nI_le (a := 1000) z (by omega)) hc2
        refine lv_aload_n hx hb dX11_freezes_103 rfl (lv_at hl 2 rfl) ?_
        have hPc := hP.sub (ws' := [(h0, .inr (11, gM a (upd i 15 (nI dn)) (vp_updL (vp_updL (vp_updL (fun _ => 0) 12 sd) 13 pa) 14 pb)))]) [0] rfl
        have hKc := hK.sub (tys' := []) [] rfl
        have hDc := hD.sub (ws' := [(h0, .inr (11, gM a (upd i 15 (nI dn)) (vp_updL (vp_updL (vp_updL (fun _ => 0) 12 sd) 13 pa) 14 pb)))]) [0] (by decide) rfl
        have hFc := va_free (wc := [(h0, .inr (11, gM a (upd i 15 (nI dn)) (vp_updL (vp_updL (vp_updL (fun _ => 0) 12 sd) 13 pa) 14 pb)))]) hD hS hA [0] rfl
        refine va_callv (va_runV (As := []) (rest := []) ⟨hx, hb, hml, hown, hts⟩ (c_drawsPair l D _ h0 a cm (upd i 15 (nI dn)) (vp_updL (vp_updL (vp_updL (fun _ => 0) 12 sd) 13 pa) 14 pb)) (cwV 0 hts g_c_freezes_c_drawsPair_141 rfl rfl rfl (by decide +kernel) ⟨(Nat.le_of_ble_eq_true rfl), (Nat.le_of_ble_eq_true rfl)⟩) (PcW_V (q0 := 0) hPc hKc hDc rfl rfl) rfl rfl hl.1 rfl (lv_room (Nat.le_of_ble_eq_true rfl)) dX11_freezes_104 ⟨(Nat.le_of_ble_eq_true rfl), (Nat.le_of_ble_eq_true rfl)⟩) hS (fun q _ h => hFc q h) hFc (fun uu tt H locs htt hvm hw hB hz1 hk1 hS => ?_)
        obtain ⟨w4, w5, w6, w7⟩ := uu
        obtain ⟨hP1, hK1, hD1⟩ := hB
        rw [htt] at hP1
        have hK1 := va_K.moved hvm.symm hK1
        have hP1 : va_P D vwCl [(h0, .inr (11, gM a (upd i 15 w7) (vp_updL (vp_updL (vp_updL (fun _ => 0) 12 w4) 13 w5) 14 w6)))] H := hP1
        obtain ⟨hP, hD⟩ := va_join (wr := [(a 3, .inl (cm 3, 85, .inr (.inl gn))), (a 4, .inl (cm 4, 800, .inl fk)), (a 6, .inl (cm 6, 800, .inl gb)), (a 7, .inl (cm 7, 800, .inl fr)), (a 8, .inl (cm 8, 10240, .inl gf)), (a 9, .inl (cm 9, 10240, .inl gh)), (a 10, .inl (cm 10, 10240, .inr (.inl fa))), (a 11, .inl (cm 11, 10240, .inr (.inl fs)))]) (w1 := [(h0, .inr (11, gM a (upd i 15 w7) (vp_updL (vp_updL (vp_updL (fun _ => 0) 12 w4) 13 w5) 14 w6)))]) hP hD [0] [1, 2, 3, 4, 5, 6, 7, 8] rfl rfl (by decide) (by decide) hk1 hFc hP1 hD1
        have hP : va_P D vwCl [(a 3, .inl (cm 3, 85, .inr (.inl gn))), (a 4, .inl (cm 4, 800, .inl fk)), (a 6, .inl (cm 6, 800, .inl gb)), (a 7, .inl (cm 7, 800, .inl fr)), (a 8, .inl (cm 8, 10240, .inl gf)), (a 9, .inl (cm 9, 10240, .inl gh)), (a 10, .inl (cm 10, 10240, .inr (.inl fa))), (a 11, .inl (cm 11, 10240, .inr (.inl fs))), (h0, .inr (11, gM a (upd i 15 w7) (vp_updL (vp_updL (vp_updL (fun _ => 0) 12 w4) 13 w5) 14 w6)))] H := hP
        have hD : va_D A [(a 3, .inl (cm 3, 85, .inr (.inl gn))), (a 4, .inl (cm 4, 800, .inl fk)), (a 6, .inl (cm 6, 800, .inl gb)), (a 7, .inl (cm 7, 800, .inl fr)), (a 8, .inl (cm 8, 10240, .inl gf)), (a 9, .inl (cm 9, 10240, .inl gh)), (a 10, .inl (cm 10, 10240, .inr (.inl fa))), (a 11, .inl (cm 11, 10240, .inr (.inl fs))), (h0, .inr (11, gM a (upd i 15 w7) (vp_updL (vp_updL (vp_updL (fun _ => 0) 12 w4) 13 w5) 14 w6)))] := hD
        try dsimp only at hw
        clear hz1 hk1 hFc hPc hKc hDc
        obtain ⟨es_r3, ⟨ka8, kb9, e2, e3, hka8, hkb9, eka8⟩, ed_r3⟩ := hw
        have es_r3 : w4 = sdn sd := es_r3
        have eka8 : ka8 = aOf sd := eka8
        have ed_r3 : w7 = (nI dn) + 1 := ed_r3
        obtain rfl : w5 = lN ka8 := e2
        obtain rfl : w6 = lN kb9 := e3
        have hP : va_P D vwCl [(a 3, .inl (cm 3, 85, .inr (.inl gn))), (a 4, .inl (cm 4, 800, .inl fk)), (a 6, .inl (cm 6, 800, .inl gb)), (a 7, .inl (cm 7, 800, .inl fr)), (a 8, .inl (cm 8, 10240, .inl gf)), (a 9, .inl (cm 9, 10240, .inl gh)), (a 10, .inl (cm 10, 10240, .inr (.inl fa))), (a 11, .inl (cm 11, 10240, .inr (.inl fs))), (h0, .inr (11, gM a (upd i 15 w7) (vp_updL (vp_updL (vp_updL (fun _ => 0) 12 w4) 13 (lN ka8)) 14 (lN kb9))))] H := hP
        have hD : va_D A [(a 3, .inl (cm 3, 85, .inr (.inl gn))), (a 4, .inl (cm 4, 800, .inl fk)), (a 6, .inl (cm 6, 800, .inl gb)), (a 7, .inl (cm 7, 800, .inl fr)), (a 8, .inl (cm 8, 10240, .inl gf)), (a 9, .inl (cm 9, 10240, .inl gh)), (a 10, .inl (cm 10, 10240, .inr (.inl fa))), (a 11, .inl (cm 11, 10240, .inr (.inl fs))), (h0, .inr (11, gM a (upd i 15 w7) (vp_updL (vp_updL (vp_updL (fun _ => 0) 12 w4) 13 (lN ka8)) 14 (lN kb9))))] := hD
        obtain rfl : w7 = nI (dn + 1) := ed_r3.trans (nI_1 dn)
        have hP : va_P D vwCl [(a 3, .inl (cm 3, 85, .inr (.inl gn))), (a 4, .inl (cm 4, 800, .inl fk)), (a 6, .inl (cm 6, 800, .inl gb)), (a 7, .inl (cm 7, 800, .inl fr)), (a 8, .inl (cm 8, 10240, .inl gf)), (a 9, .inl (cm 9, 10240, .inl gh)), (a 10, .inl (cm 10, 10240, .inr (.inl fa))), (a 11, .inl (cm 11, 10240, .inr (.inl fs))), (h0, .inr (11, gM a (upd i 15 (nI (dn + 1))) (vp_updL (vp_updL (vp_updL (fun _ => 0) 12 w4) 13 (lN ka8)) 14 (lN kb9))))] H := hP
        have hD : va_D A [(a 3, .inl (cm 3, 85, .inr (.inl gn))), (a 4, .inl (cm 4, 800, .inl fk)), (a 6, .inl (cm 6, 800, .inl gb)), (a 7, .inl (cm 7, 800, .inl fr)), (a 8, .inl (cm 8, 10240, .inl gf)), (a 9, .inl (cm 9, 10240, .inl gh)), (a 10, .inl (cm 10, 10240, .inr (.inl fa))), (a 11, .inl (cm 11, 10240, .inr (.inl fs))), (h0, .inr (11, gM a (upd i 15 (nI (dn + 1))) (vp_updL (vp_updL (vp_updL (fun _ => 0) 12 w4) 13 (lN ka8)) 14 (lN kb9))))] := hD
        refine lv_aload_n hx hb dX11_freezes_107 rfl (lv_at hl 2 rfl) ?_
        refine lv_iconst (v := 4) hx hb dX11_freezes_108 (by decide) ?_
        refine lv_aload_n hx hb dX11_freezes_109 rfl (lv_at hl 2 rfl) ?_
        refine va_get (D := D) (ci := 11) (v := .long (lN ka8)) (C := RX11) (T := TX11) (N := 47) hx hb hts hin_X11 hown hK hP 8 rfl rfl 13 (by decide) (hts (.fieldLink RX11 117 "ClashFreeModel" "pairA" "J") (List.mem_of_getElem? (i := 7) rfl)) (fun _ h9 => h9) rfl dX11_freezes_110 ?_
        refine lv_aload_n hx hb dX11_freezes_113 rfl (lv_at hl 2 rfl) ?_
        refine va_get (D := D) (ci := 11) (v := .long (lN kb9)) (C := RX11) (T := TX11) (N := 47) hx hb hts hin_X11 hown hK hP 8 rfl rfl 14 (by decide) (hts (.fieldLink RX11 120 "ClashFreeModel" "pairB" "J") (List.mem_of_getElem? (i := 8) rfl)) (fun _ h9 => h9) rfl dX11_freezes_114 ?_
        refine lv_iconst (v := 1) hx hb dX11_freezes_117 (by decide) ?_
        have hPc := hP.sub (ws' := [(h0, .inr (11, gM a (upd i 15 (nI (dn + 1))) (vp_updL (vp_updL (vp_updL (fun _ => 0) 12 w4) 13 (lN ka8)) 14 (lN kb9)))), (a 3, .inl (cm 3, 85, .inr (.inl gn))), (a 4, .inl (cm 4, 800, .inl fk)), (a 6, .inl (cm 6, 800, .inl gb)), (a 8, .inl (cm 8, 10240, .inl gf)), (a 9, .inl (cm 9, 10240, .inl gh))]) [8, 0, 1, 2, 4, 5] rfl
        have hKc := hK.sub (tys' := [(cm 3, .long), (cm 4, .int), (cm 6, .int), (cm 8, .int), (cm 9, .int)]) [0, 1, 2, 4, 5] rfl
        have hDc := hD.sub (ws' := [(h0, .inr (11, gM a (upd i 15 (nI (dn + 1))) (vp_updL (vp_updL (vp_updL (fun _ => 0) 12 w4) 13 (lN ka8)) 14 (lN kb9)))), (a 3, .inl (cm 3, 85, .inr (.inl gn))), (a 4, .inl (cm 4, 800, .inl fk)), (a 6, .inl (cm 6, 800, .inl gb)), (a 8, .inl (cm 8, 10240, .inl gf)), (a 9, .inl (cm 9, 10240, .inl gh))]) [8, 0, 1, 2, 4, 5] (by decide) rfl
        have hFc := va_free (wc := [(h0, .inr (11, gM a (upd i 15 (nI (dn + 1))) (vp_updL (vp_updL (vp_updL (fun _ => 0) 12 w4) 13 (lN ka8)) 14 (lN kb9)))), (a 3, .inl (cm 3, 85, .inr (.inl gn))), (a 4, .inl (cm 4, 800, .inl fk)), (a 6, .inl (cm 6, 800, .inl gb)), (a 8, .inl (cm 8, 10240, .inl gf)), (a 9, .inl (cm 9, 10240, .inl gh))]) hD hS hA [8, 0, 1, 2, 4, 5] rfl
        refine va_calll (va_runV (As := [.int (nI 4), .long (lN ka8), .long (lN kb9), .int (nI 1)]) (rest := []) ⟨hx, hb, hml, hown, hts⟩ (c_parts l D _ h0 a cm (upd i 15 (nI (dn + 1))) (vp_updL (vp_updL (vp_updL (fun _ => 0) 12 w4) 13 (lN ka8)) 14 (lN kb9)) gn fk gb gf gh 4 cn nb K ka8 kb9 1 (JpK K ka8 kb9 nb) (by first | assumption | omega) g1 (by first | assumption | omega) g4 (by first | assumption | omega) (by first | assumption | omega) hKy (by first | assumption | omega) (by first | assumption | omega) (by first | assumption | omega) (fun _ _ => rfl)) (cwV 4 hts g_c_freezes_c_parts_165 rfl rfl rfl (by decide +kernel) ⟨(Nat.le_of_ble_eq_true rfl), (Nat.le_of_ble_eq_true rfl)⟩) (PcW_V (q0 := 0) hPc hKc hDc rfl rfl) rfl rfl hl.1 rfl (lv_room (Nat.le_of_ble_eq_true rfl)) dX11_freezes_118 ⟨(Nat.le_of_ble_eq_true rfl), (Nat.le_of_ble_eq_true rfl)⟩) hS (fun q _ h => hFc q h) hFc (fun r10 uu tt H locs htt hvm hw hB hz1 hk1 hS => ?_)
        obtain ⟨w11, w12, w13, w14⟩ := uu
        obtain ⟨hP1, hK1, hD1⟩ := hB
        rw [htt] at hP1
        have hK1 := va_K.moved hvm.symm hK1
        have hP1 : va_P D vwCl [(h0, .inr (11, gM a (upd i 15 (nI (dn + 1))) (vp_updL (vp_updL (vp_updL (fun _ => 0) 12 w4) 13 (lN ka8)) 14 (lN kb9)))), (a 3, .inl (cm 3, 85, .inr (.inl w11))), (a 4, .inl (cm 4, 800, .inl fk)), (a 6, .inl (cm 6, 800, .inl w12)), (a 8, .inl (cm 8, 10240, .inl w13)), (a 9, .inl (cm 9, 10240, .inl w14))] H := hP1
        obtain ⟨hP, hD⟩ := va_join (wr := [(a 7, .inl (cm 7, 800, .inl fr)), (a 10, .inl (cm 10, 10240, .inr (.inl fa))), (a 11, .inl (cm 11, 10240, .inr (.inl fs)))]) (w1 := [(h0, .inr (11, gM a (upd i 15 (nI (dn + 1))) (vp_updL (vp_updL (vp_updL (fun _ => 0) 12 w4) 13 (lN ka8)) 14 (lN kb9)))), (a 3, .inl (cm 3, 85, .inr (.inl w11))), (a 4, .inl (cm 4, 800, .inl fk)), (a 6, .inl (cm 6, 800, .inl w12)), (a 8, .inl (cm 8, 10240, .inl w13)), (a 9, .inl (cm 9, 10240, .inl w14))]) hP hD [8, 0, 1, 2, 4, 5] [3, 6, 7] rfl rfl (by decide) (by decide) hk1 hFc hP1 hD1
        have hP : va_P D vwCl [(a 7, .inl (cm 7, 800, .inl fr)), (a 10, .inl (cm 10, 10240, .inr (.inl fa))), (a 11, .inl (cm 11, 10240, .inr (.inl fs))), (h0, .inr (11, gM a (upd i 15 (nI (dn + 1))) (vp_updL (vp_updL (vp_updL (fun _ => 0) 12 w4) 13 (lN ka8)) 14 (lN kb9)))), (a 3, .inl (cm 3, 85, .inr (.inl w11))), (a 4, .inl (cm 4, 800, .inl fk)), (a 6, .inl (cm 6, 800, .inl w12)), (a 8, .inl (cm 8, 10240, .inl w13)), (a 9, .inl (cm 9, 10240, .inl w14))] H := hP
        have hD : va_D A [(a 7, .inl (cm 7, 800, .inl fr)), (a 10, .inl (cm 10, 10240, .inr (.inl fa))), (a 11, .inl (cm 11, 10240, .inr (.inl fs))), (h0, .inr (11, gM a (upd i 15 (nI (dn + 1))) (vp_updL (vp_updL (vp_updL (fun _ => 0) 12 w4) 13 (lN ka8)) 14 (lN kb9)))), (a 3, .inl (cm 3, 85, .inr (.inl w11))), (a 4, .inl (cm 4, 800, .inl fk)), (a 6, .inl (cm 6, 800, .inl w12)), (a 8, .inl (cm 8, 10240, .inl w13)), (a 9, .inl (cm 9, 10240, .inl w14))] := hD
        try dsimp only at hw
        clear hz1 hk1 hFc hPc hKc hDc
        obtain ⟨hp15_0, hp15_1, hp15_2, hp15_3, hp15_4, hp15_5, hp15_6, hp15_7, hp15_8⟩ := hw
        refine lv_ldc2 (v := 3) hx hb hown (hts (.constantLong RX11 87 (3)) (List.mem_of_getElem? (i := 12) rfl)) dX11_freezes_121 ?_
        refine lv_iload hx hb dX11_freezes_124 (lv_at hl 1 rfl) ?_
        refine lv_i2l hx hb dX11_freezes_126 rfl ?_
        refine lv_topl (fun v16 ev16 => ?_)
        obtain rfl : v16 = lN cn := ev16.trans (nI_l (by omega))
        refine lv_lmul hx hb dX11_freezes_127 ?_
        refine W.lcmp hx hb dX11_freezes_128 ?_
        refine lv_if_gt (tgt := 136) hx hb dX11_freezes_129 (by decide) (fun hc17 => ?_) (fun hc17 => ?_)
        ·
          refine lv_iconst (v := 0) hx hb dX11_freezes_136 (by decide) ?_
          refine lv_istore (lv' := [(5, .int 0), (4, .int (nI cn)), (0, .ref h0)]) hx hb dX11_freezes_137 hl (by decide) rfl (fun ls hl => ?_)
          refine lv_goto (tgt := 88) hx hb dX11_freezes_139 (by decide) ?_
          exact ih (dn + 1) 0 w4 (lN ka8) (lN kb9) w11 w12 w13 w14 (by omega) (Or.inl rfl) (((hp15_0 _ (by omega) (by omega) (by omega)).trans g1)) (((hp15_0 _ (by omega) (by omega) (by omega)).trans g4)) (fun x e => (hp15_0 x (by omega) (by omega) (by omega)).trans (gr1 x e)) (fun x e => (hp15_6 x e).trans (f1 x e)) (fun x e => (hp15_7 x e).trans (f2 x e)) (fun x e => (hp15_8 x e).trans (f3 x e)) (by omega) H locs ls (hP.sub [3, 4, 5, 6, 0, 7, 8, 1, 2] rfl) (hD.sub [3, 4, 5, 6, 0, 7, 8, 1, 2] (by decide) rfl) hS (lv_sub hl [0, 1, 2] rfl)
        ·
          refine lv_iconst (v := 1) hx hb dX11_freezes_132 (by decide) ?_
          refine lv_goto (tgt := 137) hx hb dX11_freezes_133 (by decide) ?_
          refine lv_istore (lv' := [(5, .int 1), (4, .int (nI cn)), (0, .ref h0)]) hx hb dX11_freezes_137 hl (by decide) rfl (fun ls hl => ?_)
          refine lv_goto (tgt := 88) hx hb dX11_freezes_139 (by decide) ?_
          exact ih (dn + 1) 1 w4 (lN ka8) (lN kb9) w11 w12 w13 w14 (by omega) (Or.inr ⟨rfl, _, hp15_3, hp15_5⟩) (((hp15_0 _ (by omega) (by omega) (by omega)).trans g1)) (((hp15_0 _ (by omega) (by omega) (by omega)).trans g4)) (fun x e => (hp15_0 x (by omega) (by omega) (by omega)).trans (gr1 x e)) (fun x e => (hp15_6 x e).trans (f1 x e)) (fun x e => (hp15_7 x e).trans (f2 x e)) (fun x e => (hp15_8 x e).trans (f3 x e)) (by omega) H locs ls (hP.sub [3, 4, 5, 6, 0, 7, 8, 1, 2] rfl) (hD.sub [3, 4, 5, 6, 0, 7, 8, 1, 2] (by decide) rfl) hS (lv_sub hl [0, 1, 2] rfl)
set_option maxHeartbeats 4000000 in
set_option maxRecDepth 100000 in
theorem lp_fzC (l : Launch) {p : Program} {e : Env} {s : State} {m : MethodId} {args : Array Value} {below : List Frame} {meth : Method} {c : Code} {Q : State → Prop} {A : Nat → Prop} (D : va_G) (h0 : Nat) (a : Nat → Nat) (cm : Nat → ClassId) (i : Nat → Int32) (g : Nat → Int64) (fn : Nat → Int64) (fk : Nat → Int32) (fb : Nat → Int32) (ff : Nat → Int32) (fh : Nat → Int32) (cn : Nat) (K : Nat → Nat) (nb : Nat) (J : Nat → Nat) (ou : Int32) (h1 : fn (17 * 4 + 1) = lN cn) (hcn : cn ≤ 160) (h4 : fn (17 * 4 + 4) = lN nb) (hn2 : nb ≤ 2048) (hKy : KyS 4 fk cn K) (hBk : BkS 4 fb cn nb J) (hr2 : ∀ b, b < nb → ff (2048 * 4 + b) = nI (1 * cntJ J cn b)) (hx : p.tables.exec = Jvm.exec) (hb : c.code = cX11_freezes) (hml : c.maxLocals = 7) (hown : s.vm.findClass RX11 = some m.cls) (hts : ∀ w ∈ wp_c_freezes, w.before args s = true) (hA : ∀ q, s.heap.size ≤ q → A q) (hK : va_K D vwCl [(cm 3, .long), (cm 4, .int), (cm 6, .int), (cm 7, .int), (cm 8, .int), (cm 9, .int), (cm 10, .long), (cm 11, .long)] s) (kx183 : ∀ (j : Nat), ∀ (gr7 : Nat → Int32), ∀ (ga : Nat → Int64), ∀ (gs : Nat → Int64), ∀ (sd : Int64), ∀ (pa : Int64), ∀ (pb : Int64), ∀ (dr : Int32), (j ≤ nb) → (RngL ga) → (RngL gs) → (nb ≤ j) → ∀ (H : Heap) (locs : List Loc) (ls : Array Slot), va_P D vwCl [(h0, .inr (11, gM a (upd (upd i 15 dr) 17 ou) (vp_updL (vp_updL (vp_updL (fun _ => 0) 12 sd) 13 pa) 14 pb))), (a 3, .inl (cm 3, 85, .inr (.inl fn))), (a 4, .inl (cm 4, 800, .inl fk)), (a 6, .inl (cm 6, 800, .inl fb)), (a 7, .inl (cm 7, 800, .inl gr7)), (a 8, .inl (cm 8, 10240, .inl ff)), (a 9, .inl (cm 9, 10240, .inl fh)), (a 10, .inl (cm 10, 10240, .inr (.inl ga))), (a 11, .inl (cm 11, 10240, .inr (.inl gs)))] H → va_D A [(h0, .inr (11, gM a (upd (upd i 15 dr) 17 ou) (vp_updL (vp_updL (vp_updL (fun _ => 0) 12 sd) 13 pa) 14 pb))), (a 3, .inl (cm 3, 85, .inr (.inl fn))), (a 4, .inl (cm 4, 800, .inl fk)), (a 6, .inl (cm 6, 800, .inl fb)), (a 7, .inl (cm 7, 800, .inl gr7)), (a 8, .inl (cm 8, 10240, .inl ff)), (a 9, .inl (cm 9, 10240, .inl fh)), (a 10, .inl (cm 10, 10240, .inr (.inl ga))), (a 11, .inl (cm 11, 10240, .inr (.inl gs)))] → va_S A s.heap H locs → lv_has ls 7 [(0, .ref h0)] → W p l e ({ frames := 7, cells := 0, slots := 0, locals := 180 }) s m args below meth c H locs 0 0 Q (F0 m 183 ls [])) : ∀ (N : Nat), ∀ (j : Nat), ∀ (gr7 : Nat → Int32), ∀ (ga : Nat → Int64), ∀ (gs : Nat → Int64), ∀ (sd : Int64), ∀ (pa : Int64), ∀ (pb : Int64), ∀ (dr : Int32), (j ≤ nb) → (RngL ga) → (RngL gs) → nb - j < N → ∀ (H : Heap) (locs : List Loc) (ls : Array Slot), va_P D vwCl [(h0, .inr (11, gM a (upd (upd i 15 dr) 17 ou) (vp_updL (vp_updL (vp_updL (fun _ => 0) 12 sd) 13 pa) 14 pb))), (a 3, .inl (cm 3, 85, .inr (.inl fn))), (a 4, .inl (cm 4, 800, .inl fk)), (a 6, .inl (cm 6, 800, .inl fb)), (a 7, .inl (cm 7, 800, .inl gr7)), (a 8, .inl (cm 8, 10240, .inl ff)), (a 9, .inl (cm 9, 10240, .inl fh)), (a 10, .inl (cm 10, 10240, .inr (.inl ga))), (a 11, .inl (cm 11, 10240, .inr (.inl gs)))] H → va_D A [(h0, .inr (11, gM a (upd (upd i 15 dr) 17 ou) (vp_updL (vp_updL (vp_updL (fun _ => 0) 12 sd) 13 pa) 14 pb))), (a 3, .inl (cm 3, 85, .inr (.inl fn))), (a 4, .inl (cm 4, 800, .inl fk)), (a 6, .inl (cm 6, 800, .inl fb)), (a 7, .inl (cm 7, 800, .inl gr7)), (a 8, .inl (cm 8, 10240, .inl ff)), (a 9, .inl (cm 9, 10240, .inl fh)), (a 10, .inl (cm 10, 10240, .inr (.inl ga))), (a 11, .inl (cm 11, 10240, .inr (.inl gs)))] → va_S A s.heap H locs → lv_has ls 7 [(6, .int (nI j)), (0, .ref h0)] → W p l e ({ frames := 7, cells := 0, slots := 0, locals := 180 }) s m args below meth c H locs 0 0 Q (F0 m 160 ls []) := by
  have hin_X11 : ∀ w ∈ wsX110, w ∈ wp_c_freezes := fun _ h => (List.mem_cons_of_mem _ (List.mem_append_right _ (List.mem_append_right _ (List.mem_append_right _ (List.mem_append_right _ (List.mem_append_right _ (List.mem_append_right _ (List.mem_append_right _ (List.mem_append_left _ h)))))))))
  intro N
  induction N with
  | zero =>
    intro j gr7 ga gs sd pa pb dr hj1 hga hgs hm
    exact absurd hm (Nat.not_lt_zero _)
  | succ N ih =>
    intro j gr7 ga gs sd pa pb dr hj1 hga hgs hm H locs ls hP hD hS hl
    have hB : BkS 4 fb cn 2048 J := fun y a => ⟨(hBk y a).1, by have := (hBk y a).2; omega⟩
    refine lv_iload hx hb dX11_freezes_160 (lv_at hl 0 rfl) ?_
    refine lv_aload_n hx hb dX11_freezes_162 rfl (lv_at hl 1 rfl) ?_
    refine lv_iconst (v := 4) hx hb dX11_freezes_163 (by decide) ?_
    have hPc := hP.sub (ws' := [(h0, .inr (11, gM a (upd (upd i 15 dr) 17 ou) (vp_updL (vp_updL (vp_updL (fun _ => 0) 12 sd) 13 pa) 14 pb))), (a 3, .inl (cm 3, 85, .inr (.inl fn)))]) [0, 1] rfl
    have hKc := hK.sub (tys' := [(cm 3, .long)]) [0] rfl
    have hFc := va_free0 hS hA
    refine va_calli (va_runV (As := [.int (nI 4)]) (rest := [.int (nI j)]) ⟨hx, hb, hml, hown, hts⟩ (c_buckets l D _ h0 a cm (upd (upd i 15 dr) 17 ou) (vp_updL (vp_updL (vp_updL (fun _ => 0) 12 sd) 13 pa) 14 pb) fn 4 nb (by first | assumption | omega) h4) (cwV 1 hts g_c_freezes_c_buckets_152 rfl rfl rfl (by decide +kernel) ⟨(Nat.le_of_ble_eq_true rfl), (Nat.le_of_ble_eq_true rfl)⟩) (PcR_V (q0 := 0) hPc hKc rfl rfl) rfl rfl hl.1 rfl (lv_room (Nat.le_of_ble_eq_true rfl)) dX11_freezes_164 ⟨(Nat.le_of_ble_eq_true rfl), (Nat.le_of_ble_eq_true rfl)⟩) hS (fun q _ h => hFc q h) hFc (fun r1 uu tt H locs htt hvm hw hB hz1 hk1 hS => ?_)
    have hP := va_keep hP hk1
    try dsimp only at hw
    clear hB hz1 hk1 hFc hPc hKc
    obtain rfl : r1 = nI nb := hw
    refine lv_icmp_ge (tgt := 183) hx hb dX11_freezes_167 (by decide) (fun hc2 => ?_) (fun hc2 => ?_)
    ·
      have hge_j : nb ≤ j := (nI_leI (by omega) (by omega)).mp hc2
      exact kx183 j gr7 ga gs sd pa pb dr (hj1) (hga) (hgs) (by omega) H locs ls (hP.sub [0, 1, 2, 3, 4, 5, 6, 7, 8] rfl) (hD.sub [0, 1, 2, 3, 4, 5, 6, 7, 8] (by decide) rfl) hS (lv_sub hl [1] rfl)
    ·
      have hlt_j : j < nb := by
        rcases Nat.lt_or_ge j nb with z | z
        · exact z
        · exact absurd (nI_le z (by omega)) hc2
      have hcl := cntJ_le J cn j
      refine lv_aload_n hx hb dX11_freezes_170 rfl (lv_at hl 1 rfl) ?_
      refine lv_iconst (v := 4) hx hb dX11_freezes_171 (by decide) ?_
      refine lv_iload hx hb dX11_freezes_172 (lv_at hl 0 rfl) ?_
      have hPc := hP.sub (ws' := [(h0, .inr (11, gM a (upd (upd i 15 dr) 17 ou) (vp_updL (vp_updL (vp_updL (fun _ => 0) 12 sd) 13 pa) 14 pb))), (a 3, .inl (cm 3, 85, .inr (.inl fn))), (a 4, .inl (cm 4, 800, .inl fk)), (a 6, .inl (cm 6, 800, .inl fb)), (a 7, .inl (cm 7, 800, .inl gr7)), (a 8, .inl (cm 8, 10240, .inl ff)), (a 10, .inl (cm 10, 10240, .inr (.inl ga))), (a 11, .inl (cm 11, 10240, .inr (.inl gs)))]) [0, 1, 2, 3, 4, 5, 7, 8] rfl
      have hKc := hK.sub (tys' := [(cm 3, .long), (cm 4, .int), (cm 6, .int), (cm 7, .int), (cm 8, .int), (cm 10, .long), (cm 11, .long)]) [0, 1, 2, 3, 4, 6, 7] rfl
      have hDc := hD.sub (ws' := [(h0, .inr (11, gM a (upd (upd i 15 dr) 17 ou) (vp_updL (vp_updL (vp_updL (fun _ => 0) 12 sd) 13 pa) 14 pb))), (a 3, .inl (cm 3, 85, .inr (.inl fn))), (a 4, .inl (cm 4, 800, .inl fk)), (a 6, .inl (cm 6, 800, .inl fb)), (a 7, .inl (cm 7, 800, .inl gr7)), (a 8, .inl (cm 8, 10240, .inl ff)), (a 10, .inl (cm 10, 10240, .inr (.inl ga))), (a 11, .inl (cm 11, 10240, .inr (.inl gs)))]) [0, 1, 2, 3, 4, 5, 7, 8] (by decide) rfl
      have hFc := va_free (wc := [(h0, .inr (11, gM a (upd (upd i 15 dr) 17 ou) (vp_updL (vp_updL (vp_updL (fun _ => 0) 12 sd) 13 pa) 14 pb))), (a 3, .inl (cm 3, 85, .inr (.inl fn))), (a 4, .inl (cm 4, 800, .inl fk)), (a 6, .inl (cm 6, 800, .inl fb)), (a 7, .inl (cm 7, 800, .inl gr7)), (a 8, .inl (cm 8, 10240, .inl ff)), (a 10, .inl (cm 10, 10240, .inr (.inl ga))), (a 11, .inl (cm 11, 10240, .inr (.inl gs)))]) hD hS hA [0, 1, 2, 3, 4, 5, 7, 8] rfl
      refine va_callv (va_runV (As := [.int (nI 4), .int (nI j)]) (rest := []) ⟨hx, hb, hml, hown, hts⟩ (c_buildsBucket l D _ h0 a cm (upd (upd i 15 dr) 17 ou) (vp_updL (vp_updL (vp_updL (fun _ => 0) 12 sd) 13 pa) 14 pb) fn fk fb gr7 ff ga gs 4 j cn K J (1 * cntJ J cn j) (by first | assumption | omega) (by first | assumption | omega) h1 (by first | assumption | omega) hKy hB (hr2 j hlt_j) (by first | assumption | omega) (by omega) (by first | assumption | omega) (by first | assumption | omega)) (cwV 2 hts g_c_freezes_c_buildsBucket_171 rfl rfl rfl (by decide +kernel) ⟨(Nat.le_of_ble_eq_true rfl), (Nat.le_of_ble_eq_true rfl)⟩) (PcW_V (q0 := 0) hPc hKc hDc rfl rfl) rfl rfl hl.1 rfl (lv_room (Nat.le_of_ble_eq_true rfl)) dX11_freezes_174 ⟨(Nat.le_of_ble_eq_true rfl), (Nat.le_of_ble_eq_true rfl)⟩) hS (fun q _ h => hFc q h) hFc (fun uu tt H locs htt hvm hw hB hz1 hk1 hS => ?_)
      obtain ⟨w4, w5, w6, w7, w8, w9, w10⟩ := uu
      obtain ⟨hP1, hK1, hD1⟩ := hB
      rw [htt] at hP1
      have hK1 := va_K.moved hvm.symm hK1
      have hP1 : va_P D vwCl [(h0, .inr (11, gM a (upd (upd i 15 w10) 17 ou) (vp_updL (vp_updL (vp_updL (fun _ => 0) 12 w7) 13 w8) 14 w9))), (a 3, .inl (cm 3, 85, .inr (.inl fn))), (a 4, .inl (cm 4, 800, .inl fk)), (a 6, .inl (cm 6, 800, .inl fb)), (a 7, .inl (cm 7, 800, .inl w4)), (a 8, .inl (cm 8, 10240, .inl ff)), (a 10, .inl (cm 10, 10240, .inr (.inl w5))), (a 11, .inl (cm 11, 10240, .inr (.inl w6)))] H := hP1
      obtain ⟨hP, hD⟩ := va_join (wr := [(a 9, .inl (cm 9, 10240, .inl fh))]) (w1 := [(h0, .inr (11, gM a (upd (upd i 15 w10) 17 ou) (vp_updL (vp_updL (vp_updL (fun _ => 0) 12 w7) 13 w8) 14 w9))), (a 3, .inl (cm 3, 85, .inr (.inl fn))), (a 4, .inl (cm 4, 800, .inl fk)), (a 6, .inl (cm 6, 800, .inl fb)), (a 7, .inl (cm 7, 800, .inl w4)), (a 8, .inl (cm 8, 10240, .inl ff)), (a 10, .inl (cm 10, 10240, .inr (.inl w5))), (a 11, .inl (cm 11, 10240, .inr (.inl w6)))]) hP hD [0, 1, 2, 3, 4, 5, 7, 8] [6] rfl rfl (by decide) (by decide) hk1 hFc hP1 hD1
      have hP : va_P D vwCl [(a 9, .inl (cm 9, 10240, .inl fh)), (h0, .inr (11, gM a (upd (upd i 15 w10) 17 ou) (vp_updL (vp_updL (vp_updL (fun _ => 0) 12 w7) 13 w8) 14 w9))), (a 3, .inl (cm 3, 85, .inr (.inl fn))), (a 4, .inl (cm 4, 800, .inl fk)), (a 6, .inl (cm 6, 800, .inl fb)), (a 7, .inl (cm 7, 800, .inl w4)), (a 8, .inl (cm 8, 10240, .inl ff)), (a 10, .inl (cm 10, 10240, .inr (.inl w5))), (a 11, .inl (cm 11, 10240, .inr (.inl w6)))] H := hP
      have hD : va_D A [(a 9, .inl (cm 9, 10240, .inl fh)), (h0, .inr (11, gM a (upd (upd i 15 w10) 17 ou) (vp_updL (vp_updL (vp_updL (fun _ => 0) 12 w7) 13 w8) 14 w9))), (a 3, .inl (cm 3, 85, .inr (.inl fn))), (a 4, .inl (cm 4, 800, .inl fk)), (a 6, .inl (cm 6, 800, .inl fb)), (a 7, .inl (cm 7, 800, .inl w4)), (a 8, .inl (cm 8, 10240, .inl ff)), (a 10, .inl (cm 10, 10240, .inr (.inl w5))), (a 11, .inl (cm 11, 10240, .inr (.inl w6)))] := hD
      try dsimp only at hw
      clear hz1 hk1 hFc hPc hKc hDc
      have hb_ := hw
      refine lv_iinc (v := nI (j + 1)) (lv' := [(6, .int (nI (j + 1))), (0, .ref h0)]) hx hb dX11_freezes_177 hl (k := 0) rfl (nI_1 j) (by decide) rfl (fun ls hl => ?_)
      refine lv_goto (tgt := 160) hx hb dX11_freezes_180 (by decide) ?_
      exact ih (j + 1) w4 w5 w6 w7 w8 w9 w10 (by omega) (hb_.1) (hb_.2) (by omega) H locs ls (hP.sub [1, 2, 3, 4, 5, 6, 0, 7, 8] rfl) (hD.sub [1, 2, 3, 4, 5, 6, 0, 7, 8] (by decide) rfl) hS (lv_sub hl [0, 1] rfl)
set_option maxHeartbeats 4000000 in
set_option maxRecDepth 100000 in
theorem c_freezes (l : Launch) (D : va_G) (sz : Nat) (h0 : Nat) (a : Nat → Nat) (cm : Nat → ClassId) (i : Nat → Int32) (g : Nat → Int64) (fn : Nat → Int64) (fk : Nat → Int32) (fb : Nat → Int32) (fr : Nat → Int32) (ff : Nat → Int32) (fh : Nat → Int32) (fa : Nat → Int64) (fs : Nat → Int64) (k : Nat) (cn : Nat) (K : Nat → Nat) (y2 : Int64) (hk : k < 4) (h1 : fn (17 * k + 1) = lN cn) (hcn : cn ≤ 160) (hKy : KyS k fk cn K) (hfa : RngL fa) (hfs : RngL fs) : Met l yX11_freezes wp_c_freezes ({ frames := 7, cells := 0, slots := 0, locals := 180 }) (PcW D [.ref h0, .int (nI k), .long y2] sz [(h0, .inr (11, gM a i g)), (a 3, .inl (cm 3, 85, .inr (.inl fn))), (a 4, .inl (cm 4, 800, .inl fk)), (a 6, .inl (cm 6, 800, .inl fb)), (a 7, .inl (cm 7, 800, .inl fr)), (a 8, .inl (cm 8, 10240, .inl ff)), (a 9, .inl (cm 9, 10240, .inl fh)), (a 10, .inl (cm 10, 10240, .inr (.inl fa))), (a 11, .inl (cm 11, 10240, .inr (.inl fs)))] [(cm 3, .long), (cm 4, .int), (cm 6, .int), (cm 7, .int), (cm 8, .int), (cm 9, .int), (cm 10, .long), (cm 11, .long)]) (va_Qi (fun (r : Int32) (u : (Nat → Int64) × (Nat → Int32) × (Nat → Int32) × (Nat → Int32) × (Nat → Int32) × (Nat → Int32) × (Nat → Int64) × (Nat → Int64) × (Int64) × (Int64) × (Int64) × (Int32) × (Int32) × (Int32)) => (r = 0 ∨ (r = 1 ∧ ∃ nb, 1 ≤ nb ∧ nb ≤ 2048 ∧ FzG cn nb u.2.2.1 u.2.2.2.2.1)) ∧ RngL u.2.2.2.2.2.2.1 ∧ RngL u.2.2.2.2.2.2.2.1 ∧ (∀ x, x < 68 → u.1 x = fn x) ∧ (∀ x, (x < 160 * 4 ∨ 160 * 4 + 160 ≤ x) → u.2.1 x = fk x) ∧ (∀ x, (x < 160 * 4 ∨ 160 * 4 + 160 ≤ x) → u.2.2.1 x = fb x) ∧ (∀ x, (x < 2048 * 4 ∨ 2048 * 4 + 2048 ≤ x) → u.2.2.2.2.1 x = ff x) ∧ (∀ x, (x < 2048 * 4 ∨ 2048 * 4 + 2048 ≤ x) → u.2.2.2.2.2.1 x = fh x)) (fun (u : (Nat → Int64) × (Nat → Int32) × (Nat → Int32) × (Nat → Int32) × (Nat → Int32) × (Nat → Int32) × (Nat → Int64) × (Nat → Int64) × (Int64) × (Int64) × (Int64) × (Int32) × (Int32) × (Int32)) t => va_P D vwCl [(h0, .inr (11, gM a (upd (upd (upd i 15 u.2.2.2.2.2.2.2.2.2.2.2.1) 17 u.2.2.2.2.2.2.2.2.2.2.2.2.1) 18 u.2.2.2.2.2.2.2.2.2.2.2.2.2) (vp_updL (vp_updL (vp_updL (fun _ => 0) 12 u.2.2.2.2.2.2.2.2.1) 13 u.2.2.2.2.2.2.2.2.2.1) 14 u.2.2.2.2.2.2.2.2.2.2.1))), (a 3, .inl (cm 3, 85, .inr (.inl u.1))), (a 4, .inl (cm 4, 800, .inl u.2.1)), (a 6, .inl (cm 6, 800, .inl u.2.2.1)), (a 7, .inl (cm 7, 800, .inl u.2.2.2.1)), (a 8, .inl (cm 8, 10240, .inl u.2.2.2.2.1)), (a 9, .inl (cm 9, 10240, .inl u.2.2.2.2.2.1)), (a 10, .inl (cm 10, 10240, .inr (.inl u.2.2.2.2.2.2.1))), (a 11, .inl (cm 11, 10240, .inr (.inl u.2.2.2.2.2.2.2.1)))] t.heap ∧ va_K D vwCl [(cm 3, .long), (cm 4, .int), (cm 6, .int), (cm 7, .int), (cm 8, .int), (cm 9, .int), (cm 10, .long), (cm 11, .long)] t ∧ va_D (va_A [(h0, .inr (11, gM a i g)), (a 3, .inl (cm 3, 85, .inr (.inl fn))), (a 4, .inl (cm 4, 800, .inl fk)), (a 6, .inl (cm 6, 800, .inl fb)), (a 7, .inl (cm 7, 800, .inl fr)), (a 8, .inl (cm 8, 10240, .inl ff)), (a 9, .inl (cm 9, 10240, .inl fh)), (a 10, .inl (cm 10, 10240, .inr (.inl fa))), (a 11, .inl (cm 11, 10240, .inr (.inl fs)))] sz) [(h0, .inr (11, gM a (upd (upd (upd i 15 u.2.2.2.2.2.2.2.2.2.2.2.1) 17 u.2.2.2.2.2.2.2.2.2.2.2.2.1) 18 u.2.2.2.2.2.2.2.2.2.2.2.2.2) (vp_updL (vp_updL (vp_updL (fun _ => 0) 12 u.2.2.2.2.2.2.2.2.1) 13 u.2.2.2.2.2.2.2.2.2.1) 14 u.2.2.2.2.2.2.2.2.2.2.1))), (a 3, .inl (cm 3, 85, .inr (.inl u.1))), (a 4, .inl (cm 4, 800, .inl u.2.1)), (a 6, .inl (cm 6, 800, .inl u.2.2.1)), (a 7, .inl (cm 7, 800, .inl u.2.2.2.1)), (a 8, .inl (cm 8, 10240, .inl u.2.2.2.2.1)), (a 9, .inl (cm 9, 10240, .inl u.2.2.2.2.2.1)), (a 10, .inl (cm 10, 10240, .inr (.inl u.2.2.2.2.2.2.1))), (a 11, .inl (cm 11, 10240, .inr (.inl u.2.2.2.2.2.2.2.1)))]) (va_A [(h0, .inr (11, gM a i g)), (a 3, .inl (cm 3, 85, .inr (.inl fn))), (a 4, .inl (cm 4, 800, .inl fk)), (a 6, .inl (cm 6, 800, .inl fb)), (a 7, .inl (cm 7, 800, .inl fr)), (a 8, .inl (cm 8, 10240, .inl ff)), (a 9, .inl (cm 9, 10240, .inl fh)), (a 10, .inl (cm 10, 10240, .inr (.inl fa))), (a 11, .inl (cm 11, 10240, .inr (.inl fs)))] sz)) 0 0 (va_A [(h0, .inr (11, gM a i g)), (a 3, .inl (cm 3, 85, .inr (.inl fn))), (a 4, .inl (cm 4, 800, .inl fk)), (a 6, .inl (cm 6, 800, .inl fb)), (a 7, .inl (cm 7, 800, .inl fr)), (a 8, .inl (cm 8, 10240, .inl ff)), (a 9, .inl (cm 9, 10240, .inl fh)), (a 10, .inl (cm 10, 10240, .inr (.inl fa))), (a 11, .inl (cm 11, 10240, .inr (.inl fs)))] sz) := by
  refine Met.ofW (cc := cX11_freezes) (maxL := 7) (ret := (some .boolean)) (by decide) rfl ?_
  intro p e s m args below meth c s₁ B hml hv
  obtain ⟨rfl, hsz, hP, hK, hD0⟩ := hv
  have hx := B.exec
  have hb := B.bytes
  have hr := B.returns
  have hts := atoms_spec (ws := wp_c_freezes) B.pre
  have hin_X11 : ∀ w ∈ wsX110, w ∈ wp_c_freezes := fun _ h => (List.mem_cons_of_mem _ (List.mem_append_right _ (List.mem_append_right _ (List.mem_append_right _ (List.mem_append_right _ (List.mem_append_right _ (List.mem_append_right _ (List.mem_append_right _ (List.mem_append_left _ h)))))))))
  have hown : s.vm.findClass RX11 = some m.cls := findClass_of_methodNamed B.named
  have hlocks := B.notSynchronized
  subst hsz
  have hD := hD0.self (sz := s.heap.size)
  generalize hAe : va_A [(h0, .inr (11, gM a i g)), (a 3, .inl (cm 3, 85, .inr (.inl fn))), (a 4, .inl (cm 4, 800, .inl fk)), (a 6, .inl (cm 6, 800, .inl fb)), (a 7, .inl (cm 7, 800, .inl fr)), (a 8, .inl (cm 8, 10240, .inl ff)), (a 9, .inl (cm 9, 10240, .inl fh)), (a 10, .inl (cm 10, 10240, .inr (.inl fa))), (a 11, .inl (cm 11, 10240, .inr (.inl fs)))] s.heap.size = A at hD ⊢
  have hA : ∀ q : Nat, s.heap.size ≤ q → A q := fun q h => by rw [← hAe]; exact Or.inr h
  have hS : va_S A s.heap s.heap [] := va_S.rf
  have hP : va_P D vwCl [(h0, .inr (11, gM a i g)), (a 3, .inl (cm 3, 85, .inr (.inl fn))), (a 4, .inl (cm 4, 800, .inl fk)), (a 6, .inl (cm 6, 800, .inl fb)), (a 7, .inl (cm 7, 800, .inl fr)), (a 8, .inl (cm 8, 10240, .inl ff)), (a 9, .inl (cm 9, 10240, .inl fh)), (a 10, .inl (cm 10, 10240, .inr (.inl fa))), (a 11, .inl (cm 11, 10240, .inr (.inl fs)))] s.heap := hP
  have hl := lv_entry ([.ref h0, .int (nI k), .long y2]) (n := 7) (Nat.le_of_ble_eq_true rfl)
  rw [lg_entry_eq]
  generalize (lg_sl ([.ref h0, .int (nI k), .long y2]) ++ List.replicate (7 - (lg_sl ([.ref h0, .int (nI k), .long y2])).length) Slot.unset).toArray = ls at hl ⊢
  have hl : lv_has ls 7 [(0, .ref h0), (1, .int (nI k)), (2, .long y2)] := hl
  refine lv_aload_n hx hb dX11_freezes_0 rfl (lv_at hl 0 rfl) ?_
  refine lv_iload_n hx hb dX11_freezes_1 rfl (lv_at hl 1 rfl) ?_
  have hPc := hP.sub (ws' := [(h0, .inr (11, gM a i g)), (a 3, .inl (cm 3, 85, .inr (.inl fn)))]) [0, 1] rfl
  have hKc := hK.sub (tys' := [(cm 3, .long)]) [0] rfl
  have hFc := va_free0 hS hA
  refine va_calli (va_runV (As := [.int (nI k)]) (rest := []) ⟨hx, hb, hml, hown, hts⟩ (c_manyOf l D _ h0 a cm i g fn k cn (by first | assumption | omega) h1) (cwV 1 hts g_c_freezes_c_manyOf_95 rfl rfl rfl (by decide +kernel) ⟨(Nat.le_of_ble_eq_true rfl), (Nat.le_of_ble_eq_true rfl)⟩) (PcR_V (q0 := 0) hPc hKc rfl rfl) rfl rfl hl.1 rfl (lv_room (Nat.le_of_ble_eq_true rfl)) dX11_freezes_2 ⟨(Nat.le_of_ble_eq_true rfl), (Nat.le_of_ble_eq_true rfl)⟩) hS (fun q _ h => hFc q h) hFc (fun r1 uu tt H locs htt hvm hw hB hz1 hk1 hS => ?_)
  have hP := va_keep hP hk1
  try dsimp only at hw
  clear hB hz1 hk1 hFc hPc hKc
  obtain rfl : r1 = nI cn := hw
  refine lv_istore (lv' := [(4, .int (nI cn)), (0, .ref h0), (1, .int (nI k)), (2, .long y2)]) hx hb dX11_freezes_5 hl (by decide) rfl (fun ls hl => ?_)
  refine lv_iconst (v := 0) hx hb dX11_freezes_7 (by decide) ?_
  refine lv_istore (lv' := [(5, .int 0), (4, .int (nI cn)), (0, .ref h0), (1, .int (nI k)), (2, .long y2)]) hx hb dX11_freezes_8 hl (by decide) rfl (fun ls hl => ?_)
  refine lp_fzA l D h0 a cm i g fn fk fb fr ff fh fa fs k cn y2 (hk) (hcn) hx hb hml hown hts hA (hK.sub [0, 1, 2, 3, 4, 5, 6, 7] rfl) ?_ (cn + 1) 0 fk (Nat.zero_le _) (Cp160_0 _ _ _) (by omega) _ _ _ (hP.sub [0, 1, 2, 3, 4, 5, 6, 7, 8] rfl) (hD.sub [0, 1, 2, 3, 4, 5, 6, 7, 8] (by decide) rfl) hS (lv_sub hl [0, 1, 2, 3, 4] rfl)
  intro y_2 gk_3 hy1_4 hC_5 hx6 H locs ls hP hD hS hl
  have hCk := (show y_2 = cn by omega) ▸ hC_5
  have hKy4 := Ky_cp hKy hCk
  refine lv_aload_n hx hb dX11_freezes_47 rfl (lv_at hl 1 rfl) ?_
  refine lv_iconst (v := 4) hx hb dX11_freezes_48 (by decide) ?_
  refine lv_iconst (v := 1) hx hb dX11_freezes_49 (by decide) ?_
  refine lv_iload hx hb dX11_freezes_50 (lv_at hl 0 rfl) ?_
  refine lv_i2l hx hb dX11_freezes_52 rfl ?_
  refine lv_topl (fun v7 ev7 => ?_)
  obtain rfl : v7 = lN cn := ev7.trans (nI_l (by omega))
  have hPc := hP.sub (ws' := [(h0, .inr (11, gM a i g)), (a 3, .inl (cm 3, 85, .inr (.inl fn)))]) [0, 1] rfl
  have hKc := hK.sub (tys' := [(cm 3, .long)]) [0] rfl
  have hDc := hD.sub (ws' := [(h0, .inr (11, gM a i g)), (a 3, .inl (cm 3, 85, .inr (.inl fn)))]) [0, 1] (by decide) rfl
  have hFc := va_free (wc := [(h0, .inr (11, gM a i g)), (a 3, .inl (cm 3, 85, .inr (.inl fn)))]) hD hS hA [0, 1] rfl
  refine va_callv (va_runV (As := [.int (nI 4), .int (nI 1), .long (lN cn)]) (rest := []) ⟨hx, hb, hml, hown, hts⟩ (c_lays l D _ h0 a cm i g fn 4 1 (lN cn) (by first | assumption | omega) (by first | assumption | omega)) (cwV 3 hts g_c_freezes_c_lays_126 rfl rfl rfl (by decide +kernel) ⟨(Nat.le_of_ble_eq_true rfl), (Nat.le_of_ble_eq_true rfl)⟩) (PcW_V (q0 := 0) hPc hKc hDc rfl rfl) rfl rfl hl.1 rfl (lv_room (Nat.le_of_ble_eq_true rfl)) dX11_freezes_53 ⟨(Nat.le_of_ble_eq_true rfl), (Nat.le_of_ble_eq_true rfl)⟩) hS (fun q _ h => hFc q h) hFc (fun uu tt H locs htt hvm hw hB hz1 hk1 hS => ?_)
  obtain ⟨w9, rfl⟩ : ∃ z, z = uu := ⟨_, rfl⟩
  obtain ⟨hP1, hK1, hD1⟩ := hB
  rw [htt] at hP1
  have hK1 := va_K.moved hvm.symm hK1
  have hP1 : va_P D vwCl [(h0, .inr (11, gM a i g)), (a 3, .inl (cm 3, 85, .inr (.inl w9)))] H := hP1
  obtain ⟨hP, hD⟩ := va_join (wr := [(a 4, .inl (cm 4, 800, .inl gk_3)), (a 6, .inl (cm 6, 800, .inl fb)), (a 7, .inl (cm 7, 800, .inl fr)), (a 8, .inl (cm 8, 10240, .inl ff)), (a 9, .inl (cm 9, 10240, .inl fh)), (a 10, .inl (cm 10, 10240, .inr (.inl fa))), (a 11, .inl (cm 11, 10240, .inr (.inl fs)))]) (w1 := [(h0, .inr (11, gM a i g)), (a 3, .inl (cm 3, 85, .inr (.inl w9)))]) hP hD [0, 1] [2, 3, 4, 5, 6, 7, 8] rfl rfl (by decide) (by decide) hk1 hFc hP1 hD1
  have hP : va_P D vwCl [(a 4, .inl (cm 4, 800, .inl gk_3)), (a 6, .inl (cm 6, 800, .inl fb)), (a 7, .inl (cm 7, 800, .inl fr)), (a 8, .inl (cm 8, 10240, .inl ff)), (a 9, .inl (cm 9, 10240, .inl fh)), (a 10, .inl (cm 10, 10240, .inr (.inl fa))), (a 11, .inl (cm 11, 10240, .inr (.inl fs))), (h0, .inr (11, gM a i g)), (a 3, .inl (cm 3, 85, .inr (.inl w9)))] H := hP
  have hD : va_D A [(a 4, .inl (cm 4, 800, .inl gk_3)), (a 6, .inl (cm 6, 800, .inl fb)), (a 7, .inl (cm 7, 800, .inl fr)), (a 8, .inl (cm 8, 10240, .inl ff)), (a 9, .inl (cm 9, 10240, .inl fh)), (a 10, .inl (cm 10, 10240, .inr (.inl fa))), (a 11, .inl (cm 11, 10240, .inr (.inl fs))), (h0, .inr (11, gM a i g)), (a 3, .inl (cm 3, 85, .inr (.inl w9)))] := hD
  try dsimp only at hw
  clear hz1 hk1 hFc hPc hKc hDc
  have hL10 := hw
  refine lv_aload_n hx hb dX11_freezes_56 rfl (lv_at hl 1 rfl) ?_
  refine lv_iconst (v := 4) hx hb dX11_freezes_57 (by decide) ?_
  refine lv_iconst (v := 4) hx hb dX11_freezes_58 (by decide) ?_
  refine lv_iload hx hb dX11_freezes_59 (lv_at hl 0 rfl) ?_
  refine lv_iconst (v := 1) hx hb dX11_freezes_61 (by decide) ?_
  refine lv_icmp_ge (tgt := 69) hx hb dX11_freezes_62 (by decide) (fun hc11 => ?_) (fun hc11 => ?_)
  ·
    have hc1 : 1 ≤ cn := (nI_leI (a := 1) (by decide) (by omega)).mp hc11
    refine lv_iload hx hb dX11_freezes_69 (lv_at hl 0 rfl) ?_
    refine lv_i2l hx hb dX11_freezes_71 rfl ?_
    refine lv_topl (fun v12 ev12 => ?_)
    obtain rfl : v12 = lN cn := ev12.trans (nI_l (by omega))
    have hPc := hP.sub (ws' := [(h0, .inr (11, gM a i g)), (a 3, .inl (cm 3, 85, .inr (.inl w9)))]) [7, 8] rfl
    have hKc := hK.sub (tys' := [(cm 3, .long)]) [0] rfl
    have hDc := hD.sub (ws' := [(h0, .inr (11, gM a i g)), (a 3, .inl (cm 3, 85, .inr (.inl w9)))]) [7, 8] (by decide) rfl
    have hFc := va_free (wc := [(h0, .inr (11, gM a i g)), (a 3, .inl (cm 3, 85, .inr (.inl w9)))]) hD hS hA [7, 8] rfl
    refine va_callv (va_runV (As := [.int (nI 4), .int (nI 4), .long (lN cn)]) (rest := []) ⟨hx, hb, hml, hown, hts⟩ (c_lays l D _ h0 a cm i g w9 4 4 (lN cn) (by first | assumption | omega) (by first | assumption | omega)) (cwV 3 hts g_c_freezes_c_lays_126 rfl rfl rfl (by decide +kernel) ⟨(Nat.le_of_ble_eq_true rfl), (Nat.le_of_ble_eq_true rfl)⟩) (PcW_V (q0 := 0) hPc hKc hDc rfl rfl) rfl rfl hl.1 rfl (lv_room (Nat.le_of_ble_eq_true rfl)) dX11_freezes_72 ⟨(Nat.le_of_ble_eq_true rfl), (Nat.le_of_ble_eq_true rfl)⟩) hS (fun q _ h => hFc q h) hFc (fun uu tt H locs htt hvm hw hB hz1 hk1 hS => ?_)
    obtain ⟨w14, rfl⟩ : ∃ z, z = uu := ⟨_, rfl⟩
    obtain ⟨hP1, hK1, hD1⟩ := hB
    rw [htt] at hP1
    have hK1 := va_K.moved hvm.symm hK1
    have hP1 : va_P D vwCl [(h0, .inr (11, gM a i g)), (a 3, .inl (cm 3, 85, .inr (.inl w14)))] H := hP1
    obtain ⟨hP, hD⟩ := va_join (wr := [(a 4, .inl (cm 4, 800, .inl gk_3)), (a 6, .inl (cm 6, 800, .inl fb)), (a 7, .inl (cm 7, 800, .inl fr)), (a 8, .inl (cm 8, 10240, .inl ff)), (a 9, .inl (cm 9, 10240, .inl fh)), (a 10, .inl (cm 10, 10240, .inr (.inl fa))), (a 11, .inl (cm 11, 10240, .inr (.inl fs)))]) (w1 := [(h0, .inr (11, gM a i g)), (a 3, .inl (cm 3, 85, .inr (.inl w14)))]) hP hD [7, 8] [0, 1, 2, 3, 4, 5, 6] rfl rfl (by decide) (by decide) hk1 hFc hP1 hD1
    have hP : va_P D vwCl [(a 4, .inl (cm 4, 800, .inl gk_3)), (a 6, .inl (cm 6, 800, .inl fb)), (a 7, .inl (cm 7, 800, .inl fr)), (a 8, .inl (cm 8, 10240, .inl ff)), (a 9, .inl (cm 9, 10240, .inl fh)), (a 10, .inl (cm 10, 10240, .inr (.inl fa))), (a 11, .inl (cm 11, 10240, .inr (.inl fs))), (h0, .inr (11, gM a i g)), (a 3, .inl (cm 3, 85, .inr (.inl w14)))] H := hP
    have hD : va_D A [(a 4, .inl (cm 4, 800, .inl gk_3)), (a 6, .inl (cm 6, 800, .inl fb)), (a 7, .inl (cm 7, 800, .inl fr)), (a 8, .inl (cm 8, 10240, .inl ff)), (a 9, .inl (cm 9, 10240, .inl fh)), (a 10, .inl (cm 10, 10240, .inr (.inl fa))), (a 11, .inl (cm 11, 10240, .inr (.inl fs))), (h0, .inr (11, gM a i g)), (a 3, .inl (cm 3, 85, .inr (.inl w14)))] := hD
    try dsimp only at hw
    clear hz1 hk1 hFc hPc hKc hDc
    have hL15 := hw
    refine lv_aload_n hx hb dX11_freezes_75 rfl (lv_at hl 1 rfl) ?_
    refine lv_lload_n hx hb dX11_freezes_76 rfl (lv_at hl 3 rfl) ?_
    refine va_put (D := D) (ci := 11) (v := .long y2) (ty := .long) (C := RX11) (T := TX11) (N := 47) hx hb hts hin_X11 tyX11 tyX11_ok nmX11 hown hK hP hD hS 7 rfl rfl 12 (by decide) (hts (.fieldLink RX11 105 "ClashFreeModel" "seed" "J") (List.mem_of_getElem? (i := 25) rfl)) (fun _ h9 => h9) rfl (by decide +kernel) rfl rfl (Nat.le_of_ble_eq_true rfl) dX11_freezes_77 (fun H locs hP hD hS => ?_)
    have hP : va_P D vwCl [(a 4, .inl (cm 4, 800, .inl gk_3)), (a 6, .inl (cm 6, 800, .inl fb)), (a 7, .inl (cm 7, 800, .inl fr)), (a 8, .inl (cm 8, 10240, .inl ff)), (a 9, .inl (cm 9, 10240, .inl fh)), (a 10, .inl (cm 10, 10240, .inr (.inl fa))), (a 11, .inl (cm 11, 10240, .inr (.inl fs))), (h0, .inr (11, gM a i (vp_updL g 12 y2))), (a 3, .inl (cm 3, 85, .inr (.inl w14)))] H := hP
    have hD : va_D A [(a 4, .inl (cm 4, 800, .inl gk_3)), (a 6, .inl (cm 6, 800, .inl fb)), (a 7, .inl (cm 7, 800, .inl fr)), (a 8, .inl (cm 8, 10240, .inl ff)), (a 9, .inl (cm 9, 10240, .inl fh)), (a 10, .inl (cm 10, 10240, .inr (.inl fa))), (a 11, .inl (cm 11, 10240, .inr (.inl fs))), (h0, .inr (11, gM a i (vp_updL g 12 y2))), (a 3, .inl (cm 3, 85, .inr (.inl w14)))] := hD
    refine lv_aload_n hx hb dX11_freezes_80 rfl (lv_at hl 1 rfl) ?_
    refine lv_iconst (v := 0) hx hb dX11_freezes_81 (by decide) ?_
    refine va_put (D := D) (ci := 11) (v := .int 0) (ty := .int) (C := RX11) (T := TX11) (N := 47) hx hb hts hin_X11 tyX11 tyX11_ok nmX11 hown hK hP hD hS 7 rfl rfl 15 (by decide) (hts (.fieldLink RX11 123 "ClashFreeModel" "drawn" "I") (List.mem_of_getElem? (i := 2) rfl)) (fun _ h9 => h9) rfl (by decide +kernel) rfl rfl (Nat.le_of_ble_eq_true rfl) dX11_freezes_82 (fun H locs hP hD hS => ?_)
    have hP : va_P D vwCl [(a 4, .inl (cm 4, 800, .inl gk_3)), (a 6, .inl (cm 6, 800, .inl fb)), (a 7, .inl (cm 7, 800, .inl fr)), (a 8, .inl (cm 8, 10240, .inl ff)), (a 9, .inl (cm 9, 10240, .inl fh)), (a 10, .inl (cm 10, 10240, .inr (.inl fa))), (a 11, .inl (cm 11, 10240, .inr (.inl fs))), (h0, .inr (11, gM a (upd i 15 0) (vp_updL g 12 y2))), (a 3, .inl (cm 3, 85, .inr (.inl w14)))] H := hP
    have hD : va_D A [(a 4, .inl (cm 4, 800, .inl gk_3)), (a 6, .inl (cm 6, 800, .inl fb)), (a 7, .inl (cm 7, 800, .inl fr)), (a 8, .inl (cm 8, 10240, .inl ff)), (a 9, .inl (cm 9, 10240, .inl fh)), (a 10, .inl (cm 10, 10240, .inr (.inl fa))), (a 11, .inl (cm 11, 10240, .inr (.inl fs))), (h0, .inr (11, gM a (upd i 15 0) (vp_updL g 12 y2))), (a 3, .inl (cm 3, 85, .inr (.inl w14)))] := hD
    refine lv_iconst (v := 0) hx hb dX11_freezes_85 (by decide) ?_
    refine lv_istore (lv' := [(5, .int 0), (4, .int (nI cn)), (0, .ref h0), (1, .int (nI k)), (2, .long y2)]) hx hb dX11_freezes_86 hl (by decide) rfl (fun ls hl => ?_)
    refine lp_fzB l D h0 a cm (upd i 15 0) (vp_updL g 12 y2) fn gk_3 fb fr ff fh fa fs cn K cn (hcn) (hKy4) (by omega) (by omega) hx hb hml hown hts hA (hK.sub [0, 1, 2, 3, 4, 5, 6, 7] rfl) ?_ (1001) 0 0 y2 (g 13) (g 14) w14 fb ff fh (Nat.zero_le _) (Or.inl rfl) (((hL15.2 _ (by omega)).trans hL10.1)) (hL15.1) (fun x e => (hL15.2 x (by omega)).trans (hL10.2 x (by omega))) (fun _ _ => rfl) (fun _ _ => rfl) (fun _ _ => rfl) (by omega) _ _ _ (hP.sub [7, 8, 0, 1, 2, 3, 4, 5, 6] rfl) (hD.sub [7, 8, 0, 1, 2, 3, 4, 5, 6] (by decide) rfl) hS (lv_sub hl [0, 1, 2] rfl)
    intro dn_16 go_17 sd_18 pa_19 pb_20 gn_21 gb_22 gf_23 gh_24 hd2_25 hgo_26 g1_27 g4_28 gr1_29 f1_30 f2_31 f3_32 H locs ls hP hD hS hl
    refine lv_iload hx hb dX11_freezes_142 (lv_at hl 0 rfl) ?_
    refine lv_if_ne (tgt := 149) hx hb dX11_freezes_144 (by decide) (fun hc33 => ?_) (fun hc33 => ?_)
    ·
      obtain ⟨J, hBk, hr2⟩ := (hgo_26.resolve_left hc33).2
      refine lv_aload_n hx hb dX11_freezes_149 rfl (lv_at hl 1 rfl) ?_
      refine lv_aload_n hx hb dX11_freezes_150 rfl (lv_at hl 1 rfl) ?_
      refine va_get (D := D) (ci := 11) (v := .int (nI dn_16)) (C := RX11) (T := TX11) (N := 47) hx hb hts hin_X11 hown hK hP 0 rfl rfl 15 (by decide) (hts (.fieldLink RX11 123 "ClashFreeModel" "drawn" "I") (List.mem_of_getElem? (i := 2) rfl)) (fun _ h9 => h9) rfl dX11_freezes_151 ?_
      refine va_put (D := D) (ci := 11) (v := .int (nI dn_16)) (ty := .int) (C := RX11) (T := TX11) (N := 47) hx hb hts hin_X11 tyX11 tyX11_ok nmX11 hown hK hP hD hS 0 rfl rfl 17 (by decide) (hts (.fieldLink RX11 259 "ClashFreeModel" "outerPairs" "I") (List.mem_of_getElem? (i := 26) rfl)) (fun _ h9 => h9) rfl (by decide +kernel) rfl rfl (Nat.le_of_ble_eq_true rfl) dX11_freezes_154 (fun H locs hP hD hS => ?_)
      have hP : va_P D vwCl [(h0, .inr (11, gM a (upd (upd (upd i 15 0) 15 (nI dn_16)) 17 (nI dn_16)) (vp_updL (vp_updL (vp_updL (fun _ => 0) 12 sd_18) 13 pa_19) 14 pb_20))), (a 3, .inl (cm 3, 85, .inr (.inl gn_21))), (a 4, .inl (cm 4, 800, .inl gk_3)), (a 6, .inl (cm 6, 800, .inl gb_22)), (a 7, .inl (cm 7, 800, .inl fr)), (a 8, .inl (cm 8, 10240, .inl gf_23)), (a 9, .inl (cm 9, 10240, .inl gh_24)), (a 10, .inl (cm 10, 10240, .inr (.inl fa))), (a 11, .inl (cm 11, 10240, .inr (.inl fs)))] H := hP
      have hD : va_D A [(h0, .inr (11, gM a (upd (upd (upd i 15 0) 15 (nI dn_16)) 17 (nI dn_16)) (vp_updL (vp_updL (vp_updL (fun _ => 0) 12 sd_18) 13 pa_19) 14 pb_20))), (a 3, .inl (cm 3, 85, .inr (.inl gn_21))), (a 4, .inl (cm 4, 800, .inl gk_3)), (a 6, .inl (cm 6, 800, .inl gb_22)), (a 7, .inl (cm 7, 800, .inl fr)), (a 8, .inl (cm 8, 10240, .inl gf_23)), (a 9, .inl (cm 9, 10240, .inl gh_24)), (a 10, .inl (cm 10, 10240, .inr (.inl fa))), (a 11, .inl (cm 11, 10240, .inr (.inl fs)))] := hD
      refine lv_iconst (v := 0) hx hb dX11_freezes_157 (by decide) ?_
      refine lv_istore (lv' := [(6, .int 0), (5, .int go_17), (0, .ref h0)]) hx hb dX11_freezes_158 hl (by decide) rfl (fun ls hl => ?_)
      refine lp_fzC l D h0 a cm (upd (upd (upd i 15 0) 15 (nI dn_16)) 17 (nI dn_16)) (vp_updL (vp_updL (vp_updL (fun _ => 0) 12 sd_18) 13 pa_19) 14 pb_20) gn_21 gk_3 gb_22 gf_23 gh_24 cn K cn J (nI dn_16) (g1_27) (hcn) (g4_28) (by omega) (hKy4) (hBk) (hr2) hx hb hml hown hts hA (hK.sub [0, 1, 2, 3, 4, 5, 6, 7] rfl) ?_ (cn + 1) 0 fr fa fs sd_18 pa_19 pb_20 (nI dn_16) (Nat.zero_le _) (hfa) (hfs) (by omega) _ _ _ (hP.sub [0, 1, 2, 3, 4, 5, 6, 7, 8] rfl) (hD.sub [0, 1, 2, 3, 4, 5, 6, 7, 8] (by decide) rfl) hS (lv_sub hl [0, 2] rfl)
      intro j_34 gr7_35 ga_36 gs_37 sd_38 pa_39 pb_40 dr_41 hj1_42 hga_43 hgs_44 hx45 H locs ls hP hD hS hl
      refine lv_aload_n hx hb dX11_freezes_183 rfl (lv_at hl 0 rfl) ?_
      refine lv_aload_n hx hb dX11_freezes_184 rfl (lv_at hl 0 rfl) ?_
      refine va_get (D := D) (ci := 11) (v := .int dr_41) (C := RX11) (T := TX11) (N := 47) hx hb hts hin_X11 hown hK hP 0 rfl rfl 15 (by decide) (hts (.fieldLink RX11 123 "ClashFreeModel" "drawn" "I") (List.mem_of_getElem? (i := 2) rfl)) (fun _ h9 => h9) rfl dX11_freezes_185 ?_
      refine lv_aload_n hx hb dX11_freezes_188 rfl (lv_at hl 0 rfl) ?_
      refine va_get (D := D) (ci := 11) (v := .int (nI dn_16)) (C := RX11) (T := TX11) (N := 47) hx hb hts hin_X11 hown hK hP 0 rfl rfl 17 (by decide) (hts (.fieldLink RX11 259 "ClashFreeModel" "outerPairs" "I") (List.mem_of_getElem? (i := 26) rfl)) (fun _ h9 => h9) rfl dX11_freezes_189 ?_
      refine lv_isub hx hb dX11_freezes_192 ?_
      refine lv_topi (fun v46 ev46 => ?_)
      refine va_put (D := D) (ci := 11) (v := .int v46) (ty := .int) (C := RX11) (T := TX11) (N := 47) hx hb hts hin_X11 tyX11 tyX11_ok nmX11 hown hK hP hD hS 0 rfl rfl 18 (by decide) (hts (.fieldLink RX11 262 "ClashFreeModel" "innerPairs" "I") (List.mem_of_getElem? (i := 27) rfl)) (fun _ h9 => h9) rfl (by decide +kernel) rfl rfl (Nat.le_of_ble_eq_true rfl) dX11_freezes_193 (fun H locs hP hD hS => ?_)
      have hP : va_P D vwCl [(h0, .inr (11, gM a (upd (upd (upd (upd (upd (upd i 15 0) 15 (nI dn_16)) 17 (nI dn_16)) 15 dr_41) 17 (nI dn_16)) 18 v46) (vp_updL (vp_updL (vp_updL (fun _ => 0) 12 sd_38) 13 pa_39) 14 pb_40))), (a 3, .inl (cm 3, 85, .inr (.inl gn_21))), (a 4, .inl (cm 4, 800, .inl gk_3)), (a 6, .inl (cm 6, 800, .inl gb_22)), (a 7, .inl (cm 7, 800, .inl gr7_35)), (a 8, .inl (cm 8, 10240, .inl gf_23)), (a 9, .inl (cm 9, 10240, .inl gh_24)), (a 10, .inl (cm 10, 10240, .inr (.inl ga_36))), (a 11, .inl (cm 11, 10240, .inr (.inl gs_37)))] H := hP
      have hD : va_D A [(h0, .inr (11, gM a (upd (upd (upd (upd (upd (upd i 15 0) 15 (nI dn_16)) 17 (nI dn_16)) 15 dr_41) 17 (nI dn_16)) 18 v46) (vp_updL (vp_updL (vp_updL (fun _ => 0) 12 sd_38) 13 pa_39) 14 pb_40))), (a 3, .inl (cm 3, 85, .inr (.inl gn_21))), (a 4, .inl (cm 4, 800, .inl gk_3)), (a 6, .inl (cm 6, 800, .inl gb_22)), (a 7, .inl (cm 7, 800, .inl gr7_35)), (a 8, .inl (cm 8, 10240, .inl gf_23)), (a 9, .inl (cm 9, 10240, .inl gh_24)), (a 10, .inl (cm 10, 10240, .inr (.inl ga_36))), (a 11, .inl (cm 11, 10240, .inr (.inl gs_37)))] := hD
      refine lv_iconst (v := 1) hx hb dX11_freezes_196 (by decide) ?_
      exact W.zret (v := 1) hx hb hr rfl (fun t ht hW => ⟨⟨1, (gn_21, gk_3, gb_22, gr7_35, gf_23, gh_24, ga_36, gs_37, sd_38, pa_39, pb_40, dr_41, (nI dn_16), v46), rfl, ⟨Or.inr ⟨rfl, cn, by omega, by omega, J, hBk, hr2⟩, hga_43, hgs_44, gr1_29, hCk.2, f1_30, f2_31, f3_32⟩, by rw [ht]; exact hP.sub [0, 1, 2, 3, 4, 5, 6, 7, 8] rfl, va_K.moved hW.alike (hK.sub [0, 1, 2, 3, 4, 5, 6, 7] rfl), hD.sub [0, 1, 2, 3, 4, 5, 6, 7, 8] (by decide) rfl⟩, hS.F ht⟩) hS.2.2 dX11_freezes_197
    ·
      refine lv_iconst (v := 0) hx hb dX11_freezes_147 (by decide) ?_
      exact W.zret (v := 0) hx hb hr rfl (fun t ht hW => ⟨⟨0, (gn_21, gk_3, gb_22, fr, gf_23, gh_24, fa, fs, sd_18, pa_19, pb_20, (nI dn_16), ((upd i 15 0) 17), ((upd i 15 0) 18)), rfl, ⟨Or.inl rfl, hfa, hfs, gr1_29, hCk.2, f1_30, f2_31, f3_32⟩, by rw [ht]; exact hP.sub [0, 1, 2, 3, 4, 5, 6, 7, 8] rfl, va_K.moved hW.alike (hK.sub [0, 1, 2, 3, 4, 5, 6, 7] rfl), hD.sub [0, 1, 2, 3, 4, 5, 6, 7, 8] (by decide) rfl⟩, hS.F ht⟩) hS.2.2 dX11_freezes_148
  ·
    refine lv_lconst (v := 1) hx hb dX11_freezes_65 (by decide) ?_
    refine lv_topl (fun v47 ev47 => ?_)
    obtain rfl : v47 = lN 1 := ev47.trans (rfl)
    refine lv_goto (tgt := 72) hx hb dX11_freezes_66 (by decide) ?_
    have hPc := hP.sub (ws' := [(h0, .inr (11, gM a i g)), (a 3, .inl (cm 3, 85, .inr (.inl w9)))]) [7, 8] rfl
    have hKc := hK.sub (tys' := [(cm 3, .long)]) [0] rfl
    have hDc := hD.sub (ws' := [(h0, .inr (11, gM a i g)), (a 3, .inl (cm 3, 85, .inr (.inl w9)))]) [7, 8] (by decide) rfl
    have hFc := va_free (wc := [(h0, .inr (11, gM a i g)), (a 3, .inl (cm 3, 85, .inr (.inl w9)))]) hD hS hA [7, 8] rfl
    refine va_callv (va_runV (As := [.int (nI 4), .int (nI 4), .long (lN 1)]) (rest := []) ⟨hx, hb, hml, hown, hts⟩ (c_lays l D _ h0 a cm i g w9 4 4 (lN 1) (by first | assumption | omega) (by first | assumption | omega)) (cwV 3 hts g_c_freezes_c_lays_126 rfl rfl rfl (by decide +kernel) ⟨(Nat.le_of_ble_eq_true rfl), (Nat.le_of_ble_eq_true rfl)⟩) (PcW_V (q0 := 0) hPc hKc hDc rfl rfl) rfl rfl hl.1 rfl (lv_room (Nat.le_of_ble_eq_true rfl)) dX11_freezes_72 ⟨(Nat.le_of_ble_eq_true rfl), (Nat.le_of_ble_eq_true rfl)⟩) hS (fun q _ h => hFc q h) hFc (fun uu tt H locs htt hvm hw hB hz1 hk1 hS => ?_)
    obtain ⟨w49, rfl⟩ : ∃ z, z = uu := ⟨_, rfl⟩
    obtain ⟨hP1, hK1, hD1⟩ := hB
    rw [htt] at hP1
    have hK1 := va_K.moved hvm.symm hK1
    have hP1 : va_P D vwCl [(h0, .inr (11, gM a i g)), (a 3, .inl (cm 3, 85, .inr (.inl w49)))] H := hP1
    obtain ⟨hP, hD⟩ := va_join (wr := [(a 4, .inl (cm 4, 800, .inl gk_3)), (a 6, .inl (cm 6, 800, .inl fb)), (a 7, .inl (cm 7, 800, .inl fr)), (a 8, .inl (cm 8, 10240, .inl ff)), (a 9, .inl (cm 9, 10240, .inl fh)), (a 10, .inl (cm 10, 10240, .inr (.inl fa))), (a 11, .inl (cm 11, 10240, .inr (.inl fs)))]) (w1 := [(h0, .inr (11, gM a i g)), (a 3, .inl (cm 3, 85, .inr (.inl w49)))]) hP hD [7, 8] [0, 1, 2, 3, 4, 5, 6] rfl rfl (by decide) (by decide) hk1 hFc hP1 hD1
    have hP : va_P D vwCl [(a 4, .inl (cm 4, 800, .inl gk_3)), (a 6, .inl (cm 6, 800, .inl fb)), (a 7, .inl (cm 7, 800, .inl fr)), (a 8, .inl (cm 8, 10240, .inl ff)), (a 9, .inl (cm 9, 10240, .inl fh)), (a 10, .inl (cm 10, 10240, .inr (.inl fa))), (a 11, .inl (cm 11, 10240, .inr (.inl fs))), (h0, .inr (11, gM a i g)), (a 3, .inl (cm 3, 85, .inr (.inl w49)))] H := hP
    have hD : va_D A [(a 4, .inl (cm 4, 800, .inl gk_3)), (a 6, .inl (cm 6, 800, .inl fb)), (a 7, .inl (cm 7, 800, .inl fr)), (a 8, .inl (cm 8, 10240, .inl ff)), (a 9, .inl (cm 9, 10240, .inl fh)), (a 10, .inl (cm 10, 10240, .inr (.inl fa))), (a 11, .inl (cm 11, 10240, .inr (.inl fs))), (h0, .inr (11, gM a i g)), (a 3, .inl (cm 3, 85, .inr (.inl w49)))] := hD
    try dsimp only at hw
    clear hz1 hk1 hFc hPc hKc hDc
    have hL50 := hw
    refine lv_aload_n hx hb dX11_freezes_75 rfl (lv_at hl 1 rfl) ?_
    refine lv_lload_n hx hb dX11_freezes_76 rfl (lv_at hl 3 rfl) ?_
    refine va_put (D := D) (ci := 11) (v := .long y2) (ty := .long) (C := RX11) (T := TX11) (N := 47) hx hb hts hin_X11 tyX11 tyX11_ok nmX11 hown hK hP hD hS 7 rfl rfl 12 (by decide) (hts (.fieldLink RX11 105 "ClashFreeModel" "seed" "J") (List.mem_of_getElem? (i := 25) rfl)) (fun _ h9 => h9) rfl (by decide +kernel) rfl rfl (Nat.le_of_ble_eq_true rfl) dX11_freezes_77 (fun H locs hP hD hS => ?_)
    have hP : va_P D vwCl [(a 4, .inl (cm 4, 800, .inl gk_3)), (a 6, .inl (cm 6, 800, .inl fb)), (a 7, .inl (cm 7, 800, .inl fr)), (a 8, .inl (cm 8, 10240, .inl ff)), (a 9, .inl (cm 9, 10240, .inl fh)), (a 10, .inl (cm 10, 10240, .inr (.inl fa))), (a 11, .inl (cm 11, 10240, .inr (.inl fs))), (h0, .inr (11, gM a i (vp_updL g 12 y2))), (a 3, .inl (cm 3, 85, .inr (.inl w49)))] H := hP
    have hD : va_D A [(a 4, .inl (cm 4, 800, .inl gk_3)), (a 6, .inl (cm 6, 800, .inl fb)), (a 7, .inl (cm 7, 800, .inl fr)), (a 8, .inl (cm 8, 10240, .inl ff)), (a 9, .inl (cm 9, 10240, .inl fh)), (a 10, .inl (cm 10, 10240, .inr (.inl fa))), (a 11, .inl (cm 11, 10240, .inr (.inl fs))), (h0, .inr (11, gM a i (vp_updL g 12 y2))), (a 3, .inl (cm 3, 85, .inr (.inl w49)))] := hD
    refine lv_aload_n hx hb dX11_freezes_80 rfl (lv_at hl 1 rfl) ?_
    refine lv_iconst (v := 0) hx hb dX11_freezes_81 (by decide) ?_
    refine va_put (D := D) (ci := 11) (v := .int 0) (ty := .int) (C := RX11) (T := TX11) (N := 47) hx hb hts hin_X11 tyX11 tyX11_ok nmX11 hown hK hP hD hS 7 rfl rfl 15 (by decide) (hts (.fieldLink RX11 123 "ClashFreeModel" "drawn" "I") (List.mem_of_getElem? (i := 2) rfl)) (fun _ h9 => h9) rfl (by decide +kernel) rfl rfl (Nat.le_of_ble_eq_true rfl) dX11_freezes_82 (fun H locs hP hD hS => ?_)
    have hP : va_P D vwCl [(a 4, .inl (cm 4, 800, .inl gk_3)), (a 6, .inl (cm 6, 800, .inl fb)), (a 7, .inl (cm 7, 800, .inl fr)), (a 8, .inl (cm 8, 10240, .inl ff)), (a 9, .inl (cm 9, 10240, .inl fh)), (a 10, .inl (cm 10, 10240, .inr (.inl fa))), (a 11, .inl (cm 11, 10240, .inr (.inl fs))), (h0, .inr (11, gM a (upd i 15 0) (vp_updL g 12 y2))), (a 3, .inl (cm 3, 85, .inr (.inl w49)))] H := hP
    have hD : va_D A [(a 4, .inl (cm 4, 800, .inl gk_3)), (a 6, .inl (cm 6, 800, .inl fb)), (a 7, .inl (cm 7, 800, .inl fr)), (a 8, .inl (cm 8, 10240, .inl ff)), (a 9, .inl (cm 9, 10240, .inl fh)), (a 10, .inl (cm 10, 10240, .inr (.inl fa))), (a 11, .inl (cm 11, 10240, .inr (.inl fs))), (h0, .inr (11, gM a (upd i 15 0) (vp_updL g 12 y2))), (a 3, .inl (cm 3, 85, .inr (.inl w49)))] := hD
    refine lv_iconst (v := 0) hx hb dX11_freezes_85 (by decide) ?_
    refine lv_istore (lv' := [(5, .int 0), (4, .int (nI cn)), (0, .ref h0), (1, .int (nI k)), (2, .long y2)]) hx hb dX11_freezes_86 hl (by decide) rfl (fun ls hl => ?_)
    refine lp_fzB l D h0 a cm (upd i 15 0) (vp_updL g 12 y2) fn gk_3 fb fr ff fh fa fs cn K 1 (hcn) (hKy4) (by omega) (by omega) hx hb hml hown hts hA (hK.sub [0, 1, 2, 3, 4, 5, 6, 7] rfl) ?_ (1001) 0 0 y2 (g 13) (g 14) w49 fb ff fh (Nat.zero_le _) (Or.inl rfl) (((hL50.2 _ (by omega)).trans hL10.1)) (hL50.1) (fun x e => (hL50.2 x (by omega)).trans (hL10.2 x (by omega))) (fun _ _ => rfl) (fun _ _ => rfl) (fun _ _ => rfl) (by omega) _ _ _ (hP.sub [7, 8, 0, 1, 2, 3, 4, 5, 6] rfl) (hD.sub [7, 8, 0, 1, 2, 3, 4, 5, 6] (by decide) rfl) hS (lv_sub hl [0, 1, 2] rfl)
    intro dn_51 go_52 sd_53 pa_54 pb_55 gn_56 gb_57 gf_58 gh_59 hd2_60 hgo_61 g1_62 g4_63 gr1_64 f1_65 f2_66 f3_67 H locs ls hP hD hS hl
    refine lv_iload hx hb dX11_freezes_142 (lv_at hl 0 rfl) ?_
    refine lv_if_ne (tgt := 149) hx hb dX11_freezes_144 (by decide) (fun hc68 => ?_) (fun hc68 => ?_)
    ·
      obtain ⟨J, hBk, hr2⟩ := (hgo_61.resolve_left hc68).2
      refine lv_aload_n hx hb dX11_freezes_149 rfl (lv_at hl 1 rfl) ?_
      refine lv_aload_n hx hb dX11_freezes_150 rfl (lv_at hl 1 rfl) ?_
      refine va_get (D := D) (ci := 11) (v := .int (nI dn_51)) (C := RX11) (T := TX11) (N := 47) hx hb hts hin_X11 hown hK hP 0 rfl rfl 15 (by decide) (hts (.fieldLink RX11 123 "ClashFreeModel" "drawn" "I") (List.mem_of_getElem? (i := 2) rfl)) (fun _ h9 => h9) rfl dX11_freezes_151 ?_
      refine va_put (D := D) (ci := 11) (v := .int (nI dn_51)) (ty := .int) (C := RX11) (T := TX11) (N := 47) hx hb hts hin_X11 tyX11 tyX11_ok nmX11 hown hK hP hD hS 0 rfl rfl 17 (by decide) (hts (.fieldLink RX11 259 "ClashFreeModel" "outerPairs" "I") (List.mem_of_getElem? (i := 26) rfl)) (fun _ h9 => h9) rfl (by decide +kernel) rfl rfl (Nat.le_of_ble_eq_true rfl) dX11_freezes_154 (fun H locs hP hD hS => ?_)
      have hP : va_P D vwCl [(h0, .inr (11, gM a (upd (upd (upd i 15 0) 15 (nI dn_51)) 17 (nI dn_51)) (vp_updL (vp_updL (vp_updL (fun _ => 0) 12 sd_53) 13 pa_54) 14 pb_55))), (a 3, .inl (cm 3, 85, .inr (.inl gn_56))), (a 4, .inl (cm 4, 800, .inl gk_3)), (a 6, .inl (cm 6, 800, .inl gb_57)), (a 7, .inl (cm 7, 800, .inl fr)), (a 8, .inl (cm 8, 10240, .inl gf_58)), (a 9, .inl (cm 9, 10240, .inl gh_59)), (a 10, .inl (cm 10, 10240, .inr (.inl fa))), (a 11, .inl (cm 11, 10240, .inr (.inl fs)))] H := hP
      have hD : va_D A [(h0, .inr (11, gM a (upd (upd (upd i 15 0) 15 (nI dn_51)) 17 (nI dn_51)) (vp_updL (vp_updL (vp_updL (fun _ => 0) 12 sd_53) 13 pa_54) 14 pb_55))), (a 3, .inl (cm 3, 85, .inr (.inl gn_56))), (a 4, .inl (cm 4, 800, .inl gk_3)), (a 6, .inl (cm 6, 800, .inl gb_57)), (a 7, .inl (cm 7, 800, .inl fr)), (a 8, .inl (cm 8, 10240, .inl gf_58)), (a 9, .inl (cm 9, 10240, .inl gh_59)), (a 10, .inl (cm 10, 10240, .inr (.inl fa))), (a 11, .inl (cm 11, 10240, .inr (.inl fs)))] := hD
      refine lv_iconst (v := 0) hx hb dX11_freezes_157 (by decide) ?_
      refine lv_istore (lv' := [(6, .int 0), (5, .int go_52), (0, .ref h0)]) hx hb dX11_freezes_158 hl (by decide) rfl (fun ls hl => ?_)
      refine lp_fzC l D h0 a cm (upd (upd (upd i 15 0) 15 (nI dn_51)) 17 (nI dn_51)) (vp_updL (vp_updL (vp_updL (fun _ => 0) 12 sd_53) 13 pa_54) 14 pb_55) gn_56 gk_3 gb_57 gf_58 gh_59 cn K 1 J (nI dn_51) (g1_62) (hcn) (g4_63) (by omega) (hKy4) (hBk) (hr2) hx hb hml hown hts hA (hK.sub [0, 1, 2, 3, 4, 5, 6, 7] rfl) ?_ (1 + 1) 0 fr fa fs sd_53 pa_54 pb_55 (nI dn_51) (Nat.zero_le _) (hfa) (hfs) (by omega) _ _ _ (hP.sub [0, 1, 2, 3, 4, 5, 6, 7, 8] rfl) (hD.sub [0, 1, 2, 3, 4, 5, 6, 7, 8] (by decide) rfl) hS (lv_sub hl [0, 2] rfl)
      intro j_69 gr7_70 ga_71 gs_72 sd_73 pa_74 pb_75 dr_76 hj1_77 hga_78 hgs_79 hx80 H locs ls hP hD hS hl
      refine lv_aload_n hx hb dX11_freezes_183 rfl (lv_at hl 0 rfl) ?_
      refine lv_aload_n hx hb dX11_freezes_184 rfl (lv_at hl 0 rfl) ?_
      refine va_get (D := D) (ci := 11) (v := .int dr_76) (C := RX11) (T := TX11) (N := 47) hx hb hts hin_X11 hown hK hP 0 rfl rfl 15 (by decide) (hts (.fieldLink RX11 123 "ClashFreeModel" "drawn" "I") (List.mem_of_getElem? (i := 2) rfl)) (fun _ h9 => h9) rfl dX11_freezes_185 ?_
      refine lv_aload_n hx hb dX11_freezes_188 rfl (lv_at hl 0 rfl) ?_
      refine va_get (D := D) (ci := 11) (v := .int (nI dn_51)) (C := RX11) (T := TX11) (N := 47) hx hb hts hin_X11 hown hK hP 0 rfl rfl 17 (by decide) (hts (.fieldLink RX11 259 "ClashFreeModel" "outerPairs" "I") (List.mem_of_getElem? (i := 26) rfl)) (fun _ h9 => h9) rfl dX11_freezes_189 ?_
      refine lv_isub hx hb dX11_freezes_192 ?_
      refine lv_topi (fun v81 ev81 => ?_)
      refine va_put (D := D) (ci := 11) (v := .int v81) (ty := .int) (C := RX11) (T := TX11) (N := 47) hx hb hts hin_X11 tyX11 tyX11_ok nmX11 hown hK hP hD hS 0 rfl rfl 18 (by decide) (hts (.fieldLink RX11 262 "ClashFreeModel" "innerPairs" "I") (List.mem_of_getElem? (i := 27) rfl)) (fun _ h9 => h9) rfl (by decide +kernel) rfl rfl (Nat.le_of_ble_eq_true rfl) dX11_freezes_193 (fun H locs hP hD hS => ?_)
      have hP : va_P D vwCl [(h0, .inr (11, gM a (upd (upd (upd (upd (upd (upd i 15 0) 15 (nI dn_51)) 17 (nI dn_51)) 15 dr_76) 17 (nI dn_51)) 18 v81) (vp_updL (vp_updL (vp_updL (fun _ => 0) 12 sd_73) 13 pa_74) 14 pb_75))), (a 3, .inl (cm 3, 85, .inr (.inl gn_56))), (a 4, .inl (cm 4, 800, .inl gk_3)), (a 6, .inl (cm 6, 800, .inl gb_57)), (a 7, .inl (cm 7, 800, .inl gr7_70)), (a 8, .inl (cm 8, 10240, .inl gf_58)), (a 9, .inl (cm 9, 10240, .inl gh_59)), (a 10, .inl (cm 10, 10240, .inr (.inl ga_71))), (a 11, .inl (cm 11, 10240, .inr (.inl gs_72)))] H := hP
      have hD : va_D A [(h0, .inr (11, gM a (upd (upd (upd (upd (upd (upd i 15 0) 15 (nI dn_51)) 17 (nI dn_51)) 15 dr_76) 17 (nI dn_51)) 18 v81) (vp_updL (vp_updL (vp_updL (fun _ => 0) 12 sd_73) 13 pa_74) 14 pb_75))), (a 3, .inl (cm 3, 85, .inr (.inl gn_56))), (a 4, .inl (cm 4, 800, .inl gk_3)), (a 6, .inl (cm 6, 800, .inl gb_57)), (a 7, .inl (cm 7, 800, .inl gr7_70)), (a 8, .inl (cm 8, 10240, .inl gf_58)), (a 9, .inl (cm 9, 10240, .inl gh_59)), (a 10, .inl (cm 10, 10240, .inr (.inl ga_71))), (a 11, .inl (cm 11, 10240, .inr (.inl gs_72)))] := hD
      refine lv_iconst (v := 1) hx hb dX11_freezes_196 (by decide) ?_
      exact W.zret (v := 1) hx hb hr rfl (fun t ht hW => ⟨⟨1, (gn_56, gk_3, gb_57, gr7_70, gf_58, gh_59, ga_71, gs_72, sd_73, pa_74, pb_75, dr_76, (nI dn_51), v81), rfl, ⟨Or.inr ⟨rfl, 1, by omega, by omega, J, hBk, hr2⟩, hga_78, hgs_79, gr1_64, hCk.2, f1_65, f2_66, f3_67⟩, by rw [ht]; exact hP.sub [0, 1, 2, 3, 4, 5, 6, 7, 8] rfl, va_K.moved hW.alike (hK.sub [0, 1, 2, 3, 4, 5, 6, 7] rfl), hD.sub [0, 1, 2, 3, 4, 5, 6, 7, 8] (by decide) rfl⟩, hS.F ht⟩) hS.2.2 dX11_freezes_197
    ·
      refine lv_iconst (v := 0) hx hb dX11_freezes_147 (by decide) ?_
      exact W.zret (v := 0) hx hb hr rfl (fun t ht hW => ⟨⟨0, (gn_56, gk_3, gb_57, fr, gf_58, gh_59, fa, fs, sd_53, pa_54, pb_55, (nI dn_51), ((upd i 15 0) 17), ((upd i 15 0) 18)), rfl, ⟨Or.inl rfl, hfa, hfs, gr1_64, hCk.2, f1_65, f2_66, f3_67⟩, by rw [ht]; exact hP.sub [0, 1, 2, 3, 4, 5, 6, 7, 8] rfl, va_K.moved hW.alike (hK.sub [0, 1, 2, 3, 4, 5, 6, 7] rfl), hD.sub [0, 1, 2, 3, 4, 5, 6, 7, 8] (by decide) rfl⟩, hS.F ht⟩) hS.2.2 dX11_freezes_148

