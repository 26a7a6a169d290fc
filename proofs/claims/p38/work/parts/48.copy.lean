theorem dX11_copy_0 : decode cX11_copy 0 = .ok (.aload_n 0, 1) := by decide +kernel
theorem dX11_copy_1 : decode cX11_copy 1 = .ok (.iconst 0, 1) := by decide +kernel
theorem dX11_copy_2 : decode cX11_copy 2 = .ok (.putfield 73, 3) := by decide +kernel
theorem dX11_copy_5 : decode cX11_copy 5 = .ok (.iload_n 1, 1) := by decide +kernel
theorem dX11_copy_6 : decode cX11_copy 6 = .ok (.i2l, 1) := by decide +kernel
theorem dX11_copy_7 : decode cX11_copy 7 = .ok (.lconst 0, 1) := by decide +kernel
theorem dX11_copy_8 : decode cX11_copy 8 = .ok (.ldc2_w 87, 3) := by decide +kernel
theorem dX11_copy_11 : decode cX11_copy 11 = .ok (.invokestatic 83, 3) := by decide +kernel
theorem dX11_copy_14 : decode cX11_copy 14 = .ok (.ifCond .eq 16, 3) := by decide +kernel
theorem dX11_copy_17 : decode cX11_copy 17 = .ok (.aload_n 0, 1) := by decide +kernel
theorem dX11_copy_18 : decode cX11_copy 18 = .ok (.iload_n 2, 1) := by decide +kernel
theorem dX11_copy_19 : decode cX11_copy 19 = .ok (.invokevirtual 222, 3) := by decide +kernel
theorem dX11_copy_22 : decode cX11_copy 22 = .ok (.ifCond .eq 8, 3) := by decide +kernel
theorem dX11_copy_25 : decode cX11_copy 25 = .ok (.iload_n 1, 1) := by decide +kernel
theorem dX11_copy_26 : decode cX11_copy 26 = .ok (.iload_n 2, 1) := by decide +kernel
theorem dX11_copy_27 : decode cX11_copy 27 = .ok (.if_icmp .ne 6, 3) := by decide +kernel
theorem dX11_copy_30 : decode cX11_copy 30 = .ok (.bipush (-2), 2) := by decide +kernel
theorem dX11_copy_32 : decode cX11_copy 32 = .ok (.ireturn, 1) := by decide +kernel
theorem dX11_copy_33 : decode cX11_copy 33 = .ok (.iconst 0, 1) := by decide +kernel
theorem dX11_copy_34 : decode cX11_copy 34 = .ok (.istore_n 3, 1) := by decide +kernel
theorem dX11_copy_35 : decode cX11_copy 35 = .ok (.iload_n 3, 1) := by decide +kernel
theorem dX11_copy_36 : decode cX11_copy 36 = .ok (.bipush 17, 2) := by decide +kernel
theorem dX11_copy_38 : decode cX11_copy 38 = .ok (.if_icmp .ge 21, 3) := by decide +kernel
theorem dX11_copy_41 : decode cX11_copy 41 = .ok (.aload_n 0, 1) := by decide +kernel
theorem dX11_copy_42 : decode cX11_copy 42 = .ok (.iload_n 1, 1) := by decide +kernel
theorem dX11_copy_43 : decode cX11_copy 43 = .ok (.iload_n 3, 1) := by decide +kernel
theorem dX11_copy_44 : decode cX11_copy 44 = .ok (.aload_n 0, 1) := by decide +kernel
theorem dX11_copy_45 : decode cX11_copy 45 = .ok (.iload_n 2, 1) := by decide +kernel
theorem dX11_copy_46 : decode cX11_copy 46 = .ok (.iload_n 3, 1) := by decide +kernel
theorem dX11_copy_47 : decode cX11_copy 47 = .ok (.invokevirtual 89, 3) := by decide +kernel
theorem dX11_copy_50 : decode cX11_copy 50 = .ok (.invokevirtual 126, 3) := by decide +kernel
theorem dX11_copy_53 : decode cX11_copy 53 = .ok (.iinc 3 1, 3) := by decide +kernel
theorem dX11_copy_56 : decode cX11_copy 56 = .ok (.goto (-21), 3) := by decide +kernel
theorem dX11_copy_59 : decode cX11_copy 59 = .ok (.iconst 0, 1) := by decide +kernel
theorem dX11_copy_60 : decode cX11_copy 60 = .ok (.istore_n 3, 1) := by decide +kernel
theorem dX11_copy_61 : decode cX11_copy 61 = .ok (.iload_n 3, 1) := by decide +kernel
theorem dX11_copy_62 : decode cX11_copy 62 = .ok (.sipush 160, 3) := by decide +kernel
theorem dX11_copy_65 : decode cX11_copy 65 = .ok (.if_icmp .ge 27, 3) := by decide +kernel
theorem dX11_copy_68 : decode cX11_copy 68 = .ok (.aload_n 0, 1) := by decide +kernel
theorem dX11_copy_69 : decode cX11_copy 69 = .ok (.sipush 160, 3) := by decide +kernel
theorem dX11_copy_72 : decode cX11_copy 72 = .ok (.iload_n 1, 1) := by decide +kernel
theorem dX11_copy_73 : decode cX11_copy 73 = .ok (.imul, 1) := by decide +kernel
theorem dX11_copy_74 : decode cX11_copy 74 = .ok (.iload_n 3, 1) := by decide +kernel
theorem dX11_copy_75 : decode cX11_copy 75 = .ok (.iadd, 1) := by decide +kernel
theorem dX11_copy_76 : decode cX11_copy 76 = .ok (.sipush 160, 3) := by decide +kernel
theorem dX11_copy_79 : decode cX11_copy 79 = .ok (.iload_n 2, 1) := by decide +kernel
theorem dX11_copy_80 : decode cX11_copy 80 = .ok (.imul, 1) := by decide +kernel
theorem dX11_copy_81 : decode cX11_copy 81 = .ok (.iload_n 3, 1) := by decide +kernel
theorem dX11_copy_82 : decode cX11_copy 82 = .ok (.iadd, 1) := by decide +kernel
theorem dX11_copy_83 : decode cX11_copy 83 = .ok (.invokevirtual 195, 3) := by decide +kernel
theorem dX11_copy_86 : decode cX11_copy 86 = .ok (.iinc 3 1, 3) := by decide +kernel
theorem dX11_copy_89 : decode cX11_copy 89 = .ok (.goto (-28), 3) := by decide +kernel
theorem dX11_copy_92 : decode cX11_copy 92 = .ok (.iconst 0, 1) := by decide +kernel
theorem dX11_copy_93 : decode cX11_copy 93 = .ok (.istore_n 3, 1) := by decide +kernel
theorem dX11_copy_94 : decode cX11_copy 94 = .ok (.iload_n 3, 1) := by decide +kernel
theorem dX11_copy_95 : decode cX11_copy 95 = .ok (.sipush 2048, 3) := by decide +kernel
theorem dX11_copy_98 : decode cX11_copy 98 = .ok (.if_icmp .ge 105, 3) := by decide +kernel
theorem dX11_copy_101 : decode cX11_copy 101 = .ok (.aload_n 0, 1) := by decide +kernel
theorem dX11_copy_102 : decode cX11_copy 102 = .ok (.getfield 30, 3) := by decide +kernel
theorem dX11_copy_105 : decode cX11_copy 105 = .ok (.sipush 2048, 3) := by decide +kernel
theorem dX11_copy_108 : decode cX11_copy 108 = .ok (.iload_n 1, 1) := by decide +kernel
theorem dX11_copy_109 : decode cX11_copy 109 = .ok (.imul, 1) := by decide +kernel
theorem dX11_copy_110 : decode cX11_copy 110 = .ok (.iload_n 3, 1) := by decide +kernel
theorem dX11_copy_111 : decode cX11_copy 111 = .ok (.iadd, 1) := by decide +kernel
theorem dX11_copy_112 : decode cX11_copy 112 = .ok (.aload_n 0, 1) := by decide +kernel
theorem dX11_copy_113 : decode cX11_copy 113 = .ok (.getfield 30, 3) := by decide +kernel
theorem dX11_copy_116 : decode cX11_copy 116 = .ok (.sipush 2048, 3) := by decide +kernel
theorem dX11_copy_119 : decode cX11_copy 119 = .ok (.iload_n 2, 1) := by decide +kernel
theorem dX11_copy_120 : decode cX11_copy 120 = .ok (.imul, 1) := by decide +kernel
theorem dX11_copy_121 : decode cX11_copy 121 = .ok (.iload_n 3, 1) := by decide +kernel
theorem dX11_copy_122 : decode cX11_copy 122 = .ok (.iadd, 1) := by decide +kernel
theorem dX11_copy_123 : decode cX11_copy 123 = .ok (.iaload, 1) := by decide +kernel
theorem dX11_copy_124 : decode cX11_copy 124 = .ok (.iastore, 1) := by decide +kernel
theorem dX11_copy_125 : decode cX11_copy 125 = .ok (.aload_n 0, 1) := by decide +kernel
theorem dX11_copy_126 : decode cX11_copy 126 = .ok (.getfield 33, 3) := by decide +kernel
theorem dX11_copy_129 : decode cX11_copy 129 = .ok (.sipush 2048, 3) := by decide +kernel
theorem dX11_copy_132 : decode cX11_copy 132 = .ok (.iload_n 1, 1) := by decide +kernel
theorem dX11_copy_133 : decode cX11_copy 133 = .ok (.imul, 1) := by decide +kernel
theorem dX11_copy_134 : decode cX11_copy 134 = .ok (.iload_n 3, 1) := by decide +kernel
theorem dX11_copy_135 : decode cX11_copy 135 = .ok (.iadd, 1) := by decide +kernel
theorem dX11_copy_136 : decode cX11_copy 136 = .ok (.aload_n 0, 1) := by decide +kernel
theorem dX11_copy_137 : decode cX11_copy 137 = .ok (.getfield 33, 3) := by decide +kernel
theorem dX11_copy_140 : decode cX11_copy 140 = .ok (.sipush 2048, 3) := by decide +kernel
theorem dX11_copy_143 : decode cX11_copy 143 = .ok (.iload_n 2, 1) := by decide +kernel
theorem dX11_copy_144 : decode cX11_copy 144 = .ok (.imul, 1) := by decide +kernel
theorem dX11_copy_145 : decode cX11_copy 145 = .ok (.iload_n 3, 1) := by decide +kernel
theorem dX11_copy_146 : decode cX11_copy 146 = .ok (.iadd, 1) := by decide +kernel
theorem dX11_copy_147 : decode cX11_copy 147 = .ok (.iaload, 1) := by decide +kernel
theorem dX11_copy_148 : decode cX11_copy 148 = .ok (.iastore, 1) := by decide +kernel
theorem dX11_copy_149 : decode cX11_copy 149 = .ok (.aload_n 0, 1) := by decide +kernel
theorem dX11_copy_150 : decode cX11_copy 150 = .ok (.getfield 36, 3) := by decide +kernel
theorem dX11_copy_153 : decode cX11_copy 153 = .ok (.sipush 2048, 3) := by decide +kernel
theorem dX11_copy_156 : decode cX11_copy 156 = .ok (.iload_n 1, 1) := by decide +kernel
theorem dX11_copy_157 : decode cX11_copy 157 = .ok (.imul, 1) := by decide +kernel
theorem dX11_copy_158 : decode cX11_copy 158 = .ok (.iload_n 3, 1) := by decide +kernel
theorem dX11_copy_159 : decode cX11_copy 159 = .ok (.iadd, 1) := by decide +kernel
theorem dX11_copy_160 : decode cX11_copy 160 = .ok (.aload_n 0, 1) := by decide +kernel
theorem dX11_copy_161 : decode cX11_copy 161 = .ok (.getfield 36, 3) := by decide +kernel
theorem dX11_copy_164 : decode cX11_copy 164 = .ok (.sipush 2048, 3) := by decide +kernel
theorem dX11_copy_167 : decode cX11_copy 167 = .ok (.iload_n 2, 1) := by decide +kernel
theorem dX11_copy_168 : decode cX11_copy 168 = .ok (.imul, 1) := by decide +kernel
theorem dX11_copy_169 : decode cX11_copy 169 = .ok (.iload_n 3, 1) := by decide +kernel
theorem dX11_copy_170 : decode cX11_copy 170 = .ok (.iadd, 1) := by decide +kernel
theorem dX11_copy_171 : decode cX11_copy 171 = .ok (.laload, 1) := by decide +kernel
theorem dX11_copy_172 : decode cX11_copy 172 = .ok (.lastore, 1) := by decide +kernel
theorem dX11_copy_173 : decode cX11_copy 173 = .ok (.aload_n 0, 1) := by decide +kernel
theorem dX11_copy_174 : decode cX11_copy 174 = .ok (.getfield 39, 3) := by decide +kernel
theorem dX11_copy_177 : decode cX11_copy 177 = .ok (.sipush 2048, 3) := by decide +kernel
theorem dX11_copy_180 : decode cX11_copy 180 = .ok (.iload_n 1, 1) := by decide +kernel
theorem dX11_copy_181 : decode cX11_copy 181 = .ok (.imul, 1) := by decide +kernel
theorem dX11_copy_182 : decode cX11_copy 182 = .ok (.iload_n 3, 1) := by decide +kernel
theorem dX11_copy_183 : decode cX11_copy 183 = .ok (.iadd, 1) := by decide +kernel
theorem dX11_copy_184 : decode cX11_copy 184 = .ok (.aload_n 0, 1) := by decide +kernel
theorem dX11_copy_185 : decode cX11_copy 185 = .ok (.getfield 39, 3) := by decide +kernel
theorem dX11_copy_188 : decode cX11_copy 188 = .ok (.sipush 2048, 3) := by decide +kernel
theorem dX11_copy_191 : decode cX11_copy 191 = .ok (.iload_n 2, 1) := by decide +kernel
theorem dX11_copy_192 : decode cX11_copy 192 = .ok (.imul, 1) := by decide +kernel
theorem dX11_copy_193 : decode cX11_copy 193 = .ok (.iload_n 3, 1) := by decide +kernel
theorem dX11_copy_194 : decode cX11_copy 194 = .ok (.iadd, 1) := by decide +kernel
theorem dX11_copy_195 : decode cX11_copy 195 = .ok (.laload, 1) := by decide +kernel
theorem dX11_copy_196 : decode cX11_copy 196 = .ok (.lastore, 1) := by decide +kernel
theorem dX11_copy_197 : decode cX11_copy 197 = .ok (.iinc 3 1, 3) := by decide +kernel
theorem dX11_copy_200 : decode cX11_copy 200 = .ok (.goto (-106), 3) := by decide +kernel
theorem dX11_copy_203 : decode cX11_copy 203 = .ok (.iconst 1, 1) := by decide +kernel
theorem dX11_copy_204 : decode cX11_copy 204 = .ok (.ireturn, 1) := by decide +kernel
def Cp17 (k k2 y : Nat) (f g : Nat → Int64) : Prop := (∀ j, j < y → g (17 * k + j) = f (17 * k2 + j)) ∧ ∀ x, (x < 17 * k ∨ 17 * k + 17 ≤ x) → g x = f x
theorem Cp17_0 (k k2 : Nat) (f : Nat → Int64) : Cp17 k k2 0 f f := ⟨fun j h => absurd h (Nat.not_lt_zero _), fun _ _ => rfl⟩
theorem Cp17_h {k k2 y : Nat} {f g h : Nat → Int64} (hne : k ≠ k2) (hy : y < 17) (c : Cp17 k k2 y f g) (h1 : h (17 * k + y) = g (17 * k2 + y)) (h2 : ∀ x, x ≠ 17 * k + y → h x = g x) : Cp17 k k2 (y + 1) f h := by
  refine ⟨fun j hj => ?_, fun x hx => ?_⟩
  · by_cases e : j = y
    · subst e
      exact h1.trans (c.2 _ (by omega))
    · exact (h2 _ (by omega)).trans (c.1 j (by omega))
  · exact (h2 x (by omega)).trans (c.2 x hx)
theorem Cp17_s {k k2 y : Nat} {f g : Nat → Int64} (hne : k ≠ k2) (hy : y < 17) (c : Cp17 k k2 y f g) : Cp17 k k2 (y + 1) f (vp_updL g (17 * k + y) (g (17 * k2 + y))) := Cp17_h hne hy c pk_uLs (fun _ h => pk_uLn h)
def Cp160 (k k2 y : Nat) (f g : Nat → Int32) : Prop := (∀ j, j < y → g (160 * k + j) = f (160 * k2 + j)) ∧ ∀ x, (x < 160 * k ∨ 160 * k + 160 ≤ x) → g x = f x
theorem Cp160_0 (k k2 : Nat) (f : Nat → Int32) : Cp160 k k2 0 f f := ⟨fun j h => absurd h (Nat.not_lt_zero _), fun _ _ => rfl⟩
theorem Cp160_h {k k2 y : Nat} {f g h : Nat → Int32} (hne : k ≠ k2) (hy : y < 160) (c : Cp160 k k2 y f g) (h1 : h (160 * k + y) = g (160 * k2 + y)) (h2 : ∀ x, x ≠ 160 * k + y → h x = g x) : Cp160 k k2 (y + 1) f h := by
  refine ⟨fun j hj => ?_, fun x hx => ?_⟩
  · by_cases e : j = y
    · subst e
      exact h1.trans (c.2 _ (by omega))
    · exact (h2 _ (by omega)).trans (c.1 j (by omega))
  · exact (h2 x (by omega)).trans (c.2 x hx)
theorem Cp160_s {k k2 y : Nat} {f g : Nat → Int32} (hne : k ≠ k2) (hy : y < 160) (c : Cp160 k k2 y f g) : Cp160 k k2 (y + 1) f (upd g (160 * k + y) (g (160 * k2 + y))) := Cp160_h hne hy c pk_us (fun _ h => pk_un h)
def Cp2048 (k k2 y : Nat) (f g : Nat → Int32) : Prop := (∀ j, j < y → g (2048 * k + j) = f (2048 * k2 + j)) ∧ ∀ x, (x < 2048 * k ∨ 2048 * k + 2048 ≤ x) → g x = f x
theorem Cp2048_0 (k k2 : Nat) (f : Nat → Int32) : Cp2048 k k2 0 f f := ⟨fun j h => absurd h (Nat.not_lt_zero _), fun _ _ => rfl⟩
theorem Cp2048_h {k k2 y : Nat} {f g h : Nat → Int32} (hne : k ≠ k2) (hy : y < 2048) (c : Cp2048 k k2 y f g) (h1 : h (2048 * k + y) = g (2048 * k2 + y)) (h2 : ∀ x, x ≠ 2048 * k + y → h x = g x) : Cp2048 k k2 (y + 1) f h := by
  refine ⟨fun j hj => ?_, fun x hx => ?_⟩
  · by_cases e : j = y
    · subst e
      exact h1.trans (c.2 _ (by omega))
    · exact (h2 _ (by omega)).trans (c.1 j (by omega))
  · exact (h2 x (by omega)).trans (c.2 x hx)
theorem Cp2048_s {k k2 y : Nat} {f g : Nat → Int32} (hne : k ≠ k2) (hy : y < 2048) (c : Cp2048 k k2 y f g) : Cp2048 k k2 (y + 1) f (upd g (2048 * k + y) (g (2048 * k2 + y))) := Cp2048_h hne hy c pk_us (fun _ h => pk_un h)
theorem RngL.cpy {f : Nat → Int64} (h : RngL f) (i j : Nat) : RngL (vp_updL f i (f j)) := by
  obtain ⟨n, hn, e⟩ := h j
  rw [e]
  exact h.put hn
theorem TabS.copy {k k2 cn nb : Nat} {K J : Nat → Nat} {fn gn : Nat → Int64} {fk fb ff fh gk gb gf gh : Nat → Int32} (h : TabS k2 cn nb K J fn fk fb ff fh) (e1 : ∀ j, j < 17 → gn (17 * k + j) = fn (17 * k2 + j)) (e2 : ∀ j, j < 160 → gk (160 * k + j) = fk (160 * k2 + j)) (e3 : ∀ j, j < 160 → gb (160 * k + j) = fb (160 * k2 + j)) (e4 : ∀ j, j < 2048 → gf (2048 * k + j) = ff (2048 * k2 + j)) (e5 : ∀ j, j < 2048 → gh (2048 * k + j) = fh (2048 * k2 + j)) : TabS k cn nb K J gn gk gb gf gh := by
  obtain ⟨a1, a2, a3, a4, a5, ⟨ka, kb, b1, b2, b3, b4⟩, ⟨c1, c2⟩, d1, d2, ⟨bn, ns, gr, s1, s2, s3, s4, s5, s6, s7⟩⟩ := h
  refine ⟨(e1 _ (by omega)).trans a1, a2, (e1 _ (by omega)).trans a3, a4, a5, ⟨ka, kb, b1, b2, (e1 _ (by omega)).trans b3, (e1 _ (by omega)).trans b4⟩, ⟨fun j hj => ⟨(e2 _ (by omega)).trans (c1 j hj).1, (c1 j hj).2⟩, c2⟩, fun j hj => ⟨(e3 _ (by omega)).trans (d1 j hj).1, (d1 j hj).2⟩, fun b hb => ?_, ⟨bn, ns, gr, (e1 _ (by omega)).trans s1, s2, (e1 _ (by omega)).trans s3, s4, s5, (e1 _ (by omega)).trans s6, s7⟩⟩
  obtain ⟨q1, r, q2, q3, q4⟩ := d2 b hb
  exact ⟨(e5 _ (by omega)).trans q1, r, (e4 _ (by omega)).trans q2, q3, q4⟩
def own_c_copyM : List Cond := [.methodLink RX11 89 yX11_of, .instanceMethod yX11_of, .selects RX11 yX11_of yX11_of, .initialized RX11, .methodLink RX11 126 yX11_lays, .instanceMethod yX11_lays, .selects RX11 yX11_lays yX11_lays, .methodLink RX11 195 yX11_moves, .instanceMethod yX11_moves, .selects RX11 yX11_moves yX11_moves, .fieldLink RX11 30 "ClashFreeModel" "roofs" "[I", .fieldLink RX11 33 "ClashFreeModel" "has" "[I", .fieldLink RX11 36 "ClashFreeModel" "as" "[J", .fieldLink RX11 39 "ClashFreeModel" "bs" "[J", .fieldLink RX11 73 "ClashFreeModel" "thrown" "I", .constantLong RX11 87 (3), .methodLink RX11 83 yX11_isIn, .static yX11_isIn, .methodLink RX11 222 yX11_isThere, .instanceMethod yX11_isThere, .selects RX11 yX11_isThere yX11_isThere]
def wp_c_copyM : List Cond := .code yX11_copy cX11_copy 4 (some .int) :: (own_c_copyM ++ (wp_c_of ++ (wp_c_lays ++ (wp_c_moves ++ (wp_c_isIn ++ (wp_c_isThere ++ (wsX110 ++ ([] : List Cond))))))))
set_option maxRecDepth 20000 in
theorem inown_c_copyM : ∀ w ∈ own_c_copyM, w ∈ lw_tbl := mem_places [1400, 1402, 41, 115, 1388, 1390, 38, 1509, 1511, 63, 1224, 1225, 1226, 1227, 1216, 1378, 1371, 1372, 1466, 1468, 54] (by decide +kernel)
set_option maxRecDepth 20000 in
theorem in_c_copyM : ∀ w ∈ wp_c_copyM, w ∈ lw_tbl := List.forall_mem_cons.mpr ⟨List.mem_of_getElem? (i := 1822) (by decide +kernel), List.forall_mem_append.mpr ⟨inown_c_copyM, List.forall_mem_append.mpr ⟨in_c_of, List.forall_mem_append.mpr ⟨in_c_lays, List.forall_mem_append.mpr ⟨in_c_moves, List.forall_mem_append.mpr ⟨in_c_isIn, List.forall_mem_append.mpr ⟨in_c_isThere, List.forall_mem_append.mpr ⟨lwb_X11, fun _ h => absurd h List.not_mem_nil⟩⟩⟩⟩⟩⟩⟩⟩
set_option maxRecDepth 20000 in
theorem good_c_copyM : wp_c_copyM.all goodWord = true := by decide +kernel
set_option maxRecDepth 20000 in
theorem g_c_copyM_c_of_89 : GoodIn wp_c_copyM (wsV RX11 89 RX11 yX11_of wp_c_of) := goodIn_sub (List.forall_mem_append.mpr ⟨List.forall_mem_cons.mpr ⟨(List.mem_of_getElem? (i := 1) rfl), List.forall_mem_cons.mpr ⟨(List.mem_of_getElem? (i := 2) rfl), List.forall_mem_cons.mpr ⟨(List.mem_of_getElem? (i := 3) rfl), List.forall_mem_cons.mpr ⟨(List.mem_of_getElem? (i := 4) rfl), fun _ h => absurd h List.not_mem_nil⟩⟩⟩⟩, (fun _ h => (List.mem_cons_of_mem _ (List.mem_append_right _ (List.mem_append_left _ h))))⟩) (by decide +kernel)
set_option maxRecDepth 20000 in
theorem g_c_copyM_c_lays_126 : GoodIn wp_c_copyM (wsV RX11 126 RX11 yX11_lays wp_c_lays) := goodIn_sub (List.forall_mem_append.mpr ⟨List.forall_mem_cons.mpr ⟨(List.mem_of_getElem? (i := 5) rfl), List.forall_mem_cons.mpr ⟨(List.mem_of_getElem? (i := 6) rfl), List.forall_mem_cons.mpr ⟨(List.mem_of_getElem? (i := 7) rfl), List.forall_mem_cons.mpr ⟨(List.mem_of_getElem? (i := 4) rfl), fun _ h => absurd h List.not_mem_nil⟩⟩⟩⟩, (fun _ h => (List.mem_cons_of_mem _ (List.mem_append_right _ (List.mem_append_right _ (List.mem_append_left _ h)))))⟩) (by decide +kernel)
set_option maxRecDepth 20000 in
theorem g_c_copyM_c_moves_195 : GoodIn wp_c_copyM (wsV RX11 195 RX11 yX11_moves wp_c_moves) := goodIn_sub (List.forall_mem_append.mpr ⟨List.forall_mem_cons.mpr ⟨(List.mem_of_getElem? (i := 8) rfl), List.forall_mem_cons.mpr ⟨(List.mem_of_getElem? (i := 9) rfl), List.forall_mem_cons.mpr ⟨(List.mem_of_getElem? (i := 10) rfl), List.forall_mem_cons.mpr ⟨(List.mem_of_getElem? (i := 4) rfl), fun _ h => absurd h List.not_mem_nil⟩⟩⟩⟩, (fun _ h => (List.mem_cons_of_mem _ (List.mem_append_right _ (List.mem_append_right _ (List.mem_append_right _ (List.mem_append_left _ h))))))⟩) (by decide +kernel)
set_option maxRecDepth 20000 in
theorem g_c_copyM_c_isIn_83 : GoodIn wp_c_copyM (va_wsS RX11 83 yX11_isIn wp_c_isIn) := goodIn_sub (List.forall_mem_append.mpr ⟨List.forall_mem_cons.mpr ⟨(List.mem_of_getElem? (i := 17) rfl), List.forall_mem_cons.mpr ⟨(List.mem_of_getElem? (i := 18) rfl), List.forall_mem_cons.mpr ⟨(List.mem_of_getElem? (i := 4) rfl), fun _ h => absurd h List.not_mem_nil⟩⟩⟩, (fun _ h => (List.mem_cons_of_mem _ (List.mem_append_right _ (List.mem_append_right _ (List.mem_append_right _ (List.mem_append_right _ (List.mem_append_left _ h)))))))⟩) (by decide +kernel)
set_option maxRecDepth 20000 in
theorem g_c_copyM_c_isThere_222 : GoodIn wp_c_copyM (wsV RX11 222 RX11 yX11_isThere wp_c_isThere) := goodIn_sub (List.forall_mem_append.mpr ⟨List.forall_mem_cons.mpr ⟨(List.mem_of_getElem? (i := 19) rfl), List.forall_mem_cons.mpr ⟨(List.mem_of_getElem? (i := 20) rfl), List.forall_mem_cons.mpr ⟨(List.mem_of_getElem? (i := 21) rfl), List.forall_mem_cons.mpr ⟨(List.mem_of_getElem? (i := 4) rfl), fun _ h => absurd h List.not_mem_nil⟩⟩⟩⟩, (fun _ h => (List.mem_cons_of_mem _ (List.mem_append_right _ (List.mem_append_right _ (List.mem_append_right _ (List.mem_append_right _ (List.mem_append_right _ (List.mem_append_left _ h))))))))⟩) (by decide +kernel)
set_option maxHeartbeats 4000000 in
set_option maxRecDepth 100000 in
theorem lp_cp1 (l : Launch) {p : Program} {e : Env} {s : State} {m : MethodId} {args : Array Value} {below : List Frame} {meth : Method} {c : Code} {Q : State → Prop} {A : Nat → Prop} (D : va_G) (h0 : Nat) (a : Nat → Nat) (cm : Nat → ClassId) (i : Nat → Int32) (g : Nat → Int64) (fn : Nat → Int64) (fk : Nat → Int32) (fv : Nat → Int32) (fb : Nat → Int32) (fr : Nat → Int32) (ff : Nat → Int32) (fh : Nat → Int32) (fa : Nat → Int64) (fs : Nat → Int64) (k : Nat) (k2 : Nat) (hk : k < 4) (hk2 : k2 < 4) (hne : k ≠ k2) (hx : p.tables.exec = Jvm.exec) (hb : c.code = cX11_copy) (hml : c.maxLocals = 4) (hown : s.vm.findClass RX11 = some m.cls) (hts : ∀ w ∈ wp_c_copyM, w.before args s = true) (hA : ∀ q, s.heap.size ≤ q → A q) (hK : va_K D vwCl [(cm 3, .long), (cm 4, .int), (cm 5, .int), (cm 6, .int), (cm 7, .int), (cm 8, .int), (cm 9, .int), (cm 10, .long), (cm 11, .long)] s) (kx59 : ∀ (y : Nat), ∀ (gn : Nat → Int64), (y ≤ 17) → (Cp17 k k2 y fn gn) → (17 ≤ y) → ∀ (H : Heap) (locs : List Loc) (ls : Array Slot), va_P D vwCl [(h0, .inr (11, gM a (upd i 0 0) g)), (a 3, .inl (cm 3, 85, .inr (.inl gn))), (a 4, .inl (cm 4, 800, .inl fk)), (a 5, .inl (cm 5, 800, .inl fv)), (a 6, .inl (cm 6, 800, .inl fb)), (a 7, .inl (cm 7, 800, .inl fr)), (a 8, .inl (cm 8, 10240, .inl ff)), (a 9, .inl (cm 9, 10240, .inl fh)), (a 10, .inl (cm 10, 10240, .inr (.inl fa))), (a 11, .inl (cm 11, 10240, .inr (.inl fs)))] H → va_D A [(h0, .inr (11, gM a (upd i 0 0) g)), (a 3, .inl (cm 3, 85, .inr (.inl gn))), (a 4, .inl (cm 4, 800, .inl fk)), (a 5, .inl (cm 5, 800, .inl fv)), (a 6, .inl (cm 6, 800, .inl fb)), (a 7, .inl (cm 7, 800, .inl fr)), (a 8, .inl (cm 8, 10240, .inl ff)), (a 9, .inl (cm 9, 10240, .inl fh)), (a 10, .inl (cm 10, 10240, .inr (.inl fa))), (a 11, .inl (cm 11, 10240, .inr (.inl fs)))] → va_S A s.heap H locs → lv_has ls 4 [(0, .ref h0), (1, .int (nI k)), (2, .int (nI k2))] → W p l e ({ frames := 6, cells := 0, slots := 0, locals := 80 }) s m args below meth c H locs 0 0 Q (F0 m 59 ls [])) : ∀ (N : Nat), ∀ (y : Nat), ∀ (gn : Nat → Int64), (y ≤ 17) → (Cp17 k k2 y fn gn) → 17 - y < N → ∀ (H : Heap) (locs : List Loc) (ls : Array Slot), va_P D vwCl [(h0, .inr (11, gM a (upd i 0 0) g)), (a 3, .inl (cm 3, 85, .inr (.inl gn))), (a 4, .inl (cm 4, 800, .inl fk)), (a 5, .inl (cm 5, 800, .inl fv)), (a 6, .inl (cm 6, 800, .inl fb)), (a 7, .inl (cm 7, 800, .inl fr)), (a 8, .inl (cm 8, 10240, .inl ff)), (a 9, .inl (cm 9, 10240, .inl fh)), (a 10, .inl (cm 10, 10240, .inr (.inl fa))), (a 11, .inl (cm 11, 10240, .inr (.inl fs)))] H → va_D A [(h0, .inr (11, gM a (upd i 0 0) g)), (a 3, .inl (cm 3, 85, .inr (.inl gn))), (a 4, .inl (cm 4, 800, .inl fk)), (a 5, .inl (cm 5, 800, .inl fv)), (a 6, .inl (cm 6, 800, .inl fb)), (a 7, .inl (cm 7, 800, .inl fr)), (a 8, .inl (cm 8, 10240, .inl ff)), (a 9, .inl (cm 9, 10240, .inl fh)), (a 10, .inl (cm 10, 10240, .inr (.inl fa))), (a 11, .inl (cm 11, 10240, .inr (.inl fs)))] → va_S A s.heap H locs → lv_has ls 4 [(3, .int (nI y)), (0, .ref h0), (1, .int (nI k)), (2, .int (nI k2))] → W p l e ({ frames := 6, cells := 0, slots := 0, locals := 80 }) s m args below meth c H locs 0 0 Q (F0 m 35 ls []) := by
  have hin_X11 : ∀ w ∈ wsX110, w ∈ wp_c_copyM := fun _ h => (List.mem_cons_of_mem _ (List.mem_append_right _ (List.mem_append_right _ (List.mem_append_right _ (List.mem_append_right _ (List.mem_append_right _ (List.mem_append_right _ (List.mem_append_left _ h))))))))
  intro N
  induction N with
  | zero =>
    intro y gn hy1 hC hm
    exact absurd hm (Nat.not_lt_zero _)
  | succ N ih =>
    intro y gn hy1 hC hm H locs ls hP hD hS hl
    refine lv_iload_n hx hb dX11_copy_35 rfl (lv_at hl 0 rfl) ?_
    refine lv_bipush (v := 17) hx hb dX11_copy_36 (by decide) ?_
    refine lv_icmp_ge (tgt := 59) hx hb dX11_copy_38 (by decide) (fun hc1 => ?_) (fun hc1 => ?_)
    ·
      have hge_y : 17 ≤ y := (nI_leI (a := 17) (by decide) (by omega)).mp hc1
      exact kx59 y gn (hy1) (hC) (by omega) H locs ls (hP.sub [0, 1, 2, 3, 4, 5, 6, 7, 8, 9] rfl) (hD.sub [0, 1, 2, 3, 4, 5, 6, 7, 8, 9] (by decide) rfl) hS (lv_sub hl [1, 2, 3] rfl)
    ·
      have hlt_y : y < 17 := by
        rcases Nat.lt_or_ge y 17 with z | z
        · exact z
        · exact absurd (nI_le (a := 17) z (by omega)) hc1
      refine lv_aload_n hx hb dX11_copy_41 rfl (lv_at hl 1 rfl) ?_
      refine lv_iload_n hx hb dX11_copy_42 rfl (lv_at hl 2 rfl) ?_
      refine lv_iload_n hx hb dX11_copy_43 rfl (lv_at hl 0 rfl) ?_
      refine lv_aload_n hx hb dX11_copy_44 rfl (lv_at hl 1 rfl) ?_
      refine lv_iload_n hx hb dX11_copy_45 rfl (lv_at hl 3 rfl) ?_
      refine lv_iload_n hx hb dX11_copy_46 rfl (lv_at hl 0 rfl) ?_
      have hPc := hP.sub (ws' := [(h0, .inr (11, gM a (upd i 0 0) g)), (a 3, .inl (cm 3, 85, .inr (.inl gn)))]) [0, 1] rfl
      have hKc := hK.sub (tys' := [(cm 3, .long)]) [0] rfl
      have hFc := va_free0 hS hA
      refine va_calll (va_runV (As := [.int (nI k2), .int (nI y)]) (rest := [.int (nI y), .int (nI k), .ref h0]) ⟨hx, hb, hml, hown, hts⟩ (c_of l D _ h0 a cm (upd i 0 0) g gn k2 y (by first | assumption | omega) (by first | assumption | omega)) (cwV 2 hts g_c_copyM_c_of_89 rfl rfl rfl (by decide +kernel) ⟨(Nat.le_of_ble_eq_true rfl), (Nat.le_of_ble_eq_true rfl)⟩) (PcR_V (q0 := 0) hPc hKc rfl rfl) rfl rfl hl.1 rfl (lv_room (Nat.le_of_ble_eq_true rfl)) dX11_copy_47 ⟨(Nat.le_of_ble_eq_true rfl), (Nat.le_of_ble_eq_true rfl)⟩) hS (fun q _ h => hFc q h) hFc (fun r2 uu tt H locs htt hvm hw hB hz1 hk1 hS => ?_)
      have hP := va_keep hP hk1
      try dsimp only at hw
      clear hB hz1 hk1 hFc hPc hKc
      obtain rfl : r2 = gn (17 * k2 + y) := hw
      have hPc := hP.sub (ws' := [(h0, .inr (11, gM a (upd i 0 0) g)), (a 3, .inl (cm 3, 85, .inr (.inl gn)))]) [0, 1] rfl
      have hKc := hK.sub (tys' := [(cm 3, .long)]) [0] rfl
      have hDc := hD.sub (ws' := [(h0, .inr (11, gM a (upd i 0 0) g)), (a 3, .inl (cm 3, 85, .inr (.inl gn)))]) [0, 1] (by decide) rfl
      have hFc := va_free (wc := [(h0, .inr (11, gM a (upd i 0 0) g)), (a 3, .inl (cm 3, 85, .inr (.inl gn)))]) hD hS hA [0, 1] rfl
      refine va_callv (va_runV (As := [.int (nI k), .int (nI y), .long (gn (17 * k2 + y))]) (rest := []) ⟨hx, hb, hml, hown, hts⟩ (c_lays l D _ h0 a cm (upd i 0 0) g gn k y (gn (17 * k2 + y)) (by first | assumption | omega) (by first | assumption | omega)) (cwV 3 hts g_c_copyM_c_lays_126 rfl rfl rfl (by decide +kernel) ⟨(Nat.le_of_ble_eq_true rfl), (Nat.le_of_ble_eq_true rfl)⟩) (PcW_V (q0 := 0) hPc hKc hDc rfl rfl) rfl rfl hl.1 rfl (lv_room (Nat.le_of_ble_eq_true rfl)) dX11_copy_50 ⟨(Nat.le_of_ble_eq_true rfl), (Nat.le_of_ble_eq_true rfl)⟩) hS (fun q _ h => hFc q h) hFc (fun uu tt H locs htt hvm hw hB hz1 hk1 hS => ?_)
      obtain ⟨w4, rfl⟩ : ∃ z, z = uu := ⟨_, rfl⟩
      obtain ⟨hP1, hK1, hD1⟩ := hB
      rw [htt] at hP1
      have hK1 := va_K.moved hvm.symm hK1
      have hP1 : va_P D vwCl [(h0, .inr (11, gM a (upd i 0 0) g)), (a 3, .inl (cm 3, 85, .inr (.inl w4)))] H := hP1
      obtain ⟨hP, hD⟩ := va_join (wr := [(a 4, .inl (cm 4, 800, .inl fk)), (a 5, .inl (cm 5, 800, .inl fv)), (a 6, .inl (cm 6, 800, .inl fb)), (a 7, .inl (cm 7, 800, .inl fr)), (a 8, .inl (cm 8, 10240, .inl ff)), (a 9, .inl (cm 9, 10240, .inl fh)), (a 10, .inl (cm 10, 10240, .inr (.inl fa))), (a 11, .inl (cm 11, 10240, .inr (.inl fs)))]) (w1 := [(h0, .inr (11, gM a (upd i 0 0) g)), (a 3, .inl (cm 3, 85, .inr (.inl w4)))]) hP hD [0, 1] [2, 3, 4, 5, 6, 7, 8, 9] rfl rfl (by decide) (by decide) hk1 hFc hP1 hD1
      have hP : va_P D vwCl [(a 4, .inl (cm 4, 800, .inl fk)), (a 5, .inl (cm 5, 800, .inl fv)), (a 6, .inl (cm 6, 800, .inl fb)), (a 7, .inl (cm 7, 800, .inl fr)), (a 8, .inl (cm 8, 10240, .inl ff)), (a 9, .inl (cm 9, 10240, .inl fh)), (a 10, .inl (cm 10, 10240, .inr (.inl fa))), (a 11, .inl (cm 11, 10240, .inr (.inl fs))), (h0, .inr (11, gM a (upd i 0 0) g)), (a 3, .inl (cm 3, 85, .inr (.inl w4)))] H := hP
      have hD : va_D A [(a 4, .inl (cm 4, 800, .inl fk)), (a 5, .inl (cm 5, 800, .inl fv)), (a 6, .inl (cm 6, 800, .inl fb)), (a 7, .inl (cm 7, 800, .inl fr)), (a 8, .inl (cm 8, 10240, .inl ff)), (a 9, .inl (cm 9, 10240, .inl fh)), (a 10, .inl (cm 10, 10240, .inr (.inl fa))), (a 11, .inl (cm 11, 10240, .inr (.inl fs))), (h0, .inr (11, gM a (upd i 0 0) g)), (a 3, .inl (cm 3, 85, .inr (.inl w4)))] := hD
      try dsimp only at hw
      clear hz1 hk1 hFc hPc hKc hDc
      have hL5 := hw
      refine lv_iinc (v := nI (y + 1)) (lv' := [(3, .int (nI (y + 1))), (0, .ref h0), (1, .int (nI k)), (2, .int (nI k2))]) hx hb dX11_copy_53 hl (k := 0) rfl (nI_1 _) (by decide) rfl (fun ls hl => ?_)
      refine lv_goto (tgt := 35) hx hb dX11_copy_56 (by decide) ?_
      exact ih (y + 1) w4 (by omega) (Cp17_h hne hlt_y hC hL5.1 hL5.2) (by omega) H locs ls (hP.sub [8, 9, 0, 1, 2, 3, 4, 5, 6, 7] rfl) (hD.sub [8, 9, 0, 1, 2, 3, 4, 5, 6, 7] (by decide) rfl) hS (lv_sub hl [0, 1, 2, 3] rfl)
set_option maxHeartbeats 4000000 in
set_option maxRecDepth 100000 in
theorem lp_cp2 (l : Launch) {p : Program} {e : Env} {s : State} {m : MethodId} {args : Array Value} {below : List Frame} {meth : Method} {c : Code} {Q : State → Prop} {A : Nat → Prop} (D : va_G) (h0 : Nat) (a : Nat → Nat) (cm : Nat → ClassId) (i : Nat → Int32) (g : Nat → Int64) (fn : Nat → Int64) (fk : Nat → Int32) (fv : Nat → Int32) (fb : Nat → Int32) (fr : Nat → Int32) (ff : Nat → Int32) (fh : Nat → Int32) (fa : Nat → Int64) (fs : Nat → Int64) (k : Nat) (k2 : Nat) (hk : k < 4) (hk2 : k2 < 4) (hne : k ≠ k2) (hx : p.tables.exec = Jvm.exec) (hb : c.code = cX11_copy) (hml : c.maxLocals = 4) (hown : s.vm.findClass RX11 = some m.cls) (hts : ∀ w ∈ wp_c_copyM, w.before args s = true) (hA : ∀ q, s.heap.size ≤ q → A q) (hK : va_K D vwCl [(cm 3, .long), (cm 4, .int), (cm 5, .int), (cm 6, .int), (cm 7, .int), (cm 8, .int), (cm 9, .int), (cm 10, .long), (cm 11, .long)] s) (kx92 : ∀ (y : Nat), ∀ (gk : Nat → Int32), ∀ (gv : Nat → Int32), ∀ (gb : Nat → Int32), ∀ (gr : Nat → Int32), (y ≤ 160) → (Cp160 k k2 y fk gk) → (Cp160 k k2 y fb gb) → (Cp160 k k2 y fv gv) → (160 ≤ y) → ∀ (H : Heap) (locs : List Loc) (ls : Array Slot), va_P D vwCl [(h0, .inr (11, gM a (upd i 0 0) g)), (a 3, .inl (cm 3, 85, .inr (.inl fn))), (a 4, .inl (cm 4, 800, .inl gk)), (a 5, .inl (cm 5, 800, .inl gv)), (a 6, .inl (cm 6, 800, .inl gb)), (a 7, .inl (cm 7, 800, .inl gr)), (a 8, .inl (cm 8, 10240, .inl ff)), (a 9, .inl (cm 9, 10240, .inl fh)), (a 10, .inl (cm 10, 10240, .inr (.inl fa))), (a 11, .inl (cm 11, 10240, .inr (.inl fs)))] H → va_D A [(h0, .inr (11, gM a (upd i 0 0) g)), (a 3, .inl (cm 3, 85, .inr (.inl fn))), (a 4, .inl (cm 4, 800, .inl gk)), (a 5, .inl (cm 5, 800, .inl gv)), (a 6, .inl (cm 6, 800, .inl gb)), (a 7, .inl (cm 7, 800, .inl gr)), (a 8, .inl (cm 8, 10240, .inl ff)), (a 9, .inl (cm 9, 10240, .inl fh)), (a 10, .inl (cm 10, 10240, .inr (.inl fa))), (a 11, .inl (cm 11, 10240, .inr (.inl fs)))] → va_S A s.heap H locs → lv_has ls 4 [(0, .ref h0), (1, .int (nI k)), (2, .int (nI k2))] → W p l e ({ frames := 6, cells := 0, slots := 0, locals := 80 }) s m args below meth c H locs 0 0 Q (F0 m 92 ls [])) : ∀ (N : Nat), ∀ (y : Nat), ∀ (gk : Nat → Int32), ∀ (gv : Nat → Int32), ∀ (gb : Nat → Int32), ∀ (gr : Nat → Int32), (y ≤ 160) → (Cp160 k k2 y fk gk) → (Cp160 k k2 y fb gb) → (Cp160 k k2 y fv gv) → 160 - y < N → ∀ (H : Heap) (locs : List Loc) (ls : Array Slot), va_P D vwCl [(h0, .inr (11, gM a (upd i 0 0) g)), (a 3, .inl (cm 3, 85, .inr (.inl fn))), (a 4, .inl (cm 4, 800, .inl gk)), (a 5, .inl (cm 5, 800, .inl gv)), (a 6, .inl (cm 6, 800, .inl gb)), (a 7, .inl (cm 7, 800, .inl gr)), (a 8, .inl (cm 8, 10240, .inl ff)), (a 9, .inl (cm 9, 10240, .inl fh)), (a 10, .inl (cm 10, 10240, .inr (.inl fa))), (a 11, .inl (cm 11, 10240, .inr (.inl fs)))] H → va_D A [(h0, .inr (11, gM a (upd i 0 0) g)), (a 3, .inl (cm 3, 85, .inr (.inl fn))), (a 4, .inl (cm 4, 800, .inl gk)), (a 5, .inl (cm 5, 800, .inl gv)), (a 6, .inl (cm 6, 800, .inl gb)), (a 7, .inl (cm 7, 800, .inl gr)), (a 8, .inl (cm 8, 10240, .inl ff)), (a 9, .inl (cm 9, 10240, .inl fh)), (a 10, .inl (cm 10, 10240, .inr (.inl fa))), (a 11, .inl (cm 11, 10240, .inr (.inl fs)))] → va_S A s.heap H locs → lv_has ls 4 [(3, .int (nI y)), (0, .ref h0), (1, .int (nI k)), (2, .int (nI k2))] → W p l e ({ frames := 6, cells := 0, slots := 0, locals := 80 }) s m args below meth c H locs 0 0 Q (F0 m 61 ls []) := by
  have hin_X11 : ∀ w ∈ wsX110, w ∈ wp_c_copyM := fun _ h => (List.mem_cons_of_mem _ (List.mem_append_right _ (List.mem_append_right _ (List.mem_append_right _ (List.mem_append_right _ (List.mem_append_right _ (List.mem_append_right _ (List.mem_append_left _ h))))))))
  intro N
  induction N with
  | zero =>
    intro y gk gv gb gr hy1 hC hC2 hC3 hm
    exact absurd hm (Nat.not_lt_zero _)
  | succ N ih =>
    intro y gk gv gb gr hy1 hC hC2 hC3 hm H locs ls hP hD hS hl
    refine lv_iload_n hx hb dX11_copy_61 rfl (lv_at hl 0 rfl) ?_
    refine lv_sipush (v := 160) hx hb dX11_copy_62 (by decide) ?_
    refine lv_icmp_ge (tgt := 92) hx hb dX11_copy_65 (by decide) (fun hc1 => ?_) (fun hc1 => ?_)
    ·
      have hge_y : 160 ≤ y := (nI_leI (a := 160) (by decide) (by omega)).mp hc1
      exact kx92 y gk gv gb gr (hy1) (hC) (hC2) (hC3) (by omega) H locs ls (hP.sub [0, 1, 2, 3, 4, 5, 6, 7, 8, 9] rfl) (hD.sub [0, 1, 2, 3, 4, 5, 6, 7, 8, 9] (by decide) rfl) hS (lv_sub hl [1, 2, 3] rfl)
    ·
      have hlt_y : y < 160 := by
        rcases Nat.lt_or_ge y 160 with z | z
        · exact z
        · exact absurd (nI_le (a := 160) z (by omega)) hc1
      refine lv_aload_n hx hb dX11_copy_68 rfl (lv_at hl 1 rfl) ?_
      refine lv_sipush (v := 160) hx hb dX11_copy_69 (by decide) ?_
      refine lv_iload_n hx hb dX11_copy_72 rfl (lv_at hl 2 rfl) ?_
      refine lv_imul hx hb dX11_copy_73 ?_
      refine lv_iload_n hx hb dX11_copy_74 rfl (lv_at hl 0 rfl) ?_
      refine lv_iadd hx hb dX11_copy_75 ?_
      refine lv_topi (fun v2 ev2 => ?_)
      obtain rfl : v2 = nI (160 * k + y) := ev2.trans (ix160 k _)
      refine lv_sipush (v := 160) hx hb dX11_copy_76 (by decide) ?_
      refine lv_iload_n hx hb dX11_copy_79 rfl (lv_at hl 3 rfl) ?_
      refine lv_imul hx hb dX11_copy_80 ?_
      refine lv_iload_n hx hb dX11_copy_81 rfl (lv_at hl 0 rfl) ?_
      refine lv_iadd hx hb dX11_copy_82 ?_
      refine lv_topi (fun v3 ev3 => ?_)
      obtain rfl : v3 = nI (160 * k2 + y) := ev3.trans (ix160 k2 _)
      have hPc := hP.sub (ws' := [(h0, .inr (11, gM a (upd i 0 0) g)), (a 4, .inl (cm 4, 800, .inl gk)), (a 5, .inl (cm 5, 800, .inl gv)), (a 6, .inl (cm 6, 800, .inl gb)), (a 7, .inl (cm 7, 800, .inl gr))]) [0, 2, 3, 4, 5] rfl
      have hKc := hK.sub (tys' := [(cm 4, .int), (cm 5, .int), (cm 6, .int), (cm 7, .int)]) [1, 2, 3, 4] rfl
      have hDc := hD.sub (ws' := [(h0, .inr (11, gM a (upd i 0 0) g)), (a 4, .inl (cm 4, 800, .inl gk)), (a 5, .inl (cm 5, 800, .inl gv)), (a 6, .inl (cm 6, 800, .inl gb)), (a 7, .inl (cm 7, 800, .inl gr))]) [0, 2, 3, 4, 5] (by decide) rfl
      have hFc := va_free (wc := [(h0, .inr (11, gM a (upd i 0 0) g)), (a 4, .inl (cm 4, 800, .inl gk)), (a 5, .inl (cm 5, 800, .inl gv)), (a 6, .inl (cm 6, 800, .inl gb)), (a 7, .inl (cm 7, 800, .inl gr))]) hD hS hA [0, 2, 3, 4, 5] rfl
      refine va_callv (va_runV (As := [.int (nI (160 * k + y)), .int (nI (160 * k2 + y))]) (rest := []) ⟨hx, hb, hml, hown, hts⟩ (c_moves l D _ h0 a cm (upd i 0 0) g gk gv gb gr (160 * k + y) (160 * k2 + y) (by first | assumption | omega) (by first | assumption | omega)) (cwV 2 hts g_c_copyM_c_moves_195 rfl rfl rfl (by decide +kernel) ⟨(Nat.le_of_ble_eq_true rfl), (Nat.le_of_ble_eq_true rfl)⟩) (PcW_V (q0 := 0) hPc hKc hDc rfl rfl) rfl rfl hl.1 rfl (lv_room (Nat.le_of_ble_eq_true rfl)) dX11_copy_83 ⟨(Nat.le_of_ble_eq_true rfl), (Nat.le_of_ble_eq_true rfl)⟩) hS (fun q _ h => hFc q h) hFc (fun uu tt H locs htt hvm hw hB hz1 hk1 hS => ?_)
      obtain ⟨w5, w6, w7, w8⟩ := uu
      obtain ⟨hP1, hK1, hD1⟩ := hB
      rw [htt] at hP1
      have hK1 := va_K.moved hvm.symm hK1
      have hP1 : va_P D vwCl [(h0, .inr (11, gM a (upd i 0 0) g)), (a 4, .inl (cm 4, 800, .inl w5)), (a 5, .inl (cm 5, 800, .inl w6)), (a 6, .inl (cm 6, 800, .inl w7)), (a 7, .inl (cm 7, 800, .inl w8))] H := hP1
      obtain ⟨hP, hD⟩ := va_join (wr := [(a 3, .inl (cm 3, 85, .inr (.inl fn))), (a 8, .inl (cm 8, 10240, .inl ff)), (a 9, .inl (cm 9, 10240, .inl fh)), (a 10, .inl (cm 10, 10240, .inr (.inl fa))), (a 11, .inl (cm 11, 10240, .inr (.inl fs)))]) (w1 := [(h0, .inr (11, gM a (upd i 0 0) g)), (a 4, .inl (cm 4, 800, .inl w5)), (a 5, .inl (cm 5, 800, .inl w6)), (a 6, .inl (cm 6, 800, .inl w7)), (a 7, .inl (cm 7, 800, .inl w8))]) hP hD [0, 2, 3, 4, 5] [1, 6, 7, 8, 9] rfl rfl (by decide) (by decide) hk1 hFc hP1 hD1
      have hP : va_P D vwCl [(a 3, .inl (cm 3, 85, .inr (.inl fn))), (a 8, .inl (cm 8, 10240, .inl ff)), (a 9, .inl (cm 9, 10240, .inl fh)), (a 10, .inl (cm 10, 10240, .inr (.inl fa))), (a 11, .inl (cm 11, 10240, .inr (.inl fs))), (h0, .inr (11, gM a (upd i 0 0) g)), (a 4, .inl (cm 4, 800, .inl w5)), (a 5, .inl (cm 5, 800, .inl w6)), (a 6, .inl (cm 6, 800, .inl w7)), (a 7, .inl (cm 7, 800, .inl w8))] H := hP
      have hD : va_D A [(a 3, .inl (cm 3, 85, .inr (.inl fn))), (a 8, .inl (cm 8, 10240, .inl ff)), (a 9, .inl (cm 9, 10240, .inl fh)), (a 10, .inl (cm 10, 10240, .inr (.inl fa))), (a 11, .inl (cm 11, 10240, .inr (.inl fs))), (h0, .inr (11, gM a (upd i 0 0) g)), (a 4, .inl (cm 4, 800, .inl w5)), (a 5, .inl (cm 5, 800, .inl w6)), (a 6, .inl (cm 6, 800, .inl w7)), (a 7, .inl (cm 7, 800, .inl w8))] := hD
      try dsimp only at hw
      clear hz1 hk1 hFc hPc hKc hDc
      obtain ⟨em9, em10, em11, em12⟩ := hw
      subst em9
      subst em10
      subst em11
      subst em12
      have hP : va_P D vwCl [(a 3, .inl (cm 3, 85, .inr (.inl fn))), (a 8, .inl (cm 8, 10240, .inl ff)), (a 9, .inl (cm 9, 10240, .inl fh)), (a 10, .inl (cm 10, 10240, .inr (.inl fa))), (a 11, .inl (cm 11, 10240, .inr (.inl fs))), (h0, .inr (11, gM a (upd i 0 0) g)), (a 4, .inl (cm 4, 800, .inl (upd gk (160 * k + y) (gk (160 * k2 + y))))), (a 5, .inl (cm 5, 800, .inl (upd gv (160 * k + y) (gv (160 * k2 + y))))), (a 6, .inl (cm 6, 800, .inl (upd gb (160 * k + y) (gb (160 * k2 + y))))), (a 7, .inl (cm 7, 800, .inl (upd gr (160 * k + y) (gr (160 * k2 + y)))))] H := hP
      have hD : va_D A [(a 3, .inl (cm 3, 85, .inr (.inl fn))), (a 8, .inl (cm 8, 10240, .inl ff)), (a 9, .inl (cm 9, 10240, .inl fh)), (a 10, .inl (cm 10, 10240, .inr (.inl fa))), (a 11, .inl (cm 11, 10240, .inr (.inl fs))), (h0, .inr (11, gM a (upd i 0 0) g)), (a 4, .inl (cm 4, 800, .inl (upd gk (160 * k + y) (gk (160 * k2 + y))))), (a 5, .inl (cm 5, 800, .inl (upd gv (160 * k + y) (gv (160 * k2 + y))))), (a 6, .inl (cm 6, 800, .inl (upd gb (160 * k + y) (gb (160 * k2 + y))))), (a 7, .inl (cm 7, 800, .inl (upd gr (160 * k + y) (gr (160 * k2 + y)))))] := hD
      refine lv_iinc (v := nI (y + 1)) (lv' := [(3, .int (nI (y + 1))), (0, .ref h0), (1, .int (nI k)), (2, .int (nI k2))]) hx hb dX11_copy_86 hl (k := 0) rfl (nI_1 _) (by decide) rfl (fun ls hl => ?_)
      refine lv_goto (tgt := 61) hx hb dX11_copy_89 (by decide) ?_
      exact ih (y + 1) (upd gk (160 * k + y) (gk (160 * k2 + y))) (upd gv (160 * k + y) (gv (160 * k2 + y))) (upd gb (160 * k + y) (gb (160 * k2 + y))) (upd gr (160 * k + y) (gr (160 * k2 + y))) (by omega) (Cp160_s hne hlt_y hC) (Cp160_s hne hlt_y hC2) (Cp160_s hne hlt_y hC3) (by omega) H locs ls (hP.sub [5, 0, 6, 7, 8, 9, 1, 2, 3, 4] rfl) (hD.sub [5, 0, 6, 7, 8, 9, 1, 2, 3, 4] (by decide) rfl) hS (lv_sub hl [0, 1, 2, 3] rfl)
set_option maxHeartbeats 4000000 in
set_option maxRecDepth 100000 in
theorem lp_cp3 (l : Launch) {p : Program} {e : Env} {s : State} {m : MethodId} {args : Array Value} {below : List Frame} {meth : Method} {c : Code} {Q : State → Prop} {A : Nat → Prop} (D : va_G) (h0 : Nat) (a : Nat → Nat) (cm : Nat → ClassId) (i : Nat → Int32) (g : Nat → Int64) (fn : Nat → Int64) (fk : Nat → Int32) (fv : Nat → Int32) (fb : Nat → Int32) (fr : Nat → Int32) (ff : Nat → Int32) (fh : Nat → Int32) (fa : Nat → Int64) (fs : Nat → Int64) (k : Nat) (k2 : Nat) (hk : k < 4) (hk2 : k2 < 4) (hne : k ≠ k2) (hx : p.tables.exec = Jvm.exec) (hb : c.code = cX11_copy) (hml : c.maxLocals = 4) (hown : s.vm.findClass RX11 = some m.cls) (hts : ∀ w ∈ wp_c_copyM, w.before args s = true) (hA : ∀ q, s.heap.size ≤ q → A q) (hK : va_K D vwCl [(cm 3, .long), (cm 4, .int), (cm 5, .int), (cm 6, .int), (cm 7, .int), (cm 8, .int), (cm 9, .int), (cm 10, .long), (cm 11, .long)] s) (kx203 : ∀ (y : Nat), ∀ (gf : Nat → Int32), ∀ (gh : Nat → Int32), ∀ (ga : Nat → Int64), ∀ (gs : Nat → Int64), (y ≤ 2048) → (Cp2048 k k2 y ff gf) → (Cp2048 k k2 y fh gh) → (RngL ga) → (RngL gs) → (2048 ≤ y) → ∀ (H : Heap) (locs : List Loc) (ls : Array Slot), va_P D vwCl [(h0, .inr (11, gM a (upd i 0 0) g)), (a 3, .inl (cm 3, 85, .inr (.inl fn))), (a 4, .inl (cm 4, 800, .inl fk)), (a 5, .inl (cm 5, 800, .inl fv)), (a 6, .inl (cm 6, 800, .inl fb)), (a 7, .inl (cm 7, 800, .inl fr)), (a 8, .inl (cm 8, 10240, .inl gf)), (a 9, .inl (cm 9, 10240, .inl gh)), (a 10, .inl (cm 10, 10240, .inr (.inl ga))), (a 11, .inl (cm 11, 10240, .inr (.inl gs)))] H → va_D A [(h0, .inr (11, gM a (upd i 0 0) g)), (a 3, .inl (cm 3, 85, .inr (.inl fn))), (a 4, .inl (cm 4, 800, .inl fk)), (a 5, .inl (cm 5, 800, .inl fv)), (a 6, .inl (cm 6, 800, .inl fb)), (a 7, .inl (cm 7, 800, .inl fr)), (a 8, .inl (cm 8, 10240, .inl gf)), (a 9, .inl (cm 9, 10240, .inl gh)), (a 10, .inl (cm 10, 10240, .inr (.inl ga))), (a 11, .inl (cm 11, 10240, .inr (.inl gs)))] → va_S A s.heap H locs → lv_has ls 4 [(0, .ref h0)] → W p l e ({ frames := 6, cells := 0, slots := 0, locals := 80 }) s m args below meth c H locs 0 0 Q (F0 m 203 ls [])) : ∀ (N : Nat), ∀ (y : Nat), ∀ (gf : Nat → Int32), ∀ (gh : Nat → Int32), ∀ (ga : Nat → Int64), ∀ (gs : Nat → Int64), (y ≤ 2048) → (Cp2048 k k2 y ff gf) → (Cp2048 k k2 y fh gh) → (RngL ga) → (RngL gs) → 2048 - y < N → ∀ (H : Heap) (locs : List Loc) (ls : Array Slot), va_P D vwCl [(h0, .inr (11, gM a (upd i 0 0) g)), (a 3, .inl (cm 3, 85, .inr (.inl fn))), (a 4, .inl (cm 4, 800, .inl fk)), (a 5, .inl (cm 5, 800, .inl fv)), (a 6, .inl (cm 6, 800, .inl fb)), (a 7, .inl (cm 7, 800, .inl fr)), (a 8, .inl (cm 8, 10240, .inl gf)), (a 9, .inl (cm 9, 10240, .inl gh)), (a 10, .inl (cm 10, 10240, .inr (.inl ga))), (a 11, .inl (cm 11, 10240, .inr (.inl gs)))] H → va_D A [(h0, .inr (11, gM a (upd i 0 0) g)), (a 3, .inl (cm 3, 85, .inr (.inl fn))), (a 4, .inl (cm 4, 800, .inl fk)), (a 5, .inl (cm 5, 800, .inl fv)), (a 6, .inl (cm 6, 800, .inl fb)), (a 7, .inl (cm 7, 800, .inl fr)), (a 8, .inl (cm 8, 10240, .inl gf)), (a 9, .inl (cm 9, 10240, .inl gh)), (a 10, .inl (cm 10, 10240, .inr (.inl ga))), (a 11, .inl (cm 11, 10240, .inr (.inl gs)))] → va_S A s.heap H locs → lv_has ls 4 [(3, .int (nI y)), (0, .ref h0), (1, .int (nI k)), (2, .int (nI k2))] → W p l e ({ frames := 6, cells := 0, slots := 0, locals := 80 }) s m args below meth c H locs 0 0 Q (F0 m 94 ls []) := by
  have hin_X11 : ∀ w ∈ wsX110, w ∈ wp_c_copyM := fun _ h => (List.mem_cons_of_mem _ (List.mem_append_right _ (List.mem_append_right _ (List.mem_append_right _ (List.mem_append_right _ (List.mem_append_right _ (List.mem_append_right _ (List.mem_append_left _ h))))))))
  intro N
  induction N with
  | zero =>
    intro y gf gh ga gs hy1 hC hC2 hRa hRs hm
    exact absurd hm (Nat.not_lt_zero _)
  | succ N ih =>
    intro y gf gh ga gs hy1 hC hC2 hRa hRs hm H locs ls hP hD hS hl
    refine lv_iload_n hx hb dX11_copy_94 rfl (lv_at hl 0 rfl) ?_
    refine lv_sipush (v := 2048) hx hb dX11_copy_95 (by decide) ?_
    refine lv_icmp_ge (tgt := 203) hx hb dX11_copy_98 (by decide) (fun hc1 => ?_) (fun hc1 => ?_)
    ·
      have hge_y : 2048 ≤ y := (nI_leI (a := 2048) (by decide) (by omega)).mp hc1
      exact kx203 y gf gh ga gs (hy1) (hC) (hC2) (hRa) (hRs) (by omega) H locs ls (hP.sub [0, 1, 2, 3, 4, 5, 6, 7, 8, 9] rfl) (hD.sub [0, 1, 2, 3, 4, 5, 6, 7, 8, 9] (by decide) rfl) hS (lv_sub hl [1] rfl)
    ·
      have hlt_y : y < 2048 := by
        rcases Nat.lt_or_ge y 2048 with z | z
        · exact z
        · exact absurd (nI_le (a := 2048) z (by omega)) hc1
      refine lv_aload_n hx hb dX11_copy_101 rfl (lv_at hl 1 rfl) ?_
      refine va_get (D := D) (ci := 11) (v := .ref (a 8)) (C := RX11) (T := TX11) (N := 47) hx hb hts hin_X11 hown hK hP 0 rfl rfl 8 (by decide) (hts (.fieldLink RX11 30 "ClashFreeModel" "roofs" "[I") (List.mem_of_getElem? (i := 11) rfl)) (fun _ h9 => h9) rfl dX11_copy_102 ?_
      refine lv_sipush (v := 2048) hx hb dX11_copy_105 (by decide) ?_
      refine lv_iload_n hx hb dX11_copy_108 rfl (lv_at hl 2 rfl) ?_
      refine lv_imul hx hb dX11_copy_109 ?_
      refine lv_iload_n hx hb dX11_copy_110 rfl (lv_at hl 0 rfl) ?_
      refine lv_iadd hx hb dX11_copy_111 ?_
      refine lv_topi (fun v2 ev2 => ?_)
      obtain rfl : v2 = nI (2048 * k + y) := ev2.trans (ix2048 k _)
      refine lv_aload_n hx hb dX11_copy_112 rfl (lv_at hl 1 rfl) ?_
      refine va_get (D := D) (ci := 11) (v := .ref (a 8)) (C := RX11) (T := TX11) (N := 47) hx hb hts hin_X11 hown hK hP 0 rfl rfl 8 (by decide) (hts (.fieldLink RX11 30 "ClashFreeModel" "roofs" "[I") (List.mem_of_getElem? (i := 11) rfl)) (fun _ h9 => h9) rfl dX11_copy_113 ?_
      refine lv_sipush (v := 2048) hx hb dX11_copy_116 (by decide) ?_
      refine lv_iload_n hx hb dX11_copy_119 rfl (lv_at hl 3 rfl) ?_
      refine lv_imul hx hb dX11_copy_120 ?_
      refine lv_iload_n hx hb dX11_copy_121 rfl (lv_at hl 0 rfl) ?_
      refine lv_iadd hx hb dX11_copy_122 ?_
      refine lv_topi (fun v3 ev3 => ?_)
      obtain rfl : v3 = nI (2048 * k2 + y) := ev3.trans (ix2048 k2 _)
      refine va_iald hx hb hK hP 6 5 rfl rfl (vp_in_nI (by omega) (by decide)) dX11_copy_123 ?_
      refine lv_topi (fun v4 ev4 => ?_)
      obtain rfl : v4 = gf (2048 * k2 + y) := ev4.trans (by rw [nI_clamp (by omega)])
      refine va_iast hx hb hK hP hD hS 6 5 rfl rfl (vp_in_nI (by omega) (by decide)) dX11_copy_124 (fun H locs hP hD hS => ?_)
      have hP : va_P D vwCl [(h0, .inr (11, gM a (upd i 0 0) g)), (a 3, .inl (cm 3, 85, .inr (.inl fn))), (a 4, .inl (cm 4, 800, .inl fk)), (a 5, .inl (cm 5, 800, .inl fv)), (a 6, .inl (cm 6, 800, .inl fb)), (a 7, .inl (cm 7, 800, .inl fr)), (a 8, .inl (cm 8, 10240, .inl (upd gf (Int32.toNatClampNeg (nI (2048 * k + y))) (gf (2048 * k2 + y))))), (a 9, .inl (cm 9, 10240, .inl gh)), (a 10, .inl (cm 10, 10240, .inr (.inl ga))), (a 11, .inl (cm 11, 10240, .inr (.inl gs)))] H := hP
      have hD : va_D A [(h0, .inr (11, gM a (upd i 0 0) g)), (a 3, .inl (cm 3, 85, .inr (.inl fn))), (a 4, .inl (cm 4, 800, .inl fk)), (a 5, .inl (cm 5, 800, .inl fv)), (a 6, .inl (cm 6, 800, .inl fb)), (a 7, .inl (cm 7, 800, .inl fr)), (a 8, .inl (cm 8, 10240, .inl (upd gf (Int32.toNatClampNeg (nI (2048 * k + y))) (gf (2048 * k2 + y))))), (a 9, .inl (cm 9, 10240, .inl gh)), (a 10, .inl (cm 10, 10240, .inr (.inl ga))), (a 11, .inl (cm 11, 10240, .inr (.inl gs)))] := hD
      rw [show (upd gf (Int32.toNatClampNeg (nI (2048 * k + y))) (gf (2048 * k2 + y))) = (upd gf (2048 * k + y) (gf (2048 * k2 + y))) from by rw [nI_clamp (by omega)]] at hP hD
      refine lv_aload_n hx hb dX11_copy_125 rfl (lv_at hl 1 rfl) ?_
      refine va_get (D := D) (ci := 11) (v := .ref (a 9)) (C := RX11) (T := TX11) (N := 47) hx hb hts hin_X11 hown hK hP 0 rfl rfl 9 (by decide) (hts (.fieldLink RX11 33 "ClashFreeModel" "has" "[I") (List.mem_of_getElem? (i := 12) rfl)) (fun _ h9 => h9) rfl dX11_copy_126 ?_
      refine lv_sipush (v := 2048) hx hb dX11_copy_129 (by decide) ?_
      refine lv_iload_n hx hb dX11_copy_132 rfl (lv_at hl 2 rfl) ?_
      refine lv_imul hx hb dX11_copy_133 ?_
      refine lv_iload_n hx hb dX11_copy_134 rfl (lv_at hl 0 rfl) ?_
      refine lv_iadd hx hb dX11_copy_135 ?_
      refine lv_topi (fun v5 ev5 => ?_)
      obtain rfl : v5 = nI (2048 * k + y) := ev5.trans (ix2048 k _)
      refine lv_aload_n hx hb dX11_copy_136 rfl (lv_at hl 1 rfl) ?_
      refine va_get (D := D) (ci := 11) (v := .ref (a 9)) (C := RX11) (T := TX11) (N := 47) hx hb hts hin_X11 hown hK hP 0 rfl rfl 9 (by decide) (hts (.fieldLink RX11 33 "ClashFreeModel" "has" "[I") (List.mem_of_getElem? (i := 12) rfl)) (fun _ h9 => h9) rfl dX11_copy_137 ?_
      refine lv_sipush (v := 2048) hx hb dX11_copy_140 (by decide) ?_
      refine lv_iload_n hx hb dX11_copy_143 rfl (lv_at hl 3 rfl) ?_
      refine lv_imul hx hb dX11_copy_144 ?_
      refine lv_iload_n hx hb dX11_copy_145 rfl (lv_at hl 0 rfl) ?_
      refine lv_iadd hx hb dX11_copy_146 ?_
      refine lv_topi (fun v6 ev6 => ?_)
      obtain rfl : v6 = nI (2048 * k2 + y) := ev6.trans (ix2048 k2 _)
      refine va_iald hx hb hK hP 7 6 rfl rfl (vp_in_nI (by omega) (by decide)) dX11_copy_147 ?_
      refine lv_topi (fun v7 ev7 => ?_)
      obtain rfl : v7 = gh (2048 * k2 + y) := ev7.trans (by rw [nI_clamp (by omega)])
      refine va_iast hx hb hK hP hD hS 7 6 rfl rfl (vp_in_nI (by omega) (by decide)) dX11_copy_148 (fun H locs hP hD hS => ?_)
      have hP : va_P D vwCl [(h0, .inr (11, gM a (upd i 0 0) g)), (a 3, .inl (cm 3, 85, .inr (.inl fn))), (a 4, .inl (cm 4, 800, .inl fk)), (a 5, .inl (cm 5, 800, .inl fv)), (a 6, .inl (cm 6, 800, .inl fb)), (a 7, .inl (cm 7, 800, .inl fr)), (a 8, .inl (cm 8, 10240, .inl (upd gf (2048 * k + y) (gf (2048 * k2 + y))))), (a 9, .inl (cm 9, 10240, .inl (upd gh (Int32.toNatClampNeg (nI (2048 * k + y))) (gh (2048 * k2 + y))))), (a 10, .inl (cm 10, 10240, .inr (.inl ga))), (a 11, .inl (cm 11, 10240, .inr (.inl gs)))] H := hP
      have hD : va_D A [(h0, .inr (11, gM a (upd i 0 0) g)), (a 3, .inl (cm 3, 85, .inr (.inl fn))), (a 4, .inl (cm 4, 800, .inl fk)), (a 5, .inl (cm 5, 800, .inl fv)), (a 6, .inl (cm 6, 800, .inl fb)), (a 7, .inl (cm 7, 800, .inl fr)), (a 8, .inl (cm 8, 10240, .inl (upd gf (2048 * k + y) (gf (2048 * k2 + y))))), (a 9, .inl (cm 9, 10240, .inl (upd gh (Int32.toNatClampNeg (nI (2048 * k + y))) (gh (2048 * k2 + y))))), (a 10, .inl (cm 10, 10240, .inr (.inl ga))), (a 11, .inl (cm 11, 10240, .inr (.inl gs)))] := hD
      rw [show (upd gh (Int32.toNatClampNeg (nI (2048 * k + y))) (gh (2048 * k2 + y))) = (upd gh (2048 * k + y) (gh (2048 * k2 + y))) from by rw [nI_clamp (by omega)]] at hP hD
      refine lv_aload_n hx hb dX11_copy_149 rfl (lv_at hl 1 rfl) ?_
      refine va_get (D := D) (ci := 11) (v := .ref (a 10)) (C := RX11) (T := TX11) (N := 47) hx hb hts hin_X11 hown hK hP 0 rfl rfl 10 (by decide) (hts (.fieldLink RX11 36 "ClashFreeModel" "as" "[J") (List.mem_of_getElem? (i := 13) rfl)) (fun _ h9 => h9) rfl dX11_copy_150 ?_
      refine lv_sipush (v := 2048) hx hb dX11_copy_153 (by decide) ?_
      refine lv_iload_n hx hb dX11_copy_156 rfl (lv_at hl 2 rfl) ?_
      refine lv_imul hx hb dX11_copy_157 ?_
      refine lv_iload_n hx hb dX11_copy_158 rfl (lv_at hl 0 rfl) ?_
      refine lv_iadd hx hb dX11_copy_159 ?_
      refine lv_topi (fun v8 ev8 => ?_)
      obtain rfl : v8 = nI (2048 * k + y) := ev8.trans (ix2048 k _)
      refine lv_aload_n hx hb dX11_copy_160 rfl (lv_at hl 1 rfl) ?_
      refine va_get (D := D) (ci := 11) (v := .ref (a 10)) (C := RX11) (T := TX11) (N := 47) hx hb hts hin_X11 hown hK hP 0 rfl rfl 10 (by decide) (hts (.fieldLink RX11 36 "ClashFreeModel" "as" "[J") (List.mem_of_getElem? (i := 13) rfl)) (fun _ h9 => h9) rfl dX11_copy_161 ?_
      refine lv_sipush (v := 2048) hx hb dX11_copy_164 (by decide) ?_
      refine lv_iload_n hx hb dX11_copy_167 rfl (lv_at hl 3 rfl) ?_
      refine lv_imul hx hb dX11_copy_168 ?_
      refine lv_iload_n hx hb dX11_copy_169 rfl (lv_at hl 0 rfl) ?_
      refine lv_iadd hx hb dX11_copy_170 ?_
      refine lv_topi (fun v9 ev9 => ?_)
      obtain rfl : v9 = nI (2048 * k2 + y) := ev9.trans (ix2048 k2 _)
      refine va_lald hx hb hK hP 8 7 rfl rfl (vp_in_nI (by omega) (by decide)) dX11_copy_171 ?_
      refine lv_topl (fun v10 ev10 => ?_)
      obtain rfl : v10 = ga (2048 * k2 + y) := ev10.trans (by rw [nI_clamp (by omega)])
      refine va_last hx hb hK hP hD hS 8 7 rfl rfl (vp_in_nI (by omega) (by decide)) dX11_copy_172 (fun H locs hP hD hS => ?_)
      have hP : va_P D vwCl [(h0, .inr (11, gM a (upd i 0 0) g)), (a 3, .inl (cm 3, 85, .inr (.inl fn))), (a 4, .inl (cm 4, 800, .inl fk)), (a 5, .inl (cm 5, 800, .inl fv)), (a 6, .inl (cm 6, 800, .inl fb)), (a 7, .inl (cm 7, 800, .inl fr)), (a 8, .inl (cm 8, 10240, .inl (upd gf (2048 * k + y) (gf (2048 * k2 + y))))), (a 9, .inl (cm 9, 10240, .inl (upd gh (2048 * k + y) (gh (2048 * k2 + y))))), (a 10, .inl (cm 10, 10240, .inr (.inl (vp_updL ga (Int32.toNatClampNeg (nI (2048 * k + y))) (ga (2048 * k2 + y)))))), (a 11, .inl (cm 11, 10240, .inr (.inl gs)))] H := hP
      have hD : va_D A [(h0, .inr (11, gM a (upd i 0 0) g)), (a 3, .inl (cm 3, 85, .inr (.inl fn))), (a 4, .inl (cm 4, 800, .inl fk)), (a 5, .inl (cm 5, 800, .inl fv)), (a 6, .inl (cm 6, 800, .inl fb)), (a 7, .inl (cm 7, 800, .inl fr)), (a 8, .inl (cm 8, 10240, .inl (upd gf (2048 * k + y) (gf (2048 * k2 + y))))), (a 9, .inl (cm 9, 10240, .inl (upd gh (2048 * k + y) (gh (2048 * k2 + y))))), (a 10, .inl (cm 10, 10240, .inr (.inl (vp_updL ga (Int32.toNatClampNeg (nI (2048 * k + y))) (ga (2048 * k2 + y)))))), (a 11, .inl (cm 11, 10240, .inr (.inl gs)))] := hD
      rw [show (vp_updL ga (Int32.toNatClampNeg (nI (2048 * k + y))) (ga (2048 * k2 + y))) = (vp_updL ga (2048 * k + y) (ga (2048 * k2 + y))) from by rw [nI_clamp (by omega)]] at hP hD
      refine lv_aload_n hx hb dX11_copy_173 rfl (lv_at hl 1 rfl) ?_
      refine va_get (D := D) (ci := 11) (v := .ref (a 11)) (C := RX11) (T := TX11) (N := 47) hx hb hts hin_X11 hown hK hP 0 rfl rfl 11 (by decide) (hts (.fieldLink RX11 39 "ClashFreeModel" "bs" "[J") (List.mem_of_getElem? (i := 14) rfl)) (fun _ h9 => h9) rfl dX11_copy_174 ?_
      refine lv_sipush (v := 2048) hx hb dX11_copy_177 (by decide) ?_
      refine lv_iload_n hx hb dX11_copy_180 rfl (lv_at hl 2 rfl) ?_
      refine lv_imul hx hb dX11_copy_181 ?_
      refine lv_iload_n hx hb dX11_copy_182 rfl (lv_at hl 0 rfl) ?_
      refine lv_iadd hx hb dX11_copy_183 ?_
      refine lv_topi (fun v11 ev11 => ?_)
      obtain rfl : v11 = nI (2048 * k + y) := ev11.trans (ix2048 k _)
      refine lv_aload_n hx hb dX11_copy_184 rfl (lv_at hl 1 rfl) ?_
      refine va_get (D := D) (ci := 11) (v := .ref (a 11)) (C := RX11) (T := TX11) (N := 47) hx hb hts hin_X11 hown hK hP 0 rfl rfl 11 (by decide) (hts (.fieldLink RX11 39 "ClashFreeModel" "bs" "[J") (List.mem_of_getElem? (i := 14) rfl)) (fun _ h9 => h9) rfl dX11_copy_185 ?_
      refine lv_sipush (v := 2048) hx hb dX11_copy_188 (by decide) ?_
      refine lv_iload_n hx hb dX11_copy_191 rfl (lv_at hl 3 rfl) ?_
      refine lv_imul hx hb dX11_copy_192 ?_
      refine lv_iload_n hx hb dX11_copy_193 rfl (lv_at hl 0 rfl) ?_
      refine lv_iadd hx hb dX11_copy_194 ?_
      refine lv_topi (fun v12 ev12 => ?_)
      obtain rfl : v12 = nI (2048 * k2 + y) := ev12.trans (ix2048 k2 _)
      refine va_lald hx hb hK hP 9 8 rfl rfl (vp_in_nI (by omega) (by decide)) dX11_copy_195 ?_
      refine lv_topl (fun v13 ev13 => ?_)
      obtain rfl : v13 = gs (2048 * k2 + y) := ev13.trans (by rw [nI_clamp (by omega)])
      refine va_last hx hb hK hP hD hS 9 8 rfl rfl (vp_in_nI (by omega) (by decide)) dX11_copy_196 (fun H locs hP hD hS => ?_)
      have hP : va_P D vwCl [(h0, .inr (11, gM a (upd i 0 0) g)), (a 3, .inl (cm 3, 85, .inr (.inl fn))), (a 4, .inl (cm 4, 800, .inl fk)), (a 5, .inl (cm 5, 800, .inl fv)), (a 6, .inl (cm 6, 800, .inl fb)), (a 7, .inl (cm 7, 800, .inl fr)), (a 8, .inl (cm 8, 10240, .inl (upd gf (2048 * k + y) (gf (2048 * k2 + y))))), (a 9, .inl (cm 9, 10240, .inl (upd gh (2048 * k + y) (gh (2048 * k2 + y))))), (a 10, .inl (cm 10, 10240, .inr (.inl (vp_updL ga (2048 * k + y) (ga (2048 * k2 + y)))))), (a 11, .inl (cm 11, 10240, .inr (.inl (vp_updL gs (Int32.toNatClampNeg (nI (2048 * k + y))) (gs (2048 * k2 + y))))))] H := hP
      have hD : va_D A [(h0, .inr (11, gM a (upd i 0 0) g)), (a 3, .inl (cm 3, 85, .inr (.inl fn))), (a 4, .inl (cm 4, 800, .inl fk)), (a 5, .inl (cm 5, 800, .inl fv)), (a 6, .inl (cm 6, 800, .inl fb)), (a 7, .inl (cm 7, 800, .inl fr)), (a 8, .inl (cm 8, 10240, .inl (upd gf (2048 * k + y) (gf (2048 * k2 + y))))), (a 9, .inl (cm 9, 10240, .inl (upd gh (2048 * k + y) (gh (2048 * k2 + y))))), (a 10, .inl (cm 10, 10240, .inr (.inl (vp_updL ga (2048 * k + y) (ga (2048 * k2 + y)))))), (a 11, .inl (cm 11, 10240, .inr (.inl (vp_updL gs (Int32.toNatClampNeg (nI (2048 * k + y))) (gs (2048 * k2 + y))))))] := hD
      rw [show (vp_updL gs (Int32.toNatClampNeg (nI (2048 * k + y))) (gs (2048 * k2 + y))) = (vp_updL gs (2048 * k + y) (gs (2048 * k2 + y))) from by rw [nI_clamp (by omega)]] at hP hD
      refine lv_iinc (v := nI (y + 1)) (lv' := [(3, .int (nI (y + 1))), (0, .ref h0), (1, .int (nI k)), (2, .int (nI k2))]) hx hb dX11_copy_197 hl (k := 0) rfl (nI_1 _) (by decide) rfl (fun ls hl => ?_)
      refine lv_goto (tgt := 94) hx hb dX11_copy_200 (by decide) ?_
      exact ih (y + 1) (upd gf (2048 * k + y) (gf (2048 * k2 + y))) (upd gh (2048 * k + y) (gh (2048 * k2 + y))) (vp_updL ga (2048 * k + y) (ga (2048 * k2 + y))) (vp_updL gs (2048 * k + y) (gs (2048 * k2 + y))) (by omega) (Cp2048_s hne hlt_y hC) (Cp2048_s hne hlt_y hC2) (hRa.cpy _ _) (hRs.cpy _ _) (by omega) H locs ls (hP.sub [0, 1, 2, 3, 4, 5, 6, 7, 8, 9] rfl) (hD.sub [0, 1, 2, 3, 4, 5, 6, 7, 8, 9] (by decide) rfl) hS (lv_sub hl [0, 1, 2, 3] rfl)
set_option maxHeartbeats 4000000 in
set_option maxRecDepth 100000 in
theorem c_copyM (l : Launch) (D : va_G) (sz : Nat) (h0 : Nat) (a : Nat → Nat) (cm : Nat → ClassId) (i : Nat → Int32) (g : Nat → Int64) (fn : Nat → Int64) (fk : Nat → Int32) (fv : Nat → Int32) (fb : Nat → Int32) (fr : Nat → Int32) (ff : Nat → Int32) (fh : Nat → Int32) (fa : Nat → Int64) (fs : Nat → Int64) (z1 : Int32) (z2 : Int32) (hM : MInv fn fk fb ff fh fa fs) : Met l yX11_copy wp_c_copyM ({ frames := 6, cells := 0, slots := 0, locals := 80 }) (PcW D [.ref h0, .int z1, .int z2] sz [(h0, .inr (11, gM a i g)), (a 3, .inl (cm 3, 85, .inr (.inl fn))), (a 4, .inl (cm 4, 800, .inl fk)), (a 5, .inl (cm 5, 800, .inl fv)), (a 6, .inl (cm 6, 800, .inl fb)), (a 7, .inl (cm 7, 800, .inl fr)), (a 8, .inl (cm 8, 10240, .inl ff)), (a 9, .inl (cm 9, 10240, .inl fh)), (a 10, .inl (cm 10, 10240, .inr (.inl fa))), (a 11, .inl (cm 11, 10240, .inr (.inl fs)))] [(cm 3, .long), (cm 4, .int), (cm 5, .int), (cm 6, .int), (cm 7, .int), (cm 8, .int), (cm 9, .int), (cm 10, .long), (cm 11, .long)]) (va_Qi (fun (r : Int32) (u : (Nat → Int64) × (Nat → Int32) × (Nat → Int32) × (Nat → Int32) × (Nat → Int32) × (Nat → Int32) × (Nat → Int32) × (Nat → Int64) × (Nat → Int64) × (Int32)) => (MInv u.1 u.2.1 u.2.2.2.1 u.2.2.2.2.2.1 u.2.2.2.2.2.2.1 u.2.2.2.2.2.2.2.1 u.2.2.2.2.2.2.2.2.1) ∧ ((¬ (((0 : Int32) ≤ z1 ∧ z1 < 4) ∧ there fn z2 ∧ z1 ≠ z2) ∧ r = -2 ∧ SameT fn u.1) ∨ (∃ k k2, k < 4 ∧ z1 = nI k ∧ k2 < 4 ∧ z2 = nI k2 ∧ fn (17 * k2 + 0) = 1 ∧ k ≠ k2 ∧ r = 1 ∧ NewT fn u.1 k)) ∧ lsR u.1 u.2.1 u.2.2.1 = cpS (((0 : Int32) ≤ z1 ∧ z1 < 4) ∧ there fn z2 ∧ z1 ≠ z2) (lsR fn fk fv) z1 z2) (fun (u : (Nat → Int64) × (Nat → Int32) × (Nat → Int32) × (Nat → Int32) × (Nat → Int32) × (Nat → Int32) × (Nat → Int32) × (Nat → Int64) × (Nat → Int64) × (Int32)) t => va_P D vwCl [(h0, .inr (11, gM a (upd i 0 u.2.2.2.2.2.2.2.2.2) g)), (a 3, .inl (cm 3, 85, .inr (.inl u.1))), (a 4, .inl (cm 4, 800, .inl u.2.1)), (a 5, .inl (cm 5, 800, .inl u.2.2.1)), (a 6, .inl (cm 6, 800, .inl u.2.2.2.1)), (a 7, .inl (cm 7, 800, .inl u.2.2.2.2.1)), (a 8, .inl (cm 8, 10240, .inl u.2.2.2.2.2.1)), (a 9, .inl (cm 9, 10240, .inl u.2.2.2.2.2.2.1)), (a 10, .inl (cm 10, 10240, .inr (.inl u.2.2.2.2.2.2.2.1))), (a 11, .inl (cm 11, 10240, .inr (.inl u.2.2.2.2.2.2.2.2.1)))] t.heap ∧ va_K D vwCl [(cm 3, .long), (cm 4, .int), (cm 5, .int), (cm 6, .int), (cm 7, .int), (cm 8, .int), (cm 9, .int), (cm 10, .long), (cm 11, .long)] t ∧ va_D (va_A [(h0, .inr (11, gM a i g)), (a 3, .inl (cm 3, 85, .inr (.inl fn))), (a 4, .inl (cm 4, 800, .inl fk)), (a 5, .inl (cm 5, 800, .inl fv)), (a 6, .inl (cm 6, 800, .inl fb)), (a 7, .inl (cm 7, 800, .inl fr)), (a 8, .inl (cm 8, 10240, .inl ff)), (a 9, .inl (cm 9, 10240, .inl fh)), (a 10, .inl (cm 10, 10240, .inr (.inl fa))), (a 11, .inl (cm 11, 10240, .inr (.inl fs)))] sz) [(h0, .inr (11, gM a (upd i 0 u.2.2.2.2.2.2.2.2.2) g)), (a 3, .inl (cm 3, 85, .inr (.inl u.1))), (a 4, .inl (cm 4, 800, .inl u.2.1)), (a 5, .inl (cm 5, 800, .inl u.2.2.1)), (a 6, .inl (cm 6, 800, .inl u.2.2.2.1)), (a 7, .inl (cm 7, 800, .inl u.2.2.2.2.1)), (a 8, .inl (cm 8, 10240, .inl u.2.2.2.2.2.1)), (a 9, .inl (cm 9, 10240, .inl u.2.2.2.2.2.2.1)), (a 10, .inl (cm 10, 10240, .inr (.inl u.2.2.2.2.2.2.2.1))), (a 11, .inl (cm 11, 10240, .inr (.inl u.2.2.2.2.2.2.2.2.1)))]) (va_A [(h0, .inr (11, gM a i g)), (a 3, .inl (cm 3, 85, .inr (.inl fn))), (a 4, .inl (cm 4, 800, .inl fk)), (a 5, .inl (cm 5, 800, .inl fv)), (a 6, .inl (cm 6, 800, .inl fb)), (a 7, .inl (cm 7, 800, .inl fr)), (a 8, .inl (cm 8, 10240, .inl ff)), (a 9, .inl (cm 9, 10240, .inl fh)), (a 10, .inl (cm 10, 10240, .inr (.inl fa))), (a 11, .inl (cm 11, 10240, .inr (.inl fs)))] sz)) 0 0 (va_A [(h0, .inr (11, gM a i g)), (a 3, .inl (cm 3, 85, .inr (.inl fn))), (a 4, .inl (cm 4, 800, .inl fk)), (a 5, .inl (cm 5, 800, .inl fv)), (a 6, .inl (cm 6, 800, .inl fb)), (a 7, .inl (cm 7, 800, .inl fr)), (a 8, .inl (cm 8, 10240, .inl ff)), (a 9, .inl (cm 9, 10240, .inl fh)), (a 10, .inl (cm 10, 10240, .inr (.inl fa))), (a 11, .inl (cm 11, 10240, .inr (.inl fs)))] sz) := by
  refine Met.ofW (cc := cX11_copy) (maxL := 4) (ret := (some .int)) (by decide) rfl ?_
  intro p e s m args below meth c s₁ B hml hv
  obtain ⟨rfl, hsz, hP, hK, hD0⟩ := hv
  have hx := B.exec
  have hb := B.bytes
  have hr := B.returns
  have hts := atoms_spec (ws := wp_c_copyM) B.pre
  have hin_X11 : ∀ w ∈ wsX110, w ∈ wp_c_copyM := fun _ h => (List.mem_cons_of_mem _ (List.mem_append_right _ (List.mem_append_right _ (List.mem_append_right _ (List.mem_append_right _ (List.mem_append_right _ (List.mem_append_right _ (List.mem_append_left _ h))))))))
  have hown : s.vm.findClass RX11 = some m.cls := findClass_of_methodNamed B.named
  have hlocks := B.notSynchronized
  subst hsz
  have hD := hD0.self (sz := s.heap.size)
  generalize hAe : va_A [(h0, .inr (11, gM a i g)), (a 3, .inl (cm 3, 85, .inr (.inl fn))), (a 4, .inl (cm 4, 800, .inl fk)), (a 5, .inl (cm 5, 800, .inl fv)), (a 6, .inl (cm 6, 800, .inl fb)), (a 7, .inl (cm 7, 800, .inl fr)), (a 8, .inl (cm 8, 10240, .inl ff)), (a 9, .inl (cm 9, 10240, .inl fh)), (a 10, .inl (cm 10, 10240, .inr (.inl fa))), (a 11, .inl (cm 11, 10240, .inr (.inl fs)))] s.heap.size = A at hD ⊢
  have hA : ∀ q : Nat, s.heap.size ≤ q → A q := fun q h => by rw [← hAe]; exact Or.inr h
  have hS : va_S A s.heap s.heap [] := va_S.rf
  have hP : va_P D vwCl [(h0, .inr (11, gM a i g)), (a 3, .inl (cm 3, 85, .inr (.inl fn))), (a 4, .inl (cm 4, 800, .inl fk)), (a 5, .inl (cm 5, 800, .inl fv)), (a 6, .inl (cm 6, 800, .inl fb)), (a 7, .inl (cm 7, 800, .inl fr)), (a 8, .inl (cm 8, 10240, .inl ff)), (a 9, .inl (cm 9, 10240, .inl fh)), (a 10, .inl (cm 10, 10240, .inr (.inl fa))), (a 11, .inl (cm 11, 10240, .inr (.inl fs)))] s.heap := hP
  have hl := lv_entry ([.ref h0, .int z1, .int z2]) (n := 4) (Nat.le_of_ble_eq_true rfl)
  rw [lg_entry_eq]
  generalize (lg_sl ([.ref h0, .int z1, .int z2]) ++ List.replicate (4 - (lg_sl ([.ref h0, .int z1, .int z2])).length) Slot.unset).toArray = ls at hl ⊢
  have hl : lv_has ls 4 [(0, .ref h0), (1, .int z1), (2, .int z2)] := hl
  have hfa := hM.1
  have hfs := hM.2.1
  refine lv_aload_n hx hb dX11_copy_0 rfl (lv_at hl 0 rfl) ?_
  refine lv_iconst (v := 0) hx hb dX11_copy_1 (by decide) ?_
  refine va_put (D := D) (ci := 11) (v := .int 0) (ty := .int) (C := RX11) (T := TX11) (N := 47) hx hb hts hin_X11 tyX11 tyX11_ok nmX11 hown hK hP hD hS 0 rfl rfl 0 (by decide) (hts (.fieldLink RX11 73 "ClashFreeModel" "thrown" "I") (List.mem_of_getElem? (i := 15) rfl)) (fun _ h9 => h9) rfl (by decide +kernel) rfl rfl (Nat.le_of_ble_eq_true rfl) dX11_copy_2 (fun H locs hP hD hS => ?_)
  have hP : va_P D vwCl [(h0, .inr (11, gM a (upd i 0 0) g)), (a 3, .inl (cm 3, 85, .inr (.inl fn))), (a 4, .inl (cm 4, 800, .inl fk)), (a 5, .inl (cm 5, 800, .inl fv)), (a 6, .inl (cm 6, 800, .inl fb)), (a 7, .inl (cm 7, 800, .inl fr)), (a 8, .inl (cm 8, 10240, .inl ff)), (a 9, .inl (cm 9, 10240, .inl fh)), (a 10, .inl (cm 10, 10240, .inr (.inl fa))), (a 11, .inl (cm 11, 10240, .inr (.inl fs)))] H := hP
  have hD : va_D A [(h0, .inr (11, gM a (upd i 0 0) g)), (a 3, .inl (cm 3, 85, .inr (.inl fn))), (a 4, .inl (cm 4, 800, .inl fk)), (a 5, .inl (cm 5, 800, .inl fv)), (a 6, .inl (cm 6, 800, .inl fb)), (a 7, .inl (cm 7, 800, .inl fr)), (a 8, .inl (cm 8, 10240, .inl ff)), (a 9, .inl (cm 9, 10240, .inl fh)), (a 10, .inl (cm 10, 10240, .inr (.inl fa))), (a 11, .inl (cm 11, 10240, .inr (.inl fs)))] := hD
  refine lv_iload_n hx hb dX11_copy_5 rfl (lv_at hl 1 rfl) ?_
  refine lv_i2l hx hb dX11_copy_6 rfl ?_
  refine lv_lconst (v := 0) hx hb dX11_copy_7 (by decide) ?_
  refine lv_ldc2 (v := 3) hx hb hown (hts (.constantLong RX11 87 (3)) (List.mem_of_getElem? (i := 16) rfl)) dX11_copy_8 ?_
  have hPc := hP.sub (ws' := []) [] rfl
  have hKc := hK.sub (tys' := []) [] rfl
  have hFc := va_free0 hS hA
  refine va_calli (va_runS (As := [.long (Int32.toInt64 z1), .long 0, .long 3]) (rest := []) ⟨hx, hb, hml, hown, hts⟩ (c_isIn l D _ (Int32.toInt64 z1) 0 3) (va_cwS 3 hts g_c_copyM_c_isIn_83 rfl rfl rfl (by decide +kernel) ⟨(Nat.le_of_ble_eq_true rfl), (Nat.le_of_ble_eq_true rfl)⟩) (PcR_S hPc hKc) rfl rfl hl.1 rfl (lv_room (Nat.le_of_ble_eq_true rfl)) dX11_copy_11 ⟨(Nat.le_of_ble_eq_true rfl), (Nat.le_of_ble_eq_true rfl)⟩) hS (fun q _ h => hFc q h) hFc (fun r1 uu tt H locs htt hvm hw hB hz1 hk1 hS => ?_)
  have hP := va_keep hP hk1
  try dsimp only at hw
  clear hB hz1 hk1 hFc hPc hKc
  rcases hw with ⟨rfl, hA_r1⟩ | ⟨rfl, hA_r1⟩
  ·
    have hg0 := (isIn04c).mp hA_r1
    obtain ⟨k, hk, rfl⟩ := in04 hg0
    refine lv_if_eq (tgt := 30) hx hb dX11_copy_14 (by decide) (fun hc => absurd hc (by decide)) (fun hc => ?_)
    refine lv_aload_n hx hb dX11_copy_17 rfl (lv_at hl 0 rfl) ?_
    refine lv_iload_n hx hb dX11_copy_18 rfl (lv_at hl 2 rfl) ?_
    have hPc := hP.sub (ws' := [(h0, .inr (11, gM a (upd i 0 0) g)), (a 3, .inl (cm 3, 85, .inr (.inl fn)))]) [0, 1] rfl
    have hKc := hK.sub (tys' := [(cm 3, .long)]) [0] rfl
    have hFc := va_free0 hS hA
    refine va_calli (va_runV (As := [.int z2]) (rest := []) ⟨hx, hb, hml, hown, hts⟩ (c_isThere l D _ h0 a cm (upd i 0 0) g fn z2) (cwV 1 hts g_c_copyM_c_isThere_222 rfl rfl rfl (by decide +kernel) ⟨(Nat.le_of_ble_eq_true rfl), (Nat.le_of_ble_eq_true rfl)⟩) (PcR_V (q0 := 0) hPc hKc rfl rfl) rfl rfl hl.1 rfl (lv_room (Nat.le_of_ble_eq_true rfl)) dX11_copy_19 ⟨(Nat.le_of_ble_eq_true rfl), (Nat.le_of_ble_eq_true rfl)⟩) hS (fun q _ h => hFc q h) hFc (fun r2 uu tt H locs htt hvm hw hB hz1 hk1 hS => ?_)
    have hP := va_keep hP hk1
    try dsimp only at hw
    clear hB hz1 hk1 hFc hPc hKc
    rcases hw with ⟨rfl, hA_r2⟩ | ⟨rfl, hA_r2⟩
    ·
      obtain ⟨k2, hk2, rfl, ht2⟩ := hA_r2
      obtain ⟨cn2, nb2, K2, J2, hT2⟩ := hM.2.2 k2 hk2 ht2
      have hth2 := (show there fn (nI k2) from ⟨k2, hk2, rfl, ht2⟩)
      obtain ⟨h12, hcn2, h42, hn12, hn22, ⟨ka2, kb2, hka2, hkb2, h62, h72⟩, hKy2, hBk2, hHs2, ⟨bn2, ns2, gr2, h142, hbn2, h152, hs12, hs22, h162, hgr2⟩⟩ := id hT2
      refine lv_if_eq (tgt := 30) hx hb dX11_copy_22 (by decide) (fun hc => absurd hc (by decide)) (fun hc => ?_)
      refine lv_iload_n hx hb dX11_copy_25 rfl (lv_at hl 1 rfl) ?_
      refine lv_iload_n hx hb dX11_copy_26 rfl (lv_at hl 2 rfl) ?_
      refine lv_icmp_ne (tgt := 33) hx hb dX11_copy_27 (by decide) (fun hc3 => ?_) (fun hc3 => ?_)
      ·
        have hne : k ≠ k2 := fun e => hc3 (by rw [e])
        refine lv_iconst (v := 0) hx hb dX11_copy_33 (by decide) ?_
        refine lv_istore_n (lv' := [(3, .int 0), (0, .ref h0), (1, .int (nI k)), (2, .int (nI k2))]) hx hb dX11_copy_34 rfl hl (by decide) rfl (fun ls hl => ?_)
        refine lp_cp1 l D h0 a cm (upd i 0 0) g fn fk fv fb fr ff fh fa fs k k2 (hk) (hk2) (hne) hx hb hml hown hts hA (hK.sub [0, 1, 2, 3, 4, 5, 6, 7, 8] rfl) ?_ (18) 0 fn (Nat.zero_le _) (Cp17_0 _ _ _) (by omega) _ _ _ (hP.sub [0, 1, 2, 3, 4, 5, 6, 7, 8, 9] rfl) (hD.sub [0, 1, 2, 3, 4, 5, 6, 7, 8, 9] (by decide) rfl) hS (lv_sub hl [0, 1, 2, 3] rfl)
        intro y_4 gn_5 hy1_6 hC_7 hx8 H locs ls hP hD hS hl
        have hC1 := (show y_4 = 17 by omega) ▸ hC_7
        refine lv_iconst (v := 0) hx hb dX11_copy_59 (by decide) ?_
        refine lv_istore_n (lv' := [(3, .int 0), (0, .ref h0), (1, .int (nI k)), (2, .int (nI k2))]) hx hb dX11_copy_60 rfl hl (by decide) rfl (fun ls hl => ?_)
        refine lp_cp2 l D h0 a cm (upd (upd i 0 0) 0 0) g gn_5 fk fv fb fr ff fh fa fs k k2 (hk) (hk2) (hne) hx hb hml hown hts hA (hK.sub [0, 1, 2, 3, 4, 5, 6, 7, 8] rfl) ?_ (161) 0 fk fv fb fr (Nat.zero_le _) (Cp160_0 _ _ _) (Cp160_0 _ _ _) (Cp160_0 _ _ _) (by omega) _ _ _ (hP.sub [0, 1, 2, 3, 4, 5, 6, 7, 8, 9] rfl) (hD.sub [0, 1, 2, 3, 4, 5, 6, 7, 8, 9] (by decide) rfl) hS (lv_sub hl [0, 1, 2, 3] rfl)
        intro y_9 gk_10 gv_11 gb_12 gr_13 hy1_14 hC_15 hC2_16 hC3_17 hx18 H locs ls hP hD hS hl
        have hCk := (show y_9 = 160 by omega) ▸ hC_15
        have hCb := (show y_9 = 160 by omega) ▸ hC2_16
        have hCv := (show y_9 = 160 by omega) ▸ hC3_17
        refine lv_iconst (v := 0) hx hb dX11_copy_92 (by decide) ?_
        refine lv_istore_n (lv' := [(3, .int 0), (0, .ref h0), (1, .int (nI k)), (2, .int (nI k2))]) hx hb dX11_copy_93 rfl hl (by decide) rfl (fun ls hl => ?_)
        refine lp_cp3 l D h0 a cm (upd (upd (upd i 0 0) 0 0) 0 0) g gn_5 gk_10 gv_11 gb_12 gr_13 ff fh fa fs k k2 (hk) (hk2) (hne) hx hb hml hown hts hA (hK.sub [0, 1, 2, 3, 4, 5, 6, 7, 8] rfl) ?_ (2049) 0 ff fh fa fs (Nat.zero_le _) (Cp2048_0 _ _ _) (Cp2048_0 _ _ _) (hfa) (hfs) (by omega) _ _ _ (hP.sub [0, 1, 2, 3, 4, 5, 6, 7, 8, 9] rfl) (hD.sub [0, 1, 2, 3, 4, 5, 6, 7, 8, 9] (by decide) rfl) hS (lv_sub hl [0, 1, 2, 3] rfl)
        intro y_19 gf_20 gh_21 ga_22 gs_23 hy1_24 hC_25 hC2_26 hRa_27 hRs_28 hx29 H locs ls hP hD hS hl
        have hCf := (show y_19 = 2048 by omega) ▸ hC_25
        have hCh := (show y_19 = 2048 by omega) ▸ hC2_26
        have hRa := hRa_27
        have hRs := hRs_28
        refine lv_iconst (v := 1) hx hb dX11_copy_203 (by decide) ?_
        exact W.iret (v := 1) hx hb hr (fun t ht hW => ⟨⟨1, (gn_5, gk_10, gv_11, gb_12, gr_13, gf_20, gh_21, ga_22, gs_23, 0), rfl, ⟨hM.upd (k := k) hRa hRs hC1.2 hCk.2 hCb.2 hCf.2 hCh.2 (fun _ => ⟨_, _, _, _, hT2.copy hC1.1 hCk.1 hCb.1 hCf.1 hCh.1⟩), Or.inr ⟨k, k2, hk, rfl, hk2, rfl, ht2, hne, rfl, NewT.of hC1.2 ((hC1.1 0 (by decide)).trans ht2)⟩, (lsR_upd hC1.2 hCk.2 hCv.2 ((lsR_T hk (hT2.copy hC1.1 hCk.1 hCb.1 hCf.1 hCh.1) _).trans ((tabl_eq (fun j hj => ⟨rfl, hCv.1 j (Nat.lt_of_lt_of_le hj hT2.2.1)⟩)).trans (lsR_T hk2 hT2 fv).symm))).trans (cpS_1 hk hk2 ⟨⟨nI_pos' (by omega), nI_lt (b := 4) hk (by decide)⟩, hth2, fun q => hne ((nI_eq (by omega) (by omega)).mp q)⟩).symm⟩, by rw [ht]; exact hP.sub [0, 1, 2, 3, 4, 5, 6, 7, 8, 9] rfl, va_K.moved hW.alike (hK.sub [0, 1, 2, 3, 4, 5, 6, 7, 8] rfl), hD.sub [0, 1, 2, 3, 4, 5, 6, 7, 8, 9] (by decide) rfl⟩, hS.F ht⟩) hS.2.2 dX11_copy_204
      ·
        have hno : ¬ (((0 : Int32) ≤ nI k ∧ nI k < 4) ∧ there fn (nI k2) ∧ nI k ≠ nI k2) := fun q => q.2.2 hc3
        refine lv_bipush (v := (-2)) hx hb dX11_copy_30 (by decide) ?_
        exact W.iret (v := (-2)) hx hb hr (fun t ht hW => ⟨⟨(-2), (fn, fk, fv, fb, fr, ff, fh, fa, fs, 0), rfl, ⟨hM, Or.inl ⟨hno, rfl, SameT.rfl⟩, (cpS_0 hno).symm⟩, by rw [ht]; exact hP.sub [0, 1, 2, 3, 4, 5, 6, 7, 8, 9] rfl, va_K.moved hW.alike (hK.sub [0, 1, 2, 3, 4, 5, 6, 7, 8] rfl), hD.sub [0, 1, 2, 3, 4, 5, 6, 7, 8, 9] (by decide) rfl⟩, hS.F ht⟩) hS.2.2 dX11_copy_32
    ·
      have hno : ¬ (((0 : Int32) ≤ nI k ∧ nI k < 4) ∧ there fn z2 ∧ nI k ≠ z2) := fun q => hA_r2 q.2.1
      refine lv_if_eq (tgt := 30) hx hb dX11_copy_22 (by decide) (fun hc => ?_) (fun hc => absurd (by decide) hc)
      refine lv_bipush (v := (-2)) hx hb dX11_copy_30 (by decide) ?_
      exact W.iret (v := (-2)) hx hb hr (fun t ht hW => ⟨⟨(-2), (fn, fk, fv, fb, fr, ff, fh, fa, fs, 0), rfl, ⟨hM, Or.inl ⟨hno, rfl, SameT.rfl⟩, (cpS_0 hno).symm⟩, by rw [ht]; exact hP.sub [0, 1, 2, 3, 4, 5, 6, 7, 8, 9] rfl, va_K.moved hW.alike (hK.sub [0, 1, 2, 3, 4, 5, 6, 7, 8] rfl), hD.sub [0, 1, 2, 3, 4, 5, 6, 7, 8, 9] (by decide) rfl⟩, hS.F ht⟩) hS.2.2 dX11_copy_32
  ·
    have hno : ¬ (((0 : Int32) ≤ z1 ∧ z1 < 4) ∧ there fn z2 ∧ z1 ≠ z2) := fun q => hA_r1 (isIn04c.mpr q.1)
    refine lv_if_eq (tgt := 30) hx hb dX11_copy_14 (by decide) (fun hc => ?_) (fun hc => absurd (by decide) hc)
    refine lv_bipush (v := (-2)) hx hb dX11_copy_30 (by decide) ?_
    exact W.iret (v := (-2)) hx hb hr (fun t ht hW => ⟨⟨(-2), (fn, fk, fv, fb, fr, ff, fh, fa, fs, 0), rfl, ⟨hM, Or.inl ⟨hno, rfl, SameT.rfl⟩, (cpS_0 hno).symm⟩, by rw [ht]; exact hP.sub [0, 1, 2, 3, 4, 5, 6, 7, 8, 9] rfl, va_K.moved hW.alike (hK.sub [0, 1, 2, 3, 4, 5, 6, 7, 8] rfl), hD.sub [0, 1, 2, 3, 4, 5, 6, 7, 8, 9] (by decide) rfl⟩, hS.F ht⟩) hS.2.2 dX11_copy_32

