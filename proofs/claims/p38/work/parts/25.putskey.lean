theorem dX11_putsKey_0 : decode cX11_putsKey 0 = .ok (.aload_n 0, 1) := by decide +kernel
theorem dX11_putsKey_1 : decode cX11_putsKey 1 = .ok (.iload_n 1, 1) := by decide +kernel
theorem dX11_putsKey_2 : decode cX11_putsKey 2 = .ok (.iload_n 2, 1) := by decide +kernel
theorem dX11_putsKey_3 : decode cX11_putsKey 3 = .ok (.invokevirtual 212, 3) := by decide +kernel
theorem dX11_putsKey_6 : decode cX11_putsKey 6 = .ok (.istore 4, 2) := by decide +kernel
theorem dX11_putsKey_8 : decode cX11_putsKey 8 = .ok (.aload_n 0, 1) := by decide +kernel
theorem dX11_putsKey_9 : decode cX11_putsKey 9 = .ok (.iload_n 1, 1) := by decide +kernel
theorem dX11_putsKey_10 : decode cX11_putsKey 10 = .ok (.iload_n 2, 1) := by decide +kernel
theorem dX11_putsKey_11 : decode cX11_putsKey 11 = .ok (.invokevirtual 155, 3) := by decide +kernel
theorem dX11_putsKey_14 : decode cX11_putsKey 14 = .ok (.istore 5, 2) := by decide +kernel
theorem dX11_putsKey_16 : decode cX11_putsKey 16 = .ok (.aload_n 0, 1) := by decide +kernel
theorem dX11_putsKey_17 : decode cX11_putsKey 17 = .ok (.iload_n 1, 1) := by decide +kernel
theorem dX11_putsKey_18 : decode cX11_putsKey 18 = .ok (.iload_n 2, 1) := by decide +kernel
theorem dX11_putsKey_19 : decode cX11_putsKey 19 = .ok (.invokevirtual 215, 3) := by decide +kernel
theorem dX11_putsKey_22 : decode cX11_putsKey 22 = .ok (.iload 4, 2) := by decide +kernel
theorem dX11_putsKey_24 : decode cX11_putsKey 24 = .ok (.ifCond .ne 24, 3) := by decide +kernel
theorem dX11_putsKey_27 : decode cX11_putsKey 27 = .ok (.aload_n 0, 1) := by decide +kernel
theorem dX11_putsKey_28 : decode cX11_putsKey 28 = .ok (.getfield 21, 3) := by decide +kernel
theorem dX11_putsKey_31 : decode cX11_putsKey 31 = .ok (.sipush 160, 3) := by decide +kernel
theorem dX11_putsKey_34 : decode cX11_putsKey 34 = .ok (.iload_n 1, 1) := by decide +kernel
theorem dX11_putsKey_35 : decode cX11_putsKey 35 = .ok (.imul, 1) := by decide +kernel
theorem dX11_putsKey_36 : decode cX11_putsKey 36 = .ok (.aload_n 0, 1) := by decide +kernel
theorem dX11_putsKey_37 : decode cX11_putsKey 37 = .ok (.iload_n 1, 1) := by decide +kernel
theorem dX11_putsKey_38 : decode cX11_putsKey 38 = .ok (.iload_n 2, 1) := by decide +kernel
theorem dX11_putsKey_39 : decode cX11_putsKey 39 = .ok (.i2l, 1) := by decide +kernel
theorem dX11_putsKey_40 : decode cX11_putsKey 40 = .ok (.invokevirtual 99, 3) := by decide +kernel
theorem dX11_putsKey_43 : decode cX11_putsKey 43 = .ok (.iadd, 1) := by decide +kernel
theorem dX11_putsKey_44 : decode cX11_putsKey 44 = .ok (.iload_n 3, 1) := by decide +kernel
theorem dX11_putsKey_45 : decode cX11_putsKey 45 = .ok (.iastore, 1) := by decide +kernel
theorem dX11_putsKey_46 : decode cX11_putsKey 46 = .ok (.iconst 0, 1) := by decide +kernel
theorem dX11_putsKey_47 : decode cX11_putsKey 47 = .ok (.ireturn, 1) := by decide +kernel
theorem dX11_putsKey_48 : decode cX11_putsKey 48 = .ok (.aload_n 0, 1) := by decide +kernel
theorem dX11_putsKey_49 : decode cX11_putsKey 49 = .ok (.iload_n 1, 1) := by decide +kernel
theorem dX11_putsKey_50 : decode cX11_putsKey 50 = .ok (.iconst 3, 1) := by decide +kernel
theorem dX11_putsKey_51 : decode cX11_putsKey 51 = .ok (.lconst 1, 1) := by decide +kernel
theorem dX11_putsKey_52 : decode cX11_putsKey 52 = .ok (.invokevirtual 130, 3) := by decide +kernel
theorem dX11_putsKey_55 : decode cX11_putsKey 55 = .ok (.aload_n 0, 1) := by decide +kernel
theorem dX11_putsKey_56 : decode cX11_putsKey 56 = .ok (.iload_n 1, 1) := by decide +kernel
theorem dX11_putsKey_57 : decode cX11_putsKey 57 = .ok (.iload_n 2, 1) := by decide +kernel
theorem dX11_putsKey_58 : decode cX11_putsKey 58 = .ok (.iload_n 3, 1) := by decide +kernel
theorem dX11_putsKey_59 : decode cX11_putsKey 59 = .ok (.invokevirtual 218, 3) := by decide +kernel
theorem dX11_putsKey_62 : decode cX11_putsKey 62 = .ok (.iload 4, 2) := by decide +kernel
theorem dX11_putsKey_64 : decode cX11_putsKey 64 = .ok (.iconst 4, 1) := by decide +kernel
theorem dX11_putsKey_65 : decode cX11_putsKey 65 = .ok (.if_icmp .ne 18, 3) := by decide +kernel
theorem dX11_putsKey_68 : decode cX11_putsKey 68 = .ok (.aload_n 0, 1) := by decide +kernel
theorem dX11_putsKey_69 : decode cX11_putsKey 69 = .ok (.iload_n 1, 1) := by decide +kernel
theorem dX11_putsKey_70 : decode cX11_putsKey 70 = .ok (.bipush 11, 2) := by decide +kernel
theorem dX11_putsKey_72 : decode cX11_putsKey 72 = .ok (.lconst 1, 1) := by decide +kernel
theorem dX11_putsKey_73 : decode cX11_putsKey 73 = .ok (.invokevirtual 130, 3) := by decide +kernel
theorem dX11_putsKey_76 : decode cX11_putsKey 76 = .ok (.aload_n 0, 1) := by decide +kernel
theorem dX11_putsKey_77 : decode cX11_putsKey 77 = .ok (.iload_n 1, 1) := by decide +kernel
theorem dX11_putsKey_78 : decode cX11_putsKey 78 = .ok (.invokevirtual 192, 3) := by decide +kernel
theorem dX11_putsKey_81 : decode cX11_putsKey 81 = .ok (.iconst 4, 1) := by decide +kernel
theorem dX11_putsKey_82 : decode cX11_putsKey 82 = .ok (.ireturn, 1) := by decide +kernel
theorem dX11_putsKey_83 : decode cX11_putsKey 83 = .ok (.aload_n 0, 1) := by decide +kernel
theorem dX11_putsKey_84 : decode cX11_putsKey 84 = .ok (.getfield 33, 3) := by decide +kernel
theorem dX11_putsKey_87 : decode cX11_putsKey 87 = .ok (.sipush 2048, 3) := by decide +kernel
theorem dX11_putsKey_90 : decode cX11_putsKey 90 = .ok (.iload_n 1, 1) := by decide +kernel
theorem dX11_putsKey_91 : decode cX11_putsKey 91 = .ok (.imul, 1) := by decide +kernel
theorem dX11_putsKey_92 : decode cX11_putsKey 92 = .ok (.iload 5, 2) := by decide +kernel
theorem dX11_putsKey_94 : decode cX11_putsKey 94 = .ok (.iadd, 1) := by decide +kernel
theorem dX11_putsKey_95 : decode cX11_putsKey 95 = .ok (.dup2, 1) := by decide +kernel
theorem dX11_putsKey_96 : decode cX11_putsKey 96 = .ok (.iaload, 1) := by decide +kernel
theorem dX11_putsKey_97 : decode cX11_putsKey 97 = .ok (.iconst 1, 1) := by decide +kernel
theorem dX11_putsKey_98 : decode cX11_putsKey 98 = .ok (.iadd, 1) := by decide +kernel
theorem dX11_putsKey_99 : decode cX11_putsKey 99 = .ok (.iastore, 1) := by decide +kernel
theorem dX11_putsKey_100 : decode cX11_putsKey 100 = .ok (.iload 4, 2) := by decide +kernel
theorem dX11_putsKey_102 : decode cX11_putsKey 102 = .ok (.iconst 1, 1) := by decide +kernel
theorem dX11_putsKey_103 : decode cX11_putsKey 103 = .ok (.if_icmp .ne 31, 3) := by decide +kernel
theorem dX11_putsKey_106 : decode cX11_putsKey 106 = .ok (.aload_n 0, 1) := by decide +kernel
theorem dX11_putsKey_107 : decode cX11_putsKey 107 = .ok (.getfield 27, 3) := by decide +kernel
theorem dX11_putsKey_110 : decode cX11_putsKey 110 = .ok (.sipush 160, 3) := by decide +kernel
theorem dX11_putsKey_113 : decode cX11_putsKey 113 = .ok (.iload_n 1, 1) := by decide +kernel
theorem dX11_putsKey_114 : decode cX11_putsKey 114 = .ok (.imul, 1) := by decide +kernel
theorem dX11_putsKey_115 : decode cX11_putsKey 115 = .ok (.aload_n 0, 1) := by decide +kernel
theorem dX11_putsKey_116 : decode cX11_putsKey 116 = .ok (.iload_n 1, 1) := by decide +kernel
theorem dX11_putsKey_117 : decode cX11_putsKey 117 = .ok (.iload_n 2, 1) := by decide +kernel
theorem dX11_putsKey_118 : decode cX11_putsKey 118 = .ok (.i2l, 1) := by decide +kernel
theorem dX11_putsKey_119 : decode cX11_putsKey 119 = .ok (.invokevirtual 99, 3) := by decide +kernel
theorem dX11_putsKey_122 : decode cX11_putsKey 122 = .ok (.iadd, 1) := by decide +kernel
theorem dX11_putsKey_123 : decode cX11_putsKey 123 = .ok (.aload_n 0, 1) := by decide +kernel
theorem dX11_putsKey_124 : decode cX11_putsKey 124 = .ok (.iload_n 1, 1) := by decide +kernel
theorem dX11_putsKey_125 : decode cX11_putsKey 125 = .ok (.iload 5, 2) := by decide +kernel
theorem dX11_putsKey_127 : decode cX11_putsKey 127 = .ok (.iload_n 2, 1) := by decide +kernel
theorem dX11_putsKey_128 : decode cX11_putsKey 128 = .ok (.invokevirtual 148, 3) := by decide +kernel
theorem dX11_putsKey_131 : decode cX11_putsKey 131 = .ok (.iastore, 1) := by decide +kernel
theorem dX11_putsKey_132 : decode cX11_putsKey 132 = .ok (.iconst 1, 1) := by decide +kernel
theorem dX11_putsKey_133 : decode cX11_putsKey 133 = .ok (.ireturn, 1) := by decide +kernel
theorem dX11_putsKey_134 : decode cX11_putsKey 134 = .ok (.iload 4, 2) := by decide +kernel
theorem dX11_putsKey_136 : decode cX11_putsKey 136 = .ok (.iconst 3, 1) := by decide +kernel
theorem dX11_putsKey_137 : decode cX11_putsKey 137 = .ok (.if_icmp .ne 80, 3) := by decide +kernel
theorem dX11_putsKey_140 : decode cX11_putsKey 140 = .ok (.aload_n 0, 1) := by decide +kernel
theorem dX11_putsKey_141 : decode cX11_putsKey 141 = .ok (.iload_n 1, 1) := by decide +kernel
theorem dX11_putsKey_142 : decode cX11_putsKey 142 = .ok (.iconst 5, 1) := by decide +kernel
theorem dX11_putsKey_143 : decode cX11_putsKey 143 = .ok (.aload_n 0, 1) := by decide +kernel
theorem dX11_putsKey_144 : decode cX11_putsKey 144 = .ok (.iload_n 1, 1) := by decide +kernel
theorem dX11_putsKey_145 : decode cX11_putsKey 145 = .ok (.iload 5, 2) := by decide +kernel
theorem dX11_putsKey_147 : decode cX11_putsKey 147 = .ok (.invokevirtual 137, 3) := by decide +kernel
theorem dX11_putsKey_150 : decode cX11_putsKey 150 = .ok (.ineg, 1) := by decide +kernel
theorem dX11_putsKey_151 : decode cX11_putsKey 151 = .ok (.i2l, 1) := by decide +kernel
theorem dX11_putsKey_152 : decode cX11_putsKey 152 = .ok (.invokevirtual 130, 3) := by decide +kernel
theorem dX11_putsKey_155 : decode cX11_putsKey 155 = .ok (.aload_n 0, 1) := by decide +kernel
theorem dX11_putsKey_156 : decode cX11_putsKey 156 = .ok (.getfield 30, 3) := by decide +kernel
theorem dX11_putsKey_159 : decode cX11_putsKey 159 = .ok (.sipush 2048, 3) := by decide +kernel
theorem dX11_putsKey_162 : decode cX11_putsKey 162 = .ok (.iload_n 1, 1) := by decide +kernel
theorem dX11_putsKey_163 : decode cX11_putsKey 163 = .ok (.imul, 1) := by decide +kernel
theorem dX11_putsKey_164 : decode cX11_putsKey 164 = .ok (.iload 5, 2) := by decide +kernel
theorem dX11_putsKey_166 : decode cX11_putsKey 166 = .ok (.iadd, 1) := by decide +kernel
theorem dX11_putsKey_167 : decode cX11_putsKey 167 = .ok (.aload_n 0, 1) := by decide +kernel
theorem dX11_putsKey_168 : decode cX11_putsKey 168 = .ok (.getfield 30, 3) := by decide +kernel
theorem dX11_putsKey_171 : decode cX11_putsKey 171 = .ok (.sipush 2048, 3) := by decide +kernel
theorem dX11_putsKey_174 : decode cX11_putsKey 174 = .ok (.iload_n 1, 1) := by decide +kernel
theorem dX11_putsKey_175 : decode cX11_putsKey 175 = .ok (.imul, 1) := by decide +kernel
theorem dX11_putsKey_176 : decode cX11_putsKey 176 = .ok (.iload 5, 2) := by decide +kernel
theorem dX11_putsKey_178 : decode cX11_putsKey 178 = .ok (.iadd, 1) := by decide +kernel
theorem dX11_putsKey_179 : decode cX11_putsKey 179 = .ok (.iaload, 1) := by decide +kernel
theorem dX11_putsKey_180 : decode cX11_putsKey 180 = .ok (.ifCond .ne 7, 3) := by decide +kernel
theorem dX11_putsKey_183 : decode cX11_putsKey 183 = .ok (.iconst 2, 1) := by decide +kernel
theorem dX11_putsKey_184 : decode cX11_putsKey 184 = .ok (.goto 18, 3) := by decide +kernel
theorem dX11_putsKey_187 : decode cX11_putsKey 187 = .ok (.iconst 2, 1) := by decide +kernel
theorem dX11_putsKey_188 : decode cX11_putsKey 188 = .ok (.aload_n 0, 1) := by decide +kernel
theorem dX11_putsKey_189 : decode cX11_putsKey 189 = .ok (.getfield 30, 3) := by decide +kernel
theorem dX11_putsKey_192 : decode cX11_putsKey 192 = .ok (.sipush 2048, 3) := by decide +kernel
theorem dX11_putsKey_195 : decode cX11_putsKey 195 = .ok (.iload_n 1, 1) := by decide +kernel
theorem dX11_putsKey_196 : decode cX11_putsKey 196 = .ok (.imul, 1) := by decide +kernel
theorem dX11_putsKey_197 : decode cX11_putsKey 197 = .ok (.iload 5, 2) := by decide +kernel
theorem dX11_putsKey_199 : decode cX11_putsKey 199 = .ok (.iadd, 1) := by decide +kernel
theorem dX11_putsKey_200 : decode cX11_putsKey 200 = .ok (.iaload, 1) := by decide +kernel
theorem dX11_putsKey_201 : decode cX11_putsKey 201 = .ok (.imul, 1) := by decide +kernel
theorem dX11_putsKey_202 : decode cX11_putsKey 202 = .ok (.iastore, 1) := by decide +kernel
theorem dX11_putsKey_203 : decode cX11_putsKey 203 = .ok (.aload_n 0, 1) := by decide +kernel
theorem dX11_putsKey_204 : decode cX11_putsKey 204 = .ok (.iload_n 1, 1) := by decide +kernel
theorem dX11_putsKey_205 : decode cX11_putsKey 205 = .ok (.iconst 5, 1) := by decide +kernel
theorem dX11_putsKey_206 : decode cX11_putsKey 206 = .ok (.aload_n 0, 1) := by decide +kernel
theorem dX11_putsKey_207 : decode cX11_putsKey 207 = .ok (.iload_n 1, 1) := by decide +kernel
theorem dX11_putsKey_208 : decode cX11_putsKey 208 = .ok (.iload 5, 2) := by decide +kernel
theorem dX11_putsKey_210 : decode cX11_putsKey 210 = .ok (.invokevirtual 137, 3) := by decide +kernel
theorem dX11_putsKey_213 : decode cX11_putsKey 213 = .ok (.i2l, 1) := by decide +kernel
theorem dX11_putsKey_214 : decode cX11_putsKey 214 = .ok (.invokevirtual 130, 3) := by decide +kernel
theorem dX11_putsKey_217 : decode cX11_putsKey 217 = .ok (.aload_n 0, 1) := by decide +kernel
theorem dX11_putsKey_218 : decode cX11_putsKey 218 = .ok (.iload_n 1, 1) := by decide +kernel
theorem dX11_putsKey_219 : decode cX11_putsKey 219 = .ok (.invokevirtual 162, 3) := by decide +kernel
theorem dX11_putsKey_222 : decode cX11_putsKey 222 = .ok (.aload_n 0, 1) := by decide +kernel
theorem dX11_putsKey_223 : decode cX11_putsKey 223 = .ok (.iload_n 1, 1) := by decide +kernel
theorem dX11_putsKey_224 : decode cX11_putsKey 224 = .ok (.iload 5, 2) := by decide +kernel
theorem dX11_putsKey_226 : decode cX11_putsKey 226 = .ok (.invokevirtual 171, 3) := by decide +kernel
theorem dX11_putsKey_229 : decode cX11_putsKey 229 = .ok (.aload_n 0, 1) := by decide +kernel
theorem dX11_putsKey_230 : decode cX11_putsKey 230 = .ok (.iload_n 1, 1) := by decide +kernel
theorem dX11_putsKey_231 : decode cX11_putsKey 231 = .ok (.invokevirtual 175, 3) := by decide +kernel
theorem dX11_putsKey_234 : decode cX11_putsKey 234 = .ok (.aload_n 0, 1) := by decide +kernel
theorem dX11_putsKey_235 : decode cX11_putsKey 235 = .ok (.iload_n 1, 1) := by decide +kernel
theorem dX11_putsKey_236 : decode cX11_putsKey 236 = .ok (.bipush 10, 2) := by decide +kernel
theorem dX11_putsKey_238 : decode cX11_putsKey 238 = .ok (.lconst 1, 1) := by decide +kernel
theorem dX11_putsKey_239 : decode cX11_putsKey 239 = .ok (.invokevirtual 130, 3) := by decide +kernel
theorem dX11_putsKey_242 : decode cX11_putsKey 242 = .ok (.aload_n 0, 1) := by decide +kernel
theorem dX11_putsKey_243 : decode cX11_putsKey 243 = .ok (.iload_n 1, 1) := by decide +kernel
theorem dX11_putsKey_244 : decode cX11_putsKey 244 = .ok (.bipush 12, 2) := by decide +kernel
theorem dX11_putsKey_246 : decode cX11_putsKey 246 = .ok (.aload_n 0, 1) := by decide +kernel
theorem dX11_putsKey_247 : decode cX11_putsKey 247 = .ok (.getfield 33, 3) := by decide +kernel
theorem dX11_putsKey_250 : decode cX11_putsKey 250 = .ok (.sipush 2048, 3) := by decide +kernel
theorem dX11_putsKey_253 : decode cX11_putsKey 253 = .ok (.iload_n 1, 1) := by decide +kernel
theorem dX11_putsKey_254 : decode cX11_putsKey 254 = .ok (.imul, 1) := by decide +kernel
theorem dX11_putsKey_255 : decode cX11_putsKey 255 = .ok (.iload 5, 2) := by decide +kernel
theorem dX11_putsKey_257 : decode cX11_putsKey 257 = .ok (.iadd, 1) := by decide +kernel
theorem dX11_putsKey_258 : decode cX11_putsKey 258 = .ok (.iaload, 1) := by decide +kernel
theorem dX11_putsKey_259 : decode cX11_putsKey 259 = .ok (.i2l, 1) := by decide +kernel
theorem dX11_putsKey_260 : decode cX11_putsKey 260 = .ok (.invokevirtual 130, 3) := by decide +kernel
theorem dX11_putsKey_263 : decode cX11_putsKey 263 = .ok (.iload 4, 2) := by decide +kernel
theorem dX11_putsKey_265 : decode cX11_putsKey 265 = .ok (.ireturn, 1) := by decide +kernel
theorem insN_lt {K : Nat → Nat} {q v j : Nat} (h : j < q) : insN K q v j = K j := if_pos h
theorem insN_eq (K : Nat → Nat) (q v : Nat) : insN K q v q = v := by
  unfold insN
  rw [if_neg (Nat.lt_irrefl q), if_pos rfl]
theorem insN_gt {K : Nat → Nat} {q v j : Nat} (h : q < j) : insN K q v j = K (j - 1) := by
  unfold insN
  rw [if_neg (by omega), if_neg (by omega)]
theorem Ky_ins {k cn q kx : Nat} {K : Nat → Nat} {fk gk : Nat → Int32} (h : KyS k fk cn K) (hi : Ins k q cn fk gk (nI kx)) (hq : q ≤ cn) (hkx : kx < 2147483647) (hb : ∀ j, j < q → lN (K j) < lN kx) (hc : ∀ j, q ≤ j → j < cn → ¬ lN (K j) < lN kx) (hn : ∀ j, j < cn → K j ≠ kx) : KyS k gk (cn + 1) (insN K q kx) := by
  have b1 : ∀ j, j < q → K j < kx := fun j hj => (lN_lt (by have := (h.1 j (by omega)).2; omega) (by omega)).mp (hb j hj)
  have b2 : ∀ j, q ≤ j → j < cn → kx < K j := fun j h1 h2 => by
    have a1 := hn j h2
    have a2 : ¬ K j < kx := fun z => hc j h1 h2 ((lN_lt (by have := (h.1 j h2).2; omega) (by omega)).mpr z)
    omega
  refine ⟨fun j hj => ?_, fun i j hij hj => ?_⟩
  · rcases Nat.lt_trichotomy j q with z | z | z
    · rw [insN_lt z, hi.1 j z]
      exact h.1 j (by omega)
    · subst z
      rw [insN_eq]
      exact ⟨hi.2.1, hkx⟩
    · rw [insN_gt z, hi.2.2.1 j z (by omega)]
      exact h.1 (j - 1) (by omega)
  · rcases Nat.lt_trichotomy j q with z | z | z
    · rw [insN_lt z, insN_lt (by omega)]
      exact h.2 i j hij (by omega)
    · subst z
      rw [insN_eq, insN_lt hij]
      exact b1 i hij
    · rw [insN_gt z]
      rcases Nat.lt_trichotomy i q with y | y | y
      · rw [insN_lt y]
        have a1 := b1 i y
        have a2 := b2 (j - 1) (by omega) (by omega)
        omega
      · subst y
        rw [insN_eq]
        exact b2 (j - 1) (by omega) (by omega)
      · rw [insN_gt y]
        exact h.2 (i - 1) (j - 1) (by omega) (by omega)
theorem Bk_ins {k cn nb q b : Nat} {J : Nat → Nat} {fb gb : Nat → Int32} (h : BkS k fb cn nb J) (hi : Ins k q cn fb gb (nI b)) (hq : q ≤ cn) (hb : b < nb) : BkS k gb (cn + 1) nb (insN J q b) := by
  intro j hj
  rcases Nat.lt_trichotomy j q with z | z | z
  · rw [insN_lt z, hi.1 j z]
    exact h j (by omega)
  · subst z
    rw [insN_eq]
    exact ⟨hi.2.1, hb⟩
  · rw [insN_gt z, hi.2.2.1 j z (by omega)]
    exact h (j - 1) (by omega)
theorem cntJ_congr {J I : Nat → Nat} {b : Nat} : ∀ n, (∀ j, j < n → J j = I j) → cntJ J n b = cntJ I n b
  | 0, _ => rfl
  | n + 1, h => by rw [cntJ_s, cntJ_s, cntJ_congr n (fun j hj => h j (by omega)), h n (by omega)]
theorem cnt_ins (J : Nat → Nat) (q b c : Nat) : ∀ n, cntJ (insN J q b) (q + n + 1) c = cntJ J (q + n) c + (if b = c then 1 else 0)
  | 0 => by
    rw [cntJ_s, Nat.add_zero, insN_eq, cntJ_congr q (fun j hj => insN_lt hj)]
  | n + 1 => by
    rw [cntJ_s, show q + (n + 1) = q + n + 1 by omega, cnt_ins J q b c n, cntJ_s, insN_gt (by omega), show q + n + 1 - 1 = q + n by omega]
    omega
theorem Hs_ins {k cn nb q b r1 : Nat} {J : Nat → Nat} {ff fh gf : Nat → Int32} (h : HsS k ff fh cn nb J) (hq : q ≤ cn) (hb : b < nb) (e1 : gf (2048 * k + b) = nI r1) (e2 : ∀ c, c ≠ b → gf (2048 * k + c) = ff (2048 * k + c)) (hr : r1 ≤ 320) (hc : cntJ J cn b + 1 ≤ r1) : HsS k gf (upd fh (2048 * k + b) (nI (cntJ J cn b + 1))) (cn + 1) nb (insN J q b) := by
  intro c hcb
  obtain ⟨a1, r, a2, a3, a4⟩ := h c hcb
  have e := cnt_ins J q b c (cn - q)
  rw [show q + (cn - q) = cn by omega] at e
  by_cases z : c = b
  · subst z
    rw [if_pos rfl] at e
    rw [e, pk_us]
    exact ⟨rfl, r1, e1, hc, hr⟩
  · rw [if_neg (fun y => z y.symm), Nat.add_zero] at e
    rw [e, pk_un (by omega), e2 c z]
    exact ⟨a1, r, a2, a3, a4⟩
theorem cnt_self {J : Nat → Nat} {q b cn : Nat} (hq : q ≤ cn) : cntJ (insN J q b) (cn + 1) b = cntJ J cn b + 1 := by
  have e := cnt_ins J q b b (cn - q)
  rw [show q + (cn - q) = cn by omega, if_pos rfl] at e
  exact e
/-! the list of a table behind a put -/
def pqP (r : Int32) (cn : Nat) (K : Nat → Nat) (kx : Nat) : Prop := (r = 0 ∧ (∃ q, q < cn ∧ K q = kx)) ∨ (0 < r ∧ ∀ q, q < cn → K q ≠ kx)
def dqP (r : Int32) (cn : Nat) (K : Nat → Nat) (kx : Nat) : Prop := (r = -1 ∧ ∀ q, q < cn → K q ≠ kx) ∨ (0 < r ∧ (∃ q, q < cn ∧ K q = kx))
theorem put_rR {k cn q kx : Nat} {z3 : Int32} {K : Nat → Nat} {fv : Nat → Int32} (hs : ∀ i j, i < j → j < cn → K i < K j) (hq : q < cn) (hx : K q = kx) : tabl cn K (fun j => upd fv (160 * k + q) z3 (160 * k + j)) = putL (tabl cn K (fun j => fv (160 * k + j))) kx z3 := by
  rw [put_rep cn K _ q kx z3 hs hq hx]
  refine tabl_eq (fun j hj => ⟨rfl, ?_⟩)
  by_cases e : j = q
  · subst e
    rw [pk_us, pk_us]
  · rw [pk_un (by omega), pk_un e]
theorem put_nR {k cn q kx : Nat} {z3 : Int32} {K : Nat → Nat} {fv gv : Nat → Int32} (h1 : ∀ j, j < cn → K j < 2147483647) (hkx : kx < 2147483647) (hi : Ins k q cn fv gv z3) (hq : q ≤ cn) (hb : ∀ j, j < q → lN (K j) < lN kx) (hc : ∀ j, q ≤ j → j < cn → ¬ lN (K j) < lN kx) (hn : ∀ j, j < cn → K j ≠ kx) : tabl (cn + 1) (insN K q kx) (fun j => gv (160 * k + j)) = putL (tabl cn K (fun j => fv (160 * k + j))) kx z3 := by
  rw [put_new cn K _ q kx z3 hq (fun j hj => (lN_lt (by have := h1 j (by omega); omega) (by omega)).mp (hb j hj)) (fun j a b => by
    have a1 := hn j b
    have a2 : ¬ K j < kx := fun z => hc j a b ((lN_lt (by have := h1 j b; omega) (by omega)).mpr z)
    omega)]
  refine tabl_eq (fun j hj => ⟨rfl, ?_⟩)
  unfold insV
  by_cases a : j < q
  · rw [if_pos a]
    exact hi.1 j a
  · rw [if_neg a]
    by_cases b : j = q
    · subst b
      rw [if_pos rfl]
      exact hi.2.1
    · rw [if_neg b]
      exact hi.2.2.1 j (by omega) (by omega)
theorem wh_at {K : Nat → Nat} {cn q x j : Nat} (hkx : x < 2147483647) (h1 : ∀ j, j < cn → K j < 2147483647) (hm : ∀ i j, i < j → j < cn → K i < K j) (hb : ∀ j, j < q → lN (K j) < lN x) (hc : ∀ j, q ≤ j → j < cn → ¬ lN (K j) < lN x) (hj : j < cn) (e : K j = x) : q < cn ∧ K q = x := by
  have a : q = j := by
    rcases Nat.lt_trichotomy q j with z | z | z
    · exact absurd ((lN_lt (by have := h1 q (by omega); omega) (by omega)).mpr (by have := hm q j z hj; omega)) (hc q (Nat.le_refl _) (by omega))
    · exact z
    · have := hb j z
      rw [e] at this
      exact absurd this (fun y => Int64.lt_irrefl y)
  subst a
  exact ⟨hj, e⟩
def own_c_putsKey : List Cond := [.methodLink RX11 212 yX11_way, .instanceMethod yX11_way, .selects RX11 yX11_way yX11_way, .initialized RX11, .methodLink RX11 155 yX11_bucketOf, .instanceMethod yX11_bucketOf, .selects RX11 yX11_bucketOf yX11_bucketOf, .methodLink RX11 215 yX11_readsFor, .instanceMethod yX11_readsFor, .selects RX11 yX11_readsFor yX11_readsFor, .fieldLink RX11 21 "ClashFreeModel" "values" "[I", .methodLink RX11 99 yX11_whereOf, .instanceMethod yX11_whereOf, .selects RX11 yX11_whereOf yX11_whereOf, .methodLink RX11 130 yX11_adds, .instanceMethod yX11_adds, .selects RX11 yX11_adds yX11_adds, .methodLink RX11 218 yX11_comes, .instanceMethod yX11_comes, .selects RX11 yX11_comes yX11_comes, .fieldLink RX11 33 "ClashFreeModel" "has" "[I", .fieldLink RX11 27 "ClashFreeModel" "inRoom" "[I", .methodLink RX11 148 yX11_roomOf, .instanceMethod yX11_roomOf, .selects RX11 yX11_roomOf yX11_roomOf, .methodLink RX11 162 yX11_takesSeed, .instanceMethod yX11_takesSeed, .selects RX11 yX11_takesSeed yX11_takesSeed, .methodLink RX11 171 yX11_buildsBucket, .instanceMethod yX11_buildsBucket, .selects RX11 yX11_buildsBucket yX11_buildsBucket, .methodLink RX11 175 yX11_laysSeed, .instanceMethod yX11_laysSeed, .selects RX11 yX11_laysSeed yX11_laysSeed, .methodLink RX11 137 yX11_roomsOf, .instanceMethod yX11_roomsOf, .selects RX11 yX11_roomsOf yX11_roomsOf, .fieldLink RX11 30 "ClashFreeModel" "roofs" "[I", .methodLink RX11 192 yX11_buildsAll, .instanceMethod yX11_buildsAll, .selects RX11 yX11_buildsAll yX11_buildsAll]
def wp_c_putsKey : List Cond := .code yX11_putsKey cX11_putsKey 6 (some .int) :: (own_c_putsKey ++ (wp_c_way ++ (wp_c_bucketOf ++ (wp_c_readsFor ++ (wp_c_whereOf ++ (wp_c_adds ++ (wp_c_comes ++ (wp_c_roomOf ++ (wp_c_takesSeed ++ (wp_c_buildsBucket ++ (wp_c_laysSeed ++ (wp_c_roomsOf ++ (wp_c_buildsAll ++ (wsX110 ++ ([] : List Cond)))))))))))))))
set_option maxRecDepth 20000 in
theorem inown_c_putsKey : ∀ w ∈ own_c_putsKey, w ∈ lw_tbl := mem_places [1489, 1491, 59, 115, 1430, 1432, 47, 1498, 1500, 61, 1221, 1481, 1483, 57, 1458, 1460, 53, 1505, 1507, 62, 1225, 1223, 1450, 1452, 51, 1406, 1408, 42, 1442, 1444, 49, 1454, 1456, 52, 1437, 1439, 48, 1224, 1392, 1394, 39] (by decide +kernel)
set_option maxRecDepth 20000 in
theorem in_c_putsKey : ∀ w ∈ wp_c_putsKey, w ∈ lw_tbl := List.forall_mem_cons.mpr ⟨List.mem_of_getElem? (i := 1488) (by decide +kernel), List.forall_mem_append.mpr ⟨inown_c_putsKey, List.forall_mem_append.mpr ⟨in_c_way, List.forall_mem_append.mpr ⟨in_c_bucketOf, List.forall_mem_append.mpr ⟨in_c_readsFor, List.forall_mem_append.mpr ⟨in_c_whereOf, List.forall_mem_append.mpr ⟨in_c_adds, List.forall_mem_append.mpr ⟨in_c_comes, List.forall_mem_append.mpr ⟨in_c_roomOf, List.forall_mem_append.mpr ⟨in_c_takesSeed, List.forall_mem_append.mpr ⟨in_c_buildsBucket, List.forall_mem_append.mpr ⟨in_c_laysSeed, List.forall_mem_append.mpr ⟨in_c_roomsOf, List.forall_mem_append.mpr ⟨in_c_buildsAll, List.forall_mem_append.mpr ⟨lwb_X11, fun _ h => absurd h List.not_mem_nil⟩⟩⟩⟩⟩⟩⟩⟩⟩⟩⟩⟩⟩⟩⟩
set_option maxRecDepth 20000 in
theorem good_c_putsKey : wp_c_putsKey.all goodWord = true := by decide +kernel
set_option maxRecDepth 20000 in
theorem g_c_putsKey_c_way_212 : GoodIn wp_c_putsKey (wsV RX11 212 RX11 yX11_way wp_c_way) := goodIn_sub (List.forall_mem_append.mpr ⟨List.forall_mem_cons.mpr ⟨(List.mem_of_getElem? (i := 1) rfl), List.forall_mem_cons.mpr ⟨(List.mem_of_getElem? (i := 2) rfl), List.forall_mem_cons.mpr ⟨(List.mem_of_getElem? (i := 3) rfl), List.forall_mem_cons.mpr ⟨(List.mem_of_getElem? (i := 4) rfl), fun _ h => absurd h List.not_mem_nil⟩⟩⟩⟩, (fun _ h => (List.mem_cons_of_mem _ (List.mem_append_right _ (List.mem_append_left _ h))))⟩) (by decide +kernel)
set_option maxRecDepth 20000 in
theorem g_c_putsKey_c_bucketOf_155 : GoodIn wp_c_putsKey (wsV RX11 155 RX11 yX11_bucketOf wp_c_bucketOf) := goodIn_sub (List.forall_mem_append.mpr ⟨List.forall_mem_cons.mpr ⟨(List.mem_of_getElem? (i := 5) rfl), List.forall_mem_cons.mpr ⟨(List.mem_of_getElem? (i := 6) rfl), List.forall_mem_cons.mpr ⟨(List.mem_of_getElem? (i := 7) rfl), List.forall_mem_cons.mpr ⟨(List.mem_of_getElem? (i := 4) rfl), fun _ h => absurd h List.not_mem_nil⟩⟩⟩⟩, (fun _ h => (List.mem_cons_of_mem _ (List.mem_append_right _ (List.mem_append_right _ (List.mem_append_left _ h)))))⟩) (by decide +kernel)
set_option maxRecDepth 20000 in
theorem g_c_putsKey_c_readsFor_215 : GoodIn wp_c_putsKey (wsV RX11 215 RX11 yX11_readsFor wp_c_readsFor) := goodIn_sub (List.forall_mem_append.mpr ⟨List.forall_mem_cons.mpr ⟨(List.mem_of_getElem? (i := 8) rfl), List.forall_mem_cons.mpr ⟨(List.mem_of_getElem? (i := 9) rfl), List.forall_mem_cons.mpr ⟨(List.mem_of_getElem? (i := 10) rfl), List.forall_mem_cons.mpr ⟨(List.mem_of_getElem? (i := 4) rfl), fun _ h => absurd h List.not_mem_nil⟩⟩⟩⟩, (fun _ h => (List.mem_cons_of_mem _ (List.mem_append_right _ (List.mem_append_right _ (List.mem_append_right _ (List.mem_append_left _ h))))))⟩) (by decide +kernel)
set_option maxRecDepth 20000 in
theorem g_c_putsKey_c_whereOf_99 : GoodIn wp_c_putsKey (wsV RX11 99 RX11 yX11_whereOf wp_c_whereOf) := goodIn_sub (List.forall_mem_append.mpr ⟨List.forall_mem_cons.mpr ⟨(List.mem_of_getElem? (i := 12) rfl), List.forall_mem_cons.mpr ⟨(List.mem_of_getElem? (i := 13) rfl), List.forall_mem_cons.mpr ⟨(List.mem_of_getElem? (i := 14) rfl), List.forall_mem_cons.mpr ⟨(List.mem_of_getElem? (i := 4) rfl), fun _ h => absurd h List.not_mem_nil⟩⟩⟩⟩, (fun _ h => (List.mem_cons_of_mem _ (List.mem_append_right _ (List.mem_append_right _ (List.mem_append_right _ (List.mem_append_right _ (List.mem_append_left _ h)))))))⟩) (by decide +kernel)
set_option maxRecDepth 20000 in
theorem g_c_putsKey_c_adds_130 : GoodIn wp_c_putsKey (wsV RX11 130 RX11 yX11_adds wp_c_adds) := goodIn_sub (List.forall_mem_append.mpr ⟨List.forall_mem_cons.mpr ⟨(List.mem_of_getElem? (i := 15) rfl), List.forall_mem_cons.mpr ⟨(List.mem_of_getElem? (i := 16) rfl), List.forall_mem_cons.mpr ⟨(List.mem_of_getElem? (i := 17) rfl), List.forall_mem_cons.mpr ⟨(List.mem_of_getElem? (i := 4) rfl), fun _ h => absurd h List.not_mem_nil⟩⟩⟩⟩, (fun _ h => (List.mem_cons_of_mem _ (List.mem_append_right _ (List.mem_append_right _ (List.mem_append_right _ (List.mem_append_right _ (List.mem_append_right _ (List.mem_append_left _ h))))))))⟩) (by decide +kernel)
set_option maxRecDepth 20000 in
theorem g_c_putsKey_c_comes_218 : GoodIn wp_c_putsKey (wsV RX11 218 RX11 yX11_comes wp_c_comes) := goodIn_sub (List.forall_mem_append.mpr ⟨List.forall_mem_cons.mpr ⟨(List.mem_of_getElem? (i := 18) rfl), List.forall_mem_cons.mpr ⟨(List.mem_of_getElem? (i := 19) rfl), List.forall_mem_cons.mpr ⟨(List.mem_of_getElem? (i := 20) rfl), List.forall_mem_cons.mpr ⟨(List.mem_of_getElem? (i := 4) rfl), fun _ h => absurd h List.not_mem_nil⟩⟩⟩⟩, (fun _ h => (List.mem_cons_of_mem _ (List.mem_append_right _ (List.mem_append_right _ (List.mem_append_right _ (List.mem_append_right _ (List.mem_append_right _ (List.mem_append_right _ (List.mem_append_left _ h)))))))))⟩) (by decide +kernel)
set_option maxRecDepth 20000 in
theorem g_c_putsKey_c_roomOf_148 : GoodIn wp_c_putsKey (wsV RX11 148 RX11 yX11_roomOf wp_c_roomOf) := goodIn_sub (List.forall_mem_append.mpr ⟨List.forall_mem_cons.mpr ⟨(List.mem_of_getElem? (i := 23) rfl), List.forall_mem_cons.mpr ⟨(List.mem_of_getElem? (i := 24) rfl), List.forall_mem_cons.mpr ⟨(List.mem_of_getElem? (i := 25) rfl), List.forall_mem_cons.mpr ⟨(List.mem_of_getElem? (i := 4) rfl), fun _ h => absurd h List.not_mem_nil⟩⟩⟩⟩, (fun _ h => (List.mem_cons_of_mem _ (List.mem_append_right _ (List.mem_append_right _ (List.mem_append_right _ (List.mem_append_right _ (List.mem_append_right _ (List.mem_append_right _ (List.mem_append_right _ (List.mem_append_left _ h))))))))))⟩) (by decide +kernel)
set_option maxRecDepth 20000 in
theorem g_c_putsKey_c_takesSeed_162 : GoodIn wp_c_putsKey (wsV RX11 162 RX11 yX11_takesSeed wp_c_takesSeed) := goodIn_sub (List.forall_mem_append.mpr ⟨List.forall_mem_cons.mpr ⟨(List.mem_of_getElem? (i := 26) rfl), List.forall_mem_cons.mpr ⟨(List.mem_of_getElem? (i := 27) rfl), List.forall_mem_cons.mpr ⟨(List.mem_of_getElem? (i := 28) rfl), List.forall_mem_cons.mpr ⟨(List.mem_of_getElem? (i := 4) rfl), fun _ h => absurd h List.not_mem_nil⟩⟩⟩⟩, (fun _ h => (List.mem_cons_of_mem _ (List.mem_append_right _ (List.mem_append_right _ (List.mem_append_right _ (List.mem_append_right _ (List.mem_append_right _ (List.mem_append_right _ (List.mem_append_right _ (List.mem_append_right _ (List.mem_append_left _ h)))))))))))⟩) (by decide +kernel)
set_option maxRecDepth 20000 in
theorem g_c_putsKey_c_buildsBucket_171 : GoodIn wp_c_putsKey (wsV RX11 171 RX11 yX11_buildsBucket wp_c_buildsBucket) := goodIn_sub (List.forall_mem_append.mpr ⟨List.forall_mem_cons.mpr ⟨(List.mem_of_getElem? (i := 29) rfl), List.forall_mem_cons.mpr ⟨(List.mem_of_getElem? (i := 30) rfl), List.forall_mem_cons.mpr ⟨(List.mem_of_getElem? (i := 31) rfl), List.forall_mem_cons.mpr ⟨(List.mem_of_getElem? (i := 4) rfl), fun _ h => absurd h List.not_mem_nil⟩⟩⟩⟩, (fun _ h => (List.mem_cons_of_mem _ (List.mem_append_right _ (List.mem_append_right _ (List.mem_append_right _ (List.mem_append_right _ (List.mem_append_right _ (List.mem_append_right _ (List.mem_append_right _ (List.mem_append_right _ (List.mem_append_right _ (List.mem_append_left _ h))))))))))))⟩) (by decide +kernel)
set_option maxRecDepth 20000 in
theorem g_c_putsKey_c_laysSeed_175 : GoodIn wp_c_putsKey (wsV RX11 175 RX11 yX11_laysSeed wp_c_laysSeed) := goodIn_sub (List.forall_mem_append.mpr ⟨List.forall_mem_cons.mpr ⟨(List.mem_of_getElem? (i := 32) rfl), List.forall_mem_cons.mpr ⟨(List.mem_of_getElem? (i := 33) rfl), List.forall_mem_cons.mpr ⟨(List.mem_of_getElem? (i := 34) rfl), List.forall_mem_cons.mpr ⟨(List.mem_of_getElem? (i := 4) rfl), fun _ h => absurd h List.not_mem_nil⟩⟩⟩⟩, (fun _ h => (List.mem_cons_of_mem _ (List.mem_append_right _ (List.mem_append_right _ (List.mem_append_right _ (List.mem_append_right _ (List.mem_append_right _ (List.mem_append_right _ (List.mem_append_right _ (List.mem_append_right _ (List.mem_append_right _ (List.mem_append_right _ (List.mem_append_left _ h)))))))))))))⟩) (by decide +kernel)
set_option maxRecDepth 20000 in
theorem g_c_putsKey_c_roomsOf_137 : GoodIn wp_c_putsKey (wsV RX11 137 RX11 yX11_roomsOf wp_c_roomsOf) := goodIn_sub (List.forall_mem_append.mpr ⟨List.forall_mem_cons.mpr ⟨(List.mem_of_getElem? (i := 35) rfl), List.forall_mem_cons.mpr ⟨(List.mem_of_getElem? (i := 36) rfl), List.forall_mem_cons.mpr ⟨(List.mem_of_getElem? (i := 37) rfl), List.forall_mem_cons.mpr ⟨(List.mem_of_getElem? (i := 4) rfl), fun _ h => absurd h List.not_mem_nil⟩⟩⟩⟩, (fun _ h => (List.mem_cons_of_mem _ (List.mem_append_right _ (List.mem_append_right _ (List.mem_append_right _ (List.mem_append_right _ (List.mem_append_right _ (List.mem_append_right _ (List.mem_append_right _ (List.mem_append_right _ (List.mem_append_right _ (List.mem_append_right _ (List.mem_append_right _ (List.mem_append_left _ h))))))))))))))⟩) (by decide +kernel)
set_option maxRecDepth 20000 in
theorem g_c_putsKey_c_buildsAll_192 : GoodIn wp_c_putsKey (wsV RX11 192 RX11 yX11_buildsAll wp_c_buildsAll) := goodIn_sub (List.forall_mem_append.mpr ⟨List.forall_mem_cons.mpr ⟨(List.mem_of_getElem? (i := 39) rfl), List.forall_mem_cons.mpr ⟨(List.mem_of_getElem? (i := 40) rfl), List.forall_mem_cons.mpr ⟨(List.mem_of_getElem? (i := 41) rfl), List.forall_mem_cons.mpr ⟨(List.mem_of_getElem? (i := 4) rfl), fun _ h => absurd h List.not_mem_nil⟩⟩⟩⟩, (fun _ h => (List.mem_cons_of_mem _ (List.mem_append_right _ (List.mem_append_right _ (List.mem_append_right _ (List.mem_append_right _ (List.mem_append_right _ (List.mem_append_right _ (List.mem_append_right _ (List.mem_append_right _ (List.mem_append_right _ (List.mem_append_right _ (List.mem_append_right _ (List.mem_append_right _ (List.mem_append_left _ h)))))))))))))))⟩) (by decide +kernel)
set_option maxHeartbeats 4000000 in
set_option maxRecDepth 100000 in
theorem c_putsKey (l : Launch) (D : va_G) (sz : Nat) (h0 : Nat) (a : Nat → Nat) (cm : Nat → ClassId) (i : Nat → Int32) (g : Nat → Int64) (fn : Nat → Int64) (fk : Nat → Int32) (fv : Nat → Int32) (fb : Nat → Int32) (fr : Nat → Int32) (ff : Nat → Int32) (fh : Nat → Int32) (fa : Nat → Int64) (fs : Nat → Int64) (k : Nat) (cn : Nat) (nb : Nat) (K : Nat → Nat) (J : Nat → Nat) (kx : Nat) (z3 : Int32) (hk : k < 4) (hT : TabS k cn nb K J fn fk fb ff fh) (hkx : kx < 2147483647) (hfl : cn < 160 ∨ ∃ q, q < cn ∧ K q = kx) (hfa : RngL fa) (hfs : RngL fs) : Met l yX11_putsKey wp_c_putsKey ({ frames := 8, cells := 0, slots := 0, locals := 215 }) (PcW D [.ref h0, .int (nI k), .int (nI kx), .int z3] sz [(h0, .inr (11, gM a i g)), (a 3, .inl (cm 3, 85, .inr (.inl fn))), (a 4, .inl (cm 4, 800, .inl fk)), (a 5, .inl (cm 5, 800, .inl fv)), (a 6, .inl (cm 6, 800, .inl fb)), (a 7, .inl (cm 7, 800, .inl fr)), (a 8, .inl (cm 8, 10240, .inl ff)), (a 9, .inl (cm 9, 10240, .inl fh)), (a 10, .inl (cm 10, 10240, .inr (.inl fa))), (a 11, .inl (cm 11, 10240, .inr (.inl fs)))] [(cm 3, .long), (cm 4, .int), (cm 5, .int), (cm 6, .int), (cm 7, .int), (cm 8, .int), (cm 9, .int), (cm 10, .long), (cm 11, .long)]) (va_Qi (fun (r : Int32) (u : (Nat → Int64) × (Nat → Int32) × (Nat → Int32) × (Nat → Int32) × (Nat → Int32) × (Nat → Int32) × (Nat → Int32) × (Nat → Int64) × (Nat → Int64) × (Int64) × (Int64) × (Int64) × (Int32)) => (∃ cn nb K J, TabS k cn nb K J u.1 u.2.1 u.2.2.2.1 u.2.2.2.2.2.1 u.2.2.2.2.2.2.1) ∧ RngL u.2.2.2.2.2.2.2.1 ∧ RngL u.2.2.2.2.2.2.2.2.1 ∧ (∀ x, (x < 17 * k ∨ 17 * k + 17 ≤ x) → u.1 x = fn x) ∧ u.1 (17 * k + 0) = fn (17 * k + 0) ∧ (∀ x, (x < 160 * k ∨ 160 * k + 160 ≤ x) → u.2.1 x = fk x) ∧ (∀ x, (x < 160 * k ∨ 160 * k + 160 ≤ x) → u.2.2.2.1 x = fb x) ∧ (∀ x, (x < 2048 * k ∨ 2048 * k + 2048 ≤ x) → u.2.2.2.2.2.1 x = ff x) ∧ (∀ x, (x < 2048 * k ∨ 2048 * k + 2048 ≤ x) → u.2.2.2.2.2.2.1 x = fh x) ∧ lsR u.1 u.2.1 u.2.2.1 = updS (lsR fn fk fv) k (putL (lsR fn fk fv k) kx z3) ∧ pqP r cn K kx) (fun (u : (Nat → Int64) × (Nat → Int32) × (Nat → Int32) × (Nat → Int32) × (Nat → Int32) × (Nat → Int32) × (Nat → Int32) × (Nat → Int64) × (Nat → Int64) × (Int64) × (Int64) × (Int64) × (Int32)) t => va_P D vwCl [(h0, .inr (11, gM a (upd i 15 u.2.2.2.2.2.2.2.2.2.2.2.2) (vp_updL (vp_updL (vp_updL (fun _ => 0) 12 u.2.2.2.2.2.2.2.2.2.1) 13 u.2.2.2.2.2.2.2.2.2.2.1) 14 u.2.2.2.2.2.2.2.2.2.2.2.1))), (a 3, .inl (cm 3, 85, .inr (.inl u.1))), (a 4, .inl (cm 4, 800, .inl u.2.1)), (a 5, .inl (cm 5, 800, .inl u.2.2.1)), (a 6, .inl (cm 6, 800, .inl u.2.2.2.1)), (a 7, .inl (cm 7, 800, .inl u.2.2.2.2.1)), (a 8, .inl (cm 8, 10240, .inl u.2.2.2.2.2.1)), (a 9, .inl (cm 9, 10240, .inl u.2.2.2.2.2.2.1)), (a 10, .inl (cm 10, 10240, .inr (.inl u.2.2.2.2.2.2.2.1))), (a 11, .inl (cm 11, 10240, .inr (.inl u.2.2.2.2.2.2.2.2.1)))] t.heap ∧ va_K D vwCl [(cm 3, .long), (cm 4, .int), (cm 5, .int), (cm 6, .int), (cm 7, .int), (cm 8, .int), (cm 9, .int), (cm 10, .long), (cm 11, .long)] t ∧ va_D (va_A [(h0, .inr (11, gM a i g)), (a 3, .inl (cm 3, 85, .inr (.inl fn))), (a 4, .inl (cm 4, 800, .inl fk)), (a 5, .inl (cm 5, 800, .inl fv)), (a 6, .inl (cm 6, 800, .inl fb)), (a 7, .inl (cm 7, 800, .inl fr)), (a 8, .inl (cm 8, 10240, .inl ff)), (a 9, .inl (cm 9, 10240, .inl fh)), (a 10, .inl (cm 10, 10240, .inr (.inl fa))), (a 11, .inl (cm 11, 10240, .inr (.inl fs)))] sz) [(h0, .inr (11, gM a (upd i 15 u.2.2.2.2.2.2.2.2.2.2.2.2) (vp_updL (vp_updL (vp_updL (fun _ => 0) 12 u.2.2.2.2.2.2.2.2.2.1) 13 u.2.2.2.2.2.2.2.2.2.2.1) 14 u.2.2.2.2.2.2.2.2.2.2.2.1))), (a 3, .inl (cm 3, 85, .inr (.inl u.1))), (a 4, .inl (cm 4, 800, .inl u.2.1)), (a 5, .inl (cm 5, 800, .inl u.2.2.1)), (a 6, .inl (cm 6, 800, .inl u.2.2.2.1)), (a 7, .inl (cm 7, 800, .inl u.2.2.2.2.1)), (a 8, .inl (cm 8, 10240, .inl u.2.2.2.2.2.1)), (a 9, .inl (cm 9, 10240, .inl u.2.2.2.2.2.2.1)), (a 10, .inl (cm 10, 10240, .inr (.inl u.2.2.2.2.2.2.2.1))), (a 11, .inl (cm 11, 10240, .inr (.inl u.2.2.2.2.2.2.2.2.1)))]) (va_A [(h0, .inr (11, gM a i g)), (a 3, .inl (cm 3, 85, .inr (.inl fn))), (a 4, .inl (cm 4, 800, .inl fk)), (a 5, .inl (cm 5, 800, .inl fv)), (a 6, .inl (cm 6, 800, .inl fb)), (a 7, .inl (cm 7, 800, .inl fr)), (a 8, .inl (cm 8, 10240, .inl ff)), (a 9, .inl (cm 9, 10240, .inl fh)), (a 10, .inl (cm 10, 10240, .inr (.inl fa))), (a 11, .inl (cm 11, 10240, .inr (.inl fs)))] sz)) 0 0 (va_A [(h0, .inr (11, gM a i g)), (a 3, .inl (cm 3, 85, .inr (.inl fn))), (a 4, .inl (cm 4, 800, .inl fk)), (a 5, .inl (cm 5, 800, .inl fv)), (a 6, .inl (cm 6, 800, .inl fb)), (a 7, .inl (cm 7, 800, .inl fr)), (a 8, .inl (cm 8, 10240, .inl ff)), (a 9, .inl (cm 9, 10240, .inl fh)), (a 10, .inl (cm 10, 10240, .inr (.inl fa))), (a 11, .inl (cm 11, 10240, .inr (.inl fs)))] sz) := by
  refine Met.ofW (cc := cX11_putsKey) (maxL := 6) (ret := (some .int)) (by decide) rfl ?_
  intro p e s m args below meth c s₁ B hml hv
  obtain ⟨rfl, hsz, hP, hK, hD0⟩ := hv
  have hx := B.exec
  have hb := B.bytes
  have hr := B.returns
  have hts := atoms_spec (ws := wp_c_putsKey) B.pre
  have hin_X11 : ∀ w ∈ wsX110, w ∈ wp_c_putsKey := fun _ h => (List.mem_cons_of_mem _ (List.mem_append_right _ (List.mem_append_right _ (List.mem_append_right _ (List.mem_append_right _ (List.mem_append_right _ (List.mem_append_right _ (List.mem_append_right _ (List.mem_append_right _ (List.mem_append_right _ (List.mem_append_right _ (List.mem_append_right _ (List.mem_append_right _ (List.mem_append_right _ (List.mem_append_left _ h)))))))))))))))
  have hown : s.vm.findClass RX11 = some m.cls := findClass_of_methodNamed B.named
  have hlocks := B.notSynchronized
  subst hsz
  have hD := hD0.self (sz := s.heap.size)
  generalize hAe : va_A [(h0, .inr (11, gM a i g)), (a 3, .inl (cm 3, 85, .inr (.inl fn))), (a 4, .inl (cm 4, 800, .inl fk)), (a 5, .inl (cm 5, 800, .inl fv)), (a 6, .inl (cm 6, 800, .inl fb)), (a 7, .inl (cm 7, 800, .inl fr)), (a 8, .inl (cm 8, 10240, .inl ff)), (a 9, .inl (cm 9, 10240, .inl fh)), (a 10, .inl (cm 10, 10240, .inr (.inl fa))), (a 11, .inl (cm 11, 10240, .inr (.inl fs)))] s.heap.size = A at hD ⊢
  have hA : ∀ q : Nat, s.heap.size ≤ q → A q := fun q h => by rw [← hAe]; exact Or.inr h
  have hS : va_S A s.heap s.heap [] := va_S.rf
  have hP : va_P D vwCl [(h0, .inr (11, gM a i g)), (a 3, .inl (cm 3, 85, .inr (.inl fn))), (a 4, .inl (cm 4, 800, .inl fk)), (a 5, .inl (cm 5, 800, .inl fv)), (a 6, .inl (cm 6, 800, .inl fb)), (a 7, .inl (cm 7, 800, .inl fr)), (a 8, .inl (cm 8, 10240, .inl ff)), (a 9, .inl (cm 9, 10240, .inl fh)), (a 10, .inl (cm 10, 10240, .inr (.inl fa))), (a 11, .inl (cm 11, 10240, .inr (.inl fs)))] s.heap := hP
  have hl := lv_entry ([.ref h0, .int (nI k), .int (nI kx), .int z3]) (n := 6) (Nat.le_of_ble_eq_true rfl)
  rw [lg_entry_eq]
  generalize (lg_sl ([.ref h0, .int (nI k), .int (nI kx), .int z3]) ++ List.replicate (6 - (lg_sl ([.ref h0, .int (nI k), .int (nI kx), .int z3])).length) Slot.unset).toArray = ls at hl ⊢
  have hl : lv_has ls 6 [(0, .ref h0), (1, .int (nI k)), (2, .int (nI kx)), (3, .int z3)] := hl
  obtain ⟨h1, hcn, h4, hn1, hn2, ⟨ka, kb, hka, hkb, h6, h7⟩, hKy, hBk, hHs, ⟨bn, ns, gr, h14, hbn, h15, hs1, hs2, h16, hgr⟩⟩ := id hT
  have hbl : ((ka * kx + kb) % 2147483647 % nb) < nb := Nat.mod_lt _ (by omega)
  obtain ⟨hq1, rf, hrf, hq2, hq3⟩ := hHs _ hbl
  have hcl := cntJ_le J cn ((ka * kx + kb) % 2147483647 % nb)
  refine lv_aload_n hx hb dX11_putsKey_0 rfl (lv_at hl 0 rfl) ?_
  refine lv_iload_n hx hb dX11_putsKey_1 rfl (lv_at hl 1 rfl) ?_
  refine lv_iload_n hx hb dX11_putsKey_2 rfl (lv_at hl 2 rfl) ?_
  have hPc := hP.sub (ws' := [(h0, .inr (11, gM a i g)), (a 3, .inl (cm 3, 85, .inr (.inl fn))), (a 4, .inl (cm 4, 800, .inl fk)), (a 6, .inl (cm 6, 800, .inl fb)), (a 7, .inl (cm 7, 800, .inl fr)), (a 8, .inl (cm 8, 10240, .inl ff)), (a 9, .inl (cm 9, 10240, .inl fh)), (a 10, .inl (cm 10, 10240, .inr (.inl fa))), (a 11, .inl (cm 11, 10240, .inr (.inl fs)))]) [0, 1, 2, 4, 5, 6, 7, 8, 9] rfl
  have hKc := hK.sub (tys' := [(cm 3, .long), (cm 4, .int), (cm 6, .int), (cm 7, .int), (cm 8, .int), (cm 9, .int), (cm 10, .long), (cm 11, .long)]) [0, 1, 3, 4, 5, 6, 7, 8] rfl
  have hFc := va_free0 hS hA
  refine va_calli (va_runV (As := [.int (nI k), .int (nI kx)]) (rest := []) ⟨hx, hb, hml, hown, hts⟩ (c_way l D _ h0 a cm i g fn fk fb fr ff fh fa fs k cn nb K J kx ka kb (by first | assumption | omega) hT (by first | assumption | omega) (by first | assumption | omega) (by first | assumption | omega) h6 h7 (by first | assumption | omega) (by first | assumption | omega)) (cwV 2 hts g_c_putsKey_c_way_212 rfl rfl rfl (by decide +kernel) ⟨(Nat.le_of_ble_eq_true rfl), (Nat.le_of_ble_eq_true rfl)⟩) (PcR_V (q0 := 0) hPc hKc rfl rfl) rfl rfl hl.1 rfl (lv_room (Nat.le_of_ble_eq_true rfl)) dX11_putsKey_3 ⟨(Nat.le_of_ble_eq_true rfl), (Nat.le_of_ble_eq_true rfl)⟩) hS (fun q _ h => hFc q h) hFc (fun r1 uu tt H locs htt hvm hw hB hz1 hk1 hS => ?_)
  have hP := va_keep hP hk1
  try dsimp only at hw
  clear hB hz1 hk1 hFc hPc hKc
  rcases hw with ⟨rfl, hA_r1⟩ | ⟨rfl, hA_r1⟩ | ⟨rfl, hA_r1⟩ | ⟨rfl, hA_r1⟩ | ⟨rfl, hA_r1⟩
  ·
    obtain ⟨j0, hj0, ej0⟩ := hA_r1
    refine lv_istore (lv' := [(4, .int 0), (0, .ref h0), (1, .int (nI k)), (2, .int (nI kx)), (3, .int z3)]) hx hb dX11_putsKey_6 hl (by decide) rfl (fun ls hl => ?_)
    refine lv_aload_n hx hb dX11_putsKey_8 rfl (lv_at hl 1 rfl) ?_
    refine lv_iload_n hx hb dX11_putsKey_9 rfl (lv_at hl 2 rfl) ?_
    refine lv_iload_n hx hb dX11_putsKey_10 rfl (lv_at hl 3 rfl) ?_
    have hPc := hP.sub (ws' := [(h0, .inr (11, gM a i g)), (a 3, .inl (cm 3, 85, .inr (.inl fn)))]) [0, 1] rfl
    have hKc := hK.sub (tys' := [(cm 3, .long)]) [0] rfl
    have hFc := va_free0 hS hA
    refine va_calli (va_runV (As := [.int (nI k), .int (nI kx)]) (rest := []) ⟨hx, hb, hml, hown, hts⟩ (c_bucketOf l D _ h0 a cm i g fn k kx ka kb nb (by first | assumption | omega) (by first | assumption | omega | exact hKl _ (by omega)) h6 h7 h4 (by first | assumption | omega) (by first | assumption | omega) (by first | assumption | omega) (by first | assumption | omega)) (cwV 2 hts g_c_putsKey_c_bucketOf_155 rfl rfl rfl (by decide +kernel) ⟨(Nat.le_of_ble_eq_true rfl), (Nat.le_of_ble_eq_true rfl)⟩) (PcR_V (q0 := 0) hPc hKc rfl rfl) rfl rfl hl.1 rfl (lv_room (Nat.le_of_ble_eq_true rfl)) dX11_putsKey_11 ⟨(Nat.le_of_ble_eq_true rfl), (Nat.le_of_ble_eq_true rfl)⟩) hS (fun q _ h => hFc q h) hFc (fun r2 uu tt H locs htt hvm hw hB hz1 hk1 hS => ?_)
    have hP := va_keep hP hk1
    try dsimp only at hw
    clear hB hz1 hk1 hFc hPc hKc
    obtain rfl : r2 = nI ((ka * kx + kb) % 2147483647 % nb) := hw
    refine lv_istore (lv' := [(5, .int (nI ((ka * kx + kb) % 2147483647 % nb))), (4, .int 0), (0, .ref h0), (1, .int (nI k)), (2, .int (nI kx)), (3, .int z3)]) hx hb dX11_putsKey_14 hl (by decide) rfl (fun ls hl => ?_)
    refine lv_aload_n hx hb dX11_putsKey_16 rfl (lv_at hl 2 rfl) ?_
    refine lv_iload_n hx hb dX11_putsKey_17 rfl (lv_at hl 3 rfl) ?_
    refine lv_iload_n hx hb dX11_putsKey_18 rfl (lv_at hl 4 rfl) ?_
    have hPc := hP.sub (ws' := [(h0, .inr (11, gM a i g)), (a 3, .inl (cm 3, 85, .inr (.inl fn))), (a 4, .inl (cm 4, 800, .inl fk)), (a 6, .inl (cm 6, 800, .inl fb)), (a 8, .inl (cm 8, 10240, .inl ff)), (a 9, .inl (cm 9, 10240, .inl fh))]) [0, 1, 2, 4, 6, 7] rfl
    have hKc := hK.sub (tys' := [(cm 3, .long), (cm 4, .int), (cm 6, .int), (cm 8, .int), (cm 9, .int)]) [0, 1, 3, 5, 6] rfl
    have hDc := hD.sub (ws' := [(h0, .inr (11, gM a i g)), (a 3, .inl (cm 3, 85, .inr (.inl fn))), (a 4, .inl (cm 4, 800, .inl fk)), (a 6, .inl (cm 6, 800, .inl fb)), (a 8, .inl (cm 8, 10240, .inl ff)), (a 9, .inl (cm 9, 10240, .inl fh))]) [0, 1, 2, 4, 6, 7] (by decide) rfl
    have hFc := va_free (wc := [(h0, .inr (11, gM a i g)), (a 3, .inl (cm 3, 85, .inr (.inl fn))), (a 4, .inl (cm 4, 800, .inl fk)), (a 6, .inl (cm 6, 800, .inl fb)), (a 8, .inl (cm 8, 10240, .inl ff)), (a 9, .inl (cm 9, 10240, .inl fh))]) hD hS hA [0, 1, 2, 4, 6, 7] rfl
    refine va_callv (va_runV (As := [.int (nI k), .int (nI kx)]) (rest := []) ⟨hx, hb, hml, hown, hts⟩ (c_readsFor l D _ h0 a cm i g fn fk fb ff fh k cn nb K J kx (by first | assumption | omega) hT (by first | assumption | omega)) (cwV 2 hts g_c_putsKey_c_readsFor_215 rfl rfl rfl (by decide +kernel) ⟨(Nat.le_of_ble_eq_true rfl), (Nat.le_of_ble_eq_true rfl)⟩) (PcW_V (q0 := 0) hPc hKc hDc rfl rfl) rfl rfl hl.1 rfl (lv_room (Nat.le_of_ble_eq_true rfl)) dX11_putsKey_19 ⟨(Nat.le_of_ble_eq_true rfl), (Nat.le_of_ble_eq_true rfl)⟩) hS (fun q _ h => hFc q h) hFc (fun uu tt H locs htt hvm hw hB hz1 hk1 hS => ?_)
    obtain ⟨w4, rfl⟩ : ∃ z, z = uu := ⟨_, rfl⟩
    obtain ⟨hP1, hK1, hD1⟩ := hB
    rw [htt] at hP1
    have hK1 := va_K.moved hvm.symm hK1
    have hP1 : va_P D vwCl [(h0, .inr (11, gM a i g)), (a 3, .inl (cm 3, 85, .inr (.inl w4))), (a 4, .inl (cm 4, 800, .inl fk)), (a 6, .inl (cm 6, 800, .inl fb)), (a 8, .inl (cm 8, 10240, .inl ff)), (a 9, .inl (cm 9, 10240, .inl fh))] H := hP1
    obtain ⟨hP, hD⟩ := va_join (wr := [(a 5, .inl (cm 5, 800, .inl fv)), (a 7, .inl (cm 7, 800, .inl fr)), (a 10, .inl (cm 10, 10240, .inr (.inl fa))), (a 11, .inl (cm 11, 10240, .inr (.inl fs)))]) (w1 := [(h0, .inr (11, gM a i g)), (a 3, .inl (cm 3, 85, .inr (.inl w4))), (a 4, .inl (cm 4, 800, .inl fk)), (a 6, .inl (cm 6, 800, .inl fb)), (a 8, .inl (cm 8, 10240, .inl ff)), (a 9, .inl (cm 9, 10240, .inl fh))]) hP hD [0, 1, 2, 4, 6, 7] [3, 5, 8, 9] rfl rfl (by decide) (by decide) hk1 hFc hP1 hD1
    have hP : va_P D vwCl [(a 5, .inl (cm 5, 800, .inl fv)), (a 7, .inl (cm 7, 800, .inl fr)), (a 10, .inl (cm 10, 10240, .inr (.inl fa))), (a 11, .inl (cm 11, 10240, .inr (.inl fs))), (h0, .inr (11, gM a i g)), (a 3, .inl (cm 3, 85, .inr (.inl w4))), (a 4, .inl (cm 4, 800, .inl fk)), (a 6, .inl (cm 6, 800, .inl fb)), (a 8, .inl (cm 8, 10240, .inl ff)), (a 9, .inl (cm 9, 10240, .inl fh))] H := hP
    have hD : va_D A [(a 5, .inl (cm 5, 800, .inl fv)), (a 7, .inl (cm 7, 800, .inl fr)), (a 10, .inl (cm 10, 10240, .inr (.inl fa))), (a 11, .inl (cm 11, 10240, .inr (.inl fs))), (h0, .inr (11, gM a i g)), (a 3, .inl (cm 3, 85, .inr (.inl w4))), (a 4, .inl (cm 4, 800, .inl fk)), (a 6, .inl (cm 6, 800, .inl fb)), (a 8, .inl (cm 8, 10240, .inl ff)), (a 9, .inl (cm 9, 10240, .inl fh))] := hD
    try dsimp only at hw
    clear hz1 hk1 hFc hPc hKc hDc
    have hR5 := hw
    refine lv_iload hx hb dX11_putsKey_22 (lv_at hl 1 rfl) ?_
    refine lv_if_ne (tgt := 48) hx hb dX11_putsKey_24 (by decide) (fun hc => absurd (by decide) hc) (fun hc => ?_)
    refine lv_aload_n hx hb dX11_putsKey_27 rfl (lv_at hl 2 rfl) ?_
    refine va_get (D := D) (ci := 11) (v := .ref (a 5)) (C := RX11) (T := TX11) (N := 47) hx hb hts hin_X11 hown hK hP 4 rfl rfl 5 (by decide) (hts (.fieldLink RX11 21 "ClashFreeModel" "values" "[I") (List.mem_of_getElem? (i := 11) rfl)) (fun _ h9 => h9) rfl dX11_putsKey_28 ?_
    refine lv_sipush (v := 160) hx hb dX11_putsKey_31 (by decide) ?_
    refine lv_iload_n hx hb dX11_putsKey_34 rfl (lv_at hl 3 rfl) ?_
    refine lv_imul hx hb dX11_putsKey_35 ?_
    refine lv_aload_n hx hb dX11_putsKey_36 rfl (lv_at hl 2 rfl) ?_
    refine lv_iload_n hx hb dX11_putsKey_37 rfl (lv_at hl 3 rfl) ?_
    refine lv_iload_n hx hb dX11_putsKey_38 rfl (lv_at hl 4 rfl) ?_
    refine lv_i2l hx hb dX11_putsKey_39 rfl ?_
    refine lv_topl (fun v6 ev6 => ?_)
    obtain rfl : v6 = lN kx := ev6.trans (nI_l (by omega))
    have hPc := hP.sub (ws' := [(h0, .inr (11, gM a i g)), (a 3, .inl (cm 3, 85, .inr (.inl w4))), (a 4, .inl (cm 4, 800, .inl fk))]) [4, 5, 6] rfl
    have hKc := hK.sub (tys' := [(cm 3, .long), (cm 4, .int)]) [0, 1] rfl
    have hFc := va_free0 hS hA
    refine va_calli (va_runV (As := [.int (nI k), .long (lN kx)]) (rest := [.int (160 * (nI k)), .ref (a 5)]) ⟨hx, hb, hml, hown, hts⟩ (c_whereOf l D _ h0 a cm i g w4 fk k cn K (lN kx) (by first | assumption | omega) ((hR5 _ (by omega)).trans h1) (by first | assumption | omega) hKy) (cwV 2 hts g_c_putsKey_c_whereOf_99 rfl rfl rfl (by decide +kernel) ⟨(Nat.le_of_ble_eq_true rfl), (Nat.le_of_ble_eq_true rfl)⟩) (PcR_V (q0 := 0) hPc hKc rfl rfl) rfl rfl hl.1 rfl (lv_room (Nat.le_of_ble_eq_true rfl)) dX11_putsKey_40 ⟨(Nat.le_of_ble_eq_true rfl), (Nat.le_of_ble_eq_true rfl)⟩) hS (fun q _ h => hFc q h) hFc (fun r7 uu tt H locs htt hvm hw hB hz1 hk1 hS => ?_)
    have hP := va_keep hP hk1
    try dsimp only at hw
    clear hB hz1 hk1 hFc hPc hKc
    obtain ⟨q8, hq8a, rfl, hq8b, hq8c⟩ := hw
    refine lv_iadd hx hb dX11_putsKey_43 ?_
    refine lv_topi (fun v9 ev9 => ?_)
    obtain rfl : v9 = nI (160 * k + q8) := ev9.trans (ix160 k _)
    refine lv_iload_n hx hb dX11_putsKey_44 rfl (lv_at hl 5 rfl) ?_
    refine va_iast hx hb hK hP hD hS 0 2 rfl rfl (vp_in_nI (by omega) (by decide)) dX11_putsKey_45 (fun H locs hP hD hS => ?_)
    have hP : va_P D vwCl [(a 5, .inl (cm 5, 800, .inl (upd fv (Int32.toNatClampNeg (nI (160 * k + q8))) z3))), (a 7, .inl (cm 7, 800, .inl fr)), (a 10, .inl (cm 10, 10240, .inr (.inl fa))), (a 11, .inl (cm 11, 10240, .inr (.inl fs))), (h0, .inr (11, gM a i g)), (a 3, .inl (cm 3, 85, .inr (.inl w4))), (a 4, .inl (cm 4, 800, .inl fk)), (a 6, .inl (cm 6, 800, .inl fb)), (a 8, .inl (cm 8, 10240, .inl ff)), (a 9, .inl (cm 9, 10240, .inl fh))] H := hP
    have hD : va_D A [(a 5, .inl (cm 5, 800, .inl (upd fv (Int32.toNatClampNeg (nI (160 * k + q8))) z3))), (a 7, .inl (cm 7, 800, .inl fr)), (a 10, .inl (cm 10, 10240, .inr (.inl fa))), (a 11, .inl (cm 11, 10240, .inr (.inl fs))), (h0, .inr (11, gM a i g)), (a 3, .inl (cm 3, 85, .inr (.inl w4))), (a 4, .inl (cm 4, 800, .inl fk)), (a 6, .inl (cm 6, 800, .inl fb)), (a 8, .inl (cm 8, 10240, .inl ff)), (a 9, .inl (cm 9, 10240, .inl fh))] := hD
    rw [show (upd fv (Int32.toNatClampNeg (nI (160 * k + q8))) z3) = (upd fv (160 * k + q8) z3) from by rw [nI_clamp (by omega)]] at hP hD
    obtain ⟨hqlt, hqe⟩ := wh_at hkx (fun j a => (hKy.1 j a).2) hKy.2 hq8b hq8c hj0 ej0
    refine lv_iconst (v := 0) hx hb dX11_putsKey_46 (by decide) ?_
    have hTz : TabS k cn nb K J w4 fk fb ff fh := ⟨((hR5 _ (by omega)).trans h1), hcn, ((hR5 _ (by omega)).trans h4), hn1, hn2, ⟨ka, kb, hka, hkb, ((hR5 _ (by omega)).trans h6), ((hR5 _ (by omega)).trans h7)⟩, hKy, hBk, hHs, ⟨bn, ns, gr, ((hR5 _ (by omega)).trans h14), hbn, ((hR5 _ (by omega)).trans h15), hs1, hs2, ((hR5 _ (by omega)).trans h16), hgr⟩⟩
    exact W.iret (v := 0) hx hb hr (fun t ht hW => ⟨⟨0, (w4, fk, (upd fv (160 * k + q8) z3), fb, fr, ff, fh, fa, fs, (g 12), (g 13), (g 14), (i 15)), rfl, ⟨⟨cn, nb, K, J, hTz⟩, hfa, hfs, fun x e => (hR5 x (by omega)), ((hR5 _ (by omega)).trans rfl), fun _ _ => rfl, fun _ _ => rfl, fun _ _ => rfl, fun _ _ => rfl, lsR_upd (fun x e => (hR5 x (by omega))) (fun _ _ => rfl) (fun x e => pk_un (by omega)) ((lsR_T hk hTz _).trans ((put_rR hKy.2 hqlt hqe).trans (congrArg (putL · kx z3) (lsR_T hk hT _).symm))), Or.inl ⟨rfl, _, hqlt, hqe⟩⟩, by rw [ht]; exact hP.sub [4, 5, 6, 0, 7, 1, 8, 9, 2, 3] rfl, va_K.moved hW.alike (hK.sub [0, 1, 2, 3, 4, 5, 6, 7, 8] rfl), hD.sub [4, 5, 6, 0, 7, 1, 8, 9, 2, 3] (by decide) rfl⟩, hS.F ht⟩) hS.2.2 dX11_putsKey_47
  ·
    have hNK : ∀ j, j < cn → K j ≠ kx := hA_r1.1
    have hc160 : cn < 160 := by
      rcases hfl with z | ⟨q, h1, h2⟩
      · exact z
      · exact absurd h2 (hNK q h1)
    have hlt := hA_r1.2 rf hrf hq3
    refine lv_istore (lv' := [(4, .int 1), (0, .ref h0), (1, .int (nI k)), (2, .int (nI kx)), (3, .int z3)]) hx hb dX11_putsKey_6 hl (by decide) rfl (fun ls hl => ?_)
    refine lv_aload_n hx hb dX11_putsKey_8 rfl (lv_at hl 1 rfl) ?_
    refine lv_iload_n hx hb dX11_putsKey_9 rfl (lv_at hl 2 rfl) ?_
    refine lv_iload_n hx hb dX11_putsKey_10 rfl (lv_at hl 3 rfl) ?_
    have hPc := hP.sub (ws' := [(h0, .inr (11, gM a i g)), (a 3, .inl (cm 3, 85, .inr (.inl fn)))]) [0, 1] rfl
    have hKc := hK.sub (tys' := [(cm 3, .long)]) [0] rfl
    have hFc := va_free0 hS hA
    refine va_calli (va_runV (As := [.int (nI k), .int (nI kx)]) (rest := []) ⟨hx, hb, hml, hown, hts⟩ (c_bucketOf l D _ h0 a cm i g fn k kx ka kb nb (by first | assumption | omega) (by first | assumption | omega | exact hKl _ (by omega)) h6 h7 h4 (by first | assumption | omega) (by first | assumption | omega) (by first | assumption | omega) (by first | assumption | omega)) (cwV 2 hts g_c_putsKey_c_bucketOf_155 rfl rfl rfl (by decide +kernel) ⟨(Nat.le_of_ble_eq_true rfl), (Nat.le_of_ble_eq_true rfl)⟩) (PcR_V (q0 := 0) hPc hKc rfl rfl) rfl rfl hl.1 rfl (lv_room (Nat.le_of_ble_eq_true rfl)) dX11_putsKey_11 ⟨(Nat.le_of_ble_eq_true rfl), (Nat.le_of_ble_eq_true rfl)⟩) hS (fun q _ h => hFc q h) hFc (fun r10 uu tt H locs htt hvm hw hB hz1 hk1 hS => ?_)
    have hP := va_keep hP hk1
    try dsimp only at hw
    clear hB hz1 hk1 hFc hPc hKc
    obtain rfl : r10 = nI ((ka * kx + kb) % 2147483647 % nb) := hw
    refine lv_istore (lv' := [(5, .int (nI ((ka * kx + kb) % 2147483647 % nb))), (4, .int 1), (0, .ref h0), (1, .int (nI k)), (2, .int (nI kx)), (3, .int z3)]) hx hb dX11_putsKey_14 hl (by decide) rfl (fun ls hl => ?_)
    refine lv_aload_n hx hb dX11_putsKey_16 rfl (lv_at hl 2 rfl) ?_
    refine lv_iload_n hx hb dX11_putsKey_17 rfl (lv_at hl 3 rfl) ?_
    refine lv_iload_n hx hb dX11_putsKey_18 rfl (lv_at hl 4 rfl) ?_
    have hPc := hP.sub (ws' := [(h0, .inr (11, gM a i g)), (a 3, .inl (cm 3, 85, .inr (.inl fn))), (a 4, .inl (cm 4, 800, .inl fk)), (a 6, .inl (cm 6, 800, .inl fb)), (a 8, .inl (cm 8, 10240, .inl ff)), (a 9, .inl (cm 9, 10240, .inl fh))]) [0, 1, 2, 4, 6, 7] rfl
    have hKc := hK.sub (tys' := [(cm 3, .long), (cm 4, .int), (cm 6, .int), (cm 8, .int), (cm 9, .int)]) [0, 1, 3, 5, 6] rfl
    have hDc := hD.sub (ws' := [(h0, .inr (11, gM a i g)), (a 3, .inl (cm 3, 85, .inr (.inl fn))), (a 4, .inl (cm 4, 800, .inl fk)), (a 6, .inl (cm 6, 800, .inl fb)), (a 8, .inl (cm 8, 10240, .inl ff)), (a 9, .inl (cm 9, 10240, .inl fh))]) [0, 1, 2, 4, 6, 7] (by decide) rfl
    have hFc := va_free (wc := [(h0, .inr (11, gM a i g)), (a 3, .inl (cm 3, 85, .inr (.inl fn))), (a 4, .inl (cm 4, 800, .inl fk)), (a 6, .inl (cm 6, 800, .inl fb)), (a 8, .inl (cm 8, 10240, .inl ff)), (a 9, .inl (cm 9, 10240, .inl fh))]) hD hS hA [0, 1, 2, 4, 6, 7] rfl
    refine va_callv (va_runV (As := [.int (nI k), .int (nI kx)]) (rest := []) ⟨hx, hb, hml, hown, hts⟩ (c_readsFor l D _ h0 a cm i g fn fk fb ff fh k cn nb K J kx (by first | assumption | omega) hT (by first | assumption | omega)) (cwV 2 hts g_c_putsKey_c_readsFor_215 rfl rfl rfl (by decide +kernel) ⟨(Nat.le_of_ble_eq_true rfl), (Nat.le_of_ble_eq_true rfl)⟩) (PcW_V (q0 := 0) hPc hKc hDc rfl rfl) rfl rfl hl.1 rfl (lv_room (Nat.le_of_ble_eq_true rfl)) dX11_putsKey_19 ⟨(Nat.le_of_ble_eq_true rfl), (Nat.le_of_ble_eq_true rfl)⟩) hS (fun q _ h => hFc q h) hFc (fun uu tt H locs htt hvm hw hB hz1 hk1 hS => ?_)
    obtain ⟨w12, rfl⟩ : ∃ z, z = uu := ⟨_, rfl⟩
    obtain ⟨hP1, hK1, hD1⟩ := hB
    rw [htt] at hP1
    have hK1 := va_K.moved hvm.symm hK1
    have hP1 : va_P D vwCl [(h0, .inr (11, gM a i g)), (a 3, .inl (cm 3, 85, .inr (.inl w12))), (a 4, .inl (cm 4, 800, .inl fk)), (a 6, .inl (cm 6, 800, .inl fb)), (a 8, .inl (cm 8, 10240, .inl ff)), (a 9, .inl (cm 9, 10240, .inl fh))] H := hP1
    obtain ⟨hP, hD⟩ := va_join (wr := [(a 5, .inl (cm 5, 800, .inl fv)), (a 7, .inl (cm 7, 800, .inl fr)), (a 10, .inl (cm 10, 10240, .inr (.inl fa))), (a 11, .inl (cm 11, 10240, .inr (.inl fs)))]) (w1 := [(h0, .inr (11, gM a i g)), (a 3, .inl (cm 3, 85, .inr (.inl w12))), (a 4, .inl (cm 4, 800, .inl fk)), (a 6, .inl (cm 6, 800, .inl fb)), (a 8, .inl (cm 8, 10240, .inl ff)), (a 9, .inl (cm 9, 10240, .inl fh))]) hP hD [0, 1, 2, 4, 6, 7] [3, 5, 8, 9] rfl rfl (by decide) (by decide) hk1 hFc hP1 hD1
    have hP : va_P D vwCl [(a 5, .inl (cm 5, 800, .inl fv)), (a 7, .inl (cm 7, 800, .inl fr)), (a 10, .inl (cm 10, 10240, .inr (.inl fa))), (a 11, .inl (cm 11, 10240, .inr (.inl fs))), (h0, .inr (11, gM a i g)), (a 3, .inl (cm 3, 85, .inr (.inl w12))), (a 4, .inl (cm 4, 800, .inl fk)), (a 6, .inl (cm 6, 800, .inl fb)), (a 8, .inl (cm 8, 10240, .inl ff)), (a 9, .inl (cm 9, 10240, .inl fh))] H := hP
    have hD : va_D A [(a 5, .inl (cm 5, 800, .inl fv)), (a 7, .inl (cm 7, 800, .inl fr)), (a 10, .inl (cm 10, 10240, .inr (.inl fa))), (a 11, .inl (cm 11, 10240, .inr (.inl fs))), (h0, .inr (11, gM a i g)), (a 3, .inl (cm 3, 85, .inr (.inl w12))), (a 4, .inl (cm 4, 800, .inl fk)), (a 6, .inl (cm 6, 800, .inl fb)), (a 8, .inl (cm 8, 10240, .inl ff)), (a 9, .inl (cm 9, 10240, .inl fh))] := hD
    try dsimp only at hw
    clear hz1 hk1 hFc hPc hKc hDc
    have hR13 := hw
    refine lv_iload hx hb dX11_putsKey_22 (lv_at hl 1 rfl) ?_
    refine lv_if_ne (tgt := 48) hx hb dX11_putsKey_24 (by decide) (fun hc => ?_) (fun hc => absurd hc (by decide))
    refine lv_aload_n hx hb dX11_putsKey_48 rfl (lv_at hl 2 rfl) ?_
    refine lv_iload_n hx hb dX11_putsKey_49 rfl (lv_at hl 3 rfl) ?_
    refine lv_iconst (v := 3) hx hb dX11_putsKey_50 (by decide) ?_
    refine lv_lconst (v := 1) hx hb dX11_putsKey_51 (by decide) ?_
    have hPc := hP.sub (ws' := [(h0, .inr (11, gM a i g)), (a 3, .inl (cm 3, 85, .inr (.inl w12)))]) [4, 5] rfl
    have hKc := hK.sub (tys' := [(cm 3, .long)]) [0] rfl
    have hDc := hD.sub (ws' := [(h0, .inr (11, gM a i g)), (a 3, .inl (cm 3, 85, .inr (.inl w12)))]) [4, 5] (by decide) rfl
    have hFc := va_free (wc := [(h0, .inr (11, gM a i g)), (a 3, .inl (cm 3, 85, .inr (.inl w12)))]) hD hS hA [4, 5] rfl
    refine va_callv (va_runV (As := [.int (nI k), .int (nI 3), .long 1]) (rest := []) ⟨hx, hb, hml, hown, hts⟩ (c_adds l D _ h0 a cm i g w12 k 3 1 (by first | assumption | omega) (by first | assumption | omega)) (cwV 3 hts g_c_putsKey_c_adds_130 rfl rfl rfl (by decide +kernel) ⟨(Nat.le_of_ble_eq_true rfl), (Nat.le_of_ble_eq_true rfl)⟩) (PcW_V (q0 := 0) hPc hKc hDc rfl rfl) rfl rfl hl.1 rfl (lv_room (Nat.le_of_ble_eq_true rfl)) dX11_putsKey_52 ⟨(Nat.le_of_ble_eq_true rfl), (Nat.le_of_ble_eq_true rfl)⟩) hS (fun q _ h => hFc q h) hFc (fun uu tt H locs htt hvm hw hB hz1 hk1 hS => ?_)
    obtain ⟨w15, rfl⟩ : ∃ z, z = uu := ⟨_, rfl⟩
    obtain ⟨hP1, hK1, hD1⟩ := hB
    rw [htt] at hP1
    have hK1 := va_K.moved hvm.symm hK1
    have hP1 : va_P D vwCl [(h0, .inr (11, gM a i g)), (a 3, .inl (cm 3, 85, .inr (.inl w15)))] H := hP1
    obtain ⟨hP, hD⟩ := va_join (wr := [(a 5, .inl (cm 5, 800, .inl fv)), (a 7, .inl (cm 7, 800, .inl fr)), (a 10, .inl (cm 10, 10240, .inr (.inl fa))), (a 11, .inl (cm 11, 10240, .inr (.inl fs))), (a 4, .inl (cm 4, 800, .inl fk)), (a 6, .inl (cm 6, 800, .inl fb)), (a 8, .inl (cm 8, 10240, .inl ff)), (a 9, .inl (cm 9, 10240, .inl fh))]) (w1 := [(h0, .inr (11, gM a i g)), (a 3, .inl (cm 3, 85, .inr (.inl w15)))]) hP hD [4, 5] [0, 1, 2, 3, 6, 7, 8, 9] rfl rfl (by decide) (by decide) hk1 hFc hP1 hD1
    have hP : va_P D vwCl [(a 5, .inl (cm 5, 800, .inl fv)), (a 7, .inl (cm 7, 800, .inl fr)), (a 10, .inl (cm 10, 10240, .inr (.inl fa))), (a 11, .inl (cm 11, 10240, .inr (.inl fs))), (a 4, .inl (cm 4, 800, .inl fk)), (a 6, .inl (cm 6, 800, .inl fb)), (a 8, .inl (cm 8, 10240, .inl ff)), (a 9, .inl (cm 9, 10240, .inl fh)), (h0, .inr (11, gM a i g)), (a 3, .inl (cm 3, 85, .inr (.inl w15)))] H := hP
    have hD : va_D A [(a 5, .inl (cm 5, 800, .inl fv)), (a 7, .inl (cm 7, 800, .inl fr)), (a 10, .inl (cm 10, 10240, .inr (.inl fa))), (a 11, .inl (cm 11, 10240, .inr (.inl fs))), (a 4, .inl (cm 4, 800, .inl fk)), (a 6, .inl (cm 6, 800, .inl fb)), (a 8, .inl (cm 8, 10240, .inl ff)), (a 9, .inl (cm 9, 10240, .inl fh)), (h0, .inr (11, gM a i g)), (a 3, .inl (cm 3, 85, .inr (.inl w15)))] := hD
    try dsimp only at hw
    clear hz1 hk1 hFc hPc hKc hDc
    have hL16 := hw
    refine lv_aload_n hx hb dX11_putsKey_55 rfl (lv_at hl 2 rfl) ?_
    refine lv_iload_n hx hb dX11_putsKey_56 rfl (lv_at hl 3 rfl) ?_
    refine lv_iload_n hx hb dX11_putsKey_57 rfl (lv_at hl 4 rfl) ?_
    refine lv_iload_n hx hb dX11_putsKey_58 rfl (lv_at hl 5 rfl) ?_
    have hPc := hP.sub (ws' := [(h0, .inr (11, gM a i g)), (a 3, .inl (cm 3, 85, .inr (.inl w15))), (a 4, .inl (cm 4, 800, .inl fk)), (a 5, .inl (cm 5, 800, .inl fv)), (a 6, .inl (cm 6, 800, .inl fb)), (a 7, .inl (cm 7, 800, .inl fr))]) [8, 9, 4, 0, 5, 1] rfl
    have hKc := hK.sub (tys' := [(cm 3, .long), (cm 4, .int), (cm 5, .int), (cm 6, .int), (cm 7, .int)]) [0, 1, 2, 3, 4] rfl
    have hDc := hD.sub (ws' := [(h0, .inr (11, gM a i g)), (a 3, .inl (cm 3, 85, .inr (.inl w15))), (a 4, .inl (cm 4, 800, .inl fk)), (a 5, .inl (cm 5, 800, .inl fv)), (a 6, .inl (cm 6, 800, .inl fb)), (a 7, .inl (cm 7, 800, .inl fr))]) [8, 9, 4, 0, 5, 1] (by decide) rfl
    have hFc := va_free (wc := [(h0, .inr (11, gM a i g)), (a 3, .inl (cm 3, 85, .inr (.inl w15))), (a 4, .inl (cm 4, 800, .inl fk)), (a 5, .inl (cm 5, 800, .inl fv)), (a 6, .inl (cm 6, 800, .inl fb)), (a 7, .inl (cm 7, 800, .inl fr))]) hD hS hA [8, 9, 4, 0, 5, 1] rfl
    refine va_callv (va_runV (As := [.int (nI k), .int (nI kx), .int z3]) (rest := []) ⟨hx, hb, hml, hown, hts⟩ (c_comes l D _ h0 a cm i g w15 fk fv fb fr k cn K kx z3 ka kb nb (by first | assumption | omega) ((hL16.2 _ (by omega)).trans ((hR13 _ (by omega)).trans h1)) (by first | assumption | omega) hKy (by first | assumption | omega) ((hL16.2 _ (by omega)).trans ((hR13 _ (by omega)).trans h6)) ((hL16.2 _ (by omega)).trans ((hR13 _ (by omega)).trans h7)) ((hL16.2 _ (by omega)).trans ((hR13 _ (by omega)).trans h4)) (by first | assumption | omega) (by first | assumption | omega) (by first | assumption | omega) (by first | assumption | omega)) (cwV 3 hts g_c_putsKey_c_comes_218 rfl rfl rfl (by decide +kernel) ⟨(Nat.le_of_ble_eq_true rfl), (Nat.le_of_ble_eq_true rfl)⟩) (PcW_V (q0 := 0) hPc hKc hDc rfl rfl) rfl rfl hl.1 rfl (lv_room (Nat.le_of_ble_eq_true rfl)) dX11_putsKey_59 ⟨(Nat.le_of_ble_eq_true rfl), (Nat.le_of_ble_eq_true rfl)⟩) hS (fun q _ h => hFc q h) hFc (fun uu tt H locs htt hvm hw hB hz1 hk1 hS => ?_)
    obtain ⟨w18, w19, w20, w21, w22⟩ := uu
    obtain ⟨hP1, hK1, hD1⟩ := hB
    rw [htt] at hP1
    have hK1 := va_K.moved hvm.symm hK1
    have hP1 : va_P D vwCl [(h0, .inr (11, gM a i g)), (a 3, .inl (cm 3, 85, .inr (.inl w18))), (a 4, .inl (cm 4, 800, .inl w19)), (a 5, .inl (cm 5, 800, .inl w20)), (a 6, .inl (cm 6, 800, .inl w21)), (a 7, .inl (cm 7, 800, .inl w22))] H := hP1
    obtain ⟨hP, hD⟩ := va_join (wr := [(a 10, .inl (cm 10, 10240, .inr (.inl fa))), (a 11, .inl (cm 11, 10240, .inr (.inl fs))), (a 8, .inl (cm 8, 10240, .inl ff)), (a 9, .inl (cm 9, 10240, .inl fh))]) (w1 := [(h0, .inr (11, gM a i g)), (a 3, .inl (cm 3, 85, .inr (.inl w18))), (a 4, .inl (cm 4, 800, .inl w19)), (a 5, .inl (cm 5, 800, .inl w20)), (a 6, .inl (cm 6, 800, .inl w21)), (a 7, .inl (cm 7, 800, .inl w22))]) hP hD [8, 9, 4, 0, 5, 1] [2, 3, 6, 7] rfl rfl (by decide) (by decide) hk1 hFc hP1 hD1
    have hP : va_P D vwCl [(a 10, .inl (cm 10, 10240, .inr (.inl fa))), (a 11, .inl (cm 11, 10240, .inr (.inl fs))), (a 8, .inl (cm 8, 10240, .inl ff)), (a 9, .inl (cm 9, 10240, .inl fh)), (h0, .inr (11, gM a i g)), (a 3, .inl (cm 3, 85, .inr (.inl w18))), (a 4, .inl (cm 4, 800, .inl w19)), (a 5, .inl (cm 5, 800, .inl w20)), (a 6, .inl (cm 6, 800, .inl w21)), (a 7, .inl (cm 7, 800, .inl w22))] H := hP
    have hD : va_D A [(a 10, .inl (cm 10, 10240, .inr (.inl fa))), (a 11, .inl (cm 11, 10240, .inr (.inl fs))), (a 8, .inl (cm 8, 10240, .inl ff)), (a 9, .inl (cm 9, 10240, .inl fh)), (h0, .inr (11, gM a i g)), (a 3, .inl (cm 3, 85, .inr (.inl w18))), (a 4, .inl (cm 4, 800, .inl w19)), (a 5, .inl (cm 5, 800, .inl w20)), (a 6, .inl (cm 6, 800, .inl w21)), (a 7, .inl (cm 7, 800, .inl w22))] := hD
    try dsimp only at hw
    clear hz1 hk1 hFc hPc hKc hDc
    obtain ⟨hC23_q, hC23_a, hC23_b, hC23_c, hC23_1, hC23_2, hC23_3, hC23_n, hC23_f⟩ := hw
    have hC23_K := Ky_ins hKy hC23_1 hC23_a hkx hC23_b hC23_c hNK
    have hC23_J := Bk_ins hBk hC23_3 hC23_a hbl
    have hC23_J2 : BkS k w21 (cn + 1) 2048 (insN J hC23_q ((ka * kx + kb) % 2147483647 % nb)) := fun y a => ⟨(hC23_J y a).1, by have := (hC23_J y a).2; omega⟩
    refine lv_iload hx hb dX11_putsKey_62 (lv_at hl 1 rfl) ?_
    refine lv_iconst (v := 4) hx hb dX11_putsKey_64 (by decide) ?_
    refine lv_icmp_ne (tgt := 83) hx hb dX11_putsKey_65 (by decide) (fun hc => ?_) (fun hc => absurd hc (by decide))
    refine lv_aload_n hx hb dX11_putsKey_83 rfl (lv_at hl 2 rfl) ?_
    refine va_get (D := D) (ci := 11) (v := .ref (a 9)) (C := RX11) (T := TX11) (N := 47) hx hb hts hin_X11 hown hK hP 4 rfl rfl 9 (by decide) (hts (.fieldLink RX11 33 "ClashFreeModel" "has" "[I") (List.mem_of_getElem? (i := 21) rfl)) (fun _ h9 => h9) rfl dX11_putsKey_84 ?_
    refine lv_sipush (v := 2048) hx hb dX11_putsKey_87 (by decide) ?_
    refine lv_iload_n hx hb dX11_putsKey_90 rfl (lv_at hl 3 rfl) ?_
    refine lv_imul hx hb dX11_putsKey_91 ?_
    refine lv_iload hx hb dX11_putsKey_92 (lv_at hl 0 rfl) ?_
    refine lv_iadd hx hb dX11_putsKey_94 ?_
    refine lv_topi (fun v24 ev24 => ?_)
    obtain rfl : v24 = nI (2048 * k + ((ka * kx + kb) % 2147483647 % nb)) := ev24.trans (ix2048 k _)
    refine lv_dup2_11 hx hb dX11_putsKey_95 rfl rfl ?_
    refine va_iald hx hb hK hP 3 6 rfl rfl (vp_in_nI (by omega) (by decide)) dX11_putsKey_96 ?_
    refine lv_topi (fun v25 ev25 => ?_)
    obtain rfl : v25 = nI (cntJ J cn ((ka * kx + kb) % 2147483647 % nb)) := ev25.trans (by rw [nI_clamp (by omega)]; exact hq1)
    refine lv_iconst (v := 1) hx hb dX11_putsKey_97 (by decide) ?_
    refine lv_iadd hx hb dX11_putsKey_98 ?_
    refine lv_topi (fun v26 ev26 => ?_)
    obtain rfl : v26 = nI (cntJ J cn ((ka * kx + kb) % 2147483647 % nb) + 1) := ev26.trans (nI_1 _)
    refine va_iast hx hb hK hP hD hS 3 6 rfl rfl (vp_in_nI (by omega) (by decide)) dX11_putsKey_99 (fun H locs hP hD hS => ?_)
    have hP : va_P D vwCl [(a 10, .inl (cm 10, 10240, .inr (.inl fa))), (a 11, .inl (cm 11, 10240, .inr (.inl fs))), (a 8, .inl (cm 8, 10240, .inl ff)), (a 9, .inl (cm 9, 10240, .inl (upd fh (Int32.toNatClampNeg (nI (2048 * k + ((ka * kx + kb) % 2147483647 % nb)))) (nI (cntJ J cn ((ka * kx + kb) % 2147483647 % nb) + 1))))), (h0, .inr (11, gM a i g)), (a 3, .inl (cm 3, 85, .inr (.inl w18))), (a 4, .inl (cm 4, 800, .inl w19)), (a 5, .inl (cm 5, 800, .inl w20)), (a 6, .inl (cm 6, 800, .inl w21)), (a 7, .inl (cm 7, 800, .inl w22))] H := hP
    have hD : va_D A [(a 10, .inl (cm 10, 10240, .inr (.inl fa))), (a 11, .inl (cm 11, 10240, .inr (.inl fs))), (a 8, .inl (cm 8, 10240, .inl ff)), (a 9, .inl (cm 9, 10240, .inl (upd fh (Int32.toNatClampNeg (nI (2048 * k + ((ka * kx + kb) % 2147483647 % nb)))) (nI (cntJ J cn ((ka * kx + kb) % 2147483647 % nb) + 1))))), (h0, .inr (11, gM a i g)), (a 3, .inl (cm 3, 85, .inr (.inl w18))), (a 4, .inl (cm 4, 800, .inl w19)), (a 5, .inl (cm 5, 800, .inl w20)), (a 6, .inl (cm 6, 800, .inl w21)), (a 7, .inl (cm 7, 800, .inl w22))] := hD
    rw [show (upd fh (Int32.toNatClampNeg (nI (2048 * k + ((ka * kx + kb) % 2147483647 % nb)))) (nI (cntJ J cn ((ka * kx + kb) % 2147483647 % nb) + 1))) = (upd fh (2048 * k + ((ka * kx + kb) % 2147483647 % nb)) (nI (cntJ J cn ((ka * kx + kb) % 2147483647 % nb) + 1))) from by rw [nI_clamp (by omega)]] at hP hD
    refine lv_iload hx hb dX11_putsKey_100 (lv_at hl 1 rfl) ?_
    refine lv_iconst (v := 1) hx hb dX11_putsKey_102 (by decide) ?_
    refine lv_icmp_ne (tgt := 134) hx hb dX11_putsKey_103 (by decide) (fun hc => absurd (by decide) hc) (fun hc => ?_)
    refine lv_aload_n hx hb dX11_putsKey_106 rfl (lv_at hl 2 rfl) ?_
    refine va_get (D := D) (ci := 11) (v := .ref (a 7)) (C := RX11) (T := TX11) (N := 47) hx hb hts hin_X11 hown hK hP 4 rfl rfl 7 (by decide) (hts (.fieldLink RX11 27 "ClashFreeModel" "inRoom" "[I") (List.mem_of_getElem? (i := 22) rfl)) (fun _ h9 => h9) rfl dX11_putsKey_107 ?_
    refine lv_sipush (v := 160) hx hb dX11_putsKey_110 (by decide) ?_
    refine lv_iload_n hx hb dX11_putsKey_113 rfl (lv_at hl 3 rfl) ?_
    refine lv_imul hx hb dX11_putsKey_114 ?_
    refine lv_aload_n hx hb dX11_putsKey_115 rfl (lv_at hl 2 rfl) ?_
    refine lv_iload_n hx hb dX11_putsKey_116 rfl (lv_at hl 3 rfl) ?_
    refine lv_iload_n hx hb dX11_putsKey_117 rfl (lv_at hl 4 rfl) ?_
    refine lv_i2l hx hb dX11_putsKey_118 rfl ?_
    refine lv_topl (fun v27 ev27 => ?_)
    obtain rfl : v27 = lN kx := ev27.trans (nI_l (by omega))
    have hPc := hP.sub (ws' := [(h0, .inr (11, gM a i g)), (a 3, .inl (cm 3, 85, .inr (.inl w18))), (a 4, .inl (cm 4, 800, .inl w19))]) [4, 5, 6] rfl
    have hKc := hK.sub (tys' := [(cm 3, .long), (cm 4, .int)]) [0, 1] rfl
    have hFc := va_free0 hS hA
    refine va_calli (va_runV (As := [.int (nI k), .long (lN kx)]) (rest := [.int (160 * (nI k)), .ref (a 7)]) ⟨hx, hb, hml, hown, hts⟩ (c_whereOf l D _ h0 a cm i g w18 w19 k (cn + 1) (insN K hC23_q kx) (lN kx) (by first | assumption | omega) hC23_n (by first | assumption | omega) hC23_K) (cwV 2 hts g_c_putsKey_c_whereOf_99 rfl rfl rfl (by decide +kernel) ⟨(Nat.le_of_ble_eq_true rfl), (Nat.le_of_ble_eq_true rfl)⟩) (PcR_V (q0 := 0) hPc hKc rfl rfl) rfl rfl hl.1 rfl (lv_room (Nat.le_of_ble_eq_true rfl)) dX11_putsKey_119 ⟨(Nat.le_of_ble_eq_true rfl), (Nat.le_of_ble_eq_true rfl)⟩) hS (fun q _ h => hFc q h) hFc (fun r28 uu tt H locs htt hvm hw hB hz1 hk1 hS => ?_)
    have hP := va_keep hP hk1
    try dsimp only at hw
    clear hB hz1 hk1 hFc hPc hKc
    obtain ⟨q29, hq29a, rfl, hq29b, hq29c⟩ := hw
    refine lv_iadd hx hb dX11_putsKey_122 ?_
    refine lv_topi (fun v30 ev30 => ?_)
    obtain rfl : v30 = nI (160 * k + q29) := ev30.trans (ix160 k _)
    refine lv_aload_n hx hb dX11_putsKey_123 rfl (lv_at hl 2 rfl) ?_
    refine lv_iload_n hx hb dX11_putsKey_124 rfl (lv_at hl 3 rfl) ?_
    refine lv_iload hx hb dX11_putsKey_125 (lv_at hl 0 rfl) ?_
    refine lv_iload_n hx hb dX11_putsKey_127 rfl (lv_at hl 4 rfl) ?_
    have hPc := hP.sub (ws' := [(h0, .inr (11, gM a i g)), (a 8, .inl (cm 8, 10240, .inl ff)), (a 10, .inl (cm 10, 10240, .inr (.inl fa))), (a 11, .inl (cm 11, 10240, .inr (.inl fs)))]) [4, 2, 0, 1] rfl
    have hKc := hK.sub (tys' := [(cm 8, .int), (cm 10, .long), (cm 11, .long)]) [5, 7, 8] rfl
    have hFc := va_free0 hS hA
    refine va_calli (va_runV (As := [.int (nI k), .int (nI ((ka * kx + kb) % 2147483647 % nb)), .int (nI kx)]) (rest := [.int (nI (160 * k + q29)), .ref (a 7)]) ⟨hx, hb, hml, hown, hts⟩ (c_roomOf l D _ h0 a cm i g ff fa fs k ((ka * kx + kb) % 2147483647 % nb) kx rf (by first | assumption | omega) (by first | assumption | omega) (by first | assumption | omega | exact hKl _ (by omega)) hrf (by first | assumption | omega) (by first | assumption | omega) (by first | assumption | omega) (by first | assumption | omega)) (cwV 3 hts g_c_putsKey_c_roomOf_148 rfl rfl rfl (by decide +kernel) ⟨(Nat.le_of_ble_eq_true rfl), (Nat.le_of_ble_eq_true rfl)⟩) (PcR_V (q0 := 0) hPc hKc rfl rfl) rfl rfl hl.1 rfl (lv_room (Nat.le_of_ble_eq_true rfl)) dX11_putsKey_128 ⟨(Nat.le_of_ble_eq_true rfl), (Nat.le_of_ble_eq_true rfl)⟩) hS (fun q _ h => hFc q h) hFc (fun r31 uu tt H locs htt hvm hw hB hz1 hk1 hS => ?_)
    have hP := va_keep hP hk1
    try dsimp only at hw
    clear hB hz1 hk1 hFc hPc hKc
    refine va_iast hx hb hK hP hD hS 9 4 rfl rfl (vp_in_nI (by omega) (by decide)) dX11_putsKey_131 (fun H locs hP hD hS => ?_)
    have hP : va_P D vwCl [(a 10, .inl (cm 10, 10240, .inr (.inl fa))), (a 11, .inl (cm 11, 10240, .inr (.inl fs))), (a 8, .inl (cm 8, 10240, .inl ff)), (a 9, .inl (cm 9, 10240, .inl (upd fh (2048 * k + ((ka * kx + kb) % 2147483647 % nb)) (nI (cntJ J cn ((ka * kx + kb) % 2147483647 % nb) + 1))))), (h0, .inr (11, gM a i g)), (a 3, .inl (cm 3, 85, .inr (.inl w18))), (a 4, .inl (cm 4, 800, .inl w19)), (a 5, .inl (cm 5, 800, .inl w20)), (a 6, .inl (cm 6, 800, .inl w21)), (a 7, .inl (cm 7, 800, .inl (upd w22 (Int32.toNatClampNeg (nI (160 * k + q29))) r31)))] H := hP
    have hD : va_D A [(a 10, .inl (cm 10, 10240, .inr (.inl fa))), (a 11, .inl (cm 11, 10240, .inr (.inl fs))), (a 8, .inl (cm 8, 10240, .inl ff)), (a 9, .inl (cm 9, 10240, .inl (upd fh (2048 * k + ((ka * kx + kb) % 2147483647 % nb)) (nI (cntJ J cn ((ka * kx + kb) % 2147483647 % nb) + 1))))), (h0, .inr (11, gM a i g)), (a 3, .inl (cm 3, 85, .inr (.inl w18))), (a 4, .inl (cm 4, 800, .inl w19)), (a 5, .inl (cm 5, 800, .inl w20)), (a 6, .inl (cm 6, 800, .inl w21)), (a 7, .inl (cm 7, 800, .inl (upd w22 (Int32.toNatClampNeg (nI (160 * k + q29))) r31)))] := hD
    generalize upd w22 (Int32.toNatClampNeg (nI (160 * k + q29))) r31 = g32 at hP hD
    refine lv_iconst (v := 1) hx hb dX11_putsKey_132 (by decide) ?_
    have hTz : TabS k (cn + 1) nb (insN K hC23_q kx) (insN J hC23_q ((ka * kx + kb) % 2147483647 % nb)) w18 w19 w21 ff (upd fh (2048 * k + ((ka * kx + kb) % 2147483647 % nb)) (nI (cntJ J cn ((ka * kx + kb) % 2147483647 % nb) + 1))) := ⟨hC23_n, (by omega), ((hC23_f _ (by omega)).trans ((hL16.2 _ (by omega)).trans ((hR13 _ (by omega)).trans h4))), hn1, hn2, ⟨ka, kb, hka, hkb, ((hC23_f _ (by omega)).trans ((hL16.2 _ (by omega)).trans ((hR13 _ (by omega)).trans h6))), ((hC23_f _ (by omega)).trans ((hL16.2 _ (by omega)).trans ((hR13 _ (by omega)).trans h7)))⟩, hC23_K, hC23_J, Hs_ins hHs hC23_a hbl hrf (fun _ _ => rfl) hq3 (by omega), ⟨bn, ns, gr, ((hC23_f _ (by omega)).trans ((hL16.2 _ (by omega)).trans ((hR13 _ (by omega)).trans h14))), hbn, ((hC23_f _ (by omega)).trans ((hL16.2 _ (by omega)).trans ((hR13 _ (by omega)).trans h15))), hs1, hs2, ((hC23_f _ (by omega)).trans ((hL16.2 _ (by omega)).trans ((hR13 _ (by omega)).trans h16))), hgr⟩⟩
    exact W.iret (v := 1) hx hb hr (fun t ht hW => ⟨⟨1, (w18, w19, w20, w21, g32, ff, (upd fh (2048 * k + ((ka * kx + kb) % 2147483647 % nb)) (nI (cntJ J cn ((ka * kx + kb) % 2147483647 % nb) + 1))), fa, fs, (g 12), (g 13), (g 14), (i 15)), rfl, ⟨⟨_, _, _, _, hTz⟩, hfa, hfs, fun x e => (hC23_f x (by omega)).trans ((hL16.2 x (by omega)).trans ((hR13 x (by omega)))), ((hC23_f _ (by omega)).trans ((hL16.2 _ (by omega)).trans ((hR13 _ (by omega)).trans rfl))), hC23_1.2.2.2, hC23_3.2.2.2, fun _ _ => rfl, fun x e => pk_un (by omega), lsR_upd (fun x e => (hC23_f x (by omega)).trans ((hL16.2 x (by omega)).trans ((hR13 x (by omega))))) (hC23_1.2.2.2) (hC23_2.2.2.2) ((lsR_T hk hTz _).trans ((put_nR (fun j a => (hKy.1 j a).2) hkx hC23_2 hC23_a hC23_b hC23_c hNK).trans (congrArg (putL · kx z3) (lsR_T hk hT _).symm))), Or.inr ⟨by decide, hNK⟩⟩, by rw [ht]; exact hP.sub [4, 5, 6, 7, 8, 9, 2, 3, 0, 1] rfl, va_K.moved hW.alike (hK.sub [0, 1, 2, 3, 4, 5, 6, 7, 8] rfl), hD.sub [4, 5, 6, 7, 8, 9, 2, 3, 0, 1] (by decide) rfl⟩, hS.F ht⟩) hS.2.2 dX11_putsKey_133
  ·
    have hNK : ∀ j, j < cn → K j ≠ kx := hA_r1.1
    have hc160 : cn < 160 := by
      rcases hfl with z | ⟨q, h1, h2⟩
      · exact z
      · exact absurd h2 (hNK q h1)
    have hlt := hA_r1.2 rf hrf hq3
    refine lv_istore (lv' := [(4, .int 2), (0, .ref h0), (1, .int (nI k)), (2, .int (nI kx)), (3, .int z3)]) hx hb dX11_putsKey_6 hl (by decide) rfl (fun ls hl => ?_)
    refine lv_aload_n hx hb dX11_putsKey_8 rfl (lv_at hl 1 rfl) ?_
    refine lv_iload_n hx hb dX11_putsKey_9 rfl (lv_at hl 2 rfl) ?_
    refine lv_iload_n hx hb dX11_putsKey_10 rfl (lv_at hl 3 rfl) ?_
    have hPc := hP.sub (ws' := [(h0, .inr (11, gM a i g)), (a 3, .inl (cm 3, 85, .inr (.inl fn)))]) [0, 1] rfl
    have hKc := hK.sub (tys' := [(cm 3, .long)]) [0] rfl
    have hFc := va_free0 hS hA
    refine va_calli (va_runV (As := [.int (nI k), .int (nI kx)]) (rest := []) ⟨hx, hb, hml, hown, hts⟩ (c_bucketOf l D _ h0 a cm i g fn k kx ka kb nb (by first | assumption | omega) (by first | assumption | omega | exact hKl _ (by omega)) h6 h7 h4 (by first | assumption | omega) (by first | assumption | omega) (by first | assumption | omega) (by first | assumption | omega)) (cwV 2 hts g_c_putsKey_c_bucketOf_155 rfl rfl rfl (by decide +kernel) ⟨(Nat.le_of_ble_eq_true rfl), (Nat.le_of_ble_eq_true rfl)⟩) (PcR_V (q0 := 0) hPc hKc rfl rfl) rfl rfl hl.1 rfl (lv_room (Nat.le_of_ble_eq_true rfl)) dX11_putsKey_11 ⟨(Nat.le_of_ble_eq_true rfl), (Nat.le_of_ble_eq_true rfl)⟩) hS (fun q _ h => hFc q h) hFc (fun r33 uu tt H locs htt hvm hw hB hz1 hk1 hS => ?_)
    have hP := va_keep hP hk1
    try dsimp only at hw
    clear hB hz1 hk1 hFc hPc hKc
    obtain rfl : r33 = nI ((ka * kx + kb) % 2147483647 % nb) := hw
    refine lv_istore (lv' := [(5, .int (nI ((ka * kx + kb) % 2147483647 % nb))), (4, .int 2), (0, .ref h0), (1, .int (nI k)), (2, .int (nI kx)), (3, .int z3)]) hx hb dX11_putsKey_14 hl (by decide) rfl (fun ls hl => ?_)
    refine lv_aload_n hx hb dX11_putsKey_16 rfl (lv_at hl 2 rfl) ?_
    refine lv_iload_n hx hb dX11_putsKey_17 rfl (lv_at hl 3 rfl) ?_
    refine lv_iload_n hx hb dX11_putsKey_18 rfl (lv_at hl 4 rfl) ?_
    have hPc := hP.sub (ws' := [(h0, .inr (11, gM a i g)), (a 3, .inl (cm 3, 85, .inr (.inl fn))), (a 4, .inl (cm 4, 800, .inl fk)), (a 6, .inl (cm 6, 800, .inl fb)), (a 8, .inl (cm 8, 10240, .inl ff)), (a 9, .inl (cm 9, 10240, .inl fh))]) [0, 1, 2, 4, 6, 7] rfl
    have hKc := hK.sub (tys' := [(cm 3, .long), (cm 4, .int), (cm 6, .int), (cm 8, .int), (cm 9, .int)]) [0, 1, 3, 5, 6] rfl
    have hDc := hD.sub (ws' := [(h0, .inr (11, gM a i g)), (a 3, .inl (cm 3, 85, .inr (.inl fn))), (a 4, .inl (cm 4, 800, .inl fk)), (a 6, .inl (cm 6, 800, .inl fb)), (a 8, .inl (cm 8, 10240, .inl ff)), (a 9, .inl (cm 9, 10240, .inl fh))]) [0, 1, 2, 4, 6, 7] (by decide) rfl
    have hFc := va_free (wc := [(h0, .inr (11, gM a i g)), (a 3, .inl (cm 3, 85, .inr (.inl fn))), (a 4, .inl (cm 4, 800, .inl fk)), (a 6, .inl (cm 6, 800, .inl fb)), (a 8, .inl (cm 8, 10240, .inl ff)), (a 9, .inl (cm 9, 10240, .inl fh))]) hD hS hA [0, 1, 2, 4, 6, 7] rfl
    refine va_callv (va_runV (As := [.int (nI k), .int (nI kx)]) (rest := []) ⟨hx, hb, hml, hown, hts⟩ (c_readsFor l D _ h0 a cm i g fn fk fb ff fh k cn nb K J kx (by first | assumption | omega) hT (by first | assumption | omega)) (cwV 2 hts g_c_putsKey_c_readsFor_215 rfl rfl rfl (by decide +kernel) ⟨(Nat.le_of_ble_eq_true rfl), (Nat.le_of_ble_eq_true rfl)⟩) (PcW_V (q0 := 0) hPc hKc hDc rfl rfl) rfl rfl hl.1 rfl (lv_room (Nat.le_of_ble_eq_true rfl)) dX11_putsKey_19 ⟨(Nat.le_of_ble_eq_true rfl), (Nat.le_of_ble_eq_true rfl)⟩) hS (fun q _ h => hFc q h) hFc (fun uu tt H locs htt hvm hw hB hz1 hk1 hS => ?_)
    obtain ⟨w35, rfl⟩ : ∃ z, z = uu := ⟨_, rfl⟩
    obtain ⟨hP1, hK1, hD1⟩ := hB
    rw [htt] at hP1
    have hK1 := va_K.moved hvm.symm hK1
    have hP1 : va_P D vwCl [(h0, .inr (11, gM a i g)), (a 3, .inl (cm 3, 85, .inr (.inl w35))), (a 4, .inl (cm 4, 800, .inl fk)), (a 6, .inl (cm 6, 800, .inl fb)), (a 8, .inl (cm 8, 10240, .inl ff)), (a 9, .inl (cm 9, 10240, .inl fh))] H := hP1
    obtain ⟨hP, hD⟩ := va_join (wr := [(a 5, .inl (cm 5, 800, .inl fv)), (a 7, .inl (cm 7, 800, .inl fr)), (a 10, .inl (cm 10, 10240, .inr (.inl fa))), (a 11, .inl (cm 11, 10240, .inr (.inl fs)))]) (w1 := [(h0, .inr (11, gM a i g)), (a 3, .inl (cm 3, 85, .inr (.inl w35))), (a 4, .inl (cm 4, 800, .inl fk)), (a 6, .inl (cm 6, 800, .inl fb)), (a 8, .inl (cm 8, 10240, .inl ff)), (a 9, .inl (cm 9, 10240, .inl fh))]) hP hD [0, 1, 2, 4, 6, 7] [3, 5, 8, 9] rfl rfl (by decide) (by decide) hk1 hFc hP1 hD1
    have hP : va_P D vwCl [(a 5, .inl (cm 5, 800, .inl fv)), (a 7, .inl (cm 7, 800, .inl fr)), (a 10, .inl (cm 10, 10240, .inr (.inl fa))), (a 11, .inl (cm 11, 10240, .inr (.inl fs))), (h0, .inr (11, gM a i g)), (a 3, .inl (cm 3, 85, .inr (.inl w35))), (a 4, .inl (cm 4, 800, .inl fk)), (a 6, .inl (cm 6, 800, .inl fb)), (a 8, .inl (cm 8, 10240, .inl ff)), (a 9, .inl (cm 9, 10240, .inl fh))] H := hP
    have hD : va_D A [(a 5, .inl (cm 5, 800, .inl fv)), (a 7, .inl (cm 7, 800, .inl fr)), (a 10, .inl (cm 10, 10240, .inr (.inl fa))), (a 11, .inl (cm 11, 10240, .inr (.inl fs))), (h0, .inr (11, gM a i g)), (a 3, .inl (cm 3, 85, .inr (.inl w35))), (a 4, .inl (cm 4, 800, .inl fk)), (a 6, .inl (cm 6, 800, .inl fb)), (a 8, .inl (cm 8, 10240, .inl ff)), (a 9, .inl (cm 9, 10240, .inl fh))] := hD
    try dsimp only at hw
    clear hz1 hk1 hFc hPc hKc hDc
    have hR36 := hw
    refine lv_iload hx hb dX11_putsKey_22 (lv_at hl 1 rfl) ?_
    refine lv_if_ne (tgt := 48) hx hb dX11_putsKey_24 (by decide) (fun hc => ?_) (fun hc => absurd hc (by decide))
    refine lv_aload_n hx hb dX11_putsKey_48 rfl (lv_at hl 2 rfl) ?_
    refine lv_iload_n hx hb dX11_putsKey_49 rfl (lv_at hl 3 rfl) ?_
    refine lv_iconst (v := 3) hx hb dX11_putsKey_50 (by decide) ?_
    refine lv_lconst (v := 1) hx hb dX11_putsKey_51 (by decide) ?_
    have hPc := hP.sub (ws' := [(h0, .inr (11, gM a i g)), (a 3, .inl (cm 3, 85, .inr (.inl w35)))]) [4, 5] rfl
    have hKc := hK.sub (tys' := [(cm 3, .long)]) [0] rfl
    have hDc := hD.sub (ws' := [(h0, .inr (11, gM a i g)), (a 3, .inl (cm 3, 85, .inr (.inl w35)))]) [4, 5] (by decide) rfl
    have hFc := va_free (wc := [(h0, .inr (11, gM a i g)), (a 3, .inl (cm 3, 85, .inr (.inl w35)))]) hD hS hA [4, 5] rfl
    refine va_callv (va_runV (As := [.int (nI k), .int (nI 3), .long 1]) (rest := []) ⟨hx, hb, hml, hown, hts⟩ (c_adds l D _ h0 a cm i g w35 k 3 1 (by first | assumption | omega) (by first | assumption | omega)) (cwV 3 hts g_c_putsKey_c_adds_130 rfl rfl rfl (by decide +kernel) ⟨(Nat.le_of_ble_eq_true rfl), (Nat.le_of_ble_eq_true rfl)⟩) (PcW_V (q0 := 0) hPc hKc hDc rfl rfl) rfl rfl hl.1 rfl (lv_room (Nat.le_of_ble_eq_true rfl)) dX11_putsKey_52 ⟨(Nat.le_of_ble_eq_true rfl), (Nat.le_of_ble_eq_true rfl)⟩) hS (fun q _ h => hFc q h) hFc (fun uu tt H locs htt hvm hw hB hz1 hk1 hS => ?_)
    obtain ⟨w38, rfl⟩ : ∃ z, z = uu := ⟨_, rfl⟩
    obtain ⟨hP1, hK1, hD1⟩ := hB
    rw [htt] at hP1
    have hK1 := va_K.moved hvm.symm hK1
    have hP1 : va_P D vwCl [(h0, .inr (11, gM a i g)), (a 3, .inl (cm 3, 85, .inr (.inl w38)))] H := hP1
    obtain ⟨hP, hD⟩ := va_join (wr := [(a 5, .inl (cm 5, 800, .inl fv)), (a 7, .inl (cm 7, 800, .inl fr)), (a 10, .inl (cm 10, 10240, .inr (.inl fa))), (a 11, .inl (cm 11, 10240, .inr (.inl fs))), (a 4, .inl (cm 4, 800, .inl fk)), (a 6, .inl (cm 6, 800, .inl fb)), (a 8, .inl (cm 8, 10240, .inl ff)), (a 9, .inl (cm 9, 10240, .inl fh))]) (w1 := [(h0, .inr (11, gM a i g)), (a 3, .inl (cm 3, 85, .inr (.inl w38)))]) hP hD [4, 5] [0, 1, 2, 3, 6, 7, 8, 9] rfl rfl (by decide) (by decide) hk1 hFc hP1 hD1
    have hP : va_P D vwCl [(a 5, .inl (cm 5, 800, .inl fv)), (a 7, .inl (cm 7, 800, .inl fr)), (a 10, .inl (cm 10, 10240, .inr (.inl fa))), (a 11, .inl (cm 11, 10240, .inr (.inl fs))), (a 4, .inl (cm 4, 800, .inl fk)), (a 6, .inl (cm 6, 800, .inl fb)), (a 8, .inl (cm 8, 10240, .inl ff)), (a 9, .inl (cm 9, 10240, .inl fh)), (h0, .inr (11, gM a i g)), (a 3, .inl (cm 3, 85, .inr (.inl w38)))] H := hP
    have hD : va_D A [(a 5, .inl (cm 5, 800, .inl fv)), (a 7, .inl (cm 7, 800, .inl fr)), (a 10, .inl (cm 10, 10240, .inr (.inl fa))), (a 11, .inl (cm 11, 10240, .inr (.inl fs))), (a 4, .inl (cm 4, 800, .inl fk)), (a 6, .inl (cm 6, 800, .inl fb)), (a 8, .inl (cm 8, 10240, .inl ff)), (a 9, .inl (cm 9, 10240, .inl fh)), (h0, .inr (11, gM a i g)), (a 3, .inl (cm 3, 85, .inr (.inl w38)))] := hD
    try dsimp only at hw
    clear hz1 hk1 hFc hPc hKc hDc
    have hL39 := hw
    refine lv_aload_n hx hb dX11_putsKey_55 rfl (lv_at hl 2 rfl) ?_
    refine lv_iload_n hx hb dX11_putsKey_56 rfl (lv_at hl 3 rfl) ?_
    refine lv_iload_n hx hb dX11_putsKey_57 rfl (lv_at hl 4 rfl) ?_
    refine lv_iload_n hx hb dX11_putsKey_58 rfl (lv_at hl 5 rfl) ?_
    have hPc := hP.sub (ws' := [(h0, .inr (11, gM a i g)), (a 3, .inl (cm 3, 85, .inr (.inl w38))), (a 4, .inl (cm 4, 800, .inl fk)), (a 5, .inl (cm 5, 800, .inl fv)), (a 6, .inl (cm 6, 800, .inl fb)), (a 7, .inl (cm 7, 800, .inl fr))]) [8, 9, 4, 0, 5, 1] rfl
    have hKc := hK.sub (tys' := [(cm 3, .long), (cm 4, .int), (cm 5, .int), (cm 6, .int), (cm 7, .int)]) [0, 1, 2, 3, 4] rfl
    have hDc := hD.sub (ws' := [(h0, .inr (11, gM a i g)), (a 3, .inl (cm 3, 85, .inr (.inl w38))), (a 4, .inl (cm 4, 800, .inl fk)), (a 5, .inl (cm 5, 800, .inl fv)), (a 6, .inl (cm 6, 800, .inl fb)), (a 7, .inl (cm 7, 800, .inl fr))]) [8, 9, 4, 0, 5, 1] (by decide) rfl
    have hFc := va_free (wc := [(h0, .inr (11, gM a i g)), (a 3, .inl (cm 3, 85, .inr (.inl w38))), (a 4, .inl (cm 4, 800, .inl fk)), (a 5, .inl (cm 5, 800, .inl fv)), (a 6, .inl (cm 6, 800, .inl fb)), (a 7, .inl (cm 7, 800, .inl fr))]) hD hS hA [8, 9, 4, 0, 5, 1] rfl
    refine va_callv (va_runV (As := [.int (nI k), .int (nI kx), .int z3]) (rest := []) ⟨hx, hb, hml, hown, hts⟩ (c_comes l D _ h0 a cm i g w38 fk fv fb fr k cn K kx z3 ka kb nb (by first | assumption | omega) ((hL39.2 _ (by omega)).trans ((hR36 _ (by omega)).trans h1)) (by first | assumption | omega) hKy (by first | assumption | omega) ((hL39.2 _ (by omega)).trans ((hR36 _ (by omega)).trans h6)) ((hL39.2 _ (by omega)).trans ((hR36 _ (by omega)).trans h7)) ((hL39.2 _ (by omega)).trans ((hR36 _ (by omega)).trans h4)) (by first | assumption | omega) (by first | assumption | omega) (by first | assumption | omega) (by first | assumption | omega)) (cwV 3 hts g_c_putsKey_c_comes_218 rfl rfl rfl (by decide +kernel) ⟨(Nat.le_of_ble_eq_true rfl), (Nat.le_of_ble_eq_true rfl)⟩) (PcW_V (q0 := 0) hPc hKc hDc rfl rfl) rfl rfl hl.1 rfl (lv_room (Nat.le_of_ble_eq_true rfl)) dX11_putsKey_59 ⟨(Nat.le_of_ble_eq_true rfl), (Nat.le_of_ble_eq_true rfl)⟩) hS (fun q _ h => hFc q h) hFc (fun uu tt H locs htt hvm hw hB hz1 hk1 hS => ?_)
    obtain ⟨w41, w42, w43, w44, w45⟩ := uu
    obtain ⟨hP1, hK1, hD1⟩ := hB
    rw [htt] at hP1
    have hK1 := va_K.moved hvm.symm hK1
    have hP1 : va_P D vwCl [(h0, .inr (11, gM a i g)), (a 3, .inl (cm 3, 85, .inr (.inl w41))), (a 4, .inl (cm 4, 800, .inl w42)), (a 5, .inl (cm 5, 800, .inl w43)), (a 6, .inl (cm 6, 800, .inl w44)), (a 7, .inl (cm 7, 800, .inl w45))] H := hP1
    obtain ⟨hP, hD⟩ := va_join (wr := [(a 10, .inl (cm 10, 10240, .inr (.inl fa))), (a 11, .inl (cm 11, 10240, .inr (.inl fs))), (a 8, .inl (cm 8, 10240, .inl ff)), (a 9, .inl (cm 9, 10240, .inl fh))]) (w1 := [(h0, .inr (11, gM a i g)), (a 3, .inl (cm 3, 85, .inr (.inl w41))), (a 4, .inl (cm 4, 800, .inl w42)), (a 5, .inl (cm 5, 800, .inl w43)), (a 6, .inl (cm 6, 800, .inl w44)), (a 7, .inl (cm 7, 800, .inl w45))]) hP hD [8, 9, 4, 0, 5, 1] [2, 3, 6, 7] rfl rfl (by decide) (by decide) hk1 hFc hP1 hD1
    have hP : va_P D vwCl [(a 10, .inl (cm 10, 10240, .inr (.inl fa))), (a 11, .inl (cm 11, 10240, .inr (.inl fs))), (a 8, .inl (cm 8, 10240, .inl ff)), (a 9, .inl (cm 9, 10240, .inl fh)), (h0, .inr (11, gM a i g)), (a 3, .inl (cm 3, 85, .inr (.inl w41))), (a 4, .inl (cm 4, 800, .inl w42)), (a 5, .inl (cm 5, 800, .inl w43)), (a 6, .inl (cm 6, 800, .inl w44)), (a 7, .inl (cm 7, 800, .inl w45))] H := hP
    have hD : va_D A [(a 10, .inl (cm 10, 10240, .inr (.inl fa))), (a 11, .inl (cm 11, 10240, .inr (.inl fs))), (a 8, .inl (cm 8, 10240, .inl ff)), (a 9, .inl (cm 9, 10240, .inl fh)), (h0, .inr (11, gM a i g)), (a 3, .inl (cm 3, 85, .inr (.inl w41))), (a 4, .inl (cm 4, 800, .inl w42)), (a 5, .inl (cm 5, 800, .inl w43)), (a 6, .inl (cm 6, 800, .inl w44)), (a 7, .inl (cm 7, 800, .inl w45))] := hD
    try dsimp only at hw
    clear hz1 hk1 hFc hPc hKc hDc
    obtain ⟨hC46_q, hC46_a, hC46_b, hC46_c, hC46_1, hC46_2, hC46_3, hC46_n, hC46_f⟩ := hw
    have hC46_K := Ky_ins hKy hC46_1 hC46_a hkx hC46_b hC46_c hNK
    have hC46_J := Bk_ins hBk hC46_3 hC46_a hbl
    have hC46_J2 : BkS k w44 (cn + 1) 2048 (insN J hC46_q ((ka * kx + kb) % 2147483647 % nb)) := fun y a => ⟨(hC46_J y a).1, by have := (hC46_J y a).2; omega⟩
    refine lv_iload hx hb dX11_putsKey_62 (lv_at hl 1 rfl) ?_
    refine lv_iconst (v := 4) hx hb dX11_putsKey_64 (by decide) ?_
    refine lv_icmp_ne (tgt := 83) hx hb dX11_putsKey_65 (by decide) (fun hc => ?_) (fun hc => absurd hc (by decide))
    refine lv_aload_n hx hb dX11_putsKey_83 rfl (lv_at hl 2 rfl) ?_
    refine va_get (D := D) (ci := 11) (v := .ref (a 9)) (C := RX11) (T := TX11) (N := 47) hx hb hts hin_X11 hown hK hP 4 rfl rfl 9 (by decide) (hts (.fieldLink RX11 33 "ClashFreeModel" "has" "[I") (List.mem_of_getElem? (i := 21) rfl)) (fun _ h9 => h9) rfl dX11_putsKey_84 ?_
    refine lv_sipush (v := 2048) hx hb dX11_putsKey_87 (by decide) ?_
    refine lv_iload_n hx hb dX11_putsKey_90 rfl (lv_at hl 3 rfl) ?_
    refine lv_imul hx hb dX11_putsKey_91 ?_
    refine lv_iload hx hb dX11_putsKey_92 (lv_at hl 0 rfl) ?_
    refine lv_iadd hx hb dX11_putsKey_94 ?_
    refine lv_topi (fun v47 ev47 => ?_)
    obtain rfl : v47 = nI (2048 * k + ((ka * kx + kb) % 2147483647 % nb)) := ev47.trans (ix2048 k _)
    refine lv_dup2_11 hx hb dX11_putsKey_95 rfl rfl ?_
    refine va_iald hx hb hK hP 3 6 rfl rfl (vp_in_nI (by omega) (by decide)) dX11_putsKey_96 ?_
    refine lv_topi (fun v48 ev48 => ?_)
    obtain rfl : v48 = nI (cntJ J cn ((ka * kx + kb) % 2147483647 % nb)) := ev48.trans (by rw [nI_clamp (by omega)]; exact hq1)
    refine lv_iconst (v := 1) hx hb dX11_putsKey_97 (by decide) ?_
    refine lv_iadd hx hb dX11_putsKey_98 ?_
    refine lv_topi (fun v49 ev49 => ?_)
    obtain rfl : v49 = nI (cntJ J cn ((ka * kx + kb) % 2147483647 % nb) + 1) := ev49.trans (nI_1 _)
    refine va_iast hx hb hK hP hD hS 3 6 rfl rfl (vp_in_nI (by omega) (by decide)) dX11_putsKey_99 (fun H locs hP hD hS => ?_)
    have hP : va_P D vwCl [(a 10, .inl (cm 10, 10240, .inr (.inl fa))), (a 11, .inl (cm 11, 10240, .inr (.inl fs))), (a 8, .inl (cm 8, 10240, .inl ff)), (a 9, .inl (cm 9, 10240, .inl (upd fh (Int32.toNatClampNeg (nI (2048 * k + ((ka * kx + kb) % 2147483647 % nb)))) (nI (cntJ J cn ((ka * kx + kb) % 2147483647 % nb) + 1))))), (h0, .inr (11, gM a i g)), (a 3, .inl (cm 3, 85, .inr (.inl w41))), (a 4, .inl (cm 4, 800, .inl w42)), (a 5, .inl (cm 5, 800, .inl w43)), (a 6, .inl (cm 6, 800, .inl w44)), (a 7, .inl (cm 7, 800, .inl w45))] H := hP
    have hD : va_D A [(a 10, .inl (cm 10, 10240, .inr (.inl fa))), (a 11, .inl (cm 11, 10240, .inr (.inl fs))), (a 8, .inl (cm 8, 10240, .inl ff)), (a 9, .inl (cm 9, 10240, .inl (upd fh (Int32.toNatClampNeg (nI (2048 * k + ((ka * kx + kb) % 2147483647 % nb)))) (nI (cntJ J cn ((ka * kx + kb) % 2147483647 % nb) + 1))))), (h0, .inr (11, gM a i g)), (a 3, .inl (cm 3, 85, .inr (.inl w41))), (a 4, .inl (cm 4, 800, .inl w42)), (a 5, .inl (cm 5, 800, .inl w43)), (a 6, .inl (cm 6, 800, .inl w44)), (a 7, .inl (cm 7, 800, .inl w45))] := hD
    rw [show (upd fh (Int32.toNatClampNeg (nI (2048 * k + ((ka * kx + kb) % 2147483647 % nb)))) (nI (cntJ J cn ((ka * kx + kb) % 2147483647 % nb) + 1))) = (upd fh (2048 * k + ((ka * kx + kb) % 2147483647 % nb)) (nI (cntJ J cn ((ka * kx + kb) % 2147483647 % nb) + 1))) from by rw [nI_clamp (by omega)]] at hP hD
    refine lv_iload hx hb dX11_putsKey_100 (lv_at hl 1 rfl) ?_
    refine lv_iconst (v := 1) hx hb dX11_putsKey_102 (by decide) ?_
    refine lv_icmp_ne (tgt := 134) hx hb dX11_putsKey_103 (by decide) (fun hc => ?_) (fun hc => absurd hc (by decide))
    refine lv_iload hx hb dX11_putsKey_134 (lv_at hl 1 rfl) ?_
    refine lv_iconst (v := 3) hx hb dX11_putsKey_136 (by decide) ?_
    refine lv_icmp_ne (tgt := 217) hx hb dX11_putsKey_137 (by decide) (fun hc => ?_) (fun hc => absurd hc (by decide))
    refine lv_aload_n hx hb dX11_putsKey_217 rfl (lv_at hl 2 rfl) ?_
    refine lv_iload_n hx hb dX11_putsKey_218 rfl (lv_at hl 3 rfl) ?_
    have hPc := hP.sub (ws' := [(h0, .inr (11, gM a i g)), (a 3, .inl (cm 3, 85, .inr (.inl w41)))]) [4, 5] rfl
    have hKc := hK.sub (tys' := [(cm 3, .long)]) [0] rfl
    have hDc := hD.sub (ws' := [(h0, .inr (11, gM a i g)), (a 3, .inl (cm 3, 85, .inr (.inl w41)))]) [4, 5] (by decide) rfl
    have hFc := va_free (wc := [(h0, .inr (11, gM a i g)), (a 3, .inl (cm 3, 85, .inr (.inl w41)))]) hD hS hA [4, 5] rfl
    refine va_callv (va_runV (As := [.int (nI k)]) (rest := []) ⟨hx, hb, hml, hown, hts⟩ (c_takesSeed l D _ h0 a cm i g w41 k (by first | assumption | omega)) (cwV 1 hts g_c_putsKey_c_takesSeed_162 rfl rfl rfl (by decide +kernel) ⟨(Nat.le_of_ble_eq_true rfl), (Nat.le_of_ble_eq_true rfl)⟩) (PcW_V (q0 := 0) hPc hKc hDc rfl rfl) rfl rfl hl.1 rfl (lv_room (Nat.le_of_ble_eq_true rfl)) dX11_putsKey_219 ⟨(Nat.le_of_ble_eq_true rfl), (Nat.le_of_ble_eq_true rfl)⟩) hS (fun q _ h => hFc q h) hFc (fun uu tt H locs htt hvm hw hB hz1 hk1 hS => ?_)
    obtain ⟨w51, w52⟩ := uu
    obtain ⟨hP1, hK1, hD1⟩ := hB
    rw [htt] at hP1
    have hK1 := va_K.moved hvm.symm hK1
    have hP1 : va_P D vwCl [(h0, .inr (11, gM a (upd i 15 w52) (vp_updL g 12 w51))), (a 3, .inl (cm 3, 85, .inr (.inl w41)))] H := hP1
    obtain ⟨hP, hD⟩ := va_join (wr := [(a 10, .inl (cm 10, 10240, .inr (.inl fa))), (a 11, .inl (cm 11, 10240, .inr (.inl fs))), (a 8, .inl (cm 8, 10240, .inl ff)), (a 9, .inl (cm 9, 10240, .inl (upd fh (2048 * k + ((ka * kx + kb) % 2147483647 % nb)) (nI (cntJ J cn ((ka * kx + kb) % 2147483647 % nb) + 1))))), (a 4, .inl (cm 4, 800, .inl w42)), (a 5, .inl (cm 5, 800, .inl w43)), (a 6, .inl (cm 6, 800, .inl w44)), (a 7, .inl (cm 7, 800, .inl w45))]) (w1 := [(h0, .inr (11, gM a (upd i 15 w52) (vp_updL g 12 w51))), (a 3, .inl (cm 3, 85, .inr (.inl w41)))]) hP hD [4, 5] [0, 1, 2, 3, 6, 7, 8, 9] rfl rfl (by decide) (by decide) hk1 hFc hP1 hD1
    have hP : va_P D vwCl [(a 10, .inl (cm 10, 10240, .inr (.inl fa))), (a 11, .inl (cm 11, 10240, .inr (.inl fs))), (a 8, .inl (cm 8, 10240, .inl ff)), (a 9, .inl (cm 9, 10240, .inl (upd fh (2048 * k + ((ka * kx + kb) % 2147483647 % nb)) (nI (cntJ J cn ((ka * kx + kb) % 2147483647 % nb) + 1))))), (a 4, .inl (cm 4, 800, .inl w42)), (a 5, .inl (cm 5, 800, .inl w43)), (a 6, .inl (cm 6, 800, .inl w44)), (a 7, .inl (cm 7, 800, .inl w45)), (h0, .inr (11, gM a (upd i 15 w52) (vp_updL g 12 w51))), (a 3, .inl (cm 3, 85, .inr (.inl w41)))] H := hP
    have hD : va_D A [(a 10, .inl (cm 10, 10240, .inr (.inl fa))), (a 11, .inl (cm 11, 10240, .inr (.inl fs))), (a 8, .inl (cm 8, 10240, .inl ff)), (a 9, .inl (cm 9, 10240, .inl (upd fh (2048 * k + ((ka * kx + kb) % 2147483647 % nb)) (nI (cntJ J cn ((ka * kx + kb) % 2147483647 % nb) + 1))))), (a 4, .inl (cm 4, 800, .inl w42)), (a 5, .inl (cm 5, 800, .inl w43)), (a 6, .inl (cm 6, 800, .inl w44)), (a 7, .inl (cm 7, 800, .inl w45)), (h0, .inr (11, gM a (upd i 15 w52) (vp_updL g 12 w51))), (a 3, .inl (cm 3, 85, .inr (.inl w41)))] := hD
    try dsimp only at hw
    clear hz1 hk1 hFc hPc hKc hDc
    obtain rfl : w52 = 0 := hw
    have hP : va_P D vwCl [(a 10, .inl (cm 10, 10240, .inr (.inl fa))), (a 11, .inl (cm 11, 10240, .inr (.inl fs))), (a 8, .inl (cm 8, 10240, .inl ff)), (a 9, .inl (cm 9, 10240, .inl (upd fh (2048 * k + ((ka * kx + kb) % 2147483647 % nb)) (nI (cntJ J cn ((ka * kx + kb) % 2147483647 % nb) + 1))))), (a 4, .inl (cm 4, 800, .inl w42)), (a 5, .inl (cm 5, 800, .inl w43)), (a 6, .inl (cm 6, 800, .inl w44)), (a 7, .inl (cm 7, 800, .inl w45)), (h0, .inr (11, gM a (upd i 15 0) (vp_updL g 12 w51))), (a 3, .inl (cm 3, 85, .inr (.inl w41)))] H := hP
    have hD : va_D A [(a 10, .inl (cm 10, 10240, .inr (.inl fa))), (a 11, .inl (cm 11, 10240, .inr (.inl fs))), (a 8, .inl (cm 8, 10240, .inl ff)), (a 9, .inl (cm 9, 10240, .inl (upd fh (2048 * k + ((ka * kx + kb) % 2147483647 % nb)) (nI (cntJ J cn ((ka * kx + kb) % 2147483647 % nb) + 1))))), (a 4, .inl (cm 4, 800, .inl w42)), (a 5, .inl (cm 5, 800, .inl w43)), (a 6, .inl (cm 6, 800, .inl w44)), (a 7, .inl (cm 7, 800, .inl w45)), (h0, .inr (11, gM a (upd i 15 0) (vp_updL g 12 w51))), (a 3, .inl (cm 3, 85, .inr (.inl w41)))] := hD
    refine lv_aload_n hx hb dX11_putsKey_222 rfl (lv_at hl 2 rfl) ?_
    refine lv_iload_n hx hb dX11_putsKey_223 rfl (lv_at hl 3 rfl) ?_
    refine lv_iload hx hb dX11_putsKey_224 (lv_at hl 0 rfl) ?_
    have hPc := hP.sub (ws' := [(h0, .inr (11, gM a (upd i 15 0) (vp_updL g 12 w51))), (a 3, .inl (cm 3, 85, .inr (.inl w41))), (a 4, .inl (cm 4, 800, .inl w42)), (a 6, .inl (cm 6, 800, .inl w44)), (a 7, .inl (cm 7, 800, .inl w45)), (a 8, .inl (cm 8, 10240, .inl ff)), (a 10, .inl (cm 10, 10240, .inr (.inl fa))), (a 11, .inl (cm 11, 10240, .inr (.inl fs)))]) [8, 9, 4, 6, 7, 2, 0, 1] rfl
    have hKc := hK.sub (tys' := [(cm 3, .long), (cm 4, .int), (cm 6, .int), (cm 7, .int), (cm 8, .int), (cm 10, .long), (cm 11, .long)]) [0, 1, 3, 4, 5, 7, 8] rfl
    have hDc := hD.sub (ws' := [(h0, .inr (11, gM a (upd i 15 0) (vp_updL g 12 w51))), (a 3, .inl (cm 3, 85, .inr (.inl w41))), (a 4, .inl (cm 4, 800, .inl w42)), (a 6, .inl (cm 6, 800, .inl w44)), (a 7, .inl (cm 7, 800, .inl w45)), (a 8, .inl (cm 8, 10240, .inl ff)), (a 10, .inl (cm 10, 10240, .inr (.inl fa))), (a 11, .inl (cm 11, 10240, .inr (.inl fs)))]) [8, 9, 4, 6, 7, 2, 0, 1] (by decide) rfl
    have hFc := va_free (wc := [(h0, .inr (11, gM a (upd i 15 0) (vp_updL g 12 w51))), (a 3, .inl (cm 3, 85, .inr (.inl w41))), (a 4, .inl (cm 4, 800, .inl w42)), (a 6, .inl (cm 6, 800, .inl w44)), (a 7, .inl (cm 7, 800, .inl w45)), (a 8, .inl (cm 8, 10240, .inl ff)), (a 10, .inl (cm 10, 10240, .inr (.inl fa))), (a 11, .inl (cm 11, 10240, .inr (.inl fs)))]) hD hS hA [8, 9, 4, 6, 7, 2, 0, 1] rfl
    refine va_callv (va_runV (As := [.int (nI k), .int (nI ((ka * kx + kb) % 2147483647 % nb))]) (rest := []) ⟨hx, hb, hml, hown, hts⟩ (c_buildsBucket l D _ h0 a cm (upd i 15 0) (vp_updL g 12 w51) w41 w42 w44 w45 ff fa fs k ((ka * kx + kb) % 2147483647 % nb) (cn + 1) (insN K hC46_q kx) (insN J hC46_q ((ka * kx + kb) % 2147483647 % nb)) rf (by first | assumption | omega) (by first | assumption | omega) hC46_n (by first | assumption | omega) hC46_K hC46_J2 hrf (by first | assumption | omega) (by rw [cnt_self hC46_a]; omega) (by first | assumption | omega) (by first | assumption | omega)) (cwV 2 hts g_c_putsKey_c_buildsBucket_171 rfl rfl rfl (by decide +kernel) ⟨(Nat.le_of_ble_eq_true rfl), (Nat.le_of_ble_eq_true rfl)⟩) (PcW_V (q0 := 0) hPc hKc hDc rfl rfl) rfl rfl hl.1 rfl (lv_room (Nat.le_of_ble_eq_true rfl)) dX11_putsKey_226 ⟨(Nat.le_of_ble_eq_true rfl), (Nat.le_of_ble_eq_true rfl)⟩) hS (fun q _ h => hFc q h) hFc (fun uu tt H locs htt hvm hw hB hz1 hk1 hS => ?_)
    obtain ⟨w54, w55, w56, w57, w58, w59, w60⟩ := uu
    obtain ⟨hP1, hK1, hD1⟩ := hB
    rw [htt] at hP1
    have hK1 := va_K.moved hvm.symm hK1
    have hP1 : va_P D vwCl [(h0, .inr (11, gM a (upd i 15 w60) (vp_updL (vp_updL (vp_updL (fun _ => 0) 12 w57) 13 w58) 14 w59))), (a 3, .inl (cm 3, 85, .inr (.inl w41))), (a 4, .inl (cm 4, 800, .inl w42)), (a 6, .inl (cm 6, 800, .inl w44)), (a 7, .inl (cm 7, 800, .inl w54)), (a 8, .inl (cm 8, 10240, .inl ff)), (a 10, .inl (cm 10, 10240, .inr (.inl w55))), (a 11, .inl (cm 11, 10240, .inr (.inl w56)))] H := hP1
    obtain ⟨hP, hD⟩ := va_join (wr := [(a 9, .inl (cm 9, 10240, .inl (upd fh (2048 * k + ((ka * kx + kb) % 2147483647 % nb)) (nI (cntJ J cn ((ka * kx + kb) % 2147483647 % nb) + 1))))), (a 5, .inl (cm 5, 800, .inl w43))]) (w1 := [(h0, .inr (11, gM a (upd i 15 w60) (vp_updL (vp_updL (vp_updL (fun _ => 0) 12 w57) 13 w58) 14 w59))), (a 3, .inl (cm 3, 85, .inr (.inl w41))), (a 4, .inl (cm 4, 800, .inl w42)), (a 6, .inl (cm 6, 800, .inl w44)), (a 7, .inl (cm 7, 800, .inl w54)), (a 8, .inl (cm 8, 10240, .inl ff)), (a 10, .inl (cm 10, 10240, .inr (.inl w55))), (a 11, .inl (cm 11, 10240, .inr (.inl w56)))]) hP hD [8, 9, 4, 6, 7, 2, 0, 1] [3, 5] rfl rfl (by decide) (by decide) hk1 hFc hP1 hD1
    have hP : va_P D vwCl [(a 9, .inl (cm 9, 10240, .inl (upd fh (2048 * k + ((ka * kx + kb) % 2147483647 % nb)) (nI (cntJ J cn ((ka * kx + kb) % 2147483647 % nb) + 1))))), (a 5, .inl (cm 5, 800, .inl w43)), (h0, .inr (11, gM a (upd i 15 w60) (vp_updL (vp_updL (vp_updL (fun _ => 0) 12 w57) 13 w58) 14 w59))), (a 3, .inl (cm 3, 85, .inr (.inl w41))), (a 4, .inl (cm 4, 800, .inl w42)), (a 6, .inl (cm 6, 800, .inl w44)), (a 7, .inl (cm 7, 800, .inl w54)), (a 8, .inl (cm 8, 10240, .inl ff)), (a 10, .inl (cm 10, 10240, .inr (.inl w55))), (a 11, .inl (cm 11, 10240, .inr (.inl w56)))] H := hP
    have hD : va_D A [(a 9, .inl (cm 9, 10240, .inl (upd fh (2048 * k + ((ka * kx + kb) % 2147483647 % nb)) (nI (cntJ J cn ((ka * kx + kb) % 2147483647 % nb) + 1))))), (a 5, .inl (cm 5, 800, .inl w43)), (h0, .inr (11, gM a (upd i 15 w60) (vp_updL (vp_updL (vp_updL (fun _ => 0) 12 w57) 13 w58) 14 w59))), (a 3, .inl (cm 3, 85, .inr (.inl w41))), (a 4, .inl (cm 4, 800, .inl w42)), (a 6, .inl (cm 6, 800, .inl w44)), (a 7, .inl (cm 7, 800, .inl w54)), (a 8, .inl (cm 8, 10240, .inl ff)), (a 10, .inl (cm 10, 10240, .inr (.inl w55))), (a 11, .inl (cm 11, 10240, .inr (.inl w56)))] := hD
    try dsimp only at hw
    clear hz1 hk1 hFc hPc hKc hDc
    have hB61 := hw
    refine lv_aload_n hx hb dX11_putsKey_229 rfl (lv_at hl 2 rfl) ?_
    refine lv_iload_n hx hb dX11_putsKey_230 rfl (lv_at hl 3 rfl) ?_
    have hPc := hP.sub (ws' := [(h0, .inr (11, gM a (upd i 15 w60) (vp_updL (vp_updL (vp_updL (fun _ => 0) 12 w57) 13 w58) 14 w59))), (a 3, .inl (cm 3, 85, .inr (.inl w41)))]) [2, 3] rfl
    have hKc := hK.sub (tys' := [(cm 3, .long)]) [0] rfl
    have hDc := hD.sub (ws' := [(h0, .inr (11, gM a (upd i 15 w60) (vp_updL (vp_updL (vp_updL (fun _ => 0) 12 w57) 13 w58) 14 w59))), (a 3, .inl (cm 3, 85, .inr (.inl w41)))]) [2, 3] (by decide) rfl
    have hFc := va_free (wc := [(h0, .inr (11, gM a (upd i 15 w60) (vp_updL (vp_updL (vp_updL (fun _ => 0) 12 w57) 13 w58) 14 w59))), (a 3, .inl (cm 3, 85, .inr (.inl w41)))]) hD hS hA [2, 3] rfl
    refine va_callv (va_runV (As := [.int (nI k)]) (rest := []) ⟨hx, hb, hml, hown, hts⟩ (c_laysSeed l D _ h0 a cm (upd i 15 w60) (vp_updL (vp_updL (vp_updL (fun _ => 0) 12 w57) 13 w58) 14 w59) w41 k (by first | assumption | omega)) (cwV 1 hts g_c_putsKey_c_laysSeed_175 rfl rfl rfl (by decide +kernel) ⟨(Nat.le_of_ble_eq_true rfl), (Nat.le_of_ble_eq_true rfl)⟩) (PcW_V (q0 := 0) hPc hKc hDc rfl rfl) rfl rfl hl.1 rfl (lv_room (Nat.le_of_ble_eq_true rfl)) dX11_putsKey_231 ⟨(Nat.le_of_ble_eq_true rfl), (Nat.le_of_ble_eq_true rfl)⟩) hS (fun q _ h => hFc q h) hFc (fun uu tt H locs htt hvm hw hB hz1 hk1 hS => ?_)
    obtain ⟨w63, rfl⟩ : ∃ z, z = uu := ⟨_, rfl⟩
    obtain ⟨hP1, hK1, hD1⟩ := hB
    rw [htt] at hP1
    have hK1 := va_K.moved hvm.symm hK1
    have hP1 : va_P D vwCl [(h0, .inr (11, gM a (upd i 15 w60) (vp_updL (vp_updL (vp_updL (fun _ => 0) 12 w57) 13 w58) 14 w59))), (a 3, .inl (cm 3, 85, .inr (.inl w63)))] H := hP1
    obtain ⟨hP, hD⟩ := va_join (wr := [(a 9, .inl (cm 9, 10240, .inl (upd fh (2048 * k + ((ka * kx + kb) % 2147483647 % nb)) (nI (cntJ J cn ((ka * kx + kb) % 2147483647 % nb) + 1))))), (a 5, .inl (cm 5, 800, .inl w43)), (a 4, .inl (cm 4, 800, .inl w42)), (a 6, .inl (cm 6, 800, .inl w44)), (a 7, .inl (cm 7, 800, .inl w54)), (a 8, .inl (cm 8, 10240, .inl ff)), (a 10, .inl (cm 10, 10240, .inr (.inl w55))), (a 11, .inl (cm 11, 10240, .inr (.inl w56)))]) (w1 := [(h0, .inr (11, gM a (upd i 15 w60) (vp_updL (vp_updL (vp_updL (fun _ => 0) 12 w57) 13 w58) 14 w59))), (a 3, .inl (cm 3, 85, .inr (.inl w63)))]) hP hD [2, 3] [0, 1, 4, 5, 6, 7, 8, 9] rfl rfl (by decide) (by decide) hk1 hFc hP1 hD1
    have hP : va_P D vwCl [(a 9, .inl (cm 9, 10240, .inl (upd fh (2048 * k + ((ka * kx + kb) % 2147483647 % nb)) (nI (cntJ J cn ((ka * kx + kb) % 2147483647 % nb) + 1))))), (a 5, .inl (cm 5, 800, .inl w43)), (a 4, .inl (cm 4, 800, .inl w42)), (a 6, .inl (cm 6, 800, .inl w44)), (a 7, .inl (cm 7, 800, .inl w54)), (a 8, .inl (cm 8, 10240, .inl ff)), (a 10, .inl (cm 10, 10240, .inr (.inl w55))), (a 11, .inl (cm 11, 10240, .inr (.inl w56))), (h0, .inr (11, gM a (upd i 15 w60) (vp_updL (vp_updL (vp_updL (fun _ => 0) 12 w57) 13 w58) 14 w59))), (a 3, .inl (cm 3, 85, .inr (.inl w63)))] H := hP
    have hD : va_D A [(a 9, .inl (cm 9, 10240, .inl (upd fh (2048 * k + ((ka * kx + kb) % 2147483647 % nb)) (nI (cntJ J cn ((ka * kx + kb) % 2147483647 % nb) + 1))))), (a 5, .inl (cm 5, 800, .inl w43)), (a 4, .inl (cm 4, 800, .inl w42)), (a 6, .inl (cm 6, 800, .inl w44)), (a 7, .inl (cm 7, 800, .inl w54)), (a 8, .inl (cm 8, 10240, .inl ff)), (a 10, .inl (cm 10, 10240, .inr (.inl w55))), (a 11, .inl (cm 11, 10240, .inr (.inl w56))), (h0, .inr (11, gM a (upd i 15 w60) (vp_updL (vp_updL (vp_updL (fun _ => 0) 12 w57) 13 w58) 14 w59))), (a 3, .inl (cm 3, 85, .inr (.inl w63)))] := hD
    try dsimp only at hw
    clear hz1 hk1 hFc hPc hKc hDc
    have hL64 := hw
    refine lv_aload_n hx hb dX11_putsKey_234 rfl (lv_at hl 2 rfl) ?_
    refine lv_iload_n hx hb dX11_putsKey_235 rfl (lv_at hl 3 rfl) ?_
    refine lv_bipush (v := 10) hx hb dX11_putsKey_236 (by decide) ?_
    refine lv_lconst (v := 1) hx hb dX11_putsKey_238 (by decide) ?_
    have hPc := hP.sub (ws' := [(h0, .inr (11, gM a (upd i 15 w60) (vp_updL (vp_updL (vp_updL (fun _ => 0) 12 w57) 13 w58) 14 w59))), (a 3, .inl (cm 3, 85, .inr (.inl w63)))]) [8, 9] rfl
    have hKc := hK.sub (tys' := [(cm 3, .long)]) [0] rfl
    have hDc := hD.sub (ws' := [(h0, .inr (11, gM a (upd i 15 w60) (vp_updL (vp_updL (vp_updL (fun _ => 0) 12 w57) 13 w58) 14 w59))), (a 3, .inl (cm 3, 85, .inr (.inl w63)))]) [8, 9] (by decide) rfl
    have hFc := va_free (wc := [(h0, .inr (11, gM a (upd i 15 w60) (vp_updL (vp_updL (vp_updL (fun _ => 0) 12 w57) 13 w58) 14 w59))), (a 3, .inl (cm 3, 85, .inr (.inl w63)))]) hD hS hA [8, 9] rfl
    refine va_callv (va_runV (As := [.int (nI k), .int (nI 10), .long 1]) (rest := []) ⟨hx, hb, hml, hown, hts⟩ (c_adds l D _ h0 a cm (upd i 15 w60) (vp_updL (vp_updL (vp_updL (fun _ => 0) 12 w57) 13 w58) 14 w59) w63 k 10 1 (by first | assumption | omega) (by first | assumption | omega)) (cwV 3 hts g_c_putsKey_c_adds_130 rfl rfl rfl (by decide +kernel) ⟨(Nat.le_of_ble_eq_true rfl), (Nat.le_of_ble_eq_true rfl)⟩) (PcW_V (q0 := 0) hPc hKc hDc rfl rfl) rfl rfl hl.1 rfl (lv_room (Nat.le_of_ble_eq_true rfl)) dX11_putsKey_239 ⟨(Nat.le_of_ble_eq_true rfl), (Nat.le_of_ble_eq_true rfl)⟩) hS (fun q _ h => hFc q h) hFc (fun uu tt H locs htt hvm hw hB hz1 hk1 hS => ?_)
    obtain ⟨w66, rfl⟩ : ∃ z, z = uu := ⟨_, rfl⟩
    obtain ⟨hP1, hK1, hD1⟩ := hB
    rw [htt] at hP1
    have hK1 := va_K.moved hvm.symm hK1
    have hP1 : va_P D vwCl [(h0, .inr (11, gM a (upd i 15 w60) (vp_updL (vp_updL (vp_updL (fun _ => 0) 12 w57) 13 w58) 14 w59))), (a 3, .inl (cm 3, 85, .inr (.inl w66)))] H := hP1
    obtain ⟨hP, hD⟩ := va_join (wr := [(a 9, .inl (cm 9, 10240, .inl (upd fh (2048 * k + ((ka * kx + kb) % 2147483647 % nb)) (nI (cntJ J cn ((ka * kx + kb) % 2147483647 % nb) + 1))))), (a 5, .inl (cm 5, 800, .inl w43)), (a 4, .inl (cm 4, 800, .inl w42)), (a 6, .inl (cm 6, 800, .inl w44)), (a 7, .inl (cm 7, 800, .inl w54)), (a 8, .inl (cm 8, 10240, .inl ff)), (a 10, .inl (cm 10, 10240, .inr (.inl w55))), (a 11, .inl (cm 11, 10240, .inr (.inl w56)))]) (w1 := [(h0, .inr (11, gM a (upd i 15 w60) (vp_updL (vp_updL (vp_updL (fun _ => 0) 12 w57) 13 w58) 14 w59))), (a 3, .inl (cm 3, 85, .inr (.inl w66)))]) hP hD [8, 9] [0, 1, 2, 3, 4, 5, 6, 7] rfl rfl (by decide) (by decide) hk1 hFc hP1 hD1
    have hP : va_P D vwCl [(a 9, .inl (cm 9, 10240, .inl (upd fh (2048 * k + ((ka * kx + kb) % 2147483647 % nb)) (nI (cntJ J cn ((ka * kx + kb) % 2147483647 % nb) + 1))))), (a 5, .inl (cm 5, 800, .inl w43)), (a 4, .inl (cm 4, 800, .inl w42)), (a 6, .inl (cm 6, 800, .inl w44)), (a 7, .inl (cm 7, 800, .inl w54)), (a 8, .inl (cm 8, 10240, .inl ff)), (a 10, .inl (cm 10, 10240, .inr (.inl w55))), (a 11, .inl (cm 11, 10240, .inr (.inl w56))), (h0, .inr (11, gM a (upd i 15 w60) (vp_updL (vp_updL (vp_updL (fun _ => 0) 12 w57) 13 w58) 14 w59))), (a 3, .inl (cm 3, 85, .inr (.inl w66)))] H := hP
    have hD : va_D A [(a 9, .inl (cm 9, 10240, .inl (upd fh (2048 * k + ((ka * kx + kb) % 2147483647 % nb)) (nI (cntJ J cn ((ka * kx + kb) % 2147483647 % nb) + 1))))), (a 5, .inl (cm 5, 800, .inl w43)), (a 4, .inl (cm 4, 800, .inl w42)), (a 6, .inl (cm 6, 800, .inl w44)), (a 7, .inl (cm 7, 800, .inl w54)), (a 8, .inl (cm 8, 10240, .inl ff)), (a 10, .inl (cm 10, 10240, .inr (.inl w55))), (a 11, .inl (cm 11, 10240, .inr (.inl w56))), (h0, .inr (11, gM a (upd i 15 w60) (vp_updL (vp_updL (vp_updL (fun _ => 0) 12 w57) 13 w58) 14 w59))), (a 3, .inl (cm 3, 85, .inr (.inl w66)))] := hD
    try dsimp only at hw
    clear hz1 hk1 hFc hPc hKc hDc
    have hL67 := hw
    refine lv_aload_n hx hb dX11_putsKey_242 rfl (lv_at hl 2 rfl) ?_
    refine lv_iload_n hx hb dX11_putsKey_243 rfl (lv_at hl 3 rfl) ?_
    refine lv_bipush (v := 12) hx hb dX11_putsKey_244 (by decide) ?_
    refine lv_aload_n hx hb dX11_putsKey_246 rfl (lv_at hl 2 rfl) ?_
    refine va_get (D := D) (ci := 11) (v := .ref (a 9)) (C := RX11) (T := TX11) (N := 47) hx hb hts hin_X11 hown hK hP 8 rfl rfl 9 (by decide) (hts (.fieldLink RX11 33 "ClashFreeModel" "has" "[I") (List.mem_of_getElem? (i := 21) rfl)) (fun _ h9 => h9) rfl dX11_putsKey_247 ?_
    refine lv_sipush (v := 2048) hx hb dX11_putsKey_250 (by decide) ?_
    refine lv_iload_n hx hb dX11_putsKey_253 rfl (lv_at hl 3 rfl) ?_
    refine lv_imul hx hb dX11_putsKey_254 ?_
    refine lv_iload hx hb dX11_putsKey_255 (lv_at hl 0 rfl) ?_
    refine lv_iadd hx hb dX11_putsKey_257 ?_
    refine lv_topi (fun v68 ev68 => ?_)
    obtain rfl : v68 = nI (2048 * k + ((ka * kx + kb) % 2147483647 % nb)) := ev68.trans (ix2048 k _)
    refine va_iald hx hb hK hP 0 6 rfl rfl (vp_in_nI (by omega) (by decide)) dX11_putsKey_258 ?_
    refine lv_topi (fun v69 ev69 => ?_)
    refine lv_i2l hx hb dX11_putsKey_259 rfl ?_
    have hPc := hP.sub (ws' := [(h0, .inr (11, gM a (upd i 15 w60) (vp_updL (vp_updL (vp_updL (fun _ => 0) 12 w57) 13 w58) 14 w59))), (a 3, .inl (cm 3, 85, .inr (.inl w66)))]) [8, 9] rfl
    have hKc := hK.sub (tys' := [(cm 3, .long)]) [0] rfl
    have hDc := hD.sub (ws' := [(h0, .inr (11, gM a (upd i 15 w60) (vp_updL (vp_updL (vp_updL (fun _ => 0) 12 w57) 13 w58) 14 w59))), (a 3, .inl (cm 3, 85, .inr (.inl w66)))]) [8, 9] (by decide) rfl
    have hFc := va_free (wc := [(h0, .inr (11, gM a (upd i 15 w60) (vp_updL (vp_updL (vp_updL (fun _ => 0) 12 w57) 13 w58) 14 w59))), (a 3, .inl (cm 3, 85, .inr (.inl w66)))]) hD hS hA [8, 9] rfl
    refine va_callv (va_runV (As := [.int (nI k), .int (nI 12), .long (Int32.toInt64 v69)]) (rest := []) ⟨hx, hb, hml, hown, hts⟩ (c_adds l D _ h0 a cm (upd i 15 w60) (vp_updL (vp_updL (vp_updL (fun _ => 0) 12 w57) 13 w58) 14 w59) w66 k 12 (Int32.toInt64 v69) (by first | assumption | omega) (by first | assumption | omega)) (cwV 3 hts g_c_putsKey_c_adds_130 rfl rfl rfl (by decide +kernel) ⟨(Nat.le_of_ble_eq_true rfl), (Nat.le_of_ble_eq_true rfl)⟩) (PcW_V (q0 := 0) hPc hKc hDc rfl rfl) rfl rfl hl.1 rfl (lv_room (Nat.le_of_ble_eq_true rfl)) dX11_putsKey_260 ⟨(Nat.le_of_ble_eq_true rfl), (Nat.le_of_ble_eq_true rfl)⟩) hS (fun q _ h => hFc q h) hFc (fun uu tt H locs htt hvm hw hB hz1 hk1 hS => ?_)
    obtain ⟨w71, rfl⟩ : ∃ z, z = uu := ⟨_, rfl⟩
    obtain ⟨hP1, hK1, hD1⟩ := hB
    rw [htt] at hP1
    have hK1 := va_K.moved hvm.symm hK1
    have hP1 : va_P D vwCl [(h0, .inr (11, gM a (upd i 15 w60) (vp_updL (vp_updL (vp_updL (fun _ => 0) 12 w57) 13 w58) 14 w59))), (a 3, .inl (cm 3, 85, .inr (.inl w71)))] H := hP1
    obtain ⟨hP, hD⟩ := va_join (wr := [(a 9, .inl (cm 9, 10240, .inl (upd fh (2048 * k + ((ka * kx + kb) % 2147483647 % nb)) (nI (cntJ J cn ((ka * kx + kb) % 2147483647 % nb) + 1))))), (a 5, .inl (cm 5, 800, .inl w43)), (a 4, .inl (cm 4, 800, .inl w42)), (a 6, .inl (cm 6, 800, .inl w44)), (a 7, .inl (cm 7, 800, .inl w54)), (a 8, .inl (cm 8, 10240, .inl ff)), (a 10, .inl (cm 10, 10240, .inr (.inl w55))), (a 11, .inl (cm 11, 10240, .inr (.inl w56)))]) (w1 := [(h0, .inr (11, gM a (upd i 15 w60) (vp_updL (vp_updL (vp_updL (fun _ => 0) 12 w57) 13 w58) 14 w59))), (a 3, .inl (cm 3, 85, .inr (.inl w71)))]) hP hD [8, 9] [0, 1, 2, 3, 4, 5, 6, 7] rfl rfl (by decide) (by decide) hk1 hFc hP1 hD1
    have hP : va_P D vwCl [(a 9, .inl (cm 9, 10240, .inl (upd fh (2048 * k + ((ka * kx + kb) % 2147483647 % nb)) (nI (cntJ J cn ((ka * kx + kb) % 2147483647 % nb) + 1))))), (a 5, .inl (cm 5, 800, .inl w43)), (a 4, .inl (cm 4, 800, .inl w42)), (a 6, .inl (cm 6, 800, .inl w44)), (a 7, .inl (cm 7, 800, .inl w54)), (a 8, .inl (cm 8, 10240, .inl ff)), (a 10, .inl (cm 10, 10240, .inr (.inl w55))), (a 11, .inl (cm 11, 10240, .inr (.inl w56))), (h0, .inr (11, gM a (upd i 15 w60) (vp_updL (vp_updL (vp_updL (fun _ => 0) 12 w57) 13 w58) 14 w59))), (a 3, .inl (cm 3, 85, .inr (.inl w71)))] H := hP
    have hD : va_D A [(a 9, .inl (cm 9, 10240, .inl (upd fh (2048 * k + ((ka * kx + kb) % 2147483647 % nb)) (nI (cntJ J cn ((ka * kx + kb) % 2147483647 % nb) + 1))))), (a 5, .inl (cm 5, 800, .inl w43)), (a 4, .inl (cm 4, 800, .inl w42)), (a 6, .inl (cm 6, 800, .inl w44)), (a 7, .inl (cm 7, 800, .inl w54)), (a 8, .inl (cm 8, 10240, .inl ff)), (a 10, .inl (cm 10, 10240, .inr (.inl w55))), (a 11, .inl (cm 11, 10240, .inr (.inl w56))), (h0, .inr (11, gM a (upd i 15 w60) (vp_updL (vp_updL (vp_updL (fun _ => 0) 12 w57) 13 w58) 14 w59))), (a 3, .inl (cm 3, 85, .inr (.inl w71)))] := hD
    try dsimp only at hw
    clear hz1 hk1 hFc hPc hKc hDc
    have hL72 := hw
    refine lv_iload hx hb dX11_putsKey_263 (lv_at hl 1 rfl) ?_
    have hTz : TabS k (cn + 1) nb (insN K hC46_q kx) (insN J hC46_q ((ka * kx + kb) % 2147483647 % nb)) w71 w42 w44 ff (upd fh (2048 * k + ((ka * kx + kb) % 2147483647 % nb)) (nI (cntJ J cn ((ka * kx + kb) % 2147483647 % nb) + 1))) := ⟨((hL72.2 _ (by omega)).trans ((hL67.2 _ (by omega)).trans ((hL64 _ (by omega) (by omega)).trans hC46_n))), (by omega), ((hL72.2 _ (by omega)).trans ((hL67.2 _ (by omega)).trans ((hL64 _ (by omega) (by omega)).trans ((hC46_f _ (by omega)).trans ((hL39.2 _ (by omega)).trans ((hR36 _ (by omega)).trans h4)))))), hn1, hn2, ⟨ka, kb, hka, hkb, ((hL72.2 _ (by omega)).trans ((hL67.2 _ (by omega)).trans ((hL64 _ (by omega) (by omega)).trans ((hC46_f _ (by omega)).trans ((hL39.2 _ (by omega)).trans ((hR36 _ (by omega)).trans h6)))))), ((hL72.2 _ (by omega)).trans ((hL67.2 _ (by omega)).trans ((hL64 _ (by omega) (by omega)).trans ((hC46_f _ (by omega)).trans ((hL39.2 _ (by omega)).trans ((hR36 _ (by omega)).trans h7))))))⟩, hC46_K, hC46_J, Hs_ins hHs hC46_a hbl hrf (fun _ _ => rfl) hq3 (by omega), ⟨bn, ns, gr, ((hL72.2 _ (by omega)).trans ((hL67.2 _ (by omega)).trans ((hL64 _ (by omega) (by omega)).trans ((hC46_f _ (by omega)).trans ((hL39.2 _ (by omega)).trans ((hR36 _ (by omega)).trans h14)))))), hbn, ((hL72.2 _ (by omega)).trans ((hL67.2 _ (by omega)).trans ((hL64 _ (by omega) (by omega)).trans ((hC46_f _ (by omega)).trans ((hL39.2 _ (by omega)).trans ((hR36 _ (by omega)).trans h15)))))), hs1, hs2, ((hL72.2 _ (by omega)).trans ((hL67.2 _ (by omega)).trans ((hL64 _ (by omega) (by omega)).trans ((hC46_f _ (by omega)).trans ((hL39.2 _ (by omega)).trans ((hR36 _ (by omega)).trans h16)))))), hgr⟩⟩
    exact W.iret (v := 2) hx hb hr (fun t ht hW => ⟨⟨2, (w71, w42, w43, w44, w54, ff, (upd fh (2048 * k + ((ka * kx + kb) % 2147483647 % nb)) (nI (cntJ J cn ((ka * kx + kb) % 2147483647 % nb) + 1))), w55, w56, w57, w58, w59, w60), rfl, ⟨⟨_, _, _, _, hTz⟩, hB61.1, hB61.2, fun x e => (hL72.2 x (by omega)).trans ((hL67.2 x (by omega)).trans ((hL64 x (by omega) (by omega)).trans ((hC46_f x (by omega)).trans ((hL39.2 x (by omega)).trans ((hR36 x (by omega))))))), ((hL72.2 _ (by omega)).trans ((hL67.2 _ (by omega)).trans ((hL64 _ (by omega) (by omega)).trans ((hC46_f _ (by omega)).trans ((hL39.2 _ (by omega)).trans ((hR36 _ (by omega)).trans rfl)))))), hC46_1.2.2.2, hC46_3.2.2.2, fun _ _ => rfl, fun x e => pk_un (by omega), lsR_upd (fun x e => (hL72.2 x (by omega)).trans ((hL67.2 x (by omega)).trans ((hL64 x (by omega) (by omega)).trans ((hC46_f x (by omega)).trans ((hL39.2 x (by omega)).trans ((hR36 x (by omega)))))))) (hC46_1.2.2.2) (hC46_2.2.2.2) ((lsR_T hk hTz _).trans ((put_nR (fun j a => (hKy.1 j a).2) hkx hC46_2 hC46_a hC46_b hC46_c hNK).trans (congrArg (putL · kx z3) (lsR_T hk hT _).symm))), Or.inr ⟨by decide, hNK⟩⟩, by rw [ht]; exact hP.sub [8, 9, 2, 1, 3, 4, 5, 0, 6, 7] rfl, va_K.moved hW.alike (hK.sub [0, 1, 2, 3, 4, 5, 6, 7, 8] rfl), hD.sub [8, 9, 2, 1, 3, 4, 5, 0, 6, 7] (by decide) rfl⟩, hS.F ht⟩) hS.2.2 dX11_putsKey_265
  ·
    have hNK : ∀ j, j < cn → K j ≠ kx := hA_r1.1
    have hc160 : cn < 160 := by
      rcases hfl with z | ⟨q, h1, h2⟩
      · exact z
      · exact absurd h2 (hNK q h1)
    have hge := hA_r1.2 rf hrf hq3
    refine lv_istore (lv' := [(4, .int 3), (0, .ref h0), (1, .int (nI k)), (2, .int (nI kx)), (3, .int z3)]) hx hb dX11_putsKey_6 hl (by decide) rfl (fun ls hl => ?_)
    refine lv_aload_n hx hb dX11_putsKey_8 rfl (lv_at hl 1 rfl) ?_
    refine lv_iload_n hx hb dX11_putsKey_9 rfl (lv_at hl 2 rfl) ?_
    refine lv_iload_n hx hb dX11_putsKey_10 rfl (lv_at hl 3 rfl) ?_
    have hPc := hP.sub (ws' := [(h0, .inr (11, gM a i g)), (a 3, .inl (cm 3, 85, .inr (.inl fn)))]) [0, 1] rfl
    have hKc := hK.sub (tys' := [(cm 3, .long)]) [0] rfl
    have hFc := va_free0 hS hA
    refine va_calli (va_runV (As := [.int (nI k), .int (nI kx)]) (rest := []) ⟨hx, hb, hml, hown, hts⟩ (c_bucketOf l D _ h0 a cm i g fn k kx ka kb nb (by first | assumption | omega) (by first | assumption | omega | exact hKl _ (by omega)) h6 h7 h4 (by first | assumption | omega) (by first | assumption | omega) (by first | assumption | omega) (by first | assumption | omega)) (cwV 2 hts g_c_putsKey_c_bucketOf_155 rfl rfl rfl (by decide +kernel) ⟨(Nat.le_of_ble_eq_true rfl), (Nat.le_of_ble_eq_true rfl)⟩) (PcR_V (q0 := 0) hPc hKc rfl rfl) rfl rfl hl.1 rfl (lv_room (Nat.le_of_ble_eq_true rfl)) dX11_putsKey_11 ⟨(Nat.le_of_ble_eq_true rfl), (Nat.le_of_ble_eq_true rfl)⟩) hS (fun q _ h => hFc q h) hFc (fun r73 uu tt H locs htt hvm hw hB hz1 hk1 hS => ?_)
    have hP := va_keep hP hk1
    try dsimp only at hw
    clear hB hz1 hk1 hFc hPc hKc
    obtain rfl : r73 = nI ((ka * kx + kb) % 2147483647 % nb) := hw
    refine lv_istore (lv' := [(5, .int (nI ((ka * kx + kb) % 2147483647 % nb))), (4, .int 3), (0, .ref h0), (1, .int (nI k)), (2, .int (nI kx)), (3, .int z3)]) hx hb dX11_putsKey_14 hl (by decide) rfl (fun ls hl => ?_)
    refine lv_aload_n hx hb dX11_putsKey_16 rfl (lv_at hl 2 rfl) ?_
    refine lv_iload_n hx hb dX11_putsKey_17 rfl (lv_at hl 3 rfl) ?_
    refine lv_iload_n hx hb dX11_putsKey_18 rfl (lv_at hl 4 rfl) ?_
    have hPc := hP.sub (ws' := [(h0, .inr (11, gM a i g)), (a 3, .inl (cm 3, 85, .inr (.inl fn))), (a 4, .inl (cm 4, 800, .inl fk)), (a 6, .inl (cm 6, 800, .inl fb)), (a 8, .inl (cm 8, 10240, .inl ff)), (a 9, .inl (cm 9, 10240, .inl fh))]) [0, 1, 2, 4, 6, 7] rfl
    have hKc := hK.sub (tys' := [(cm 3, .long), (cm 4, .int), (cm 6, .int), (cm 8, .int), (cm 9, .int)]) [0, 1, 3, 5, 6] rfl
    have hDc := hD.sub (ws' := [(h0, .inr (11, gM a i g)), (a 3, .inl (cm 3, 85, .inr (.inl fn))), (a 4, .inl (cm 4, 800, .inl fk)), (a 6, .inl (cm 6, 800, .inl fb)), (a 8, .inl (cm 8, 10240, .inl ff)), (a 9, .inl (cm 9, 10240, .inl fh))]) [0, 1, 2, 4, 6, 7] (by decide) rfl
    have hFc := va_free (wc := [(h0, .inr (11, gM a i g)), (a 3, .inl (cm 3, 85, .inr (.inl fn))), (a 4, .inl (cm 4, 800, .inl fk)), (a 6, .inl (cm 6, 800, .inl fb)), (a 8, .inl (cm 8, 10240, .inl ff)), (a 9, .inl (cm 9, 10240, .inl fh))]) hD hS hA [0, 1, 2, 4, 6, 7] rfl
    refine va_callv (va_runV (As := [.int (nI k), .int (nI kx)]) (rest := []) ⟨hx, hb, hml, hown, hts⟩ (c_readsFor l D _ h0 a cm i g fn fk fb ff fh k cn nb K J kx (by first | assumption | omega) hT (by first | assumption | omega)) (cwV 2 hts g_c_putsKey_c_readsFor_215 rfl rfl rfl (by decide +kernel) ⟨(Nat.le_of_ble_eq_true rfl), (Nat.le_of_ble_eq_true rfl)⟩) (PcW_V (q0 := 0) hPc hKc hDc rfl rfl) rfl rfl hl.1 rfl (lv_room (Nat.le_of_ble_eq_true rfl)) dX11_putsKey_19 ⟨(Nat.le_of_ble_eq_true rfl), (Nat.le_of_ble_eq_true rfl)⟩) hS (fun q _ h => hFc q h) hFc (fun uu tt H locs htt hvm hw hB hz1 hk1 hS => ?_)
    obtain ⟨w75, rfl⟩ : ∃ z, z = uu := ⟨_, rfl⟩
    obtain ⟨hP1, hK1, hD1⟩ := hB
    rw [htt] at hP1
    have hK1 := va_K.moved hvm.symm hK1
    have hP1 : va_P D vwCl [(h0, .inr (11, gM a i g)), (a 3, .inl (cm 3, 85, .inr (.inl w75))), (a 4, .inl (cm 4, 800, .inl fk)), (a 6, .inl (cm 6, 800, .inl fb)), (a 8, .inl (cm 8, 10240, .inl ff)), (a 9, .inl (cm 9, 10240, .inl fh))] H := hP1
    obtain ⟨hP, hD⟩ := va_join (wr := [(a 5, .inl (cm 5, 800, .inl fv)), (a 7, .inl (cm 7, 800, .inl fr)), (a 10, .inl (cm 10, 10240, .inr (.inl fa))), (a 11, .inl (cm 11, 10240, .inr (.inl fs)))]) (w1 := [(h0, .inr (11, gM a i g)), (a 3, .inl (cm 3, 85, .inr (.inl w75))), (a 4, .inl (cm 4, 800, .inl fk)), (a 6, .inl (cm 6, 800, .inl fb)), (a 8, .inl (cm 8, 10240, .inl ff)), (a 9, .inl (cm 9, 10240, .inl fh))]) hP hD [0, 1, 2, 4, 6, 7] [3, 5, 8, 9] rfl rfl (by decide) (by decide) hk1 hFc hP1 hD1
    have hP : va_P D vwCl [(a 5, .inl (cm 5, 800, .inl fv)), (a 7, .inl (cm 7, 800, .inl fr)), (a 10, .inl (cm 10, 10240, .inr (.inl fa))), (a 11, .inl (cm 11, 10240, .inr (.inl fs))), (h0, .inr (11, gM a i g)), (a 3, .inl (cm 3, 85, .inr (.inl w75))), (a 4, .inl (cm 4, 800, .inl fk)), (a 6, .inl (cm 6, 800, .inl fb)), (a 8, .inl (cm 8, 10240, .inl ff)), (a 9, .inl (cm 9, 10240, .inl fh))] H := hP
    have hD : va_D A [(a 5, .inl (cm 5, 800, .inl fv)), (a 7, .inl (cm 7, 800, .inl fr)), (a 10, .inl (cm 10, 10240, .inr (.inl fa))), (a 11, .inl (cm 11, 10240, .inr (.inl fs))), (h0, .inr (11, gM a i g)), (a 3, .inl (cm 3, 85, .inr (.inl w75))), (a 4, .inl (cm 4, 800, .inl fk)), (a 6, .inl (cm 6, 800, .inl fb)), (a 8, .inl (cm 8, 10240, .inl ff)), (a 9, .inl (cm 9, 10240, .inl fh))] := hD
    try dsimp only at hw
    clear hz1 hk1 hFc hPc hKc hDc
    have hR76 := hw
    refine lv_iload hx hb dX11_putsKey_22 (lv_at hl 1 rfl) ?_
    refine lv_if_ne (tgt := 48) hx hb dX11_putsKey_24 (by decide) (fun hc => ?_) (fun hc => absurd hc (by decide))
    refine lv_aload_n hx hb dX11_putsKey_48 rfl (lv_at hl 2 rfl) ?_
    refine lv_iload_n hx hb dX11_putsKey_49 rfl (lv_at hl 3 rfl) ?_
    refine lv_iconst (v := 3) hx hb dX11_putsKey_50 (by decide) ?_
    refine lv_lconst (v := 1) hx hb dX11_putsKey_51 (by decide) ?_
    have hPc := hP.sub (ws' := [(h0, .inr (11, gM a i g)), (a 3, .inl (cm 3, 85, .inr (.inl w75)))]) [4, 5] rfl
    have hKc := hK.sub (tys' := [(cm 3, .long)]) [0] rfl
    have hDc := hD.sub (ws' := [(h0, .inr (11, gM a i g)), (a 3, .inl (cm 3, 85, .inr (.inl w75)))]) [4, 5] (by decide) rfl
    have hFc := va_free (wc := [(h0, .inr (11, gM a i g)), (a 3, .inl (cm 3, 85, .inr (.inl w75)))]) hD hS hA [4, 5] rfl
    refine va_callv (va_runV (As := [.int (nI k), .int (nI 3), .long 1]) (rest := []) ⟨hx, hb, hml, hown, hts⟩ (c_adds l D _ h0 a cm i g w75 k 3 1 (by first | assumption | omega) (by first | assumption | omega)) (cwV 3 hts g_c_putsKey_c_adds_130 rfl rfl rfl (by decide +kernel) ⟨(Nat.le_of_ble_eq_true rfl), (Nat.le_of_ble_eq_true rfl)⟩) (PcW_V (q0 := 0) hPc hKc hDc rfl rfl) rfl rfl hl.1 rfl (lv_room (Nat.le_of_ble_eq_true rfl)) dX11_putsKey_52 ⟨(Nat.le_of_ble_eq_true rfl), (Nat.le_of_ble_eq_true rfl)⟩) hS (fun q _ h => hFc q h) hFc (fun uu tt H locs htt hvm hw hB hz1 hk1 hS => ?_)
    obtain ⟨w78, rfl⟩ : ∃ z, z = uu := ⟨_, rfl⟩
    obtain ⟨hP1, hK1, hD1⟩ := hB
    rw [htt] at hP1
    have hK1 := va_K.moved hvm.symm hK1
    have hP1 : va_P D vwCl [(h0, .inr (11, gM a i g)), (a 3, .inl (cm 3, 85, .inr (.inl w78)))] H := hP1
    obtain ⟨hP, hD⟩ := va_join (wr := [(a 5, .inl (cm 5, 800, .inl fv)), (a 7, .inl (cm 7, 800, .inl fr)), (a 10, .inl (cm 10, 10240, .inr (.inl fa))), (a 11, .inl (cm 11, 10240, .inr (.inl fs))), (a 4, .inl (cm 4, 800, .inl fk)), (a 6, .inl (cm 6, 800, .inl fb)), (a 8, .inl (cm 8, 10240, .inl ff)), (a 9, .inl (cm 9, 10240, .inl fh))]) (w1 := [(h0, .inr (11, gM a i g)), (a 3, .inl (cm 3, 85, .inr (.inl w78)))]) hP hD [4, 5] [0, 1, 2, 3, 6, 7, 8, 9] rfl rfl (by decide) (by decide) hk1 hFc hP1 hD1
    have hP : va_P D vwCl [(a 5, .inl (cm 5, 800, .inl fv)), (a 7, .inl (cm 7, 800, .inl fr)), (a 10, .inl (cm 10, 10240, .inr (.inl fa))), (a 11, .inl (cm 11, 10240, .inr (.inl fs))), (a 4, .inl (cm 4, 800, .inl fk)), (a 6, .inl (cm 6, 800, .inl fb)), (a 8, .inl (cm 8, 10240, .inl ff)), (a 9, .inl (cm 9, 10240, .inl fh)), (h0, .inr (11, gM a i g)), (a 3, .inl (cm 3, 85, .inr (.inl w78)))] H := hP
    have hD : va_D A [(a 5, .inl (cm 5, 800, .inl fv)), (a 7, .inl (cm 7, 800, .inl fr)), (a 10, .inl (cm 10, 10240, .inr (.inl fa))), (a 11, .inl (cm 11, 10240, .inr (.inl fs))), (a 4, .inl (cm 4, 800, .inl fk)), (a 6, .inl (cm 6, 800, .inl fb)), (a 8, .inl (cm 8, 10240, .inl ff)), (a 9, .inl (cm 9, 10240, .inl fh)), (h0, .inr (11, gM a i g)), (a 3, .inl (cm 3, 85, .inr (.inl w78)))] := hD
    try dsimp only at hw
    clear hz1 hk1 hFc hPc hKc hDc
    have hL79 := hw
    refine lv_aload_n hx hb dX11_putsKey_55 rfl (lv_at hl 2 rfl) ?_
    refine lv_iload_n hx hb dX11_putsKey_56 rfl (lv_at hl 3 rfl) ?_
    refine lv_iload_n hx hb dX11_putsKey_57 rfl (lv_at hl 4 rfl) ?_
    refine lv_iload_n hx hb dX11_putsKey_58 rfl (lv_at hl 5 rfl) ?_
    have hPc := hP.sub (ws' := [(h0, .inr (11, gM a i g)), (a 3, .inl (cm 3, 85, .inr (.inl w78))), (a 4, .inl (cm 4, 800, .inl fk)), (a 5, .inl (cm 5, 800, .inl fv)), (a 6, .inl (cm 6, 800, .inl fb)), (a 7, .inl (cm 7, 800, .inl fr))]) [8, 9, 4, 0, 5, 1] rfl
    have hKc := hK.sub (tys' := [(cm 3, .long), (cm 4, .int), (cm 5, .int), (cm 6, .int), (cm 7, .int)]) [0, 1, 2, 3, 4] rfl
    have hDc := hD.sub (ws' := [(h0, .inr (11, gM a i g)), (a 3, .inl (cm 3, 85, .inr (.inl w78))), (a 4, .inl (cm 4, 800, .inl fk)), (a 5, .inl (cm 5, 800, .inl fv)), (a 6, .inl (cm 6, 800, .inl fb)), (a 7, .inl (cm 7, 800, .inl fr))]) [8, 9, 4, 0, 5, 1] (by decide) rfl
    have hFc := va_free (wc := [(h0, .inr (11, gM a i g)), (a 3, .inl (cm 3, 85, .inr (.inl w78))), (a 4, .inl (cm 4, 800, .inl fk)), (a 5, .inl (cm 5, 800, .inl fv)), (a 6, .inl (cm 6, 800, .inl fb)), (a 7, .inl (cm 7, 800, .inl fr))]) hD hS hA [8, 9, 4, 0, 5, 1] rfl
    refine va_callv (va_runV (As := [.int (nI k), .int (nI kx), .int z3]) (rest := []) ⟨hx, hb, hml, hown, hts⟩ (c_comes l D _ h0 a cm i g w78 fk fv fb fr k cn K kx z3 ka kb nb (by first | assumption | omega) ((hL79.2 _ (by omega)).trans ((hR76 _ (by omega)).trans h1)) (by first | assumption | omega) hKy (by first | assumption | omega) ((hL79.2 _ (by omega)).trans ((hR76 _ (by omega)).trans h6)) ((hL79.2 _ (by omega)).trans ((hR76 _ (by omega)).trans h7)) ((hL79.2 _ (by omega)).trans ((hR76 _ (by omega)).trans h4)) (by first | assumption | omega) (by first | assumption | omega) (by first | assumption | omega) (by first | assumption | omega)) (cwV 3 hts g_c_putsKey_c_comes_218 rfl rfl rfl (by decide +kernel) ⟨(Nat.le_of_ble_eq_true rfl), (Nat.le_of_ble_eq_true rfl)⟩) (PcW_V (q0 := 0) hPc hKc hDc rfl rfl) rfl rfl hl.1 rfl (lv_room (Nat.le_of_ble_eq_true rfl)) dX11_putsKey_59 ⟨(Nat.le_of_ble_eq_true rfl), (Nat.le_of_ble_eq_true rfl)⟩) hS (fun q _ h => hFc q h) hFc (fun uu tt H locs htt hvm hw hB hz1 hk1 hS => ?_)
    obtain ⟨w81, w82, w83, w84, w85⟩ := uu
    obtain ⟨hP1, hK1, hD1⟩ := hB
    rw [htt] at hP1
    have hK1 := va_K.moved hvm.symm hK1
    have hP1 : va_P D vwCl [(h0, .inr (11, gM a i g)), (a 3, .inl (cm 3, 85, .inr (.inl w81))), (a 4, .inl (cm 4, 800, .inl w82)), (a 5, .inl (cm 5, 800, .inl w83)), (a 6, .inl (cm 6, 800, .inl w84)), (a 7, .inl (cm 7, 800, .inl w85))] H := hP1
    obtain ⟨hP, hD⟩ := va_join (wr := [(a 10, .inl (cm 10, 10240, .inr (.inl fa))), (a 11, .inl (cm 11, 10240, .inr (.inl fs))), (a 8, .inl (cm 8, 10240, .inl ff)), (a 9, .inl (cm 9, 10240, .inl fh))]) (w1 := [(h0, .inr (11, gM a i g)), (a 3, .inl (cm 3, 85, .inr (.inl w81))), (a 4, .inl (cm 4, 800, .inl w82)), (a 5, .inl (cm 5, 800, .inl w83)), (a 6, .inl (cm 6, 800, .inl w84)), (a 7, .inl (cm 7, 800, .inl w85))]) hP hD [8, 9, 4, 0, 5, 1] [2, 3, 6, 7] rfl rfl (by decide) (by decide) hk1 hFc hP1 hD1
    have hP : va_P D vwCl [(a 10, .inl (cm 10, 10240, .inr (.inl fa))), (a 11, .inl (cm 11, 10240, .inr (.inl fs))), (a 8, .inl (cm 8, 10240, .inl ff)), (a 9, .inl (cm 9, 10240, .inl fh)), (h0, .inr (11, gM a i g)), (a 3, .inl (cm 3, 85, .inr (.inl w81))), (a 4, .inl (cm 4, 800, .inl w82)), (a 5, .inl (cm 5, 800, .inl w83)), (a 6, .inl (cm 6, 800, .inl w84)), (a 7, .inl (cm 7, 800, .inl w85))] H := hP
    have hD : va_D A [(a 10, .inl (cm 10, 10240, .inr (.inl fa))), (a 11, .inl (cm 11, 10240, .inr (.inl fs))), (a 8, .inl (cm 8, 10240, .inl ff)), (a 9, .inl (cm 9, 10240, .inl fh)), (h0, .inr (11, gM a i g)), (a 3, .inl (cm 3, 85, .inr (.inl w81))), (a 4, .inl (cm 4, 800, .inl w82)), (a 5, .inl (cm 5, 800, .inl w83)), (a 6, .inl (cm 6, 800, .inl w84)), (a 7, .inl (cm 7, 800, .inl w85))] := hD
    try dsimp only at hw
    clear hz1 hk1 hFc hPc hKc hDc
    obtain ⟨hC86_q, hC86_a, hC86_b, hC86_c, hC86_1, hC86_2, hC86_3, hC86_n, hC86_f⟩ := hw
    have hC86_K := Ky_ins hKy hC86_1 hC86_a hkx hC86_b hC86_c hNK
    have hC86_J := Bk_ins hBk hC86_3 hC86_a hbl
    have hC86_J2 : BkS k w84 (cn + 1) 2048 (insN J hC86_q ((ka * kx + kb) % 2147483647 % nb)) := fun y a => ⟨(hC86_J y a).1, by have := (hC86_J y a).2; omega⟩
    refine lv_iload hx hb dX11_putsKey_62 (lv_at hl 1 rfl) ?_
    refine lv_iconst (v := 4) hx hb dX11_putsKey_64 (by decide) ?_
    refine lv_icmp_ne (tgt := 83) hx hb dX11_putsKey_65 (by decide) (fun hc => ?_) (fun hc => absurd hc (by decide))
    refine lv_aload_n hx hb dX11_putsKey_83 rfl (lv_at hl 2 rfl) ?_
    refine va_get (D := D) (ci := 11) (v := .ref (a 9)) (C := RX11) (T := TX11) (N := 47) hx hb hts hin_X11 hown hK hP 4 rfl rfl 9 (by decide) (hts (.fieldLink RX11 33 "ClashFreeModel" "has" "[I") (List.mem_of_getElem? (i := 21) rfl)) (fun _ h9 => h9) rfl dX11_putsKey_84 ?_
    refine lv_sipush (v := 2048) hx hb dX11_putsKey_87 (by decide) ?_
    refine lv_iload_n hx hb dX11_putsKey_90 rfl (lv_at hl 3 rfl) ?_
    refine lv_imul hx hb dX11_putsKey_91 ?_
    refine lv_iload hx hb dX11_putsKey_92 (lv_at hl 0 rfl) ?_
    refine lv_iadd hx hb dX11_putsKey_94 ?_
    refine lv_topi (fun v87 ev87 => ?_)
    obtain rfl : v87 = nI (2048 * k + ((ka * kx + kb) % 2147483647 % nb)) := ev87.trans (ix2048 k _)
    refine lv_dup2_11 hx hb dX11_putsKey_95 rfl rfl ?_
    refine va_iald hx hb hK hP 3 6 rfl rfl (vp_in_nI (by omega) (by decide)) dX11_putsKey_96 ?_
    refine lv_topi (fun v88 ev88 => ?_)
    obtain rfl : v88 = nI (cntJ J cn ((ka * kx + kb) % 2147483647 % nb)) := ev88.trans (by rw [nI_clamp (by omega)]; exact hq1)
    refine lv_iconst (v := 1) hx hb dX11_putsKey_97 (by decide) ?_
    refine lv_iadd hx hb dX11_putsKey_98 ?_
    refine lv_topi (fun v89 ev89 => ?_)
    obtain rfl : v89 = nI (cntJ J cn ((ka * kx + kb) % 2147483647 % nb) + 1) := ev89.trans (nI_1 _)
    refine va_iast hx hb hK hP hD hS 3 6 rfl rfl (vp_in_nI (by omega) (by decide)) dX11_putsKey_99 (fun H locs hP hD hS => ?_)
    have hP : va_P D vwCl [(a 10, .inl (cm 10, 10240, .inr (.inl fa))), (a 11, .inl (cm 11, 10240, .inr (.inl fs))), (a 8, .inl (cm 8, 10240, .inl ff)), (a 9, .inl (cm 9, 10240, .inl (upd fh (Int32.toNatClampNeg (nI (2048 * k + ((ka * kx + kb) % 2147483647 % nb)))) (nI (cntJ J cn ((ka * kx + kb) % 2147483647 % nb) + 1))))), (h0, .inr (11, gM a i g)), (a 3, .inl (cm 3, 85, .inr (.inl w81))), (a 4, .inl (cm 4, 800, .inl w82)), (a 5, .inl (cm 5, 800, .inl w83)), (a 6, .inl (cm 6, 800, .inl w84)), (a 7, .inl (cm 7, 800, .inl w85))] H := hP
    have hD : va_D A [(a 10, .inl (cm 10, 10240, .inr (.inl fa))), (a 11, .inl (cm 11, 10240, .inr (.inl fs))), (a 8, .inl (cm 8, 10240, .inl ff)), (a 9, .inl (cm 9, 10240, .inl (upd fh (Int32.toNatClampNeg (nI (2048 * k + ((ka * kx + kb) % 2147483647 % nb)))) (nI (cntJ J cn ((ka * kx + kb) % 2147483647 % nb) + 1))))), (h0, .inr (11, gM a i g)), (a 3, .inl (cm 3, 85, .inr (.inl w81))), (a 4, .inl (cm 4, 800, .inl w82)), (a 5, .inl (cm 5, 800, .inl w83)), (a 6, .inl (cm 6, 800, .inl w84)), (a 7, .inl (cm 7, 800, .inl w85))] := hD
    rw [show (upd fh (Int32.toNatClampNeg (nI (2048 * k + ((ka * kx + kb) % 2147483647 % nb)))) (nI (cntJ J cn ((ka * kx + kb) % 2147483647 % nb) + 1))) = (upd fh (2048 * k + ((ka * kx + kb) % 2147483647 % nb)) (nI (cntJ J cn ((ka * kx + kb) % 2147483647 % nb) + 1))) from by rw [nI_clamp (by omega)]] at hP hD
    refine lv_iload hx hb dX11_putsKey_100 (lv_at hl 1 rfl) ?_
    refine lv_iconst (v := 1) hx hb dX11_putsKey_102 (by decide) ?_
    refine lv_icmp_ne (tgt := 134) hx hb dX11_putsKey_103 (by decide) (fun hc => ?_) (fun hc => absurd hc (by decide))
    refine lv_iload hx hb dX11_putsKey_134 (lv_at hl 1 rfl) ?_
    refine lv_iconst (v := 3) hx hb dX11_putsKey_136 (by decide) ?_
    refine lv_icmp_ne (tgt := 217) hx hb dX11_putsKey_137 (by decide) (fun hc => absurd (by decide) hc) (fun hc => ?_)
    refine lv_aload_n hx hb dX11_putsKey_140 rfl (lv_at hl 2 rfl) ?_
    refine lv_iload_n hx hb dX11_putsKey_141 rfl (lv_at hl 3 rfl) ?_
    refine lv_iconst (v := 5) hx hb dX11_putsKey_142 (by decide) ?_
    refine lv_aload_n hx hb dX11_putsKey_143 rfl (lv_at hl 2 rfl) ?_
    refine lv_iload_n hx hb dX11_putsKey_144 rfl (lv_at hl 3 rfl) ?_
    refine lv_iload hx hb dX11_putsKey_145 (lv_at hl 0 rfl) ?_
    have hPc := hP.sub (ws' := [(h0, .inr (11, gM a i g)), (a 8, .inl (cm 8, 10240, .inl ff))]) [4, 2] rfl
    have hKc := hK.sub (tys' := [(cm 8, .int)]) [5] rfl
    have hFc := va_free0 hS hA
    refine va_calli (va_runV (As := [.int (nI k), .int (nI ((ka * kx + kb) % 2147483647 % nb))]) (rest := [.int 5, .int (nI k), .ref h0]) ⟨hx, hb, hml, hown, hts⟩ (c_roomsOf l D _ h0 a cm i g ff k ((ka * kx + kb) % 2147483647 % nb) rf (by first | assumption | omega) (by first | assumption | omega) hrf) (cwV 2 hts g_c_putsKey_c_roomsOf_137 rfl rfl rfl (by decide +kernel) ⟨(Nat.le_of_ble_eq_true rfl), (Nat.le_of_ble_eq_true rfl)⟩) (PcR_V (q0 := 0) hPc hKc rfl rfl) rfl rfl hl.1 rfl (lv_room (Nat.le_of_ble_eq_true rfl)) dX11_putsKey_147 ⟨(Nat.le_of_ble_eq_true rfl), (Nat.le_of_ble_eq_true rfl)⟩) hS (fun q _ h => hFc q h) hFc (fun r90 uu tt H locs htt hvm hw hB hz1 hk1 hS => ?_)
    have hP := va_keep hP hk1
    try dsimp only at hw
    clear hB hz1 hk1 hFc hPc hKc
    obtain rfl : r90 = nI (rf * rf) := hw
    refine lv_ineg hx hb dX11_putsKey_150 ?_
    refine lv_topi (fun v91 ev91 => ?_)
    refine lv_i2l hx hb dX11_putsKey_151 rfl ?_
    have hPc := hP.sub (ws' := [(h0, .inr (11, gM a i g)), (a 3, .inl (cm 3, 85, .inr (.inl w81)))]) [4, 5] rfl
    have hKc := hK.sub (tys' := [(cm 3, .long)]) [0] rfl
    have hDc := hD.sub (ws' := [(h0, .inr (11, gM a i g)), (a 3, .inl (cm 3, 85, .inr (.inl w81)))]) [4, 5] (by decide) rfl
    have hFc := va_free (wc := [(h0, .inr (11, gM a i g)), (a 3, .inl (cm 3, 85, .inr (.inl w81)))]) hD hS hA [4, 5] rfl
    refine va_callv (va_runV (As := [.int (nI k), .int (nI 5), .long (Int32.toInt64 v91)]) (rest := []) ⟨hx, hb, hml, hown, hts⟩ (c_adds l D _ h0 a cm i g w81 k 5 (Int32.toInt64 v91) (by first | assumption | omega) (by first | assumption | omega)) (cwV 3 hts g_c_putsKey_c_adds_130 rfl rfl rfl (by decide +kernel) ⟨(Nat.le_of_ble_eq_true rfl), (Nat.le_of_ble_eq_true rfl)⟩) (PcW_V (q0 := 0) hPc hKc hDc rfl rfl) rfl rfl hl.1 rfl (lv_room (Nat.le_of_ble_eq_true rfl)) dX11_putsKey_152 ⟨(Nat.le_of_ble_eq_true rfl), (Nat.le_of_ble_eq_true rfl)⟩) hS (fun q _ h => hFc q h) hFc (fun uu tt H locs htt hvm hw hB hz1 hk1 hS => ?_)
    obtain ⟨w93, rfl⟩ : ∃ z, z = uu := ⟨_, rfl⟩
    obtain ⟨hP1, hK1, hD1⟩ := hB
    rw [htt] at hP1
    have hK1 := va_K.moved hvm.symm hK1
    have hP1 : va_P D vwCl [(h0, .inr (11, gM a i g)), (a 3, .inl (cm 3, 85, .inr (.inl w93)))] H := hP1
    obtain ⟨hP, hD⟩ := va_join (wr := [(a 10, .inl (cm 10, 10240, .inr (.inl fa))), (a 11, .inl (cm 11, 10240, .inr (.inl fs))), (a 8, .inl (cm 8, 10240, .inl ff)), (a 9, .inl (cm 9, 10240, .inl (upd fh (2048 * k + ((ka * kx + kb) % 2147483647 % nb)) (nI (cntJ J cn ((ka * kx + kb) % 2147483647 % nb) + 1))))), (a 4, .inl (cm 4, 800, .inl w82)), (a 5, .inl (cm 5, 800, .inl w83)), (a 6, .inl (cm 6, 800, .inl w84)), (a 7, .inl (cm 7, 800, .inl w85))]) (w1 := [(h0, .inr (11, gM a i g)), (a 3, .inl (cm 3, 85, .inr (.inl w93)))]) hP hD [4, 5] [0, 1, 2, 3, 6, 7, 8, 9] rfl rfl (by decide) (by decide) hk1 hFc hP1 hD1
    have hP : va_P D vwCl [(a 10, .inl (cm 10, 10240, .inr (.inl fa))), (a 11, .inl (cm 11, 10240, .inr (.inl fs))), (a 8, .inl (cm 8, 10240, .inl ff)), (a 9, .inl (cm 9, 10240, .inl (upd fh (2048 * k + ((ka * kx + kb) % 2147483647 % nb)) (nI (cntJ J cn ((ka * kx + kb) % 2147483647 % nb) + 1))))), (a 4, .inl (cm 4, 800, .inl w82)), (a 5, .inl (cm 5, 800, .inl w83)), (a 6, .inl (cm 6, 800, .inl w84)), (a 7, .inl (cm 7, 800, .inl w85)), (h0, .inr (11, gM a i g)), (a 3, .inl (cm 3, 85, .inr (.inl w93)))] H := hP
    have hD : va_D A [(a 10, .inl (cm 10, 10240, .inr (.inl fa))), (a 11, .inl (cm 11, 10240, .inr (.inl fs))), (a 8, .inl (cm 8, 10240, .inl ff)), (a 9, .inl (cm 9, 10240, .inl (upd fh (2048 * k + ((ka * kx + kb) % 2147483647 % nb)) (nI (cntJ J cn ((ka * kx + kb) % 2147483647 % nb) + 1))))), (a 4, .inl (cm 4, 800, .inl w82)), (a 5, .inl (cm 5, 800, .inl w83)), (a 6, .inl (cm 6, 800, .inl w84)), (a 7, .inl (cm 7, 800, .inl w85)), (h0, .inr (11, gM a i g)), (a 3, .inl (cm 3, 85, .inr (.inl w93)))] := hD
    try dsimp only at hw
    clear hz1 hk1 hFc hPc hKc hDc
    have hL94 := hw
    refine lv_aload_n hx hb dX11_putsKey_155 rfl (lv_at hl 2 rfl) ?_
    refine va_get (D := D) (ci := 11) (v := .ref (a 8)) (C := RX11) (T := TX11) (N := 47) hx hb hts hin_X11 hown hK hP 8 rfl rfl 8 (by decide) (hts (.fieldLink RX11 30 "ClashFreeModel" "roofs" "[I") (List.mem_of_getElem? (i := 38) rfl)) (fun _ h9 => h9) rfl dX11_putsKey_156 ?_
    refine lv_sipush (v := 2048) hx hb dX11_putsKey_159 (by decide) ?_
    refine lv_iload_n hx hb dX11_putsKey_162 rfl (lv_at hl 3 rfl) ?_
    refine lv_imul hx hb dX11_putsKey_163 ?_
    refine lv_iload hx hb dX11_putsKey_164 (lv_at hl 0 rfl) ?_
    refine lv_iadd hx hb dX11_putsKey_166 ?_
    refine lv_topi (fun v95 ev95 => ?_)
    obtain rfl : v95 = nI (2048 * k + ((ka * kx + kb) % 2147483647 % nb)) := ev95.trans (ix2048 k _)
    refine lv_aload_n hx hb dX11_putsKey_167 rfl (lv_at hl 2 rfl) ?_
    refine va_get (D := D) (ci := 11) (v := .ref (a 8)) (C := RX11) (T := TX11) (N := 47) hx hb hts hin_X11 hown hK hP 8 rfl rfl 8 (by decide) (hts (.fieldLink RX11 30 "ClashFreeModel" "roofs" "[I") (List.mem_of_getElem? (i := 38) rfl)) (fun _ h9 => h9) rfl dX11_putsKey_168 ?_
    refine lv_sipush (v := 2048) hx hb dX11_putsKey_171 (by decide) ?_
    refine lv_iload_n hx hb dX11_putsKey_174 rfl (lv_at hl 3 rfl) ?_
    refine lv_imul hx hb dX11_putsKey_175 ?_
    refine lv_iload hx hb dX11_putsKey_176 (lv_at hl 0 rfl) ?_
    refine lv_iadd hx hb dX11_putsKey_178 ?_
    refine lv_topi (fun v96 ev96 => ?_)
    obtain rfl : v96 = nI (2048 * k + ((ka * kx + kb) % 2147483647 % nb)) := ev96.trans (ix2048 k _)
    refine va_iald hx hb hK hP 2 5 rfl rfl (vp_in_nI (by omega) (by decide)) dX11_putsKey_179 ?_
    refine lv_topi (fun v97 ev97 => ?_)
    obtain rfl : v97 = nI rf := ev97.trans (by rw [nI_clamp (by omega)]; exact hrf)
    refine lv_if_ne (tgt := 187) hx hb dX11_putsKey_180 (by decide) (fun hc98 => ?_) (fun hc98 => ?_)
    ·
      have hrp : 0 < rf := by
        rcases Nat.eq_zero_or_pos rf with z | z
        · exact absurd (by rw [z]; rfl) hc98
        · exact z
      refine lv_iconst (v := 2) hx hb dX11_putsKey_187 (by decide) ?_
      refine lv_aload_n hx hb dX11_putsKey_188 rfl (lv_at hl 2 rfl) ?_
      refine va_get (D := D) (ci := 11) (v := .ref (a 8)) (C := RX11) (T := TX11) (N := 47) hx hb hts hin_X11 hown hK hP 8 rfl rfl 8 (by decide) (hts (.fieldLink RX11 30 "ClashFreeModel" "roofs" "[I") (List.mem_of_getElem? (i := 38) rfl)) (fun _ h9 => h9) rfl dX11_putsKey_189 ?_
      refine lv_sipush (v := 2048) hx hb dX11_putsKey_192 (by decide) ?_
      refine lv_iload_n hx hb dX11_putsKey_195 rfl (lv_at hl 3 rfl) ?_
      refine lv_imul hx hb dX11_putsKey_196 ?_
      refine lv_iload hx hb dX11_putsKey_197 (lv_at hl 0 rfl) ?_
      refine lv_iadd hx hb dX11_putsKey_199 ?_
      refine lv_topi (fun v99 ev99 => ?_)
      obtain rfl : v99 = nI (2048 * k + ((ka * kx + kb) % 2147483647 % nb)) := ev99.trans (ix2048 k _)
      refine va_iald hx hb hK hP 2 5 rfl rfl (vp_in_nI (by omega) (by decide)) dX11_putsKey_200 ?_
      refine lv_topi (fun v100 ev100 => ?_)
      obtain rfl : v100 = nI rf := ev100.trans (by rw [nI_clamp (by omega)]; exact hrf)
      refine lv_imul hx hb dX11_putsKey_201 ?_
      refine lv_topi (fun v101 ev101 => ?_)
      obtain rfl : v101 = nI (2 * rf) := ev101.trans (pk_mul 2 rf)
      refine va_iast hx hb hK hP hD hS 2 5 rfl rfl (vp_in_nI (by omega) (by decide)) dX11_putsKey_202 (fun H locs hP hD hS => ?_)
      have hP : va_P D vwCl [(a 10, .inl (cm 10, 10240, .inr (.inl fa))), (a 11, .inl (cm 11, 10240, .inr (.inl fs))), (a 8, .inl (cm 8, 10240, .inl (upd ff (Int32.toNatClampNeg (nI (2048 * k + ((ka * kx + kb) % 2147483647 % nb)))) (nI (2 * rf))))), (a 9, .inl (cm 9, 10240, .inl (upd fh (2048 * k + ((ka * kx + kb) % 2147483647 % nb)) (nI (cntJ J cn ((ka * kx + kb) % 2147483647 % nb) + 1))))), (a 4, .inl (cm 4, 800, .inl w82)), (a 5, .inl (cm 5, 800, .inl w83)), (a 6, .inl (cm 6, 800, .inl w84)), (a 7, .inl (cm 7, 800, .inl w85)), (h0, .inr (11, gM a i g)), (a 3, .inl (cm 3, 85, .inr (.inl w93)))] H := hP
      have hD : va_D A [(a 10, .inl (cm 10, 10240, .inr (.inl fa))), (a 11, .inl (cm 11, 10240, .inr (.inl fs))), (a 8, .inl (cm 8, 10240, .inl (upd ff (Int32.toNatClampNeg (nI (2048 * k + ((ka * kx + kb) % 2147483647 % nb)))) (nI (2 * rf))))), (a 9, .inl (cm 9, 10240, .inl (upd fh (2048 * k + ((ka * kx + kb) % 2147483647 % nb)) (nI (cntJ J cn ((ka * kx + kb) % 2147483647 % nb) + 1))))), (a 4, .inl (cm 4, 800, .inl w82)), (a 5, .inl (cm 5, 800, .inl w83)), (a 6, .inl (cm 6, 800, .inl w84)), (a 7, .inl (cm 7, 800, .inl w85)), (h0, .inr (11, gM a i g)), (a 3, .inl (cm 3, 85, .inr (.inl w93)))] := hD
      rw [show (upd ff (Int32.toNatClampNeg (nI (2048 * k + ((ka * kx + kb) % 2147483647 % nb)))) (nI (2 * rf))) = (upd ff (2048 * k + ((ka * kx + kb) % 2147483647 % nb)) (nI (2 * rf))) from by rw [nI_clamp (by omega)]] at hP hD
      refine lv_aload_n hx hb dX11_putsKey_203 rfl (lv_at hl 2 rfl) ?_
      refine lv_iload_n hx hb dX11_putsKey_204 rfl (lv_at hl 3 rfl) ?_
      refine lv_iconst (v := 5) hx hb dX11_putsKey_205 (by decide) ?_
      refine lv_aload_n hx hb dX11_putsKey_206 rfl (lv_at hl 2 rfl) ?_
      refine lv_iload_n hx hb dX11_putsKey_207 rfl (lv_at hl 3 rfl) ?_
      refine lv_iload hx hb dX11_putsKey_208 (lv_at hl 0 rfl) ?_
      have hPc := hP.sub (ws' := [(h0, .inr (11, gM a i g)), (a 8, .inl (cm 8, 10240, .inl (upd ff (2048 * k + ((ka * kx + kb) % 2147483647 % nb)) (nI (2 * rf)))))]) [8, 2] rfl
      have hKc := hK.sub (tys' := [(cm 8, .int)]) [5] rfl
      have hFc := va_free0 hS hA
      refine va_calli (va_runV (As := [.int (nI k), .int (nI ((ka * kx + kb) % 2147483647 % nb))]) (rest := [.int 5, .int (nI k), .ref h0]) ⟨hx, hb, hml, hown, hts⟩ (c_roomsOf l D _ h0 a cm i g (upd ff (2048 * k + ((ka * kx + kb) % 2147483647 % nb)) (nI (2 * rf))) k ((ka * kx + kb) % 2147483647 % nb) (2 * rf) (by first | assumption | omega) (by first | assumption | omega) pk_us) (cwV 2 hts g_c_putsKey_c_roomsOf_137 rfl rfl rfl (by decide +kernel) ⟨(Nat.le_of_ble_eq_true rfl), (Nat.le_of_ble_eq_true rfl)⟩) (PcR_V (q0 := 0) hPc hKc rfl rfl) rfl rfl hl.1 rfl (lv_room (Nat.le_of_ble_eq_true rfl)) dX11_putsKey_210 ⟨(Nat.le_of_ble_eq_true rfl), (Nat.le_of_ble_eq_true rfl)⟩) hS (fun q _ h => hFc q h) hFc (fun r102 uu tt H locs htt hvm hw hB hz1 hk1 hS => ?_)
      have hP := va_keep hP hk1
      try dsimp only at hw
      clear hB hz1 hk1 hFc hPc hKc
      obtain rfl : r102 = nI ((2 * rf) * (2 * rf)) := hw
      refine lv_i2l hx hb dX11_putsKey_213 rfl ?_
      have hPc := hP.sub (ws' := [(h0, .inr (11, gM a i g)), (a 3, .inl (cm 3, 85, .inr (.inl w93)))]) [8, 9] rfl
      have hKc := hK.sub (tys' := [(cm 3, .long)]) [0] rfl
      have hDc := hD.sub (ws' := [(h0, .inr (11, gM a i g)), (a 3, .inl (cm 3, 85, .inr (.inl w93)))]) [8, 9] (by decide) rfl
      have hFc := va_free (wc := [(h0, .inr (11, gM a i g)), (a 3, .inl (cm 3, 85, .inr (.inl w93)))]) hD hS hA [8, 9] rfl
      refine va_callv (va_runV (As := [.int (nI k), .int (nI 5), .long (Int32.toInt64 (nI ((2 * rf) * (2 * rf))))]) (rest := []) ⟨hx, hb, hml, hown, hts⟩ (c_adds l D _ h0 a cm i g w93 k 5 (Int32.toInt64 (nI ((2 * rf) * (2 * rf)))) (by first | assumption | omega) (by first | assumption | omega)) (cwV 3 hts g_c_putsKey_c_adds_130 rfl rfl rfl (by decide +kernel) ⟨(Nat.le_of_ble_eq_true rfl), (Nat.le_of_ble_eq_true rfl)⟩) (PcW_V (q0 := 0) hPc hKc hDc rfl rfl) rfl rfl hl.1 rfl (lv_room (Nat.le_of_ble_eq_true rfl)) dX11_putsKey_214 ⟨(Nat.le_of_ble_eq_true rfl), (Nat.le_of_ble_eq_true rfl)⟩) hS (fun q _ h => hFc q h) hFc (fun uu tt H locs htt hvm hw hB hz1 hk1 hS => ?_)
      obtain ⟨w104, rfl⟩ : ∃ z, z = uu := ⟨_, rfl⟩
      obtain ⟨hP1, hK1, hD1⟩ := hB
      rw [htt] at hP1
      have hK1 := va_K.moved hvm.symm hK1
      have hP1 : va_P D vwCl [(h0, .inr (11, gM a i g)), (a 3, .inl (cm 3, 85, .inr (.inl w104)))] H := hP1
      obtain ⟨hP, hD⟩ := va_join (wr := [(a 10, .inl (cm 10, 10240, .inr (.inl fa))), (a 11, .inl (cm 11, 10240, .inr (.inl fs))), (a 8, .inl (cm 8, 10240, .inl (upd ff (2048 * k + ((ka * kx + kb) % 2147483647 % nb)) (nI (2 * rf))))), (a 9, .inl (cm 9, 10240, .inl (upd fh (2048 * k + ((ka * kx + kb) % 2147483647 % nb)) (nI (cntJ J cn ((ka * kx + kb) % 2147483647 % nb) + 1))))), (a 4, .inl (cm 4, 800, .inl w82)), (a 5, .inl (cm 5, 800, .inl w83)), (a 6, .inl (cm 6, 800, .inl w84)), (a 7, .inl (cm 7, 800, .inl w85))]) (w1 := [(h0, .inr (11, gM a i g)), (a 3, .inl (cm 3, 85, .inr (.inl w104)))]) hP hD [8, 9] [0, 1, 2, 3, 4, 5, 6, 7] rfl rfl (by decide) (by decide) hk1 hFc hP1 hD1
      have hP : va_P D vwCl [(a 10, .inl (cm 10, 10240, .inr (.inl fa))), (a 11, .inl (cm 11, 10240, .inr (.inl fs))), (a 8, .inl (cm 8, 10240, .inl (upd ff (2048 * k + ((ka * kx + kb) % 2147483647 % nb)) (nI (2 * rf))))), (a 9, .inl (cm 9, 10240, .inl (upd fh (2048 * k + ((ka * kx + kb) % 2147483647 % nb)) (nI (cntJ J cn ((ka * kx + kb) % 2147483647 % nb) + 1))))), (a 4, .inl (cm 4, 800, .inl w82)), (a 5, .inl (cm 5, 800, .inl w83)), (a 6, .inl (cm 6, 800, .inl w84)), (a 7, .inl (cm 7, 800, .inl w85)), (h0, .inr (11, gM a i g)), (a 3, .inl (cm 3, 85, .inr (.inl w104)))] H := hP
      have hD : va_D A [(a 10, .inl (cm 10, 10240, .inr (.inl fa))), (a 11, .inl (cm 11, 10240, .inr (.inl fs))), (a 8, .inl (cm 8, 10240, .inl (upd ff (2048 * k + ((ka * kx + kb) % 2147483647 % nb)) (nI (2 * rf))))), (a 9, .inl (cm 9, 10240, .inl (upd fh (2048 * k + ((ka * kx + kb) % 2147483647 % nb)) (nI (cntJ J cn ((ka * kx + kb) % 2147483647 % nb) + 1))))), (a 4, .inl (cm 4, 800, .inl w82)), (a 5, .inl (cm 5, 800, .inl w83)), (a 6, .inl (cm 6, 800, .inl w84)), (a 7, .inl (cm 7, 800, .inl w85)), (h0, .inr (11, gM a i g)), (a 3, .inl (cm 3, 85, .inr (.inl w104)))] := hD
      try dsimp only at hw
      clear hz1 hk1 hFc hPc hKc hDc
      have hL105 := hw
      refine lv_aload_n hx hb dX11_putsKey_217 rfl (lv_at hl 2 rfl) ?_
      refine lv_iload_n hx hb dX11_putsKey_218 rfl (lv_at hl 3 rfl) ?_
      have hPc := hP.sub (ws' := [(h0, .inr (11, gM a i g)), (a 3, .inl (cm 3, 85, .inr (.inl w104)))]) [8, 9] rfl
      have hKc := hK.sub (tys' := [(cm 3, .long)]) [0] rfl
      have hDc := hD.sub (ws' := [(h0, .inr (11, gM a i g)), (a 3, .inl (cm 3, 85, .inr (.inl w104)))]) [8, 9] (by decide) rfl
      have hFc := va_free (wc := [(h0, .inr (11, gM a i g)), (a 3, .inl (cm 3, 85, .inr (.inl w104)))]) hD hS hA [8, 9] rfl
      refine va_callv (va_runV (As := [.int (nI k)]) (rest := []) ⟨hx, hb, hml, hown, hts⟩ (c_takesSeed l D _ h0 a cm i g w104 k (by first | assumption | omega)) (cwV 1 hts g_c_putsKey_c_takesSeed_162 rfl rfl rfl (by decide +kernel) ⟨(Nat.le_of_ble_eq_true rfl), (Nat.le_of_ble_eq_true rfl)⟩) (PcW_V (q0 := 0) hPc hKc hDc rfl rfl) rfl rfl hl.1 rfl (lv_room (Nat.le_of_ble_eq_true rfl)) dX11_putsKey_219 ⟨(Nat.le_of_ble_eq_true rfl), (Nat.le_of_ble_eq_true rfl)⟩) hS (fun q _ h => hFc q h) hFc (fun uu tt H locs htt hvm hw hB hz1 hk1 hS => ?_)
      obtain ⟨w107, w108⟩ := uu
      obtain ⟨hP1, hK1, hD1⟩ := hB
      rw [htt] at hP1
      have hK1 := va_K.moved hvm.symm hK1
      have hP1 : va_P D vwCl [(h0, .inr (11, gM a (upd i 15 w108) (vp_updL g 12 w107))), (a 3, .inl (cm 3, 85, .inr (.inl w104)))] H := hP1
      obtain ⟨hP, hD⟩ := va_join (wr := [(a 10, .inl (cm 10, 10240, .inr (.inl fa))), (a 11, .inl (cm 11, 10240, .inr (.inl fs))), (a 8, .inl (cm 8, 10240, .inl (upd ff (2048 * k + ((ka * kx + kb) % 2147483647 % nb)) (nI (2 * rf))))), (a 9, .inl (cm 9, 10240, .inl (upd fh (2048 * k + ((ka * kx + kb) % 2147483647 % nb)) (nI (cntJ J cn ((ka * kx + kb) % 2147483647 % nb) + 1))))), (a 4, .inl (cm 4, 800, .inl w82)), (a 5, .inl (cm 5, 800, .inl w83)), (a 6, .inl (cm 6, 800, .inl w84)), (a 7, .inl (cm 7, 800, .inl w85))]) (w1 := [(h0, .inr (11, gM a (upd i 15 w108) (vp_updL g 12 w107))), (a 3, .inl (cm 3, 85, .inr (.inl w104)))]) hP hD [8, 9] [0, 1, 2, 3, 4, 5, 6, 7] rfl rfl (by decide) (by decide) hk1 hFc hP1 hD1
      have hP : va_P D vwCl [(a 10, .inl (cm 10, 10240, .inr (.inl fa))), (a 11, .inl (cm 11, 10240, .inr (.inl fs))), (a 8, .inl (cm 8, 10240, .inl (upd ff (2048 * k + ((ka * kx + kb) % 2147483647 % nb)) (nI (2 * rf))))), (a 9, .inl (cm 9, 10240, .inl (upd fh (2048 * k + ((ka * kx + kb) % 2147483647 % nb)) (nI (cntJ J cn ((ka * kx + kb) % 2147483647 % nb) + 1))))), (a 4, .inl (cm 4, 800, .inl w82)), (a 5, .inl (cm 5, 800, .inl w83)), (a 6, .inl (cm 6, 800, .inl w84)), (a 7, .inl (cm 7, 800, .inl w85)), (h0, .inr (11, gM a (upd i 15 w108) (vp_updL g 12 w107))), (a 3, .inl (cm 3, 85, .inr (.inl w104)))] H := hP
      have hD : va_D A [(a 10, .inl (cm 10, 10240, .inr (.inl fa))), (a 11, .inl (cm 11, 10240, .inr (.inl fs))), (a 8, .inl (cm 8, 10240, .inl (upd ff (2048 * k + ((ka * kx + kb) % 2147483647 % nb)) (nI (2 * rf))))), (a 9, .inl (cm 9, 10240, .inl (upd fh (2048 * k + ((ka * kx + kb) % 2147483647 % nb)) (nI (cntJ J cn ((ka * kx + kb) % 2147483647 % nb) + 1))))), (a 4, .inl (cm 4, 800, .inl w82)), (a 5, .inl (cm 5, 800, .inl w83)), (a 6, .inl (cm 6, 800, .inl w84)), (a 7, .inl (cm 7, 800, .inl w85)), (h0, .inr (11, gM a (upd i 15 w108) (vp_updL g 12 w107))), (a 3, .inl (cm 3, 85, .inr (.inl w104)))] := hD
      try dsimp only at hw
      clear hz1 hk1 hFc hPc hKc hDc
      obtain rfl : w108 = 0 := hw
      have hP : va_P D vwCl [(a 10, .inl (cm 10, 10240, .inr (.inl fa))), (a 11, .inl (cm 11, 10240, .inr (.inl fs))), (a 8, .inl (cm 8, 10240, .inl (upd ff (2048 * k + ((ka * kx + kb) % 2147483647 % nb)) (nI (2 * rf))))), (a 9, .inl (cm 9, 10240, .inl (upd fh (2048 * k + ((ka * kx + kb) % 2147483647 % nb)) (nI (cntJ J cn ((ka * kx + kb) % 2147483647 % nb) + 1))))), (a 4, .inl (cm 4, 800, .inl w82)), (a 5, .inl (cm 5, 800, .inl w83)), (a 6, .inl (cm 6, 800, .inl w84)), (a 7, .inl (cm 7, 800, .inl w85)), (h0, .inr (11, gM a (upd i 15 0) (vp_updL g 12 w107))), (a 3, .inl (cm 3, 85, .inr (.inl w104)))] H := hP
      have hD : va_D A [(a 10, .inl (cm 10, 10240, .inr (.inl fa))), (a 11, .inl (cm 11, 10240, .inr (.inl fs))), (a 8, .inl (cm 8, 10240, .inl (upd ff (2048 * k + ((ka * kx + kb) % 2147483647 % nb)) (nI (2 * rf))))), (a 9, .inl (cm 9, 10240, .inl (upd fh (2048 * k + ((ka * kx + kb) % 2147483647 % nb)) (nI (cntJ J cn ((ka * kx + kb) % 2147483647 % nb) + 1))))), (a 4, .inl (cm 4, 800, .inl w82)), (a 5, .inl (cm 5, 800, .inl w83)), (a 6, .inl (cm 6, 800, .inl w84)), (a 7, .inl (cm 7, 800, .inl w85)), (h0, .inr (11, gM a (upd i 15 0) (vp_updL g 12 w107))), (a 3, .inl (cm 3, 85, .inr (.inl w104)))] := hD
      refine lv_aload_n hx hb dX11_putsKey_222 rfl (lv_at hl 2 rfl) ?_
      refine lv_iload_n hx hb dX11_putsKey_223 rfl (lv_at hl 3 rfl) ?_
      refine lv_iload hx hb dX11_putsKey_224 (lv_at hl 0 rfl) ?_
      have hPc := hP.sub (ws' := [(h0, .inr (11, gM a (upd i 15 0) (vp_updL g 12 w107))), (a 3, .inl (cm 3, 85, .inr (.inl w104))), (a 4, .inl (cm 4, 800, .inl w82)), (a 6, .inl (cm 6, 800, .inl w84)), (a 7, .inl (cm 7, 800, .inl w85)), (a 8, .inl (cm 8, 10240, .inl (upd ff (2048 * k + ((ka * kx + kb) % 2147483647 % nb)) (nI (2 * rf))))), (a 10, .inl (cm 10, 10240, .inr (.inl fa))), (a 11, .inl (cm 11, 10240, .inr (.inl fs)))]) [8, 9, 4, 6, 7, 2, 0, 1] rfl
      have hKc := hK.sub (tys' := [(cm 3, .long), (cm 4, .int), (cm 6, .int), (cm 7, .int), (cm 8, .int), (cm 10, .long), (cm 11, .long)]) [0, 1, 3, 4, 5, 7, 8] rfl
      have hDc := hD.sub (ws' := [(h0, .inr (11, gM a (upd i 15 0) (vp_updL g 12 w107))), (a 3, .inl (cm 3, 85, .inr (.inl w104))), (a 4, .inl (cm 4, 800, .inl w82)), (a 6, .inl (cm 6, 800, .inl w84)), (a 7, .inl (cm 7, 800, .inl w85)), (a 8, .inl (cm 8, 10240, .inl (upd ff (2048 * k + ((ka * kx + kb) % 2147483647 % nb)) (nI (2 * rf))))), (a 10, .inl (cm 10, 10240, .inr (.inl fa))), (a 11, .inl (cm 11, 10240, .inr (.inl fs)))]) [8, 9, 4, 6, 7, 2, 0, 1] (by decide) rfl
      have hFc := va_free (wc := [(h0, .inr (11, gM a (upd i 15 0) (vp_updL g 12 w107))), (a 3, .inl (cm 3, 85, .inr (.inl w104))), (a 4, .inl (cm 4, 800, .inl w82)), (a 6, .inl (cm 6, 800, .inl w84)), (a 7, .inl (cm 7, 800, .inl w85)), (a 8, .inl (cm 8, 10240, .inl (upd ff (2048 * k + ((ka * kx + kb) % 2147483647 % nb)) (nI (2 * rf))))), (a 10, .inl (cm 10, 10240, .inr (.inl fa))), (a 11, .inl (cm 11, 10240, .inr (.inl fs)))]) hD hS hA [8, 9, 4, 6, 7, 2, 0, 1] rfl
      refine va_callv (va_runV (As := [.int (nI k), .int (nI ((ka * kx + kb) % 2147483647 % nb))]) (rest := []) ⟨hx, hb, hml, hown, hts⟩ (c_buildsBucket l D _ h0 a cm (upd i 15 0) (vp_updL g 12 w107) w104 w82 w84 w85 (upd ff (2048 * k + ((ka * kx + kb) % 2147483647 % nb)) (nI (2 * rf))) fa fs k ((ka * kx + kb) % 2147483647 % nb) (cn + 1) (insN K hC86_q kx) (insN J hC86_q ((ka * kx + kb) % 2147483647 % nb)) (2 * rf) (by first | assumption | omega) (by first | assumption | omega) ((hL105.2 _ (by omega)).trans ((hL94.2 _ (by omega)).trans hC86_n)) (by first | assumption | omega) hC86_K hC86_J2 pk_us (by first | assumption | omega) (by rw [cnt_self hC86_a]; omega) (by first | assumption | omega) (by first | assumption | omega)) (cwV 2 hts g_c_putsKey_c_buildsBucket_171 rfl rfl rfl (by decide +kernel) ⟨(Nat.le_of_ble_eq_true rfl), (Nat.le_of_ble_eq_true rfl)⟩) (PcW_V (q0 := 0) hPc hKc hDc rfl rfl) rfl rfl hl.1 rfl (lv_room (Nat.le_of_ble_eq_true rfl)) dX11_putsKey_226 ⟨(Nat.le_of_ble_eq_true rfl), (Nat.le_of_ble_eq_true rfl)⟩) hS (fun q _ h => hFc q h) hFc (fun uu tt H locs htt hvm hw hB hz1 hk1 hS => ?_)
      obtain ⟨w110, w111, w112, w113, w114, w115, w116⟩ := uu
      obtain ⟨hP1, hK1, hD1⟩ := hB
      rw [htt] at hP1
      have hK1 := va_K.moved hvm.symm hK1
      have hP1 : va_P D vwCl [(h0, .inr (11, gM a (upd i 15 w116) (vp_updL (vp_updL (vp_updL (fun _ => 0) 12 w113) 13 w114) 14 w115))), (a 3, .inl (cm 3, 85, .inr (.inl w104))), (a 4, .inl (cm 4, 800, .inl w82)), (a 6, .inl (cm 6, 800, .inl w84)), (a 7, .inl (cm 7, 800, .inl w110)), (a 8, .inl (cm 8, 10240, .inl (upd ff (2048 * k + ((ka * kx + kb) % 2147483647 % nb)) (nI (2 * rf))))), (a 10, .inl (cm 10, 10240, .inr (.inl w111))), (a 11, .inl (cm 11, 10240, .inr (.inl w112)))] H := hP1
      obtain ⟨hP, hD⟩ := va_join (wr := [(a 9, .inl (cm 9, 10240, .inl (upd fh (2048 * k + ((ka * kx + kb) % 2147483647 % nb)) (nI (cntJ J cn ((ka * kx + kb) % 2147483647 % nb) + 1))))), (a 5, .inl (cm 5, 800, .inl w83))]) (w1 := [(h0, .inr (11, gM a (upd i 15 w116) (vp_updL (vp_updL (vp_updL (fun _ => 0) 12 w113) 13 w114) 14 w115))), (a 3, .inl (cm 3, 85, .inr (.inl w104))), (a 4, .inl (cm 4, 800, .inl w82)), (a 6, .inl (cm 6, 800, .inl w84)), (a 7, .inl (cm 7, 800, .inl w110)), (a 8, .inl (cm 8, 10240, .inl (upd ff (2048 * k + ((ka * kx + kb) % 2147483647 % nb)) (nI (2 * rf))))), (a 10, .inl (cm 10, 10240, .inr (.inl w111))), (a 11, .inl (cm 11, 10240, .inr (.inl w112)))]) hP hD [8, 9, 4, 6, 7, 2, 0, 1] [3, 5] rfl rfl (by decide) (by decide) hk1 hFc hP1 hD1
      have hP : va_P D vwCl [(a 9, .inl (cm 9, 10240, .inl (upd fh (2048 * k + ((ka * kx + kb) % 2147483647 % nb)) (nI (cntJ J cn ((ka * kx + kb) % 2147483647 % nb) + 1))))), (a 5, .inl (cm 5, 800, .inl w83)), (h0, .inr (11, gM a (upd i 15 w116) (vp_updL (vp_updL (vp_updL (fun _ => 0) 12 w113) 13 w114) 14 w115))), (a 3, .inl (cm 3, 85, .inr (.inl w104))), (a 4, .inl (cm 4, 800, .inl w82)), (a 6, .inl (cm 6, 800, .inl w84)), (a 7, .inl (cm 7, 800, .inl w110)), (a 8, .inl (cm 8, 10240, .inl (upd ff (2048 * k + ((ka * kx + kb) % 2147483647 % nb)) (nI (2 * rf))))), (a 10, .inl (cm 10, 10240, .inr (.inl w111))), (a 11, .inl (cm 11, 10240, .inr (.inl w112)))] H := hP
      have hD : va_D A [(a 9, .inl (cm 9, 10240, .inl (upd fh (2048 * k + ((ka * kx + kb) % 2147483647 % nb)) (nI (cntJ J cn ((ka * kx + kb) % 2147483647 % nb) + 1))))), (a 5, .inl (cm 5, 800, .inl w83)), (h0, .inr (11, gM a (upd i 15 w116) (vp_updL (vp_updL (vp_updL (fun _ => 0) 12 w113) 13 w114) 14 w115))), (a 3, .inl (cm 3, 85, .inr (.inl w104))), (a 4, .inl (cm 4, 800, .inl w82)), (a 6, .inl (cm 6, 800, .inl w84)), (a 7, .inl (cm 7, 800, .inl w110)), (a 8, .inl (cm 8, 10240, .inl (upd ff (2048 * k + ((ka * kx + kb) % 2147483647 % nb)) (nI (2 * rf))))), (a 10, .inl (cm 10, 10240, .inr (.inl w111))), (a 11, .inl (cm 11, 10240, .inr (.inl w112)))] := hD
      try dsimp only at hw
      clear hz1 hk1 hFc hPc hKc hDc
      have hB117 := hw
      refine lv_aload_n hx hb dX11_putsKey_229 rfl (lv_at hl 2 rfl) ?_
      refine lv_iload_n hx hb dX11_putsKey_230 rfl (lv_at hl 3 rfl) ?_
      have hPc := hP.sub (ws' := [(h0, .inr (11, gM a (upd i 15 w116) (vp_updL (vp_updL (vp_updL (fun _ => 0) 12 w113) 13 w114) 14 w115))), (a 3, .inl (cm 3, 85, .inr (.inl w104)))]) [2, 3] rfl
      have hKc := hK.sub (tys' := [(cm 3, .long)]) [0] rfl
      have hDc := hD.sub (ws' := [(h0, .inr (11, gM a (upd i 15 w116) (vp_updL (vp_updL (vp_updL (fun _ => 0) 12 w113) 13 w114) 14 w115))), (a 3, .inl (cm 3, 85, .inr (.inl w104)))]) [2, 3] (by decide) rfl
      have hFc := va_free (wc := [(h0, .inr (11, gM a (upd i 15 w116) (vp_updL (vp_updL (vp_updL (fun _ => 0) 12 w113) 13 w114) 14 w115))), (a 3, .inl (cm 3, 85, .inr (.inl w104)))]) hD hS hA [2, 3] rfl
      refine va_callv (va_runV (As := [.int (nI k)]) (rest := []) ⟨hx, hb, hml, hown, hts⟩ (c_laysSeed l D _ h0 a cm (upd i 15 w116) (vp_updL (vp_updL (vp_updL (fun _ => 0) 12 w113) 13 w114) 14 w115) w104 k (by first | assumption | omega)) (cwV 1 hts g_c_putsKey_c_laysSeed_175 rfl rfl rfl (by decide +kernel) ⟨(Nat.le_of_ble_eq_true rfl), (Nat.le_of_ble_eq_true rfl)⟩) (PcW_V (q0 := 0) hPc hKc hDc rfl rfl) rfl rfl hl.1 rfl (lv_room (Nat.le_of_ble_eq_true rfl)) dX11_putsKey_231 ⟨(Nat.le_of_ble_eq_true rfl), (Nat.le_of_ble_eq_true rfl)⟩) hS (fun q _ h => hFc q h) hFc (fun uu tt H locs htt hvm hw hB hz1 hk1 hS => ?_)
      obtain ⟨w119, rfl⟩ : ∃ z, z = uu := ⟨_, rfl⟩
      obtain ⟨hP1, hK1, hD1⟩ := hB
      rw [htt] at hP1
      have hK1 := va_K.moved hvm.symm hK1
      have hP1 : va_P D vwCl [(h0, .inr (11, gM a (upd i 15 w116) (vp_updL (vp_updL (vp_updL (fun _ => 0) 12 w113) 13 w114) 14 w115))), (a 3, .inl (cm 3, 85, .inr (.inl w119)))] H := hP1
      obtain ⟨hP, hD⟩ := va_join (wr := [(a 9, .inl (cm 9, 10240, .inl (upd fh (2048 * k + ((ka * kx + kb) % 2147483647 % nb)) (nI (cntJ J cn ((ka * kx + kb) % 2147483647 % nb) + 1))))), (a 5, .inl (cm 5, 800, .inl w83)), (a 4, .inl (cm 4, 800, .inl w82)), (a 6, .inl (cm 6, 800, .inl w84)), (a 7, .inl (cm 7, 800, .inl w110)), (a 8, .inl (cm 8, 10240, .inl (upd ff (2048 * k + ((ka * kx + kb) % 2147483647 % nb)) (nI (2 * rf))))), (a 10, .inl (cm 10, 10240, .inr (.inl w111))), (a 11, .inl (cm 11, 10240, .inr (.inl w112)))]) (w1 := [(h0, .inr (11, gM a (upd i 15 w116) (vp_updL (vp_updL (vp_updL (fun _ => 0) 12 w113) 13 w114) 14 w115))), (a 3, .inl (cm 3, 85, .inr (.inl w119)))]) hP hD [2, 3] [0, 1, 4, 5, 6, 7, 8, 9] rfl rfl (by decide) (by decide) hk1 hFc hP1 hD1
      have hP : va_P D vwCl [(a 9, .inl (cm 9, 10240, .inl (upd fh (2048 * k + ((ka * kx + kb) % 2147483647 % nb)) (nI (cntJ J cn ((ka * kx + kb) % 2147483647 % nb) + 1))))), (a 5, .inl (cm 5, 800, .inl w83)), (a 4, .inl (cm 4, 800, .inl w82)), (a 6, .inl (cm 6, 800, .inl w84)), (a 7, .inl (cm 7, 800, .inl w110)), (a 8, .inl (cm 8, 10240, .inl (upd ff (2048 * k + ((ka * kx + kb) % 2147483647 % nb)) (nI (2 * rf))))), (a 10, .inl (cm 10, 10240, .inr (.inl w111))), (a 11, .inl (cm 11, 10240, .inr (.inl w112))), (h0, .inr (11, gM a (upd i 15 w116) (vp_updL (vp_updL (vp_updL (fun _ => 0) 12 w113) 13 w114) 14 w115))), (a 3, .inl (cm 3, 85, .inr (.inl w119)))] H := hP
      have hD : va_D A [(a 9, .inl (cm 9, 10240, .inl (upd fh (2048 * k + ((ka * kx + kb) % 2147483647 % nb)) (nI (cntJ J cn ((ka * kx + kb) % 2147483647 % nb) + 1))))), (a 5, .inl (cm 5, 800, .inl w83)), (a 4, .inl (cm 4, 800, .inl w82)), (a 6, .inl (cm 6, 800, .inl w84)), (a 7, .inl (cm 7, 800, .inl w110)), (a 8, .inl (cm 8, 10240, .inl (upd ff (2048 * k + ((ka * kx + kb) % 2147483647 % nb)) (nI (2 * rf))))), (a 10, .inl (cm 10, 10240, .inr (.inl w111))), (a 11, .inl (cm 11, 10240, .inr (.inl w112))), (h0, .inr (11, gM a (upd i 15 w116) (vp_updL (vp_updL (vp_updL (fun _ => 0) 12 w113) 13 w114) 14 w115))), (a 3, .inl (cm 3, 85, .inr (.inl w119)))] := hD
      try dsimp only at hw
      clear hz1 hk1 hFc hPc hKc hDc
      have hL120 := hw
      refine lv_aload_n hx hb dX11_putsKey_234 rfl (lv_at hl 2 rfl) ?_
      refine lv_iload_n hx hb dX11_putsKey_235 rfl (lv_at hl 3 rfl) ?_
      refine lv_bipush (v := 10) hx hb dX11_putsKey_236 (by decide) ?_
      refine lv_lconst (v := 1) hx hb dX11_putsKey_238 (by decide) ?_
      have hPc := hP.sub (ws' := [(h0, .inr (11, gM a (upd i 15 w116) (vp_updL (vp_updL (vp_updL (fun _ => 0) 12 w113) 13 w114) 14 w115))), (a 3, .inl (cm 3, 85, .inr (.inl w119)))]) [8, 9] rfl
      have hKc := hK.sub (tys' := [(cm 3, .long)]) [0] rfl
      have hDc := hD.sub (ws' := [(h0, .inr (11, gM a (upd i 15 w116) (vp_updL (vp_updL (vp_updL (fun _ => 0) 12 w113) 13 w114) 14 w115))), (a 3, .inl (cm 3, 85, .inr (.inl w119)))]) [8, 9] (by decide) rfl
      have hFc := va_free (wc := [(h0, .inr (11, gM a (upd i 15 w116) (vp_updL (vp_updL (vp_updL (fun _ => 0) 12 w113) 13 w114) 14 w115))), (a 3, .inl (cm 3, 85, .inr (.inl w119)))]) hD hS hA [8, 9] rfl
      refine va_callv (va_runV (As := [.int (nI k), .int (nI 10), .long 1]) (rest := []) ⟨hx, hb, hml, hown, hts⟩ (c_adds l D _ h0 a cm (upd i 15 w116) (vp_updL (vp_updL (vp_updL (fun _ => 0) 12 w113) 13 w114) 14 w115) w119 k 10 1 (by first | assumption | omega) (by first | assumption | omega)) (cwV 3 hts g_c_putsKey_c_adds_130 rfl rfl rfl (by decide +kernel) ⟨(Nat.le_of_ble_eq_true rfl), (Nat.le_of_ble_eq_true rfl)⟩) (PcW_V (q0 := 0) hPc hKc hDc rfl rfl) rfl rfl hl.1 rfl (lv_room (Nat.le_of_ble_eq_true rfl)) dX11_putsKey_239 ⟨(Nat.le_of_ble_eq_true rfl), (Nat.le_of_ble_eq_true rfl)⟩) hS (fun q _ h => hFc q h) hFc (fun uu tt H locs htt hvm hw hB hz1 hk1 hS => ?_)
      obtain ⟨w122, rfl⟩ : ∃ z, z = uu := ⟨_, rfl⟩
      obtain ⟨hP1, hK1, hD1⟩ := hB
      rw [htt] at hP1
      have hK1 := va_K.moved hvm.symm hK1
      have hP1 : va_P D vwCl [(h0, .inr (11, gM a (upd i 15 w116) (vp_updL (vp_updL (vp_updL (fun _ => 0) 12 w113) 13 w114) 14 w115))), (a 3, .inl (cm 3, 85, .inr (.inl w122)))] H := hP1
      obtain ⟨hP, hD⟩ := va_join (wr := [(a 9, .inl (cm 9, 10240, .inl (upd fh (2048 * k + ((ka * kx + kb) % 2147483647 % nb)) (nI (cntJ J cn ((ka * kx + kb) % 2147483647 % nb) + 1))))), (a 5, .inl (cm 5, 800, .inl w83)), (a 4, .inl (cm 4, 800, .inl w82)), (a 6, .inl (cm 6, 800, .inl w84)), (a 7, .inl (cm 7, 800, .inl w110)), (a 8, .inl (cm 8, 10240, .inl (upd ff (2048 * k + ((ka * kx + kb) % 2147483647 % nb)) (nI (2 * rf))))), (a 10, .inl (cm 10, 10240, .inr (.inl w111))), (a 11, .inl (cm 11, 10240, .inr (.inl w112)))]) (w1 := [(h0, .inr (11, gM a (upd i 15 w116) (vp_updL (vp_updL (vp_updL (fun _ => 0) 12 w113) 13 w114) 14 w115))), (a 3, .inl (cm 3, 85, .inr (.inl w122)))]) hP hD [8, 9] [0, 1, 2, 3, 4, 5, 6, 7] rfl rfl (by decide) (by decide) hk1 hFc hP1 hD1
      have hP : va_P D vwCl [(a 9, .inl (cm 9, 10240, .inl (upd fh (2048 * k + ((ka * kx + kb) % 2147483647 % nb)) (nI (cntJ J cn ((ka * kx + kb) % 2147483647 % nb) + 1))))), (a 5, .inl (cm 5, 800, .inl w83)), (a 4, .inl (cm 4, 800, .inl w82)), (a 6, .inl (cm 6, 800, .inl w84)), (a 7, .inl (cm 7, 800, .inl w110)), (a 8, .inl (cm 8, 10240, .inl (upd ff (2048 * k + ((ka * kx + kb) % 2147483647 % nb)) (nI (2 * rf))))), (a 10, .inl (cm 10, 10240, .inr (.inl w111))), (a 11, .inl (cm 11, 10240, .inr (.inl w112))), (h0, .inr (11, gM a (upd i 15 w116) (vp_updL (vp_updL (vp_updL (fun _ => 0) 12 w113) 13 w114) 14 w115))), (a 3, .inl (cm 3, 85, .inr (.inl w122)))] H := hP
      have hD : va_D A [(a 9, .inl (cm 9, 10240, .inl (upd fh (2048 * k + ((ka * kx + kb) % 2147483647 % nb)) (nI (cntJ J cn ((ka * kx + kb) % 2147483647 % nb) + 1))))), (a 5, .inl (cm 5, 800, .inl w83)), (a 4, .inl (cm 4, 800, .inl w82)), (a 6, .inl (cm 6, 800, .inl w84)), (a 7, .inl (cm 7, 800, .inl w110)), (a 8, .inl (cm 8, 10240, .inl (upd ff (2048 * k + ((ka * kx + kb) % 2147483647 % nb)) (nI (2 * rf))))), (a 10, .inl (cm 10, 10240, .inr (.inl w111))), (a 11, .inl (cm 11, 10240, .inr (.inl w112))), (h0, .inr (11, gM a (upd i 15 w116) (vp_updL (vp_updL (vp_updL (fun _ => 0) 12 w113) 13 w114) 14 w115))), (a 3, .inl (cm 3, 85, .inr (.inl w122)))] := hD
      try dsimp only at hw
      clear hz1 hk1 hFc hPc hKc hDc
      have hL123 := hw
      refine lv_aload_n hx hb dX11_putsKey_242 rfl (lv_at hl 2 rfl) ?_
      refine lv_iload_n hx hb dX11_putsKey_243 rfl (lv_at hl 3 rfl) ?_
      refine lv_bipush (v := 12) hx hb dX11_putsKey_244 (by decide) ?_
      refine lv_aload_n hx hb dX11_putsKey_246 rfl (lv_at hl 2 rfl) ?_
      refine va_get (D := D) (ci := 11) (v := .ref (a 9)) (C := RX11) (T := TX11) (N := 47) hx hb hts hin_X11 hown hK hP 8 rfl rfl 9 (by decide) (hts (.fieldLink RX11 33 "ClashFreeModel" "has" "[I") (List.mem_of_getElem? (i := 21) rfl)) (fun _ h9 => h9) rfl dX11_putsKey_247 ?_
      refine lv_sipush (v := 2048) hx hb dX11_putsKey_250 (by decide) ?_
      refine lv_iload_n hx hb dX11_putsKey_253 rfl (lv_at hl 3 rfl) ?_
      refine lv_imul hx hb dX11_putsKey_254 ?_
      refine lv_iload hx hb dX11_putsKey_255 (lv_at hl 0 rfl) ?_
      refine lv_iadd hx hb dX11_putsKey_257 ?_
      refine lv_topi (fun v124 ev124 => ?_)
      obtain rfl : v124 = nI (2048 * k + ((ka * kx + kb) % 2147483647 % nb)) := ev124.trans (ix2048 k _)
      refine va_iald hx hb hK hP 0 6 rfl rfl (vp_in_nI (by omega) (by decide)) dX11_putsKey_258 ?_
      refine lv_topi (fun v125 ev125 => ?_)
      refine lv_i2l hx hb dX11_putsKey_259 rfl ?_
      have hPc := hP.sub (ws' := [(h0, .inr (11, gM a (upd i 15 w116) (vp_updL (vp_updL (vp_updL (fun _ => 0) 12 w113) 13 w114) 14 w115))), (a 3, .inl (cm 3, 85, .inr (.inl w122)))]) [8, 9] rfl
      have hKc := hK.sub (tys' := [(cm 3, .long)]) [0] rfl
      have hDc := hD.sub (ws' := [(h0, .inr (11, gM a (upd i 15 w116) (vp_updL (vp_updL (vp_updL (fun _ => 0) 12 w113) 13 w114) 14 w115))), (a 3, .inl (cm 3, 85, .inr (.inl w122)))]) [8, 9] (by decide) rfl
      have hFc := va_free (wc := [(h0, .inr (11, gM a (upd i 15 w116) (vp_updL (vp_updL (vp_updL (fun _ => 0) 12 w113) 13 w114) 14 w115))), (a 3, .inl (cm 3, 85, .inr (.inl w122)))]) hD hS hA [8, 9] rfl
      refine va_callv (va_runV (As := [.int (nI k), .int (nI 12), .long (Int32.toInt64 v125)]) (rest := []) ⟨hx, hb, hml, hown, hts⟩ (c_adds l D _ h0 a cm (upd i 15 w116) (vp_updL (vp_updL (vp_updL (fun _ => 0) 12 w113) 13 w114) 14 w115) w122 k 12 (Int32.toInt64 v125) (by first | assumption | omega) (by first | assumption | omega)) (cwV 3 hts g_c_putsKey_c_adds_130 rfl rfl rfl (by decide +kernel) ⟨(Nat.le_of_ble_eq_true rfl), (Nat.le_of_ble_eq_true rfl)⟩) (PcW_V (q0 := 0) hPc hKc hDc rfl rfl) rfl rfl hl.1 rfl (lv_room (Nat.le_of_ble_eq_true rfl)) dX11_putsKey_260 ⟨(Nat.le_of_ble_eq_true rfl), (Nat.le_of_ble_eq_true rfl)⟩) hS (fun q _ h => hFc q h) hFc (fun uu tt H locs htt hvm hw hB hz1 hk1 hS => ?_)
      obtain ⟨w127, rfl⟩ : ∃ z, z = uu := ⟨_, rfl⟩
      obtain ⟨hP1, hK1, hD1⟩ := hB
      rw [htt] at hP1
      have hK1 := va_K.moved hvm.symm hK1
      have hP1 : va_P D vwCl [(h0, .inr (11, gM a (upd i 15 w116) (vp_updL (vp_updL (vp_updL (fun _ => 0) 12 w113) 13 w114) 14 w115))), (a 3, .inl (cm 3, 85, .inr (.inl w127)))] H := hP1
      obtain ⟨hP, hD⟩ := va_join (wr := [(a 9, .inl (cm 9, 10240, .inl (upd fh (2048 * k + ((ka * kx + kb) % 2147483647 % nb)) (nI (cntJ J cn ((ka * kx + kb) % 2147483647 % nb) + 1))))), (a 5, .inl (cm 5, 800, .inl w83)), (a 4, .inl (cm 4, 800, .inl w82)), (a 6, .inl (cm 6, 800, .inl w84)), (a 7, .inl (cm 7, 800, .inl w110)), (a 8, .inl (cm 8, 10240, .inl (upd ff (2048 * k + ((ka * kx + kb) % 2147483647 % nb)) (nI (2 * rf))))), (a 10, .inl (cm 10, 10240, .inr (.inl w111))), (a 11, .inl (cm 11, 10240, .inr (.inl w112)))]) (w1 := [(h0, .inr (11, gM a (upd i 15 w116) (vp_updL (vp_updL (vp_updL (fun _ => 0) 12 w113) 13 w114) 14 w115))), (a 3, .inl (cm 3, 85, .inr (.inl w127)))]) hP hD [8, 9] [0, 1, 2, 3, 4, 5, 6, 7] rfl rfl (by decide) (by decide) hk1 hFc hP1 hD1
      have hP : va_P D vwCl [(a 9, .inl (cm 9, 10240, .inl (upd fh (2048 * k + ((ka * kx + kb) % 2147483647 % nb)) (nI (cntJ J cn ((ka * kx + kb) % 2147483647 % nb) + 1))))), (a 5, .inl (cm 5, 800, .inl w83)), (a 4, .inl (cm 4, 800, .inl w82)), (a 6, .inl (cm 6, 800, .inl w84)), (a 7, .inl (cm 7, 800, .inl w110)), (a 8, .inl (cm 8, 10240, .inl (upd ff (2048 * k + ((ka * kx + kb) % 2147483647 % nb)) (nI (2 * rf))))), (a 10, .inl (cm 10, 10240, .inr (.inl w111))), (a 11, .inl (cm 11, 10240, .inr (.inl w112))), (h0, .inr (11, gM a (upd i 15 w116) (vp_updL (vp_updL (vp_updL (fun _ => 0) 12 w113) 13 w114) 14 w115))), (a 3, .inl (cm 3, 85, .inr (.inl w127)))] H := hP
      have hD : va_D A [(a 9, .inl (cm 9, 10240, .inl (upd fh (2048 * k + ((ka * kx + kb) % 2147483647 % nb)) (nI (cntJ J cn ((ka * kx + kb) % 2147483647 % nb) + 1))))), (a 5, .inl (cm 5, 800, .inl w83)), (a 4, .inl (cm 4, 800, .inl w82)), (a 6, .inl (cm 6, 800, .inl w84)), (a 7, .inl (cm 7, 800, .inl w110)), (a 8, .inl (cm 8, 10240, .inl (upd ff (2048 * k + ((ka * kx + kb) % 2147483647 % nb)) (nI (2 * rf))))), (a 10, .inl (cm 10, 10240, .inr (.inl w111))), (a 11, .inl (cm 11, 10240, .inr (.inl w112))), (h0, .inr (11, gM a (upd i 15 w116) (vp_updL (vp_updL (vp_updL (fun _ => 0) 12 w113) 13 w114) 14 w115))), (a 3, .inl (cm 3, 85, .inr (.inl w127)))] := hD
      try dsimp only at hw
      clear hz1 hk1 hFc hPc hKc hDc
      have hL128 := hw
      refine lv_iload hx hb dX11_putsKey_263 (lv_at hl 1 rfl) ?_
      have hTz : TabS k (cn + 1) nb (insN K hC86_q kx) (insN J hC86_q ((ka * kx + kb) % 2147483647 % nb)) w127 w82 w84 (upd ff (2048 * k + ((ka * kx + kb) % 2147483647 % nb)) (nI (2 * rf))) (upd fh (2048 * k + ((ka * kx + kb) % 2147483647 % nb)) (nI (cntJ J cn ((ka * kx + kb) % 2147483647 % nb) + 1))) := ⟨((hL128.2 _ (by omega)).trans ((hL123.2 _ (by omega)).trans ((hL120 _ (by omega) (by omega)).trans ((hL105.2 _ (by omega)).trans ((hL94.2 _ (by omega)).trans hC86_n))))), (by omega), ((hL128.2 _ (by omega)).trans ((hL123.2 _ (by omega)).trans ((hL120 _ (by omega) (by omega)).trans ((hL105.2 _ (by omega)).trans ((hL94.2 _ (by omega)).trans ((hC86_f _ (by omega)).trans ((hL79.2 _ (by omega)).trans ((hR76 _ (by omega)).trans h4)))))))), hn1, hn2, ⟨ka, kb, hka, hkb, ((hL128.2 _ (by omega)).trans ((hL123.2 _ (by omega)).trans ((hL120 _ (by omega) (by omega)).trans ((hL105.2 _ (by omega)).trans ((hL94.2 _ (by omega)).trans ((hC86_f _ (by omega)).trans ((hL79.2 _ (by omega)).trans ((hR76 _ (by omega)).trans h6)))))))), ((hL128.2 _ (by omega)).trans ((hL123.2 _ (by omega)).trans ((hL120 _ (by omega) (by omega)).trans ((hL105.2 _ (by omega)).trans ((hL94.2 _ (by omega)).trans ((hC86_f _ (by omega)).trans ((hL79.2 _ (by omega)).trans ((hR76 _ (by omega)).trans h7))))))))⟩, hC86_K, hC86_J, Hs_ins hHs hC86_a hbl pk_us (fun c e => pk_un (by omega)) (by omega) (by omega), ⟨bn, ns, gr, ((hL128.2 _ (by omega)).trans ((hL123.2 _ (by omega)).trans ((hL120 _ (by omega) (by omega)).trans ((hL105.2 _ (by omega)).trans ((hL94.2 _ (by omega)).trans ((hC86_f _ (by omega)).trans ((hL79.2 _ (by omega)).trans ((hR76 _ (by omega)).trans h14)))))))), hbn, ((hL128.2 _ (by omega)).trans ((hL123.2 _ (by omega)).trans ((hL120 _ (by omega) (by omega)).trans ((hL105.2 _ (by omega)).trans ((hL94.2 _ (by omega)).trans ((hC86_f _ (by omega)).trans ((hL79.2 _ (by omega)).trans ((hR76 _ (by omega)).trans h15)))))))), hs1, hs2, ((hL128.2 _ (by omega)).trans ((hL123.2 _ (by omega)).trans ((hL120 _ (by omega) (by omega)).trans ((hL105.2 _ (by omega)).trans ((hL94.2 _ (by omega)).trans ((hC86_f _ (by omega)).trans ((hL79.2 _ (by omega)).trans ((hR76 _ (by omega)).trans h16)))))))), hgr⟩⟩
      exact W.iret (v := 3) hx hb hr (fun t ht hW => ⟨⟨3, (w127, w82, w83, w84, w110, (upd ff (2048 * k + ((ka * kx + kb) % 2147483647 % nb)) (nI (2 * rf))), (upd fh (2048 * k + ((ka * kx + kb) % 2147483647 % nb)) (nI (cntJ J cn ((ka * kx + kb) % 2147483647 % nb) + 1))), w111, w112, w113, w114, w115, w116), rfl, ⟨⟨_, _, _, _, hTz⟩, hB117.1, hB117.2, fun x e => (hL128.2 x (by omega)).trans ((hL123.2 x (by omega)).trans ((hL120 x (by omega) (by omega)).trans ((hL105.2 x (by omega)).trans ((hL94.2 x (by omega)).trans ((hC86_f x (by omega)).trans ((hL79.2 x (by omega)).trans ((hR76 x (by omega))))))))), ((hL128.2 _ (by omega)).trans ((hL123.2 _ (by omega)).trans ((hL120 _ (by omega) (by omega)).trans ((hL105.2 _ (by omega)).trans ((hL94.2 _ (by omega)).trans ((hC86_f _ (by omega)).trans ((hL79.2 _ (by omega)).trans ((hR76 _ (by omega)).trans rfl)))))))), hC86_1.2.2.2, hC86_3.2.2.2, fun x e => pk_un (by omega), fun x e => pk_un (by omega), lsR_upd (fun x e => (hL128.2 x (by omega)).trans ((hL123.2 x (by omega)).trans ((hL120 x (by omega) (by omega)).trans ((hL105.2 x (by omega)).trans ((hL94.2 x (by omega)).trans ((hC86_f x (by omega)).trans ((hL79.2 x (by omega)).trans ((hR76 x (by omega)))))))))) (hC86_1.2.2.2) (hC86_2.2.2.2) ((lsR_T hk hTz _).trans ((put_nR (fun j a => (hKy.1 j a).2) hkx hC86_2 hC86_a hC86_b hC86_c hNK).trans (congrArg (putL · kx z3) (lsR_T hk hT _).symm))), Or.inr ⟨by decide, hNK⟩⟩, by rw [ht]; exact hP.sub [8, 9, 2, 1, 3, 4, 5, 0, 6, 7] rfl, va_K.moved hW.alike (hK.sub [0, 1, 2, 3, 4, 5, 6, 7, 8] rfl), hD.sub [8, 9, 2, 1, 3, 4, 5, 0, 6, 7] (by decide) rfl⟩, hS.F ht⟩) hS.2.2 dX11_putsKey_265
    ·
      have hrz : rf = 0 := (nI_eq (b := 0) (by omega) (by decide)).mp hc98
      refine lv_iconst (v := 2) hx hb dX11_putsKey_183 (by decide) ?_
      refine lv_goto (tgt := 202) hx hb dX11_putsKey_184 (by decide) ?_
      refine lv_topi (fun v129 ev129 => ?_)
      obtain rfl : v129 = nI 2 := ev129.trans (rfl)
      refine va_iast hx hb hK hP hD hS 2 5 rfl rfl (vp_in_nI (by omega) (by decide)) dX11_putsKey_202 (fun H locs hP hD hS => ?_)
      have hP : va_P D vwCl [(a 10, .inl (cm 10, 10240, .inr (.inl fa))), (a 11, .inl (cm 11, 10240, .inr (.inl fs))), (a 8, .inl (cm 8, 10240, .inl (upd ff (Int32.toNatClampNeg (nI (2048 * k + ((ka * kx + kb) % 2147483647 % nb)))) (nI 2)))), (a 9, .inl (cm 9, 10240, .inl (upd fh (2048 * k + ((ka * kx + kb) % 2147483647 % nb)) (nI (cntJ J cn ((ka * kx + kb) % 2147483647 % nb) + 1))))), (a 4, .inl (cm 4, 800, .inl w82)), (a 5, .inl (cm 5, 800, .inl w83)), (a 6, .inl (cm 6, 800, .inl w84)), (a 7, .inl (cm 7, 800, .inl w85)), (h0, .inr (11, gM a i g)), (a 3, .inl (cm 3, 85, .inr (.inl w93)))] H := hP
      have hD : va_D A [(a 10, .inl (cm 10, 10240, .inr (.inl fa))), (a 11, .inl (cm 11, 10240, .inr (.inl fs))), (a 8, .inl (cm 8, 10240, .inl (upd ff (Int32.toNatClampNeg (nI (2048 * k + ((ka * kx + kb) % 2147483647 % nb)))) (nI 2)))), (a 9, .inl (cm 9, 10240, .inl (upd fh (2048 * k + ((ka * kx + kb) % 2147483647 % nb)) (nI (cntJ J cn ((ka * kx + kb) % 2147483647 % nb) + 1))))), (a 4, .inl (cm 4, 800, .inl w82)), (a 5, .inl (cm 5, 800, .inl w83)), (a 6, .inl (cm 6, 800, .inl w84)), (a 7, .inl (cm 7, 800, .inl w85)), (h0, .inr (11, gM a i g)), (a 3, .inl (cm 3, 85, .inr (.inl w93)))] := hD
      rw [show (upd ff (Int32.toNatClampNeg (nI (2048 * k + ((ka * kx + kb) % 2147483647 % nb)))) (nI 2)) = (upd ff (2048 * k + ((ka * kx + kb) % 2147483647 % nb)) (nI 2)) from by rw [nI_clamp (by omega)]] at hP hD
      refine lv_aload_n hx hb dX11_putsKey_203 rfl (lv_at hl 2 rfl) ?_
      refine lv_iload_n hx hb dX11_putsKey_204 rfl (lv_at hl 3 rfl) ?_
      refine lv_iconst (v := 5) hx hb dX11_putsKey_205 (by decide) ?_
      refine lv_aload_n hx hb dX11_putsKey_206 rfl (lv_at hl 2 rfl) ?_
      refine lv_iload_n hx hb dX11_putsKey_207 rfl (lv_at hl 3 rfl) ?_
      refine lv_iload hx hb dX11_putsKey_208 (lv_at hl 0 rfl) ?_
      have hPc := hP.sub (ws' := [(h0, .inr (11, gM a i g)), (a 8, .inl (cm 8, 10240, .inl (upd ff (2048 * k + ((ka * kx + kb) % 2147483647 % nb)) (nI 2))))]) [8, 2] rfl
      have hKc := hK.sub (tys' := [(cm 8, .int)]) [5] rfl
      have hFc := va_free0 hS hA
      refine va_calli (va_runV (As := [.int (nI k), .int (nI ((ka * kx + kb) % 2147483647 % nb))]) (rest := [.int 5, .int (nI k), .ref h0]) ⟨hx, hb, hml, hown, hts⟩ (c_roomsOf l D _ h0 a cm i g (upd ff (2048 * k + ((ka * kx + kb) % 2147483647 % nb)) (nI 2)) k ((ka * kx + kb) % 2147483647 % nb) 2 (by first | assumption | omega) (by first | assumption | omega) pk_us) (cwV 2 hts g_c_putsKey_c_roomsOf_137 rfl rfl rfl (by decide +kernel) ⟨(Nat.le_of_ble_eq_true rfl), (Nat.le_of_ble_eq_true rfl)⟩) (PcR_V (q0 := 0) hPc hKc rfl rfl) rfl rfl hl.1 rfl (lv_room (Nat.le_of_ble_eq_true rfl)) dX11_putsKey_210 ⟨(Nat.le_of_ble_eq_true rfl), (Nat.le_of_ble_eq_true rfl)⟩) hS (fun q _ h => hFc q h) hFc (fun r130 uu tt H locs htt hvm hw hB hz1 hk1 hS => ?_)
      have hP := va_keep hP hk1
      try dsimp only at hw
      clear hB hz1 hk1 hFc hPc hKc
      obtain rfl : r130 = nI (2 * 2) := hw
      refine lv_i2l hx hb dX11_putsKey_213 rfl ?_
      have hPc := hP.sub (ws' := [(h0, .inr (11, gM a i g)), (a 3, .inl (cm 3, 85, .inr (.inl w93)))]) [8, 9] rfl
      have hKc := hK.sub (tys' := [(cm 3, .long)]) [0] rfl
      have hDc := hD.sub (ws' := [(h0, .inr (11, gM a i g)), (a 3, .inl (cm 3, 85, .inr (.inl w93)))]) [8, 9] (by decide) rfl
      have hFc := va_free (wc := [(h0, .inr (11, gM a i g)), (a 3, .inl (cm 3, 85, .inr (.inl w93)))]) hD hS hA [8, 9] rfl
      refine va_callv (va_runV (As := [.int (nI k), .int (nI 5), .long (Int32.toInt64 (nI (2 * 2)))]) (rest := []) ⟨hx, hb, hml, hown, hts⟩ (c_adds l D _ h0 a cm i g w93 k 5 (Int32.toInt64 (nI (2 * 2))) (by first | assumption | omega) (by first | assumption | omega)) (cwV 3 hts g_c_putsKey_c_adds_130 rfl rfl rfl (by decide +kernel) ⟨(Nat.le_of_ble_eq_true rfl), (Nat.le_of_ble_eq_true rfl)⟩) (PcW_V (q0 := 0) hPc hKc hDc rfl rfl) rfl rfl hl.1 rfl (lv_room (Nat.le_of_ble_eq_true rfl)) dX11_putsKey_214 ⟨(Nat.le_of_ble_eq_true rfl), (Nat.le_of_ble_eq_true rfl)⟩) hS (fun q _ h => hFc q h) hFc (fun uu tt H locs htt hvm hw hB hz1 hk1 hS => ?_)
      obtain ⟨w132, rfl⟩ : ∃ z, z = uu := ⟨_, rfl⟩
      obtain ⟨hP1, hK1, hD1⟩ := hB
      rw [htt] at hP1
      have hK1 := va_K.moved hvm.symm hK1
      have hP1 : va_P D vwCl [(h0, .inr (11, gM a i g)), (a 3, .inl (cm 3, 85, .inr (.inl w132)))] H := hP1
      obtain ⟨hP, hD⟩ := va_join (wr := [(a 10, .inl (cm 10, 10240, .inr (.inl fa))), (a 11, .inl (cm 11, 10240, .inr (.inl fs))), (a 8, .inl (cm 8, 10240, .inl (upd ff (2048 * k + ((ka * kx + kb) % 2147483647 % nb)) (nI 2)))), (a 9, .inl (cm 9, 10240, .inl (upd fh (2048 * k + ((ka * kx + kb) % 2147483647 % nb)) (nI (cntJ J cn ((ka * kx + kb) % 2147483647 % nb) + 1))))), (a 4, .inl (cm 4, 800, .inl w82)), (a 5, .inl (cm 5, 800, .inl w83)), (a 6, .inl (cm 6, 800, .inl w84)), (a 7, .inl (cm 7, 800, .inl w85))]) (w1 := [(h0, .inr (11, gM a i g)), (a 3, .inl (cm 3, 85, .inr (.inl w132)))]) hP hD [8, 9] [0, 1, 2, 3, 4, 5, 6, 7] rfl rfl (by decide) (by decide) hk1 hFc hP1 hD1
      have hP : va_P D vwCl [(a 10, .inl (cm 10, 10240, .inr (.inl fa))), (a 11, .inl (cm 11, 10240, .inr (.inl fs))), (a 8, .inl (cm 8, 10240, .inl (upd ff (2048 * k + ((ka * kx + kb) % 2147483647 % nb)) (nI 2)))), (a 9, .inl (cm 9, 10240, .inl (upd fh (2048 * k + ((ka * kx + kb) % 2147483647 % nb)) (nI (cntJ J cn ((ka * kx + kb) % 2147483647 % nb) + 1))))), (a 4, .inl (cm 4, 800, .inl w82)), (a 5, .inl (cm 5, 800, .inl w83)), (a 6, .inl (cm 6, 800, .inl w84)), (a 7, .inl (cm 7, 800, .inl w85)), (h0, .inr (11, gM a i g)), (a 3, .inl (cm 3, 85, .inr (.inl w132)))] H := hP
      have hD : va_D A [(a 10, .inl (cm 10, 10240, .inr (.inl fa))), (a 11, .inl (cm 11, 10240, .inr (.inl fs))), (a 8, .inl (cm 8, 10240, .inl (upd ff (2048 * k + ((ka * kx + kb) % 2147483647 % nb)) (nI 2)))), (a 9, .inl (cm 9, 10240, .inl (upd fh (2048 * k + ((ka * kx + kb) % 2147483647 % nb)) (nI (cntJ J cn ((ka * kx + kb) % 2147483647 % nb) + 1))))), (a 4, .inl (cm 4, 800, .inl w82)), (a 5, .inl (cm 5, 800, .inl w83)), (a 6, .inl (cm 6, 800, .inl w84)), (a 7, .inl (cm 7, 800, .inl w85)), (h0, .inr (11, gM a i g)), (a 3, .inl (cm 3, 85, .inr (.inl w132)))] := hD
      try dsimp only at hw
      clear hz1 hk1 hFc hPc hKc hDc
      have hL133 := hw
      refine lv_aload_n hx hb dX11_putsKey_217 rfl (lv_at hl 2 rfl) ?_
      refine lv_iload_n hx hb dX11_putsKey_218 rfl (lv_at hl 3 rfl) ?_
      have hPc := hP.sub (ws' := [(h0, .inr (11, gM a i g)), (a 3, .inl (cm 3, 85, .inr (.inl w132)))]) [8, 9] rfl
      have hKc := hK.sub (tys' := [(cm 3, .long)]) [0] rfl
      have hDc := hD.sub (ws' := [(h0, .inr (11, gM a i g)), (a 3, .inl (cm 3, 85, .inr (.inl w132)))]) [8, 9] (by decide) rfl
      have hFc := va_free (wc := [(h0, .inr (11, gM a i g)), (a 3, .inl (cm 3, 85, .inr (.inl w132)))]) hD hS hA [8, 9] rfl
      refine va_callv (va_runV (As := [.int (nI k)]) (rest := []) ⟨hx, hb, hml, hown, hts⟩ (c_takesSeed l D _ h0 a cm i g w132 k (by first | assumption | omega)) (cwV 1 hts g_c_putsKey_c_takesSeed_162 rfl rfl rfl (by decide +kernel) ⟨(Nat.le_of_ble_eq_true rfl), (Nat.le_of_ble_eq_true rfl)⟩) (PcW_V (q0 := 0) hPc hKc hDc rfl rfl) rfl rfl hl.1 rfl (lv_room (Nat.le_of_ble_eq_true rfl)) dX11_putsKey_219 ⟨(Nat.le_of_ble_eq_true rfl), (Nat.le_of_ble_eq_true rfl)⟩) hS (fun q _ h => hFc q h) hFc (fun uu tt H locs htt hvm hw hB hz1 hk1 hS => ?_)
      obtain ⟨w135, w136⟩ := uu
      obtain ⟨hP1, hK1, hD1⟩ := hB
      rw [htt] at hP1
      have hK1 := va_K.moved hvm.symm hK1
      have hP1 : va_P D vwCl [(h0, .inr (11, gM a (upd i 15 w136) (vp_updL g 12 w135))), (a 3, .inl (cm 3, 85, .inr (.inl w132)))] H := hP1
      obtain ⟨hP, hD⟩ := va_join (wr := [(a 10, .inl (cm 10, 10240, .inr (.inl fa))), (a 11, .inl (cm 11, 10240, .inr (.inl fs))), (a 8, .inl (cm 8, 10240, .inl (upd ff (2048 * k + ((ka * kx + kb) % 2147483647 % nb)) (nI 2)))), (a 9, .inl (cm 9, 10240, .inl (upd fh (2048 * k + ((ka * kx + kb) % 2147483647 % nb)) (nI (cntJ J cn ((ka * kx + kb) % 2147483647 % nb) + 1))))), (a 4, .inl (cm 4, 800, .inl w82)), (a 5, .inl (cm 5, 800, .inl w83)), (a 6, .inl (cm 6, 800, .inl w84)), (a 7, .inl (cm 7, 800, .inl w85))]) (w1 := [(h0, .inr (11, gM a (upd i 15 w136) (vp_updL g 12 w135))), (a 3, .inl (cm 3, 85, .inr (.inl w132)))]) hP hD [8, 9] [0, 1, 2, 3, 4, 5, 6, 7] rfl rfl (by decide) (by decide) hk1 hFc hP1 hD1
      have hP : va_P D vwCl [(a 10, .inl (cm 10, 10240, .inr (.inl fa))), (a 11, .inl (cm 11, 10240, .inr (.inl fs))), (a 8, .inl (cm 8, 10240, .inl (upd ff (2048 * k + ((ka * kx + kb) % 2147483647 % nb)) (nI 2)))), (a 9, .inl (cm 9, 10240, .inl (upd fh (2048 * k + ((ka * kx + kb) % 2147483647 % nb)) (nI (cntJ J cn ((ka * kx + kb) % 2147483647 % nb) + 1))))), (a 4, .inl (cm 4, 800, .inl w82)), (a 5, .inl (cm 5, 800, .inl w83)), (a 6, .inl (cm 6, 800, .inl w84)), (a 7, .inl (cm 7, 800, .inl w85)), (h0, .inr (11, gM a (upd i 15 w136) (vp_updL g 12 w135))), (a 3, .inl (cm 3, 85, .inr (.inl w132)))] H := hP
      have hD : va_D A [(a 10, .inl (cm 10, 10240, .inr (.inl fa))), (a 11, .inl (cm 11, 10240, .inr (.inl fs))), (a 8, .inl (cm 8, 10240, .inl (upd ff (2048 * k + ((ka * kx + kb) % 2147483647 % nb)) (nI 2)))), (a 9, .inl (cm 9, 10240, .inl (upd fh (2048 * k + ((ka * kx + kb) % 2147483647 % nb)) (nI (cntJ J cn ((ka * kx + kb) % 2147483647 % nb) + 1))))), (a 4, .inl (cm 4, 800, .inl w82)), (a 5, .inl (cm 5, 800, .inl w83)), (a 6, .inl (cm 6, 800, .inl w84)), (a 7, .inl (cm 7, 800, .inl w85)), (h0, .inr (11, gM a (upd i 15 w136) (vp_updL g 12 w135))), (a 3, .inl (cm 3, 85, .inr (.inl w132)))] := hD
      try dsimp only at hw
      clear hz1 hk1 hFc hPc hKc hDc
      obtain rfl : w136 = 0 := hw
      have hP : va_P D vwCl [(a 10, .inl (cm 10, 10240, .inr (.inl fa))), (a 11, .inl (cm 11, 10240, .inr (.inl fs))), (a 8, .inl (cm 8, 10240, .inl (upd ff (2048 * k + ((ka * kx + kb) % 2147483647 % nb)) (nI 2)))), (a 9, .inl (cm 9, 10240, .inl (upd fh (2048 * k + ((ka * kx + kb) % 2147483647 % nb)) (nI (cntJ J cn ((ka * kx + kb) % 2147483647 % nb) + 1))))), (a 4, .inl (cm 4, 800, .inl w82)), (a 5, .inl (cm 5, 800, .inl w83)), (a 6, .inl (cm 6, 800, .inl w84)), (a 7, .inl (cm 7, 800, .inl w85)), (h0, .inr (11, gM a (upd i 15 0) (vp_updL g 12 w135))), (a 3, .inl (cm 3, 85, .inr (.inl w132)))] H := hP
      have hD : va_D A [(a 10, .inl (cm 10, 10240, .inr (.inl fa))), (a 11, .inl (cm 11, 10240, .inr (.inl fs))), (a 8, .inl (cm 8, 10240, .inl (upd ff (2048 * k + ((ka * kx + kb) % 2147483647 % nb)) (nI 2)))), (a 9, .inl (cm 9, 10240, .inl (upd fh (2048 * k + ((ka * kx + kb) % 2147483647 % nb)) (nI (cntJ J cn ((ka * kx + kb) % 2147483647 % nb) + 1))))), (a 4, .inl (cm 4, 800, .inl w82)), (a 5, .inl (cm 5, 800, .inl w83)), (a 6, .inl (cm 6, 800, .inl w84)), (a 7, .inl (cm 7, 800, .inl w85)), (h0, .inr (11, gM a (upd i 15 0) (vp_updL g 12 w135))), (a 3, .inl (cm 3, 85, .inr (.inl w132)))] := hD
      refine lv_aload_n hx hb dX11_putsKey_222 rfl (lv_at hl 2 rfl) ?_
      refine lv_iload_n hx hb dX11_putsKey_223 rfl (lv_at hl 3 rfl) ?_
      refine lv_iload hx hb dX11_putsKey_224 (lv_at hl 0 rfl) ?_
      have hPc := hP.sub (ws' := [(h0, .inr (11, gM a (upd i 15 0) (vp_updL g 12 w135))), (a 3, .inl (cm 3, 85, .inr (.inl w132))), (a 4, .inl (cm 4, 800, .inl w82)), (a 6, .inl (cm 6, 800, .inl w84)), (a 7, .inl (cm 7, 800, .inl w85)), (a 8, .inl (cm 8, 10240, .inl (upd ff (2048 * k + ((ka * kx + kb) % 2147483647 % nb)) (nI 2)))), (a 10, .inl (cm 10, 10240, .inr (.inl fa))), (a 11, .inl (cm 11, 10240, .inr (.inl fs)))]) [8, 9, 4, 6, 7, 2, 0, 1] rfl
      have hKc := hK.sub (tys' := [(cm 3, .long), (cm 4, .int), (cm 6, .int), (cm 7, .int), (cm 8, .int), (cm 10, .long), (cm 11, .long)]) [0, 1, 3, 4, 5, 7, 8] rfl
      have hDc := hD.sub (ws' := [(h0, .inr (11, gM a (upd i 15 0) (vp_updL g 12 w135))), (a 3, .inl (cm 3, 85, .inr (.inl w132))), (a 4, .inl (cm 4, 800, .inl w82)), (a 6, .inl (cm 6, 800, .inl w84)), (a 7, .inl (cm 7, 800, .inl w85)), (a 8, .inl (cm 8, 10240, .inl (upd ff (2048 * k + ((ka * kx + kb) % 2147483647 % nb)) (nI 2)))), (a 10, .inl (cm 10, 10240, .inr (.inl fa))), (a 11, .inl (cm 11, 10240, .inr (.inl fs)))]) [8, 9, 4, 6, 7, 2, 0, 1] (by decide) rfl
      have hFc := va_free (wc := [(h0, .inr (11, gM a (upd i 15 0) (vp_updL g 12 w135))), (a 3, .inl (cm 3, 85, .inr (.inl w132))), (a 4, .inl (cm 4, 800, .inl w82)), (a 6, .inl (cm 6, 800, .inl w84)), (a 7, .inl (cm 7, 800, .inl w85)), (a 8, .inl (cm 8, 10240, .inl (upd ff (2048 * k + ((ka * kx + kb) % 2147483647 % nb)) (nI 2)))), (a 10, .inl (cm 10, 10240, .inr (.inl fa))), (a 11, .inl (cm 11, 10240, .inr (.inl fs)))]) hD hS hA [8, 9, 4, 6, 7, 2, 0, 1] rfl
      refine va_callv (va_runV (As := [.int (nI k), .int (nI ((ka * kx + kb) % 2147483647 % nb))]) (rest := []) ⟨hx, hb, hml, hown, hts⟩ (c_buildsBucket l D _ h0 a cm (upd i 15 0) (vp_updL g 12 w135) w132 w82 w84 w85 (upd ff (2048 * k + ((ka * kx + kb) % 2147483647 % nb)) (nI 2)) fa fs k ((ka * kx + kb) % 2147483647 % nb) (cn + 1) (insN K hC86_q kx) (insN J hC86_q ((ka * kx + kb) % 2147483647 % nb)) 2 (by first | assumption | omega) (by first | assumption | omega) ((hL133.2 _ (by omega)).trans ((hL94.2 _ (by omega)).trans hC86_n)) (by first | assumption | omega) hC86_K hC86_J2 pk_us (by first | assumption | omega) (by rw [cnt_self hC86_a]; omega) (by first | assumption | omega) (by first | assumption | omega)) (cwV 2 hts g_c_putsKey_c_buildsBucket_171 rfl rfl rfl (by decide +kernel) ⟨(Nat.le_of_ble_eq_true rfl), (Nat.le_of_ble_eq_true rfl)⟩) (PcW_V (q0 := 0) hPc hKc hDc rfl rfl) rfl rfl hl.1 rfl (lv_room (Nat.le_of_ble_eq_true rfl)) dX11_putsKey_226 ⟨(Nat.le_of_ble_eq_true rfl), (Nat.le_of_ble_eq_true rfl)⟩) hS (fun q _ h => hFc q h) hFc (fun uu tt H locs htt hvm hw hB hz1 hk1 hS => ?_)
      obtain ⟨w138, w139, w140, w141, w142, w143, w144⟩ := uu
      obtain ⟨hP1, hK1, hD1⟩ := hB
      rw [htt] at hP1
      have hK1 := va_K.moved hvm.symm hK1
      have hP1 : va_P D vwCl [(h0, .inr (11, gM a (upd i 15 w144) (vp_updL (vp_updL (vp_updL (fun _ => 0) 12 w141) 13 w142) 14 w143))), (a 3, .inl (cm 3, 85, .inr (.inl w132))), (a 4, .inl (cm 4, 800, .inl w82)), (a 6, .inl (cm 6, 800, .inl w84)), (a 7, .inl (cm 7, 800, .inl w138)), (a 8, .inl (cm 8, 10240, .inl (upd ff (2048 * k + ((ka * kx + kb) % 2147483647 % nb)) (nI 2)))), (a 10, .inl (cm 10, 10240, .inr (.inl w139))), (a 11, .inl (cm 11, 10240, .inr (.inl w140)))] H := hP1
      obtain ⟨hP, hD⟩ := va_join (wr := [(a 9, .inl (cm 9, 10240, .inl (upd fh (2048 * k + ((ka * kx + kb) % 2147483647 % nb)) (nI (cntJ J cn ((ka * kx + kb) % 2147483647 % nb) + 1))))), (a 5, .inl (cm 5, 800, .inl w83))]) (w1 := [(h0, .inr (11, gM a (upd i 15 w144) (vp_updL (vp_updL (vp_updL (fun _ => 0) 12 w141) 13 w142) 14 w143))), (a 3, .inl (cm 3, 85, .inr (.inl w132))), (a 4, .inl (cm 4, 800, .inl w82)), (a 6, .inl (cm 6, 800, .inl w84)), (a 7, .inl (cm 7, 800, .inl w138)), (a 8, .inl (cm 8, 10240, .inl (upd ff (2048 * k + ((ka * kx + kb) % 2147483647 % nb)) (nI 2)))), (a 10, .inl (cm 10, 10240, .inr (.inl w139))), (a 11, .inl (cm 11, 10240, .inr (.inl w140)))]) hP hD [8, 9, 4, 6, 7, 2, 0, 1] [3, 5] rfl rfl (by decide) (by decide) hk1 hFc hP1 hD1
      have hP : va_P D vwCl [(a 9, .inl (cm 9, 10240, .inl (upd fh (2048 * k + ((ka * kx + kb) % 2147483647 % nb)) (nI (cntJ J cn ((ka * kx + kb) % 2147483647 % nb) + 1))))), (a 5, .inl (cm 5, 800, .inl w83)), (h0, .inr (11, gM a (upd i 15 w144) (vp_updL (vp_updL (vp_updL (fun _ => 0) 12 w141) 13 w142) 14 w143))), (a 3, .inl (cm 3, 85, .inr (.inl w132))), (a 4, .inl (cm 4, 800, .inl w82)), (a 6, .inl (cm 6, 800, .inl w84)), (a 7, .inl (cm 7, 800, .inl w138)), (a 8, .inl (cm 8, 10240, .inl (upd ff (2048 * k + ((ka * kx + kb) % 2147483647 % nb)) (nI 2)))), (a 10, .inl (cm 10, 10240, .inr (.inl w139))), (a 11, .inl (cm 11, 10240, .inr (.inl w140)))] H := hP
      have hD : va_D A [(a 9, .inl (cm 9, 10240, .inl (upd fh (2048 * k + ((ka * kx + kb) % 2147483647 % nb)) (nI (cntJ J cn ((ka * kx + kb) % 2147483647 % nb) + 1))))), (a 5, .inl (cm 5, 800, .inl w83)), (h0, .inr (11, gM a (upd i 15 w144) (vp_updL (vp_updL (vp_updL (fun _ => 0) 12 w141) 13 w142) 14 w143))), (a 3, .inl (cm 3, 85, .inr (.inl w132))), (a 4, .inl (cm 4, 800, .inl w82)), (a 6, .inl (cm 6, 800, .inl w84)), (a 7, .inl (cm 7, 800, .inl w138)), (a 8, .inl (cm 8, 10240, .inl (upd ff (2048 * k + ((ka * kx + kb) % 2147483647 % nb)) (nI 2)))), (a 10, .inl (cm 10, 10240, .inr (.inl w139))), (a 11, .inl (cm 11, 10240, .inr (.inl w140)))] := hD
      try dsimp only at hw
      clear hz1 hk1 hFc hPc hKc hDc
      have hB145 := hw
      refine lv_aload_n hx hb dX11_putsKey_229 rfl (lv_at hl 2 rfl) ?_
      refine lv_iload_n hx hb dX11_putsKey_230 rfl (lv_at hl 3 rfl) ?_
      have hPc := hP.sub (ws' := [(h0, .inr (11, gM a (upd i 15 w144) (vp_updL (vp_updL (vp_updL (fun _ => 0) 12 w141) 13 w142) 14 w143))), (a 3, .inl (cm 3, 85, .inr (.inl w132)))]) [2, 3] rfl
      have hKc := hK.sub (tys' := [(cm 3, .long)]) [0] rfl
      have hDc := hD.sub (ws' := [(h0, .inr (11, gM a (upd i 15 w144) (vp_updL (vp_updL (vp_updL (fun _ => 0) 12 w141) 13 w142) 14 w143))), (a 3, .inl (cm 3, 85, .inr (.inl w132)))]) [2, 3] (by decide) rfl
      have hFc := va_free (wc := [(h0, .inr (11, gM a (upd i 15 w144) (vp_updL (vp_updL (vp_updL (fun _ => 0) 12 w141) 13 w142) 14 w143))), (a 3, .inl (cm 3, 85, .inr (.inl w132)))]) hD hS hA [2, 3] rfl
      refine va_callv (va_runV (As := [.int (nI k)]) (rest := []) ⟨hx, hb, hml, hown, hts⟩ (c_laysSeed l D _ h0 a cm (upd i 15 w144) (vp_updL (vp_updL (vp_updL (fun _ => 0) 12 w141) 13 w142) 14 w143) w132 k (by first | assumption | omega)) (cwV 1 hts g_c_putsKey_c_laysSeed_175 rfl rfl rfl (by decide +kernel) ⟨(Nat.le_of_ble_eq_true rfl), (Nat.le_of_ble_eq_true rfl)⟩) (PcW_V (q0 := 0) hPc hKc hDc rfl rfl) rfl rfl hl.1 rfl (lv_room (Nat.le_of_ble_eq_true rfl)) dX11_putsKey_231 ⟨(Nat.le_of_ble_eq_true rfl), (Nat.le_of_ble_eq_true rfl)⟩) hS (fun q _ h => hFc q h) hFc (fun uu tt H locs htt hvm hw hB hz1 hk1 hS => ?_)
      obtain ⟨w147, rfl⟩ : ∃ z, z = uu := ⟨_, rfl⟩
      obtain ⟨hP1, hK1, hD1⟩ := hB
      rw [htt] at hP1
      have hK1 := va_K.moved hvm.symm hK1
      have hP1 : va_P D vwCl [(h0, .inr (11, gM a (upd i 15 w144) (vp_updL (vp_updL (vp_updL (fun _ => 0) 12 w141) 13 w142) 14 w143))), (a 3, .inl (cm 3, 85, .inr (.inl w147)))] H := hP1
      obtain ⟨hP, hD⟩ := va_join (wr := [(a 9, .inl (cm 9, 10240, .inl (upd fh (2048 * k + ((ka * kx + kb) % 2147483647 % nb)) (nI (cntJ J cn ((ka * kx + kb) % 2147483647 % nb) + 1))))), (a 5, .inl (cm 5, 800, .inl w83)), (a 4, .inl (cm 4, 800, .inl w82)), (a 6, .inl (cm 6, 800, .inl w84)), (a 7, .inl (cm 7, 800, .inl w138)), (a 8, .inl (cm 8, 10240, .inl (upd ff (2048 * k + ((ka * kx + kb) % 2147483647 % nb)) (nI 2)))), (a 10, .inl (cm 10, 10240, .inr (.inl w139))), (a 11, .inl (cm 11, 10240, .inr (.inl w140)))]) (w1 := [(h0, .inr (11, gM a (upd i 15 w144) (vp_updL (vp_updL (vp_updL (fun _ => 0) 12 w141) 13 w142) 14 w143))), (a 3, .inl (cm 3, 85, .inr (.inl w147)))]) hP hD [2, 3] [0, 1, 4, 5, 6, 7, 8, 9] rfl rfl (by decide) (by decide) hk1 hFc hP1 hD1
      have hP : va_P D vwCl [(a 9, .inl (cm 9, 10240, .inl (upd fh (2048 * k + ((ka * kx + kb) % 2147483647 % nb)) (nI (cntJ J cn ((ka * kx + kb) % 2147483647 % nb) + 1))))), (a 5, .inl (cm 5, 800, .inl w83)), (a 4, .inl (cm 4, 800, .inl w82)), (a 6, .inl (cm 6, 800, .inl w84)), (a 7, .inl (cm 7, 800, .inl w138)), (a 8, .inl (cm 8, 10240, .inl (upd ff (2048 * k + ((ka * kx + kb) % 2147483647 % nb)) (nI 2)))), (a 10, .inl (cm 10, 10240, .inr (.inl w139))), (a 11, .inl (cm 11, 10240, .inr (.inl w140))), (h0, .inr (11, gM a (upd i 15 w144) (vp_updL (vp_updL (vp_updL (fun _ => 0) 12 w141) 13 w142) 14 w143))), (a 3, .inl (cm 3, 85, .inr (.inl w147)))] H := hP
      have hD : va_D A [(a 9, .inl (cm 9, 10240, .inl (upd fh (2048 * k + ((ka * kx + kb) % 2147483647 % nb)) (nI (cntJ J cn ((ka * kx + kb) % 2147483647 % nb) + 1))))), (a 5, .inl (cm 5, 800, .inl w83)), (a 4, .inl (cm 4, 800, .inl w82)), (a 6, .inl (cm 6, 800, .inl w84)), (a 7, .inl (cm 7, 800, .inl w138)), (a 8, .inl (cm 8, 10240, .inl (upd ff (2048 * k + ((ka * kx + kb) % 2147483647 % nb)) (nI 2)))), (a 10, .inl (cm 10, 10240, .inr (.inl w139))), (a 11, .inl (cm 11, 10240, .inr (.inl w140))), (h0, .inr (11, gM a (upd i 15 w144) (vp_updL (vp_updL (vp_updL (fun _ => 0) 12 w141) 13 w142) 14 w143))), (a 3, .inl (cm 3, 85, .inr (.inl w147)))] := hD
      try dsimp only at hw
      clear hz1 hk1 hFc hPc hKc hDc
      have hL148 := hw
      refine lv_aload_n hx hb dX11_putsKey_234 rfl (lv_at hl 2 rfl) ?_
      refine lv_iload_n hx hb dX11_putsKey_235 rfl (lv_at hl 3 rfl) ?_
      refine lv_bipush (v := 10) hx hb dX11_putsKey_236 (by decide) ?_
      refine lv_lconst (v := 1) hx hb dX11_putsKey_238 (by decide) ?_
      have hPc := hP.sub (ws' := [(h0, .inr (11, gM a (upd i 15 w144) (vp_updL (vp_updL (vp_updL (fun _ => 0) 12 w141) 13 w142) 14 w143))), (a 3, .inl (cm 3, 85, .inr (.inl w147)))]) [8, 9] rfl
      have hKc := hK.sub (tys' := [(cm 3, .long)]) [0] rfl
      have hDc := hD.sub (ws' := [(h0, .inr (11, gM a (upd i 15 w144) (vp_updL (vp_updL (vp_updL (fun _ => 0) 12 w141) 13 w142) 14 w143))), (a 3, .inl (cm 3, 85, .inr (.inl w147)))]) [8, 9] (by decide) rfl
      have hFc := va_free (wc := [(h0, .inr (11, gM a (upd i 15 w144) (vp_updL (vp_updL (vp_updL (fun _ => 0) 12 w141) 13 w142) 14 w143))), (a 3, .inl (cm 3, 85, .inr (.inl w147)))]) hD hS hA [8, 9] rfl
      refine va_callv (va_runV (As := [.int (nI k), .int (nI 10), .long 1]) (rest := []) ⟨hx, hb, hml, hown, hts⟩ (c_adds l D _ h0 a cm (upd i 15 w144) (vp_updL (vp_updL (vp_updL (fun _ => 0) 12 w141) 13 w142) 14 w143) w147 k 10 1 (by first | assumption | omega) (by first | assumption | omega)) (cwV 3 hts g_c_putsKey_c_adds_130 rfl rfl rfl (by decide +kernel) ⟨(Nat.le_of_ble_eq_true rfl), (Nat.le_of_ble_eq_true rfl)⟩) (PcW_V (q0 := 0) hPc hKc hDc rfl rfl) rfl rfl hl.1 rfl (lv_room (Nat.le_of_ble_eq_true rfl)) dX11_putsKey_239 ⟨(Nat.le_of_ble_eq_true rfl), (Nat.le_of_ble_eq_true rfl)⟩) hS (fun q _ h => hFc q h) hFc (fun uu tt H locs htt hvm hw hB hz1 hk1 hS => ?_)
      obtain ⟨w150, rfl⟩ : ∃ z, z = uu := ⟨_, rfl⟩
      obtain ⟨hP1, hK1, hD1⟩ := hB
      rw [htt] at hP1
      have hK1 := va_K.moved hvm.symm hK1
      have hP1 : va_P D vwCl [(h0, .inr (11, gM a (upd i 15 w144) (vp_updL (vp_updL (vp_updL (fun _ => 0) 12 w141) 13 w142) 14 w143))), (a 3, .inl (cm 3, 85, .inr (.inl w150)))] H := hP1
      obtain ⟨hP, hD⟩ := va_join (wr := [(a 9, .inl (cm 9, 10240, .inl (upd fh (2048 * k + ((ka * kx + kb) % 2147483647 % nb)) (nI (cntJ J cn ((ka * kx + kb) % 2147483647 % nb) + 1))))), (a 5, .inl (cm 5, 800, .inl w83)), (a 4, .inl (cm 4, 800, .inl w82)), (a 6, .inl (cm 6, 800, .inl w84)), (a 7, .inl (cm 7, 800, .inl w138)), (a 8, .inl (cm 8, 10240, .inl (upd ff (2048 * k + ((ka * kx + kb) % 2147483647 % nb)) (nI 2)))), (a 10, .inl (cm 10, 10240, .inr (.inl w139))), (a 11, .inl (cm 11, 10240, .inr (.inl w140)))]) (w1 := [(h0, .inr (11, gM a (upd i 15 w144) (vp_updL (vp_updL (vp_updL (fun _ => 0) 12 w141) 13 w142) 14 w143))), (a 3, .inl (cm 3, 85, .inr (.inl w150)))]) hP hD [8, 9] [0, 1, 2, 3, 4, 5, 6, 7] rfl rfl (by decide) (by decide) hk1 hFc hP1 hD1
      have hP : va_P D vwCl [(a 9, .inl (cm 9, 10240, .inl (upd fh (2048 * k + ((ka * kx + kb) % 2147483647 % nb)) (nI (cntJ J cn ((ka * kx + kb) % 2147483647 % nb) + 1))))), (a 5, .inl (cm 5, 800, .inl w83)), (a 4, .inl (cm 4, 800, .inl w82)), (a 6, .inl (cm 6, 800, .inl w84)), (a 7, .inl (cm 7, 800, .inl w138)), (a 8, .inl (cm 8, 10240, .inl (upd ff (2048 * k + ((ka * kx + kb) % 2147483647 % nb)) (nI 2)))), (a 10, .inl (cm 10, 10240, .inr (.inl w139))), (a 11, .inl (cm 11, 10240, .inr (.inl w140))), (h0, .inr (11, gM a (upd i 15 w144) (vp_updL (vp_updL (vp_updL (fun _ => 0) 12 w141) 13 w142) 14 w143))), (a 3, .inl (cm 3, 85, .inr (.inl w150)))] H := hP
      have hD : va_D A [(a 9, .inl (cm 9, 10240, .inl (upd fh (2048 * k + ((ka * kx + kb) % 2147483647 % nb)) (nI (cntJ J cn ((ka * kx + kb) % 2147483647 % nb) + 1))))), (a 5, .inl (cm 5, 800, .inl w83)), (a 4, .inl (cm 4, 800, .inl w82)), (a 6, .inl (cm 6, 800, .inl w84)), (a 7, .inl (cm 7, 800, .inl w138)), (a 8, .inl (cm 8, 10240, .inl (upd ff (2048 * k + ((ka * kx + kb) % 2147483647 % nb)) (nI 2)))), (a 10, .inl (cm 10, 10240, .inr (.inl w139))), (a 11, .inl (cm 11, 10240, .inr (.inl w140))), (h0, .inr (11, gM a (upd i 15 w144) (vp_updL (vp_updL (vp_updL (fun _ => 0) 12 w141) 13 w142) 14 w143))), (a 3, .inl (cm 3, 85, .inr (.inl w150)))] := hD
      try dsimp only at hw
      clear hz1 hk1 hFc hPc hKc hDc
      have hL151 := hw
      refine lv_aload_n hx hb dX11_putsKey_242 rfl (lv_at hl 2 rfl) ?_
      refine lv_iload_n hx hb dX11_putsKey_243 rfl (lv_at hl 3 rfl) ?_
      refine lv_bipush (v := 12) hx hb dX11_putsKey_244 (by decide) ?_
      refine lv_aload_n hx hb dX11_putsKey_246 rfl (lv_at hl 2 rfl) ?_
      refine va_get (D := D) (ci := 11) (v := .ref (a 9)) (C := RX11) (T := TX11) (N := 47) hx hb hts hin_X11 hown hK hP 8 rfl rfl 9 (by decide) (hts (.fieldLink RX11 33 "ClashFreeModel" "has" "[I") (List.mem_of_getElem? (i := 21) rfl)) (fun _ h9 => h9) rfl dX11_putsKey_247 ?_
      refine lv_sipush (v := 2048) hx hb dX11_putsKey_250 (by decide) ?_
      refine lv_iload_n hx hb dX11_putsKey_253 rfl (lv_at hl 3 rfl) ?_
      refine lv_imul hx hb dX11_putsKey_254 ?_
      refine lv_iload hx hb dX11_putsKey_255 (lv_at hl 0 rfl) ?_
      refine lv_iadd hx hb dX11_putsKey_257 ?_
      refine lv_topi (fun v152 ev152 => ?_)
      obtain rfl : v152 = nI (2048 * k + ((ka * kx + kb) % 2147483647 % nb)) := ev152.trans (ix2048 k _)
      refine va_iald hx hb hK hP 0 6 rfl rfl (vp_in_nI (by omega) (by decide)) dX11_putsKey_258 ?_
      refine lv_topi (fun v153 ev153 => ?_)
      refine lv_i2l hx hb dX11_putsKey_259 rfl ?_
      have hPc := hP.sub (ws' := [(h0, .inr (11, gM a (upd i 15 w144) (vp_updL (vp_updL (vp_updL (fun _ => 0) 12 w141) 13 w142) 14 w143))), (a 3, .inl (cm 3, 85, .inr (.inl w150)))]) [8, 9] rfl
      have hKc := hK.sub (tys' := [(cm 3, .long)]) [0] rfl
      have hDc := hD.sub (ws' := [(h0, .inr (11, gM a (upd i 15 w144) (vp_updL (vp_updL (vp_updL (fun _ => 0) 12 w141) 13 w142) 14 w143))), (a 3, .inl (cm 3, 85, .inr (.inl w150)))]) [8, 9] (by decide) rfl
      have hFc := va_free (wc := [(h0, .inr (11, gM a (upd i 15 w144) (vp_updL (vp_updL (vp_updL (fun _ => 0) 12 w141) 13 w142) 14 w143))), (a 3, .inl (cm 3, 85, .inr (.inl w150)))]) hD hS hA [8, 9] rfl
      refine va_callv (va_runV (As := [.int (nI k), .int (nI 12), .long (Int32.toInt64 v153)]) (rest := []) ⟨hx, hb, hml, hown, hts⟩ (c_adds l D _ h0 a cm (upd i 15 w144) (vp_updL (vp_updL (vp_updL (fun _ => 0) 12 w141) 13 w142) 14 w143) w150 k 12 (Int32.toInt64 v153) (by first | assumption | omega) (by first | assumption | omega)) (cwV 3 hts g_c_putsKey_c_adds_130 rfl rfl rfl (by decide +kernel) ⟨(Nat.le_of_ble_eq_true rfl), (Nat.le_of_ble_eq_true rfl)⟩) (PcW_V (q0 := 0) hPc hKc hDc rfl rfl) rfl rfl hl.1 rfl (lv_room (Nat.le_of_ble_eq_true rfl)) dX11_putsKey_260 ⟨(Nat.le_of_ble_eq_true rfl), (Nat.le_of_ble_eq_true rfl)⟩) hS (fun q _ h => hFc q h) hFc (fun uu tt H locs htt hvm hw hB hz1 hk1 hS => ?_)
      obtain ⟨w155, rfl⟩ : ∃ z, z = uu := ⟨_, rfl⟩
      obtain ⟨hP1, hK1, hD1⟩ := hB
      rw [htt] at hP1
      have hK1 := va_K.moved hvm.symm hK1
      have hP1 : va_P D vwCl [(h0, .inr (11, gM a (upd i 15 w144) (vp_updL (vp_updL (vp_updL (fun _ => 0) 12 w141) 13 w142) 14 w143))), (a 3, .inl (cm 3, 85, .inr (.inl w155)))] H := hP1
      obtain ⟨hP, hD⟩ := va_join (wr := [(a 9, .inl (cm 9, 10240, .inl (upd fh (2048 * k + ((ka * kx + kb) % 2147483647 % nb)) (nI (cntJ J cn ((ka * kx + kb) % 2147483647 % nb) + 1))))), (a 5, .inl (cm 5, 800, .inl w83)), (a 4, .inl (cm 4, 800, .inl w82)), (a 6, .inl (cm 6, 800, .inl w84)), (a 7, .inl (cm 7, 800, .inl w138)), (a 8, .inl (cm 8, 10240, .inl (upd ff (2048 * k + ((ka * kx + kb) % 2147483647 % nb)) (nI 2)))), (a 10, .inl (cm 10, 10240, .inr (.inl w139))), (a 11, .inl (cm 11, 10240, .inr (.inl w140)))]) (w1 := [(h0, .inr (11, gM a (upd i 15 w144) (vp_updL (vp_updL (vp_updL (fun _ => 0) 12 w141) 13 w142) 14 w143))), (a 3, .inl (cm 3, 85, .inr (.inl w155)))]) hP hD [8, 9] [0, 1, 2, 3, 4, 5, 6, 7] rfl rfl (by decide) (by decide) hk1 hFc hP1 hD1
      have hP : va_P D vwCl [(a 9, .inl (cm 9, 10240, .inl (upd fh (2048 * k + ((ka * kx + kb) % 2147483647 % nb)) (nI (cntJ J cn ((ka * kx + kb) % 2147483647 % nb) + 1))))), (a 5, .inl (cm 5, 800, .inl w83)), (a 4, .inl (cm 4, 800, .inl w82)), (a 6, .inl (cm 6, 800, .inl w84)), (a 7, .inl (cm 7, 800, .inl w138)), (a 8, .inl (cm 8, 10240, .inl (upd ff (2048 * k + ((ka * kx + kb) % 2147483647 % nb)) (nI 2)))), (a 10, .inl (cm 10, 10240, .inr (.inl w139))), (a 11, .inl (cm 11, 10240, .inr (.inl w140))), (h0, .inr (11, gM a (upd i 15 w144) (vp_updL (vp_updL (vp_updL (fun _ => 0) 12 w141) 13 w142) 14 w143))), (a 3, .inl (cm 3, 85, .inr (.inl w155)))] H := hP
      have hD : va_D A [(a 9, .inl (cm 9, 10240, .inl (upd fh (2048 * k + ((ka * kx + kb) % 2147483647 % nb)) (nI (cntJ J cn ((ka * kx + kb) % 2147483647 % nb) + 1))))), (a 5, .inl (cm 5, 800, .inl w83)), (a 4, .inl (cm 4, 800, .inl w82)), (a 6, .inl (cm 6, 800, .inl w84)), (a 7, .inl (cm 7, 800, .inl w138)), (a 8, .inl (cm 8, 10240, .inl (upd ff (2048 * k + ((ka * kx + kb) % 2147483647 % nb)) (nI 2)))), (a 10, .inl (cm 10, 10240, .inr (.inl w139))), (a 11, .inl (cm 11, 10240, .inr (.inl w140))), (h0, .inr (11, gM a (upd i 15 w144) (vp_updL (vp_updL (vp_updL (fun _ => 0) 12 w141) 13 w142) 14 w143))), (a 3, .inl (cm 3, 85, .inr (.inl w155)))] := hD
      try dsimp only at hw
      clear hz1 hk1 hFc hPc hKc hDc
      have hL156 := hw
      refine lv_iload hx hb dX11_putsKey_263 (lv_at hl 1 rfl) ?_
      have hTz : TabS k (cn + 1) nb (insN K hC86_q kx) (insN J hC86_q ((ka * kx + kb) % 2147483647 % nb)) w155 w82 w84 (upd ff (2048 * k + ((ka * kx + kb) % 2147483647 % nb)) (nI 2)) (upd fh (2048 * k + ((ka * kx + kb) % 2147483647 % nb)) (nI (cntJ J cn ((ka * kx + kb) % 2147483647 % nb) + 1))) := ⟨((hL156.2 _ (by omega)).trans ((hL151.2 _ (by omega)).trans ((hL148 _ (by omega) (by omega)).trans ((hL133.2 _ (by omega)).trans ((hL94.2 _ (by omega)).trans hC86_n))))), (by omega), ((hL156.2 _ (by omega)).trans ((hL151.2 _ (by omega)).trans ((hL148 _ (by omega) (by omega)).trans ((hL133.2 _ (by omega)).trans ((hL94.2 _ (by omega)).trans ((hC86_f _ (by omega)).trans ((hL79.2 _ (by omega)).trans ((hR76 _ (by omega)).trans h4)))))))), hn1, hn2, ⟨ka, kb, hka, hkb, ((hL156.2 _ (by omega)).trans ((hL151.2 _ (by omega)).trans ((hL148 _ (by omega) (by omega)).trans ((hL133.2 _ (by omega)).trans ((hL94.2 _ (by omega)).trans ((hC86_f _ (by omega)).trans ((hL79.2 _ (by omega)).trans ((hR76 _ (by omega)).trans h6)))))))), ((hL156.2 _ (by omega)).trans ((hL151.2 _ (by omega)).trans ((hL148 _ (by omega) (by omega)).trans ((hL133.2 _ (by omega)).trans ((hL94.2 _ (by omega)).trans ((hC86_f _ (by omega)).trans ((hL79.2 _ (by omega)).trans ((hR76 _ (by omega)).trans h7))))))))⟩, hC86_K, hC86_J, Hs_ins hHs hC86_a hbl pk_us (fun c e => pk_un (by omega)) (by omega) (by omega), ⟨bn, ns, gr, ((hL156.2 _ (by omega)).trans ((hL151.2 _ (by omega)).trans ((hL148 _ (by omega) (by omega)).trans ((hL133.2 _ (by omega)).trans ((hL94.2 _ (by omega)).trans ((hC86_f _ (by omega)).trans ((hL79.2 _ (by omega)).trans ((hR76 _ (by omega)).trans h14)))))))), hbn, ((hL156.2 _ (by omega)).trans ((hL151.2 _ (by omega)).trans ((hL148 _ (by omega) (by omega)).trans ((hL133.2 _ (by omega)).trans ((hL94.2 _ (by omega)).trans ((hC86_f _ (by omega)).trans ((hL79.2 _ (by omega)).trans ((hR76 _ (by omega)).trans h15)))))))), hs1, hs2, ((hL156.2 _ (by omega)).trans ((hL151.2 _ (by omega)).trans ((hL148 _ (by omega) (by omega)).trans ((hL133.2 _ (by omega)).trans ((hL94.2 _ (by omega)).trans ((hC86_f _ (by omega)).trans ((hL79.2 _ (by omega)).trans ((hR76 _ (by omega)).trans h16)))))))), hgr⟩⟩
      exact W.iret (v := 3) hx hb hr (fun t ht hW => ⟨⟨3, (w155, w82, w83, w84, w138, (upd ff (2048 * k + ((ka * kx + kb) % 2147483647 % nb)) (nI 2)), (upd fh (2048 * k + ((ka * kx + kb) % 2147483647 % nb)) (nI (cntJ J cn ((ka * kx + kb) % 2147483647 % nb) + 1))), w139, w140, w141, w142, w143, w144), rfl, ⟨⟨_, _, _, _, hTz⟩, hB145.1, hB145.2, fun x e => (hL156.2 x (by omega)).trans ((hL151.2 x (by omega)).trans ((hL148 x (by omega) (by omega)).trans ((hL133.2 x (by omega)).trans ((hL94.2 x (by omega)).trans ((hC86_f x (by omega)).trans ((hL79.2 x (by omega)).trans ((hR76 x (by omega))))))))), ((hL156.2 _ (by omega)).trans ((hL151.2 _ (by omega)).trans ((hL148 _ (by omega) (by omega)).trans ((hL133.2 _ (by omega)).trans ((hL94.2 _ (by omega)).trans ((hC86_f _ (by omega)).trans ((hL79.2 _ (by omega)).trans ((hR76 _ (by omega)).trans rfl)))))))), hC86_1.2.2.2, hC86_3.2.2.2, fun x e => pk_un (by omega), fun x e => pk_un (by omega), lsR_upd (fun x e => (hL156.2 x (by omega)).trans ((hL151.2 x (by omega)).trans ((hL148 x (by omega) (by omega)).trans ((hL133.2 x (by omega)).trans ((hL94.2 x (by omega)).trans ((hC86_f x (by omega)).trans ((hL79.2 x (by omega)).trans ((hR76 x (by omega)))))))))) (hC86_1.2.2.2) (hC86_2.2.2.2) ((lsR_T hk hTz _).trans ((put_nR (fun j a => (hKy.1 j a).2) hkx hC86_2 hC86_a hC86_b hC86_c hNK).trans (congrArg (putL · kx z3) (lsR_T hk hT _).symm))), Or.inr ⟨by decide, hNK⟩⟩, by rw [ht]; exact hP.sub [8, 9, 2, 1, 3, 4, 5, 0, 6, 7] rfl, va_K.moved hW.alike (hK.sub [0, 1, 2, 3, 4, 5, 6, 7, 8] rfl), hD.sub [8, 9, 2, 1, 3, 4, 5, 0, 6, 7] (by decide) rfl⟩, hS.F ht⟩) hS.2.2 dX11_putsKey_265
  ·
    have hNK : ∀ j, j < cn → K j ≠ kx := hA_r1
    have hc160 : cn < 160 := by
      rcases hfl with z | ⟨q, h1, h2⟩
      · exact z
      · exact absurd h2 (hNK q h1)
    refine lv_istore (lv' := [(4, .int 4), (0, .ref h0), (1, .int (nI k)), (2, .int (nI kx)), (3, .int z3)]) hx hb dX11_putsKey_6 hl (by decide) rfl (fun ls hl => ?_)
    refine lv_aload_n hx hb dX11_putsKey_8 rfl (lv_at hl 1 rfl) ?_
    refine lv_iload_n hx hb dX11_putsKey_9 rfl (lv_at hl 2 rfl) ?_
    refine lv_iload_n hx hb dX11_putsKey_10 rfl (lv_at hl 3 rfl) ?_
    have hPc := hP.sub (ws' := [(h0, .inr (11, gM a i g)), (a 3, .inl (cm 3, 85, .inr (.inl fn)))]) [0, 1] rfl
    have hKc := hK.sub (tys' := [(cm 3, .long)]) [0] rfl
    have hFc := va_free0 hS hA
    refine va_calli (va_runV (As := [.int (nI k), .int (nI kx)]) (rest := []) ⟨hx, hb, hml, hown, hts⟩ (c_bucketOf l D _ h0 a cm i g fn k kx ka kb nb (by first | assumption | omega) (by first | assumption | omega | exact hKl _ (by omega)) h6 h7 h4 (by first | assumption | omega) (by first | assumption | omega) (by first | assumption | omega) (by first | assumption | omega)) (cwV 2 hts g_c_putsKey_c_bucketOf_155 rfl rfl rfl (by decide +kernel) ⟨(Nat.le_of_ble_eq_true rfl), (Nat.le_of_ble_eq_true rfl)⟩) (PcR_V (q0 := 0) hPc hKc rfl rfl) rfl rfl hl.1 rfl (lv_room (Nat.le_of_ble_eq_true rfl)) dX11_putsKey_11 ⟨(Nat.le_of_ble_eq_true rfl), (Nat.le_of_ble_eq_true rfl)⟩) hS (fun q _ h => hFc q h) hFc (fun r157 uu tt H locs htt hvm hw hB hz1 hk1 hS => ?_)
    have hP := va_keep hP hk1
    try dsimp only at hw
    clear hB hz1 hk1 hFc hPc hKc
    obtain rfl : r157 = nI ((ka * kx + kb) % 2147483647 % nb) := hw
    refine lv_istore (lv' := [(5, .int (nI ((ka * kx + kb) % 2147483647 % nb))), (4, .int 4), (0, .ref h0), (1, .int (nI k)), (2, .int (nI kx)), (3, .int z3)]) hx hb dX11_putsKey_14 hl (by decide) rfl (fun ls hl => ?_)
    refine lv_aload_n hx hb dX11_putsKey_16 rfl (lv_at hl 2 rfl) ?_
    refine lv_iload_n hx hb dX11_putsKey_17 rfl (lv_at hl 3 rfl) ?_
    refine lv_iload_n hx hb dX11_putsKey_18 rfl (lv_at hl 4 rfl) ?_
    have hPc := hP.sub (ws' := [(h0, .inr (11, gM a i g)), (a 3, .inl (cm 3, 85, .inr (.inl fn))), (a 4, .inl (cm 4, 800, .inl fk)), (a 6, .inl (cm 6, 800, .inl fb)), (a 8, .inl (cm 8, 10240, .inl ff)), (a 9, .inl (cm 9, 10240, .inl fh))]) [0, 1, 2, 4, 6, 7] rfl
    have hKc := hK.sub (tys' := [(cm 3, .long), (cm 4, .int), (cm 6, .int), (cm 8, .int), (cm 9, .int)]) [0, 1, 3, 5, 6] rfl
    have hDc := hD.sub (ws' := [(h0, .inr (11, gM a i g)), (a 3, .inl (cm 3, 85, .inr (.inl fn))), (a 4, .inl (cm 4, 800, .inl fk)), (a 6, .inl (cm 6, 800, .inl fb)), (a 8, .inl (cm 8, 10240, .inl ff)), (a 9, .inl (cm 9, 10240, .inl fh))]) [0, 1, 2, 4, 6, 7] (by decide) rfl
    have hFc := va_free (wc := [(h0, .inr (11, gM a i g)), (a 3, .inl (cm 3, 85, .inr (.inl fn))), (a 4, .inl (cm 4, 800, .inl fk)), (a 6, .inl (cm 6, 800, .inl fb)), (a 8, .inl (cm 8, 10240, .inl ff)), (a 9, .inl (cm 9, 10240, .inl fh))]) hD hS hA [0, 1, 2, 4, 6, 7] rfl
    refine va_callv (va_runV (As := [.int (nI k), .int (nI kx)]) (rest := []) ⟨hx, hb, hml, hown, hts⟩ (c_readsFor l D _ h0 a cm i g fn fk fb ff fh k cn nb K J kx (by first | assumption | omega) hT (by first | assumption | omega)) (cwV 2 hts g_c_putsKey_c_readsFor_215 rfl rfl rfl (by decide +kernel) ⟨(Nat.le_of_ble_eq_true rfl), (Nat.le_of_ble_eq_true rfl)⟩) (PcW_V (q0 := 0) hPc hKc hDc rfl rfl) rfl rfl hl.1 rfl (lv_room (Nat.le_of_ble_eq_true rfl)) dX11_putsKey_19 ⟨(Nat.le_of_ble_eq_true rfl), (Nat.le_of_ble_eq_true rfl)⟩) hS (fun q _ h => hFc q h) hFc (fun uu tt H locs htt hvm hw hB hz1 hk1 hS => ?_)
    obtain ⟨w159, rfl⟩ : ∃ z, z = uu := ⟨_, rfl⟩
    obtain ⟨hP1, hK1, hD1⟩ := hB
    rw [htt] at hP1
    have hK1 := va_K.moved hvm.symm hK1
    have hP1 : va_P D vwCl [(h0, .inr (11, gM a i g)), (a 3, .inl (cm 3, 85, .inr (.inl w159))), (a 4, .inl (cm 4, 800, .inl fk)), (a 6, .inl (cm 6, 800, .inl fb)), (a 8, .inl (cm 8, 10240, .inl ff)), (a 9, .inl (cm 9, 10240, .inl fh))] H := hP1
    obtain ⟨hP, hD⟩ := va_join (wr := [(a 5, .inl (cm 5, 800, .inl fv)), (a 7, .inl (cm 7, 800, .inl fr)), (a 10, .inl (cm 10, 10240, .inr (.inl fa))), (a 11, .inl (cm 11, 10240, .inr (.inl fs)))]) (w1 := [(h0, .inr (11, gM a i g)), (a 3, .inl (cm 3, 85, .inr (.inl w159))), (a 4, .inl (cm 4, 800, .inl fk)), (a 6, .inl (cm 6, 800, .inl fb)), (a 8, .inl (cm 8, 10240, .inl ff)), (a 9, .inl (cm 9, 10240, .inl fh))]) hP hD [0, 1, 2, 4, 6, 7] [3, 5, 8, 9] rfl rfl (by decide) (by decide) hk1 hFc hP1 hD1
    have hP : va_P D vwCl [(a 5, .inl (cm 5, 800, .inl fv)), (a 7, .inl (cm 7, 800, .inl fr)), (a 10, .inl (cm 10, 10240, .inr (.inl fa))), (a 11, .inl (cm 11, 10240, .inr (.inl fs))), (h0, .inr (11, gM a i g)), (a 3, .inl (cm 3, 85, .inr (.inl w159))), (a 4, .inl (cm 4, 800, .inl fk)), (a 6, .inl (cm 6, 800, .inl fb)), (a 8, .inl (cm 8, 10240, .inl ff)), (a 9, .inl (cm 9, 10240, .inl fh))] H := hP
    have hD : va_D A [(a 5, .inl (cm 5, 800, .inl fv)), (a 7, .inl (cm 7, 800, .inl fr)), (a 10, .inl (cm 10, 10240, .inr (.inl fa))), (a 11, .inl (cm 11, 10240, .inr (.inl fs))), (h0, .inr (11, gM a i g)), (a 3, .inl (cm 3, 85, .inr (.inl w159))), (a 4, .inl (cm 4, 800, .inl fk)), (a 6, .inl (cm 6, 800, .inl fb)), (a 8, .inl (cm 8, 10240, .inl ff)), (a 9, .inl (cm 9, 10240, .inl fh))] := hD
    try dsimp only at hw
    clear hz1 hk1 hFc hPc hKc hDc
    have hR160 := hw
    refine lv_iload hx hb dX11_putsKey_22 (lv_at hl 1 rfl) ?_
    refine lv_if_ne (tgt := 48) hx hb dX11_putsKey_24 (by decide) (fun hc => ?_) (fun hc => absurd hc (by decide))
    refine lv_aload_n hx hb dX11_putsKey_48 rfl (lv_at hl 2 rfl) ?_
    refine lv_iload_n hx hb dX11_putsKey_49 rfl (lv_at hl 3 rfl) ?_
    refine lv_iconst (v := 3) hx hb dX11_putsKey_50 (by decide) ?_
    refine lv_lconst (v := 1) hx hb dX11_putsKey_51 (by decide) ?_
    have hPc := hP.sub (ws' := [(h0, .inr (11, gM a i g)), (a 3, .inl (cm 3, 85, .inr (.inl w159)))]) [4, 5] rfl
    have hKc := hK.sub (tys' := [(cm 3, .long)]) [0] rfl
    have hDc := hD.sub (ws' := [(h0, .inr (11, gM a i g)), (a 3, .inl (cm 3, 85, .inr (.inl w159)))]) [4, 5] (by decide) rfl
    have hFc := va_free (wc := [(h0, .inr (11, gM a i g)), (a 3, .inl (cm 3, 85, .inr (.inl w159)))]) hD hS hA [4, 5] rfl
    refine va_callv (va_runV (As := [.int (nI k), .int (nI 3), .long 1]) (rest := []) ⟨hx, hb, hml, hown, hts⟩ (c_adds l D _ h0 a cm i g w159 k 3 1 (by first | assumption | omega) (by first | assumption | omega)) (cwV 3 hts g_c_putsKey_c_adds_130 rfl rfl rfl (by decide +kernel) ⟨(Nat.le_of_ble_eq_true rfl), (Nat.le_of_ble_eq_true rfl)⟩) (PcW_V (q0 := 0) hPc hKc hDc rfl rfl) rfl rfl hl.1 rfl (lv_room (Nat.le_of_ble_eq_true rfl)) dX11_putsKey_52 ⟨(Nat.le_of_ble_eq_true rfl), (Nat.le_of_ble_eq_true rfl)⟩) hS (fun q _ h => hFc q h) hFc (fun uu tt H locs htt hvm hw hB hz1 hk1 hS => ?_)
    obtain ⟨w162, rfl⟩ : ∃ z, z = uu := ⟨_, rfl⟩
    obtain ⟨hP1, hK1, hD1⟩ := hB
    rw [htt] at hP1
    have hK1 := va_K.moved hvm.symm hK1
    have hP1 : va_P D vwCl [(h0, .inr (11, gM a i g)), (a 3, .inl (cm 3, 85, .inr (.inl w162)))] H := hP1
    obtain ⟨hP, hD⟩ := va_join (wr := [(a 5, .inl (cm 5, 800, .inl fv)), (a 7, .inl (cm 7, 800, .inl fr)), (a 10, .inl (cm 10, 10240, .inr (.inl fa))), (a 11, .inl (cm 11, 10240, .inr (.inl fs))), (a 4, .inl (cm 4, 800, .inl fk)), (a 6, .inl (cm 6, 800, .inl fb)), (a 8, .inl (cm 8, 10240, .inl ff)), (a 9, .inl (cm 9, 10240, .inl fh))]) (w1 := [(h0, .inr (11, gM a i g)), (a 3, .inl (cm 3, 85, .inr (.inl w162)))]) hP hD [4, 5] [0, 1, 2, 3, 6, 7, 8, 9] rfl rfl (by decide) (by decide) hk1 hFc hP1 hD1
    have hP : va_P D vwCl [(a 5, .inl (cm 5, 800, .inl fv)), (a 7, .inl (cm 7, 800, .inl fr)), (a 10, .inl (cm 10, 10240, .inr (.inl fa))), (a 11, .inl (cm 11, 10240, .inr (.inl fs))), (a 4, .inl (cm 4, 800, .inl fk)), (a 6, .inl (cm 6, 800, .inl fb)), (a 8, .inl (cm 8, 10240, .inl ff)), (a 9, .inl (cm 9, 10240, .inl fh)), (h0, .inr (11, gM a i g)), (a 3, .inl (cm 3, 85, .inr (.inl w162)))] H := hP
    have hD : va_D A [(a 5, .inl (cm 5, 800, .inl fv)), (a 7, .inl (cm 7, 800, .inl fr)), (a 10, .inl (cm 10, 10240, .inr (.inl fa))), (a 11, .inl (cm 11, 10240, .inr (.inl fs))), (a 4, .inl (cm 4, 800, .inl fk)), (a 6, .inl (cm 6, 800, .inl fb)), (a 8, .inl (cm 8, 10240, .inl ff)), (a 9, .inl (cm 9, 10240, .inl fh)), (h0, .inr (11, gM a i g)), (a 3, .inl (cm 3, 85, .inr (.inl w162)))] := hD
    try dsimp only at hw
    clear hz1 hk1 hFc hPc hKc hDc
    have hL163 := hw
    refine lv_aload_n hx hb dX11_putsKey_55 rfl (lv_at hl 2 rfl) ?_
    refine lv_iload_n hx hb dX11_putsKey_56 rfl (lv_at hl 3 rfl) ?_
    refine lv_iload_n hx hb dX11_putsKey_57 rfl (lv_at hl 4 rfl) ?_
    refine lv_iload_n hx hb dX11_putsKey_58 rfl (lv_at hl 5 rfl) ?_
    have hPc := hP.sub (ws' := [(h0, .inr (11, gM a i g)), (a 3, .inl (cm 3, 85, .inr (.inl w162))), (a 4, .inl (cm 4, 800, .inl fk)), (a 5, .inl (cm 5, 800, .inl fv)), (a 6, .inl (cm 6, 800, .inl fb)), (a 7, .inl (cm 7, 800, .inl fr))]) [8, 9, 4, 0, 5, 1] rfl
    have hKc := hK.sub (tys' := [(cm 3, .long), (cm 4, .int), (cm 5, .int), (cm 6, .int), (cm 7, .int)]) [0, 1, 2, 3, 4] rfl
    have hDc := hD.sub (ws' := [(h0, .inr (11, gM a i g)), (a 3, .inl (cm 3, 85, .inr (.inl w162))), (a 4, .inl (cm 4, 800, .inl fk)), (a 5, .inl (cm 5, 800, .inl fv)), (a 6, .inl (cm 6, 800, .inl fb)), (a 7, .inl (cm 7, 800, .inl fr))]) [8, 9, 4, 0, 5, 1] (by decide) rfl
    have hFc := va_free (wc := [(h0, .inr (11, gM a i g)), (a 3, .inl (cm 3, 85, .inr (.inl w162))), (a 4, .inl (cm 4, 800, .inl fk)), (a 5, .inl (cm 5, 800, .inl fv)), (a 6, .inl (cm 6, 800, .inl fb)), (a 7, .inl (cm 7, 800, .inl fr))]) hD hS hA [8, 9, 4, 0, 5, 1] rfl
    refine va_callv (va_runV (As := [.int (nI k), .int (nI kx), .int z3]) (rest := []) ⟨hx, hb, hml, hown, hts⟩ (c_comes l D _ h0 a cm i g w162 fk fv fb fr k cn K kx z3 ka kb nb (by first | assumption | omega) ((hL163.2 _ (by omega)).trans ((hR160 _ (by omega)).trans h1)) (by first | assumption | omega) hKy (by first | assumption | omega) ((hL163.2 _ (by omega)).trans ((hR160 _ (by omega)).trans h6)) ((hL163.2 _ (by omega)).trans ((hR160 _ (by omega)).trans h7)) ((hL163.2 _ (by omega)).trans ((hR160 _ (by omega)).trans h4)) (by first | assumption | omega) (by first | assumption | omega) (by first | assumption | omega) (by first | assumption | omega)) (cwV 3 hts g_c_putsKey_c_comes_218 rfl rfl rfl (by decide +kernel) ⟨(Nat.le_of_ble_eq_true rfl), (Nat.le_of_ble_eq_true rfl)⟩) (PcW_V (q0 := 0) hPc hKc hDc rfl rfl) rfl rfl hl.1 rfl (lv_room (Nat.le_of_ble_eq_true rfl)) dX11_putsKey_59 ⟨(Nat.le_of_ble_eq_true rfl), (Nat.le_of_ble_eq_true rfl)⟩) hS (fun q _ h => hFc q h) hFc (fun uu tt H locs htt hvm hw hB hz1 hk1 hS => ?_)
    obtain ⟨w165, w166, w167, w168, w169⟩ := uu
    obtain ⟨hP1, hK1, hD1⟩ := hB
    rw [htt] at hP1
    have hK1 := va_K.moved hvm.symm hK1
    have hP1 : va_P D vwCl [(h0, .inr (11, gM a i g)), (a 3, .inl (cm 3, 85, .inr (.inl w165))), (a 4, .inl (cm 4, 800, .inl w166)), (a 5, .inl (cm 5, 800, .inl w167)), (a 6, .inl (cm 6, 800, .inl w168)), (a 7, .inl (cm 7, 800, .inl w169))] H := hP1
    obtain ⟨hP, hD⟩ := va_join (wr := [(a 10, .inl (cm 10, 10240, .inr (.inl fa))), (a 11, .inl (cm 11, 10240, .inr (.inl fs))), (a 8, .inl (cm 8, 10240, .inl ff)), (a 9, .inl (cm 9, 10240, .inl fh))]) (w1 := [(h0, .inr (11, gM a i g)), (a 3, .inl (cm 3, 85, .inr (.inl w165))), (a 4, .inl (cm 4, 800, .inl w166)), (a 5, .inl (cm 5, 800, .inl w167)), (a 6, .inl (cm 6, 800, .inl w168)), (a 7, .inl (cm 7, 800, .inl w169))]) hP hD [8, 9, 4, 0, 5, 1] [2, 3, 6, 7] rfl rfl (by decide) (by decide) hk1 hFc hP1 hD1
    have hP : va_P D vwCl [(a 10, .inl (cm 10, 10240, .inr (.inl fa))), (a 11, .inl (cm 11, 10240, .inr (.inl fs))), (a 8, .inl (cm 8, 10240, .inl ff)), (a 9, .inl (cm 9, 10240, .inl fh)), (h0, .inr (11, gM a i g)), (a 3, .inl (cm 3, 85, .inr (.inl w165))), (a 4, .inl (cm 4, 800, .inl w166)), (a 5, .inl (cm 5, 800, .inl w167)), (a 6, .inl (cm 6, 800, .inl w168)), (a 7, .inl (cm 7, 800, .inl w169))] H := hP
    have hD : va_D A [(a 10, .inl (cm 10, 10240, .inr (.inl fa))), (a 11, .inl (cm 11, 10240, .inr (.inl fs))), (a 8, .inl (cm 8, 10240, .inl ff)), (a 9, .inl (cm 9, 10240, .inl fh)), (h0, .inr (11, gM a i g)), (a 3, .inl (cm 3, 85, .inr (.inl w165))), (a 4, .inl (cm 4, 800, .inl w166)), (a 5, .inl (cm 5, 800, .inl w167)), (a 6, .inl (cm 6, 800, .inl w168)), (a 7, .inl (cm 7, 800, .inl w169))] := hD
    try dsimp only at hw
    clear hz1 hk1 hFc hPc hKc hDc
    obtain ⟨hC170_q, hC170_a, hC170_b, hC170_c, hC170_1, hC170_2, hC170_3, hC170_n, hC170_f⟩ := hw
    have hC170_K := Ky_ins hKy hC170_1 hC170_a hkx hC170_b hC170_c hNK
    have hC170_J := Bk_ins hBk hC170_3 hC170_a hbl
    have hC170_J2 : BkS k w168 (cn + 1) 2048 (insN J hC170_q ((ka * kx + kb) % 2147483647 % nb)) := fun y a => ⟨(hC170_J y a).1, by have := (hC170_J y a).2; omega⟩
    refine lv_iload hx hb dX11_putsKey_62 (lv_at hl 1 rfl) ?_
    refine lv_iconst (v := 4) hx hb dX11_putsKey_64 (by decide) ?_
    refine lv_icmp_ne (tgt := 83) hx hb dX11_putsKey_65 (by decide) (fun hc => absurd (by decide) hc) (fun hc => ?_)
    refine lv_aload_n hx hb dX11_putsKey_68 rfl (lv_at hl 2 rfl) ?_
    refine lv_iload_n hx hb dX11_putsKey_69 rfl (lv_at hl 3 rfl) ?_
    refine lv_bipush (v := 11) hx hb dX11_putsKey_70 (by decide) ?_
    refine lv_lconst (v := 1) hx hb dX11_putsKey_72 (by decide) ?_
    have hPc := hP.sub (ws' := [(h0, .inr (11, gM a i g)), (a 3, .inl (cm 3, 85, .inr (.inl w165)))]) [4, 5] rfl
    have hKc := hK.sub (tys' := [(cm 3, .long)]) [0] rfl
    have hDc := hD.sub (ws' := [(h0, .inr (11, gM a i g)), (a 3, .inl (cm 3, 85, .inr (.inl w165)))]) [4, 5] (by decide) rfl
    have hFc := va_free (wc := [(h0, .inr (11, gM a i g)), (a 3, .inl (cm 3, 85, .inr (.inl w165)))]) hD hS hA [4, 5] rfl
    refine va_callv (va_runV (As := [.int (nI k), .int (nI 11), .long 1]) (rest := []) ⟨hx, hb, hml, hown, hts⟩ (c_adds l D _ h0 a cm i g w165 k 11 1 (by first | assumption | omega) (by first | assumption | omega)) (cwV 3 hts g_c_putsKey_c_adds_130 rfl rfl rfl (by decide +kernel) ⟨(Nat.le_of_ble_eq_true rfl), (Nat.le_of_ble_eq_true rfl)⟩) (PcW_V (q0 := 0) hPc hKc hDc rfl rfl) rfl rfl hl.1 rfl (lv_room (Nat.le_of_ble_eq_true rfl)) dX11_putsKey_73 ⟨(Nat.le_of_ble_eq_true rfl), (Nat.le_of_ble_eq_true rfl)⟩) hS (fun q _ h => hFc q h) hFc (fun uu tt H locs htt hvm hw hB hz1 hk1 hS => ?_)
    obtain ⟨w172, rfl⟩ : ∃ z, z = uu := ⟨_, rfl⟩
    obtain ⟨hP1, hK1, hD1⟩ := hB
    rw [htt] at hP1
    have hK1 := va_K.moved hvm.symm hK1
    have hP1 : va_P D vwCl [(h0, .inr (11, gM a i g)), (a 3, .inl (cm 3, 85, .inr (.inl w172)))] H := hP1
    obtain ⟨hP, hD⟩ := va_join (wr := [(a 10, .inl (cm 10, 10240, .inr (.inl fa))), (a 11, .inl (cm 11, 10240, .inr (.inl fs))), (a 8, .inl (cm 8, 10240, .inl ff)), (a 9, .inl (cm 9, 10240, .inl fh)), (a 4, .inl (cm 4, 800, .inl w166)), (a 5, .inl (cm 5, 800, .inl w167)), (a 6, .inl (cm 6, 800, .inl w168)), (a 7, .inl (cm 7, 800, .inl w169))]) (w1 := [(h0, .inr (11, gM a i g)), (a 3, .inl (cm 3, 85, .inr (.inl w172)))]) hP hD [4, 5] [0, 1, 2, 3, 6, 7, 8, 9] rfl rfl (by decide) (by decide) hk1 hFc hP1 hD1
    have hP : va_P D vwCl [(a 10, .inl (cm 10, 10240, .inr (.inl fa))), (a 11, .inl (cm 11, 10240, .inr (.inl fs))), (a 8, .inl (cm 8, 10240, .inl ff)), (a 9, .inl (cm 9, 10240, .inl fh)), (a 4, .inl (cm 4, 800, .inl w166)), (a 5, .inl (cm 5, 800, .inl w167)), (a 6, .inl (cm 6, 800, .inl w168)), (a 7, .inl (cm 7, 800, .inl w169)), (h0, .inr (11, gM a i g)), (a 3, .inl (cm 3, 85, .inr (.inl w172)))] H := hP
    have hD : va_D A [(a 10, .inl (cm 10, 10240, .inr (.inl fa))), (a 11, .inl (cm 11, 10240, .inr (.inl fs))), (a 8, .inl (cm 8, 10240, .inl ff)), (a 9, .inl (cm 9, 10240, .inl fh)), (a 4, .inl (cm 4, 800, .inl w166)), (a 5, .inl (cm 5, 800, .inl w167)), (a 6, .inl (cm 6, 800, .inl w168)), (a 7, .inl (cm 7, 800, .inl w169)), (h0, .inr (11, gM a i g)), (a 3, .inl (cm 3, 85, .inr (.inl w172)))] := hD
    try dsimp only at hw
    clear hz1 hk1 hFc hPc hKc hDc
    have hL173 := hw
    refine lv_aload_n hx hb dX11_putsKey_76 rfl (lv_at hl 2 rfl) ?_
    refine lv_iload_n hx hb dX11_putsKey_77 rfl (lv_at hl 3 rfl) ?_
    have hPc := hP.sub (ws' := [(h0, .inr (11, gM a i g)), (a 3, .inl (cm 3, 85, .inr (.inl w172))), (a 4, .inl (cm 4, 800, .inl w166)), (a 6, .inl (cm 6, 800, .inl w168)), (a 7, .inl (cm 7, 800, .inl w169)), (a 8, .inl (cm 8, 10240, .inl ff)), (a 9, .inl (cm 9, 10240, .inl fh)), (a 10, .inl (cm 10, 10240, .inr (.inl fa))), (a 11, .inl (cm 11, 10240, .inr (.inl fs)))]) [8, 9, 4, 6, 7, 2, 3, 0, 1] rfl
    have hKc := hK.sub (tys' := [(cm 3, .long), (cm 4, .int), (cm 6, .int), (cm 7, .int), (cm 8, .int), (cm 9, .int), (cm 10, .long), (cm 11, .long)]) [0, 1, 3, 4, 5, 6, 7, 8] rfl
    have hDc := hD.sub (ws' := [(h0, .inr (11, gM a i g)), (a 3, .inl (cm 3, 85, .inr (.inl w172))), (a 4, .inl (cm 4, 800, .inl w166)), (a 6, .inl (cm 6, 800, .inl w168)), (a 7, .inl (cm 7, 800, .inl w169)), (a 8, .inl (cm 8, 10240, .inl ff)), (a 9, .inl (cm 9, 10240, .inl fh)), (a 10, .inl (cm 10, 10240, .inr (.inl fa))), (a 11, .inl (cm 11, 10240, .inr (.inl fs)))]) [8, 9, 4, 6, 7, 2, 3, 0, 1] (by decide) rfl
    have hFc := va_free (wc := [(h0, .inr (11, gM a i g)), (a 3, .inl (cm 3, 85, .inr (.inl w172))), (a 4, .inl (cm 4, 800, .inl w166)), (a 6, .inl (cm 6, 800, .inl w168)), (a 7, .inl (cm 7, 800, .inl w169)), (a 8, .inl (cm 8, 10240, .inl ff)), (a 9, .inl (cm 9, 10240, .inl fh)), (a 10, .inl (cm 10, 10240, .inr (.inl fa))), (a 11, .inl (cm 11, 10240, .inr (.inl fs)))]) hD hS hA [8, 9, 4, 6, 7, 2, 3, 0, 1] rfl
    refine va_callv (va_runV (As := [.int (nI k)]) (rest := []) ⟨hx, hb, hml, hown, hts⟩ (c_buildsAll l D _ h0 a cm i g w172 w166 w168 w169 ff fh fa fs k (cn + 1) (insN K hC170_q kx) bn ns gr (by first | assumption | omega) ((hL173.2 _ (by omega)).trans hC170_n) (by first | assumption | omega) hC170_K ((hL173.2 _ (by omega)).trans ((hC170_f _ (by omega)).trans ((hL163.2 _ (by omega)).trans ((hR160 _ (by omega)).trans h14)))) (by first | assumption | omega) ((hL173.2 _ (by omega)).trans ((hC170_f _ (by omega)).trans ((hL163.2 _ (by omega)).trans ((hR160 _ (by omega)).trans h15)))) (by first | assumption | omega) (by first | assumption | omega) ((hL173.2 _ (by omega)).trans ((hC170_f _ (by omega)).trans ((hL163.2 _ (by omega)).trans ((hR160 _ (by omega)).trans h16)))) (by first | assumption | omega) (by first | assumption | omega) (by first | assumption | omega)) (cwV 1 hts g_c_putsKey_c_buildsAll_192 rfl rfl rfl (by decide +kernel) ⟨(Nat.le_of_ble_eq_true rfl), (Nat.le_of_ble_eq_true rfl)⟩) (PcW_V (q0 := 0) hPc hKc hDc rfl rfl) rfl rfl hl.1 rfl (lv_room (Nat.le_of_ble_eq_true rfl)) dX11_putsKey_78 ⟨(Nat.le_of_ble_eq_true rfl), (Nat.le_of_ble_eq_true rfl)⟩) hS (fun q _ h => hFc q h) hFc (fun uu tt H locs htt hvm hw hB hz1 hk1 hS => ?_)
    obtain ⟨w175, w176, w177, w178, w179, w180, w181, w182, w183, w184, w185⟩ := uu
    obtain ⟨hP1, hK1, hD1⟩ := hB
    rw [htt] at hP1
    have hK1 := va_K.moved hvm.symm hK1
    have hP1 : va_P D vwCl [(h0, .inr (11, gM a (upd i 15 w185) (vp_updL (vp_updL (vp_updL (fun _ => 0) 12 w182) 13 w183) 14 w184))), (a 3, .inl (cm 3, 85, .inr (.inl w175))), (a 4, .inl (cm 4, 800, .inl w166)), (a 6, .inl (cm 6, 800, .inl w176)), (a 7, .inl (cm 7, 800, .inl w177)), (a 8, .inl (cm 8, 10240, .inl w178)), (a 9, .inl (cm 9, 10240, .inl w179)), (a 10, .inl (cm 10, 10240, .inr (.inl w180))), (a 11, .inl (cm 11, 10240, .inr (.inl w181)))] H := hP1
    obtain ⟨hP, hD⟩ := va_join (wr := [(a 5, .inl (cm 5, 800, .inl w167))]) (w1 := [(h0, .inr (11, gM a (upd i 15 w185) (vp_updL (vp_updL (vp_updL (fun _ => 0) 12 w182) 13 w183) 14 w184))), (a 3, .inl (cm 3, 85, .inr (.inl w175))), (a 4, .inl (cm 4, 800, .inl w166)), (a 6, .inl (cm 6, 800, .inl w176)), (a 7, .inl (cm 7, 800, .inl w177)), (a 8, .inl (cm 8, 10240, .inl w178)), (a 9, .inl (cm 9, 10240, .inl w179)), (a 10, .inl (cm 10, 10240, .inr (.inl w180))), (a 11, .inl (cm 11, 10240, .inr (.inl w181)))]) hP hD [8, 9, 4, 6, 7, 2, 3, 0, 1] [5] rfl rfl (by decide) (by decide) hk1 hFc hP1 hD1
    have hP : va_P D vwCl [(a 5, .inl (cm 5, 800, .inl w167)), (h0, .inr (11, gM a (upd i 15 w185) (vp_updL (vp_updL (vp_updL (fun _ => 0) 12 w182) 13 w183) 14 w184))), (a 3, .inl (cm 3, 85, .inr (.inl w175))), (a 4, .inl (cm 4, 800, .inl w166)), (a 6, .inl (cm 6, 800, .inl w176)), (a 7, .inl (cm 7, 800, .inl w177)), (a 8, .inl (cm 8, 10240, .inl w178)), (a 9, .inl (cm 9, 10240, .inl w179)), (a 10, .inl (cm 10, 10240, .inr (.inl w180))), (a 11, .inl (cm 11, 10240, .inr (.inl w181)))] H := hP
    have hD : va_D A [(a 5, .inl (cm 5, 800, .inl w167)), (h0, .inr (11, gM a (upd i 15 w185) (vp_updL (vp_updL (vp_updL (fun _ => 0) 12 w182) 13 w183) 14 w184))), (a 3, .inl (cm 3, 85, .inr (.inl w175))), (a 4, .inl (cm 4, 800, .inl w166)), (a 6, .inl (cm 6, 800, .inl w176)), (a 7, .inl (cm 7, 800, .inl w177)), (a 8, .inl (cm 8, 10240, .inl w178)), (a 9, .inl (cm 9, 10240, .inl w179)), (a 10, .inl (cm 10, 10240, .inr (.inl w180))), (a 11, .inl (cm 11, 10240, .inr (.inl w181)))] := hD
    try dsimp only at hw
    clear hz1 hk1 hFc hPc hKc hDc
    obtain ⟨⟨hb186_n, hb186_J, hb186_T⟩, hb186_a, hb186_s, hb186_r, hb186_0, hb186_f1, hb186_f2, hb186_f3⟩ := hw
    refine lv_iconst (v := 4) hx hb dX11_putsKey_81 (by decide) ?_
    have hTz := hb186_T
    exact W.iret (v := 4) hx hb hr (fun t ht hW => ⟨⟨4, (w175, w166, w167, w176, w177, w178, w179, w180, w181, w182, w183, w184, w185), rfl, ⟨⟨_, _, _, _, hb186_T⟩, hb186_a, hb186_s, fun x e => (hb186_r x e).trans ((hL173.2 x (by omega)).trans ((hC170_f x (by omega)).trans ((hL163.2 x (by omega)).trans ((hR160 x (by omega)))))), hb186_0.trans ((hL173.2 _ (by omega)).trans ((hC170_f _ (by omega)).trans ((hL163.2 _ (by omega)).trans ((hR160 _ (by omega)).trans rfl)))), hC170_1.2.2.2, fun x e => (hb186_f1 x e).trans (hC170_3.2.2.2 x e), hb186_f2, hb186_f3, lsR_upd (fun x e => (hb186_r x e).trans ((hL173.2 x (by omega)).trans ((hC170_f x (by omega)).trans ((hL163.2 x (by omega)).trans ((hR160 x (by omega))))))) (hC170_1.2.2.2) (hC170_2.2.2.2) ((lsR_T hk hTz _).trans ((put_nR (fun j a => (hKy.1 j a).2) hkx hC170_2 hC170_a hC170_b hC170_c hNK).trans (congrArg (putL · kx z3) (lsR_T hk hT _).symm))), Or.inr ⟨by decide, hNK⟩⟩, by rw [ht]; exact hP.sub [1, 2, 3, 0, 4, 5, 6, 7, 8, 9] rfl, va_K.moved hW.alike (hK.sub [0, 1, 2, 3, 4, 5, 6, 7, 8] rfl), hD.sub [1, 2, 3, 0, 4, 5, 6, 7, 8, 9] (by decide) rfl⟩, hS.F ht⟩) hS.2.2 dX11_putsKey_82

