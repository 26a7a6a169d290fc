theorem dX4_work_0 : decode cX4_work 0 = .ok (.iconst 0, 1) := by decide +kernel
theorem dX4_work_1 : decode cX4_work 1 = .ok (.istore_n 3, 1) := by decide +kernel
theorem dX4_work_2 : decode cX4_work 2 = .ok (.iconst 0, 1) := by decide +kernel
theorem dX4_work_3 : decode cX4_work 3 = .ok (.istore 4, 2) := by decide +kernel
theorem dX4_work_5 : decode cX4_work 5 = .ok (.iload 4, 2) := by decide +kernel
theorem dX4_work_7 : decode cX4_work 7 = .ok (.ldc 38, 2) := by decide +kernel
theorem dX4_work_9 : decode cX4_work 9 = .ok (.if_icmp .ge 260, 3) := by decide +kernel
theorem dX4_work_12 : decode cX4_work 12 = .ok (.iload_n 3, 1) := by decide +kernel
theorem dX4_work_13 : decode cX4_work 13 = .ok (.ifCond .lt 256, 3) := by decide +kernel
theorem dX4_work_16 : decode cX4_work 16 = .ok (.iload_n 3, 1) := by decide +kernel
theorem dX4_work_17 : decode cX4_work 17 = .ok (.aload_n 1, 1) := by decide +kernel
theorem dX4_work_18 : decode cX4_work 18 = .ok (.getfield 39, 3) := by decide +kernel
theorem dX4_work_21 : decode cX4_work 21 = .ok (.if_icmp .ge 248, 3) := by decide +kernel
theorem dX4_work_24 : decode cX4_work 24 = .ok (.aload_n 0, 1) := by decide +kernel
theorem dX4_work_25 : decode cX4_work 25 = .ok (.getfield 28, 3) := by decide +kernel
theorem dX4_work_28 : decode cX4_work 28 = .ok (.ifCond .ne 241, 3) := by decide +kernel
theorem dX4_work_31 : decode cX4_work 31 = .ok (.aload_n 1, 1) := by decide +kernel
theorem dX4_work_32 : decode cX4_work 32 = .ok (.getfield 44, 3) := by decide +kernel
theorem dX4_work_35 : decode cX4_work 35 = .ok (.iload_n 3, 1) := by decide +kernel
theorem dX4_work_36 : decode cX4_work 36 = .ok (.iaload, 1) := by decide +kernel
theorem dX4_work_37 : decode cX4_work 37 = .ok (.lookupswitch 213 #[(2, 91), (3, 196), (5, 196), (6, 196), (7, 196), (8, 176), (9, 153), (10, 107), (11, 139), (93, 186)], 91) := by decide +kernel
theorem dX4_work_128 : decode cX4_work 128 = .ok (.aload_n 0, 1) := by decide +kernel
theorem dX4_work_129 : decode cX4_work 129 = .ok (.aload_n 1, 1) := by decide +kernel
theorem dX4_work_130 : decode cX4_work 130 = .ok (.getfield 47, 3) := by decide +kernel
theorem dX4_work_133 : decode cX4_work 133 = .ok (.iload_n 3, 1) := by decide +kernel
theorem dX4_work_134 : decode cX4_work 134 = .ok (.iaload, 1) := by decide +kernel
theorem dX4_work_135 : decode cX4_work 135 = .ok (.invokevirtual 50, 3) := by decide +kernel
theorem dX4_work_138 : decode cX4_work 138 = .ok (.iinc 3 1, 3) := by decide +kernel
theorem dX4_work_141 : decode cX4_work 141 = .ok (.goto 122, 3) := by decide +kernel
theorem dX4_work_144 : decode cX4_work 144 = .ok (.aload_n 0, 1) := by decide +kernel
theorem dX4_work_145 : decode cX4_work 145 = .ok (.aload_n 0, 1) := by decide +kernel
theorem dX4_work_146 : decode cX4_work 146 = .ok (.getfield 32, 3) := by decide +kernel
theorem dX4_work_149 : decode cX4_work 149 = .ok (.ifCond .le 17, 3) := by decide +kernel
theorem dX4_work_152 : decode cX4_work 152 = .ok (.aload_n 0, 1) := by decide +kernel
theorem dX4_work_153 : decode cX4_work 153 = .ok (.getfield 9, 3) := by decide +kernel
theorem dX4_work_156 : decode cX4_work 156 = .ok (.aload_n 0, 1) := by decide +kernel
theorem dX4_work_157 : decode cX4_work 157 = .ok (.getfield 32, 3) := by decide +kernel
theorem dX4_work_160 : decode cX4_work 160 = .ok (.iconst 1, 1) := by decide +kernel
theorem dX4_work_161 : decode cX4_work 161 = .ok (.isub, 1) := by decide +kernel
theorem dX4_work_162 : decode cX4_work 162 = .ok (.iaload, 1) := by decide +kernel
theorem dX4_work_163 : decode cX4_work 163 = .ok (.goto 4, 3) := by decide +kernel
theorem dX4_work_166 : decode cX4_work 166 = .ok (.iconst 0, 1) := by decide +kernel
theorem dX4_work_167 : decode cX4_work 167 = .ok (.invokevirtual 50, 3) := by decide +kernel
theorem dX4_work_170 : decode cX4_work 170 = .ok (.iinc 3 1, 3) := by decide +kernel
theorem dX4_work_173 : decode cX4_work 173 = .ok (.goto 90, 3) := by decide +kernel
theorem dX4_work_176 : decode cX4_work 176 = .ok (.aload_n 0, 1) := by decide +kernel
theorem dX4_work_177 : decode cX4_work 177 = .ok (.aload_n 0, 1) := by decide +kernel
theorem dX4_work_178 : decode cX4_work 178 = .ok (.getfield 25, 3) := by decide +kernel
theorem dX4_work_181 : decode cX4_work 181 = .ok (.invokevirtual 50, 3) := by decide +kernel
theorem dX4_work_184 : decode cX4_work 184 = .ok (.iinc 3 1, 3) := by decide +kernel
theorem dX4_work_187 : decode cX4_work 187 = .ok (.goto 76, 3) := by decide +kernel
theorem dX4_work_190 : decode cX4_work 190 = .ok (.aload_n 0, 1) := by decide +kernel
theorem dX4_work_191 : decode cX4_work 191 = .ok (.invokevirtual 54, 3) := by decide +kernel
theorem dX4_work_194 : decode cX4_work 194 = .ok (.ifCond .le 9, 3) := by decide +kernel
theorem dX4_work_197 : decode cX4_work 197 = .ok (.iload_n 3, 1) := by decide +kernel
theorem dX4_work_198 : decode cX4_work 198 = .ok (.iconst 1, 1) := by decide +kernel
theorem dX4_work_199 : decode cX4_work 199 = .ok (.iadd, 1) := by decide +kernel
theorem dX4_work_200 : decode cX4_work 200 = .ok (.goto 9, 3) := by decide +kernel
theorem dX4_work_203 : decode cX4_work 203 = .ok (.aload_n 1, 1) := by decide +kernel
theorem dX4_work_204 : decode cX4_work 204 = .ok (.getfield 58, 3) := by decide +kernel
theorem dX4_work_207 : decode cX4_work 207 = .ok (.iload_n 3, 1) := by decide +kernel
theorem dX4_work_208 : decode cX4_work 208 = .ok (.iaload, 1) := by decide +kernel
theorem dX4_work_209 : decode cX4_work 209 = .ok (.istore_n 3, 1) := by decide +kernel
theorem dX4_work_210 : decode cX4_work 210 = .ok (.goto 53, 3) := by decide +kernel
theorem dX4_work_213 : decode cX4_work 213 = .ok (.aload_n 0, 1) := by decide +kernel
theorem dX4_work_214 : decode cX4_work 214 = .ok (.aload_n 1, 1) := by decide +kernel
theorem dX4_work_215 : decode cX4_work 215 = .ok (.iload_n 3, 1) := by decide +kernel
theorem dX4_work_216 : decode cX4_work 216 = .ok (.invokevirtual 61, 3) := by decide +kernel
theorem dX4_work_219 : decode cX4_work 219 = .ok (.istore_n 3, 1) := by decide +kernel
theorem dX4_work_220 : decode cX4_work 220 = .ok (.goto 43, 3) := by decide +kernel
theorem dX4_work_223 : decode cX4_work 223 = .ok (.aload_n 0, 1) := by decide +kernel
theorem dX4_work_224 : decode cX4_work 224 = .ok (.aload_n 1, 1) := by decide +kernel
theorem dX4_work_225 : decode cX4_work 225 = .ok (.iload_n 3, 1) := by decide +kernel
theorem dX4_work_226 : decode cX4_work 226 = .ok (.invokevirtual 65, 3) := by decide +kernel
theorem dX4_work_229 : decode cX4_work 229 = .ok (.istore_n 3, 1) := by decide +kernel
theorem dX4_work_230 : decode cX4_work 230 = .ok (.goto 33, 3) := by decide +kernel
theorem dX4_work_233 : decode cX4_work 233 = .ok (.aload_n 0, 1) := by decide +kernel
theorem dX4_work_234 : decode cX4_work 234 = .ok (.aload_n 1, 1) := by decide +kernel
theorem dX4_work_235 : decode cX4_work 235 = .ok (.getfield 44, 3) := by decide +kernel
theorem dX4_work_238 : decode cX4_work 238 = .ok (.iload_n 3, 1) := by decide +kernel
theorem dX4_work_239 : decode cX4_work 239 = .ok (.iaload, 1) := by decide +kernel
theorem dX4_work_240 : decode cX4_work 240 = .ok (.aload_n 2, 1) := by decide +kernel
theorem dX4_work_241 : decode cX4_work 241 = .ok (.invokevirtual 68, 3) := by decide +kernel
theorem dX4_work_244 : decode cX4_work 244 = .ok (.iinc 3 1, 3) := by decide +kernel
theorem dX4_work_247 : decode cX4_work 247 = .ok (.goto 16, 3) := by decide +kernel
theorem dX4_work_250 : decode cX4_work 250 = .ok (.aload_n 0, 1) := by decide +kernel
theorem dX4_work_251 : decode cX4_work 251 = .ok (.aload_n 1, 1) := by decide +kernel
theorem dX4_work_252 : decode cX4_work 252 = .ok (.getfield 44, 3) := by decide +kernel
theorem dX4_work_255 : decode cX4_work 255 = .ok (.iload_n 3, 1) := by decide +kernel
theorem dX4_work_256 : decode cX4_work 256 = .ok (.iaload, 1) := by decide +kernel
theorem dX4_work_257 : decode cX4_work 257 = .ok (.invokevirtual 72, 3) := by decide +kernel
theorem dX4_work_260 : decode cX4_work 260 = .ok (.iinc 3 1, 3) := by decide +kernel
theorem dX4_work_263 : decode cX4_work 263 = .ok (.iinc 4 1, 3) := by decide +kernel
theorem dX4_work_266 : decode cX4_work 266 = .ok (.goto (-261), 3) := by decide +kernel
theorem dX4_work_269 : decode cX4_work 269 = .ok (.return_, 1) := by decide +kernel
/-! a step of the class's machine, kind by kind -/
theorem sC_2 {g : PG} {xa st : Nat} {lt : Int32} {T : List (Nat × Int32)} {lS : List Nat} {oS : List Int32} (hx : xa < g.1) (hk : g.2.1 xa = 2) : stpC g (xa, false, st, lt, T, lS, oS) = some (xa + 1, false, st, lt, T, lS, pshC oS (nI (g.2.2.1 xa))) := by
  unfold stpC
  rw [if_neg (c_nn rfl hx)]
  dsimp only
  rw [if_pos hk]
theorem sC_10 {g : PG} {xa st : Nat} {lt : Int32} {T : List (Nat × Int32)} {lS : List Nat} {oS : List Int32} (hx : xa < g.1) (hk : g.2.1 xa = 10) : stpC g (xa, false, st, lt, T, lS, oS) = some (xa + 1, false, st, lt, T, lS, pshC oS (nI (lS.headD 0))) := by
  unfold stpC
  rw [if_neg (c_nn rfl hx)]
  dsimp only
  rw [if_neg (by omega), if_pos hk]
theorem sC_11 {g : PG} {xa st : Nat} {lt : Int32} {T : List (Nat × Int32)} {lS : List Nat} {oS : List Int32} (hx : xa < g.1) (hk : g.2.1 xa = 11) : stpC g (xa, false, st, lt, T, lS, oS) = some (xa + 1, false, st, lt, T, lS, pshC oS lt) := by
  unfold stpC
  rw [if_neg (c_nn rfl hx)]
  dsimp only
  rw [if_neg (by omega), if_neg (by omega), if_pos hk]
theorem sC_9 {g : PG} {xa st : Nat} {lt : Int32} {T : List (Nat × Int32)} {lS : List Nat} {oS : List Int32} (hx : xa < g.1) (hk : g.2.1 xa = 9) : stpC g (xa, false, st, lt, T, lS, oS) = some ((if 0 < oS.headD 0 then xa + 1 else g.2.2.2 xa), false, st, lt, T, lS, oS.tail) := by
  unfold stpC
  rw [if_neg (c_nn rfl hx)]
  dsimp only
  rw [if_neg (by omega), if_neg (by omega), if_neg (by omega), if_pos hk]
theorem sC_8z {g : PG} {xa st : Nat} {lt : Int32} {T : List (Nat × Int32)} {lS : List Nat} {oS : List Int32} (hx : xa < g.1) (hk : g.2.1 xa = 8) (hn : g.2.2.1 xa = 0) : stpC g (xa, false, st, lt, T, lS, oS) = some (g.2.2.2 xa + 1, false, st, lt, T, lS, oS) := by
  unfold stpC
  rw [if_neg (c_nn rfl hx)]
  dsimp only
  rw [if_neg (by omega), if_neg (by omega), if_neg (by omega), if_neg (by omega), if_pos hk, if_pos hn]
theorem sC_8 {g : PG} {xa st : Nat} {lt : Int32} {T : List (Nat × Int32)} {lS : List Nat} {oS : List Int32} (hx : xa < g.1) (hk : g.2.1 xa = 8) (hn : ¬ g.2.2.1 xa = 0) (hl : lS.length < 5) (h3 : st < 300) : stpC g (xa, false, st, lt, T, lS, oS) = some (xa + 1, false, st + 1, lt, T, 0 :: lS, oS) := by
  unfold stpC
  rw [if_neg (c_nn rfl hx)]
  dsimp only
  rw [if_neg (by omega), if_neg (by omega), if_neg (by omega), if_neg (by omega), if_pos hk, if_neg hn, if_pos hl, if_pos h3]
theorem sC_8c {g : PG} {xa st : Nat} {lt : Int32} {T : List (Nat × Int32)} {lS : List Nat} {oS : List Int32} (hx : xa < g.1) (hk : g.2.1 xa = 8) (hn : ¬ g.2.2.1 xa = 0) (hl : lS.length < 5) (h3 : ¬ st < 300) : stpC g (xa, false, st, lt, T, lS, oS) = some (xa + 1, true, st, lt, T, lS, oS) := by
  unfold stpC
  rw [if_neg (c_nn rfl hx)]
  dsimp only
  rw [if_neg (by omega), if_neg (by omega), if_neg (by omega), if_neg (by omega), if_pos hk, if_neg hn, if_pos hl, if_neg h3]
theorem sC_8d {g : PG} {xa st : Nat} {lt : Int32} {T : List (Nat × Int32)} {lS : List Nat} {oS : List Int32} (hx : xa < g.1) (hk : g.2.1 xa = 8) (hn : ¬ g.2.2.1 xa = 0) (hl : ¬ lS.length < 5) : stpC g (xa, false, st, lt, T, lS, oS) = some (xa + 1, false, st, lt, T, lS, oS) := by
  unfold stpC
  rw [if_neg (c_nn rfl hx)]
  dsimp only
  rw [if_neg (by omega), if_neg (by omega), if_neg (by omega), if_neg (by omega), if_pos hk, if_neg hn, if_neg hl]
theorem sC_93n {g : PG} {xa st : Nat} {lt : Int32} {T : List (Nat × Int32)} {lS : List Nat} {oS : List Int32} (hx : xa < g.1) (hk : g.2.1 xa = 93) (hf : lS = [] ∨ ¬ (g.2.2.2 xa < g.1 ∧ g.2.1 (g.2.2.2 xa) = 8)) : stpC g (xa, false, st, lt, T, lS, oS) = some (xa + 1, false, st, lt, T, lS, oS) := by
  unfold stpC
  rw [if_neg (c_nn rfl hx)]
  dsimp only
  rw [if_neg (by omega), if_neg (by omega), if_neg (by omega), if_neg (by omega), if_neg (by omega), if_pos hk, if_pos hf]
theorem sC_93p {g : PG} {xa st : Nat} {lt : Int32} {T : List (Nat × Int32)} {lS : List Nat} {oS : List Int32} (hx : xa < g.1) (hk : g.2.1 xa = 93) (hf : ¬ (lS = [] ∨ ¬ (g.2.2.2 xa < g.1 ∧ g.2.1 (g.2.2.2 xa) = 8))) (hq : g.2.2.1 (g.2.2.2 xa) ≤ lS.headD 0 + 1) : stpC g (xa, false, st, lt, T, lS, oS) = some (xa + 1, false, st, lt, T, lS.tail, oS) := by
  unfold stpC
  rw [if_neg (c_nn rfl hx)]
  dsimp only
  rw [if_neg (by omega), if_neg (by omega), if_neg (by omega), if_neg (by omega), if_neg (by omega), if_pos hk, if_neg hf, if_pos hq]
theorem sC_93 {g : PG} {xa st : Nat} {lt : Int32} {T : List (Nat × Int32)} {lS : List Nat} {oS : List Int32} (hx : xa < g.1) (hk : g.2.1 xa = 93) (hf : ¬ (lS = [] ∨ ¬ (g.2.2.2 xa < g.1 ∧ g.2.1 (g.2.2.2 xa) = 8))) (hq : ¬ g.2.2.1 (g.2.2.2 xa) ≤ lS.headD 0 + 1) (h3 : st < 300) : stpC g (xa, false, st, lt, T, lS, oS) = some (g.2.2.2 xa + 1, false, st + 1, lt, T, (lS.headD 0 + 1) :: lS.tail, oS) := by
  unfold stpC
  rw [if_neg (c_nn rfl hx)]
  dsimp only
  rw [if_neg (by omega), if_neg (by omega), if_neg (by omega), if_neg (by omega), if_neg (by omega), if_pos hk, if_neg hf, if_neg hq, if_pos h3]
theorem sC_93c {g : PG} {xa st : Nat} {lt : Int32} {T : List (Nat × Int32)} {lS : List Nat} {oS : List Int32} (hx : xa < g.1) (hk : g.2.1 xa = 93) (hf : ¬ (lS = [] ∨ ¬ (g.2.2.2 xa < g.1 ∧ g.2.1 (g.2.2.2 xa) = 8))) (hq : ¬ g.2.2.1 (g.2.2.2 xa) ≤ lS.headD 0 + 1) (h3 : ¬ st < 300) : stpC g (xa, false, st, lt, T, lS, oS) = some (g.2.2.2 xa + 1, true, st, lt, T, lS, oS) := by
  unfold stpC
  rw [if_neg (c_nn rfl hx)]
  dsimp only
  rw [if_neg (by omega), if_neg (by omega), if_neg (by omega), if_neg (by omega), if_neg (by omega), if_pos hk, if_neg hf, if_neg hq, if_neg h3]
theorem sC_a3 {g : PG} {xa st : Nat} {lt : Int32} {T : List (Nat × Int32)} {lS : List Nat} {oS : List Int32} (hx : xa < g.1) (hk : g.2.1 xa = 3) (h3 : st < 300) : stpC g (xa, false, st, lt, T, lS, oS) = some (xa + 1, false, st + 1, (actF 3 (oS.tail.headD 0) (oS.headD 0) lt T).1, (actF 3 (oS.tail.headD 0) (oS.headD 0) lt T).2, lS, oS.tail.tail) := by
  unfold stpC
  rw [if_neg (c_nn rfl hx)]
  dsimp only
  rw [if_neg (by omega), if_neg (by omega), if_neg (by omega), if_neg (by omega), if_neg (by omega), if_neg (by omega), if_pos (Or.inl hk), if_pos h3, if_pos hk]
theorem sC_a {g : PG} {xa st : Nat} {lt : Int32} {T : List (Nat × Int32)} {lS : List Nat} {oS : List Int32} (hx : xa < g.1) (hk : g.2.1 xa = 5 ∨ g.2.1 xa = 6 ∨ g.2.1 xa = 7) (h3 : st < 300) : stpC g (xa, false, st, lt, T, lS, oS) = some (xa + 1, false, st + 1, (actF (g.2.1 xa) (oS.headD 0) 0 lt T).1, (actF (g.2.1 xa) (oS.headD 0) 0 lt T).2, lS, oS.tail) := by
  unfold stpC
  rw [if_neg (c_nn rfl hx)]
  dsimp only
  rw [if_neg (by omega), if_neg (by omega), if_neg (by omega), if_neg (by omega), if_neg (by omega), if_neg (by omega), if_pos (Or.inr hk), if_pos h3, if_neg (by omega)]
theorem sC_ac {g : PG} {xa st : Nat} {lt : Int32} {T : List (Nat × Int32)} {lS : List Nat} {oS : List Int32} (hx : xa < g.1) (hk : g.2.1 xa = 3 ∨ g.2.1 xa = 5 ∨ g.2.1 xa = 6 ∨ g.2.1 xa = 7) (h3 : ¬ st < 300) : stpC g (xa, false, st, lt, T, lS, oS) = some (xa + 1, true, st, lt, T, lS, oS) := by
  unfold stpC
  rw [if_neg (c_nn rfl hx)]
  dsimp only
  rw [if_neg (by omega), if_neg (by omega), if_neg (by omega), if_neg (by omega), if_neg (by omega), if_neg (by omega), if_pos hk, if_neg h3]
theorem sC_s {g : PG} {xa st : Nat} {lt : Int32} {T : List (Nat × Int32)} {lS : List Nat} {oS : List Int32} (hx : xa < g.1) (hk : ¬ (g.2.1 xa = 2 ∨ g.2.1 xa = 10 ∨ g.2.1 xa = 11 ∨ g.2.1 xa = 9 ∨ g.2.1 xa = 8 ∨ g.2.1 xa = 93 ∨ g.2.1 xa = 3 ∨ g.2.1 xa = 5 ∨ g.2.1 xa = 6 ∨ g.2.1 xa = 7)) : stpC g (xa, false, st, lt, T, lS, oS) = some (xa + 1, false, st, lt, T, lS, pshC oS.tail.tail (jnD (g.2.1 xa) (oS.tail.headD 0) (oS.headD 0))) := by
  unfold stpC
  rw [if_neg (c_nn rfl hx)]
  dsimp only
  rw [if_neg (by omega), if_neg (by omega), if_neg (by omega), if_neg (by omega), if_neg (by omega), if_neg (by omega), if_neg (by omega)]
/-- where the class's machine stands after n8 moves -/
def WkX (g : PG) (L : List (Nat × Int32)) (n8 : Nat) (az : Int32) (st : Nat) (lt en : Int32) (lo : Nat) (fR : Nat → Int32) (oz : Nat) (fP fk fv : Nat → Int32) (cn : Nat) : Prop := ∃ (xa : Nat) (bE : Bool) (T : List (Nat × Int32)) (lS : List Nat) (oS : List Int32), star (stpC g) (0, false, 0, 0, L, [], []) (xa, bE, st, lt, T, lS, oS) ∧ az = nI xa ∧ xa ≤ g.1 + 1 ∧ en = (if bE = true then 1 else 0) ∧ KvT fk fv cn T ∧ (lo = lS.length ∧ LoM lS fR ∧ ∀ q, q ∈ lS → q ≤ 1000000) ∧ (oz = oS.length ∧ OsM oS fP) ∧ (bE = false → n8 + (300 - st) * 602 + (601 - xa) ≤ 181201) ∧ n8 ≤ 181202 ∧ st ≤ 300
theorem WkX_0 {g : PG} {L : List (Nat × Int32)} {fR fP fk fv : Nat → Int32} {cn : Nat} (h : KvT fk fv cn L) : WkX g L 0 0 0 0 0 0 fR 0 fP fk fv cn := ⟨0, false, L, [], [], star_0 _, rfl, Nat.zero_le _, rfl, h, ⟨rfl, trivial, fun q hq => absurd hq List.not_mem_nil⟩, ⟨rfl, trivial⟩, fun _ => by decide, by decide, by decide⟩
theorem WkX.go {g : PG} {L : List (Nat × Int32)} {n8 xa st : Nat} {lt en : Int32} {lo : Nat} {fR : Nat → Int32} {oz : Nat} {fP fk fv : Nat → Int32} {cn : Nat} (h : WkX g L n8 (nI xa) st lt en lo fR oz fP fk fv cn) (hg : g.1 ≤ 600) (hx : xa < g.1) (he : en = 0) : ∃ T lS oS, star (stpC g) (0, false, 0, 0, L, [], []) (xa, false, st, lt, T, lS, oS) ∧ KvT fk fv cn T ∧ (lo = lS.length ∧ LoM lS fR ∧ ∀ q, q ∈ lS → q ≤ 1000000) ∧ (oz = oS.length ∧ OsM oS fP) ∧ n8 + (300 - st) * 602 + (601 - xa) ≤ 181201 ∧ st ≤ 300 := by
  obtain ⟨y, bE, T, lS, oS, s, e1, e2, e3, e4, e5, e6, e7, e8, e9⟩ := h
  obtain rfl := (nI_eq (by omega) (by omega)).mp e1
  cases bE with
  | true => rw [he] at e3; exact absurd e3 (by decide)
  | false => exact ⟨T, lS, oS, s, e4, e5, e6, e7 rfl, e9⟩
theorem WkX.mk {g : PG} {L : List (Nat × Int32)} {n8 xa st : Nat} {lt : Int32} {T : List (Nat × Int32)} {lS : List Nat} {oS : List Int32} (s : star (stpC g) (0, false, 0, 0, L, [], []) (xa, false, st, lt, T, lS, oS)) (hm : n8 + (300 - st) * 602 + (601 - xa) ≤ 181201) {ya st' : Nat} {bE : Bool} {lt' : Int32} {T' : List (Nat × Int32)} {lS' : List Nat} {oS' : List Int32} (hs : stpC g (xa, false, st, lt, T, lS, oS) = some (ya, bE, st', lt', T', lS', oS')) {az en : Int32} {lo oz cn : Nat} {fR fP fk fv : Nat → Int32} (e1 : az = nI ya) (e2 : ya ≤ g.1 + 1) (hg : g.1 ≤ 600) (e3 : en = if bE = true then 1 else 0) (e4 : KvT fk fv cn T') (e5 : lo = lS'.length ∧ LoM lS' fR ∧ ∀ q, q ∈ lS' → q ≤ 1000000) (e6 : oz = oS'.length ∧ OsM oS' fP) (e7 : bE = false → (st' = st ∧ xa < ya) ∨ st' = st + 1) (e9 : st' ≤ 300) : WkX g L (n8 + 1) az st' lt' en lo fR oz fP fk fv cn := ⟨ya, bE, T', lS', oS', star_t s (star_1 hs (star_0 _)), e1, e2, e3, e4, e5, e6, fun q => by
  rcases e7 q with ⟨z1, z2⟩ | z
  · subst z1
    omega
  · subst z
    omega, by omega, e9⟩
theorem WkX.fin {g : PG} {L : List (Nat × Int32)} {n8 : Nat} {az : Int32} {st : Nat} {lt en : Int32} {lo : Nat} {fR : Nat → Int32} {oz : Nat} {fP fk fv : Nat → Int32} {cn : Nat} (h : WkX g L n8 az st lt en lo fR oz fP fk fv cn) (hg : g.1 ≤ 600) (he : 1000000 ≤ n8 ∨ az < 0 ∨ nI g.1 ≤ az ∨ ¬ en = 0) : ∃ u : CC, star (stpC g) (0, false, 0, 0, L, [], []) u ∧ stpC g u = none ∧ st = u.2.2.1 ∧ KvT fk fv cn u.2.2.2.2.1 := by
  obtain ⟨y, bE, T, lS, oS, s, e1, e2, e3, e4, e5, e6, e7, e8, e9⟩ := h
  refine ⟨(y, bE, st, lt, T, lS, oS), s, ?_, rfl, e4⟩
  unfold stpC
  refine if_pos ?_
  rcases he with z | z | z | z
  · omega
  · rw [e1] at z
    exact absurd z (Int32.not_lt.mpr (nI_pos' (by omega)))
  · rw [e1] at z
    exact Or.inr ((nI_leI (by omega) (by omega)).mp z)
  · cases bE with
    | true => exact Or.inl rfl
    | false => rw [e3] at z; exact absurd rfl z
def FwG (g : PG) : Prop := ∀ j, j < g.1 → g.2.1 j = 8 ∨ g.2.1 j = 9 → j < g.2.2.2 j
theorem LoM_hd {lS : List Nat} {lo : Nat} {f : Nat → Int32} (e : lo = lS.length) (h : LoM lS f) (h1 : 1 ≤ lo) : f (lo - 1) = nI (lS.headD 0) ∧ lo - 1 = lS.tail.length ∧ LoM lS.tail f ∧ lS ≠ [] := by
  cases lS with
  | nil => subst e; exact absurd h1 (by decide)
  | cons q t =>
    subst e
    rw [List.length_cons, Nat.add_sub_cancel]
    exact ⟨h.1, rfl, h.2, List.cons_ne_nil _ _⟩
theorem LoM_nil {lS : List Nat} {lo : Nat} (e : lo = lS.length) (h : lo = 0) : lS = [] := List.eq_nil_of_length_eq_zero (by omega)
theorem LoM_set {lS : List Nat} {lo : Nat} {f : Nat → Int32} (e : lo = lS.length) (h : LoM lS f) (h1 : 1 ≤ lo) : LoM ((lS.headD 0 + 1) :: lS.tail) (upd f (lo - 1) (f (lo - 1) + 1)) ∧ lo = ((lS.headD 0 + 1) :: lS.tail).length := by
  obtain ⟨a, b, c, _⟩ := LoM_hd e h h1
  rw [a, show nI (lS.headD 0) + 1 = nI (lS.headD 0 + 1) from nI_1 _]
  exact ⟨LoM_psh b c, by rw [List.length_cons]; omega⟩
theorem hd_mem {lS : List Nat} {m : Nat} (h : ∀ q, q ∈ lS → q ≤ m) (hn : lS ≠ []) : lS.headD 0 ≤ m ∧ ∀ q, q ∈ lS.tail → q ≤ m := by
  cases lS with
  | nil => exact absurd rfl hn
  | cons q t => exact ⟨h q List.mem_cons_self, fun z hz => h z (List.mem_cons_of_mem _ hz)⟩
def own_k_work : List Cond := [.constant RX4 38 (1000000), .fieldLink RX4 39 "ClashFree$Program" "size" "I", .fieldLink RX4 28 "ClashFree$Machine" "ended" "Z", .fieldLink RX4 44 "ClashFree$Program" "kinds" "[I", .fieldLink RX4 47 "ClashFree$Program" "numbers" "[I", .methodLink RX4 50 yX4_push, .instanceMethod yX4_push, .selects RX4 yX4_push yX4_push, .initialized RX4, .methodLink RX4 68 yX4_act, .instanceMethod yX4_act, .selects RX4 yX4_act yX4_act, .methodLink RX4 61 yX4_beginRounds, .instanceMethod yX4_beginRounds, .selects RX4 yX4_beginRounds yX4_beginRounds, .methodLink RX4 54 yX4_pop, .instanceMethod yX4_pop, .selects RX4 yX4_pop yX4_pop, .fieldLink RX4 58 "ClashFree$Program" "links" "[I", .fieldLink RX4 32 "ClashFree$Machine" "loops" "I", .fieldLink RX4 9 "ClashFree$Machine" "roundOf" "[I", .fieldLink RX4 25 "ClashFree$Machine" "latest" "I", .methodLink RX4 65 yX4_goRound, .instanceMethod yX4_goRound, .selects RX4 yX4_goRound yX4_goRound, .methodLink RX4 72 yX4_calculate, .instanceMethod yX4_calculate, .selects RX4 yX4_calculate yX4_calculate]
def wp_k_work : List Cond := .code yX4_work cX4_work 5 none :: (own_k_work ++ (wp_k_push ++ (wp_k_act ++ (wp_k_beginRounds ++ (wp_k_pop ++ (wp_k_goRound ++ (wp_k_calculate ++ (wsX70 ++ (wsX40 ++ ([] : List Cond))))))))))
set_option maxRecDepth 20000 in
theorem inown_k_work : ∀ w ∈ own_k_work, w ∈ lw_tbl := mem_places [1098, 280, 389, 282, 284, 1099, 1101, 26, 114, 1120, 1122, 31, 1107, 1109, 28, 1103, 1105, 27, 286, 391, 392, 387, 1115, 1117, 30, 1135, 1137, 33] (by decide +kernel)
set_option maxRecDepth 20000 in
theorem in_k_work : ∀ w ∈ wp_k_work, w ∈ lw_tbl := List.forall_mem_cons.mpr ⟨List.mem_of_getElem? (i := 1097) (by decide +kernel), List.forall_mem_append.mpr ⟨inown_k_work, List.forall_mem_append.mpr ⟨in_k_push, List.forall_mem_append.mpr ⟨in_k_act, List.forall_mem_append.mpr ⟨in_k_beginRounds, List.forall_mem_append.mpr ⟨in_k_pop, List.forall_mem_append.mpr ⟨in_k_goRound, List.forall_mem_append.mpr ⟨in_k_calculate, List.forall_mem_append.mpr ⟨lwb_X7, List.forall_mem_append.mpr ⟨lwb_X4, fun _ h => absurd h List.not_mem_nil⟩⟩⟩⟩⟩⟩⟩⟩⟩⟩
set_option maxRecDepth 20000 in
theorem good_k_work : wp_k_work.all goodWord = true := by decide +kernel
set_option maxRecDepth 20000 in
theorem g_k_work_k_push_50 : GoodIn wp_k_work (wsV RX4 50 RX4 yX4_push wp_k_push) := goodIn_sub (List.forall_mem_append.mpr ⟨List.forall_mem_cons.mpr ⟨(List.mem_of_getElem? (i := 6) rfl), List.forall_mem_cons.mpr ⟨(List.mem_of_getElem? (i := 7) rfl), List.forall_mem_cons.mpr ⟨(List.mem_of_getElem? (i := 8) rfl), List.forall_mem_cons.mpr ⟨(List.mem_of_getElem? (i := 9) rfl), fun _ h => absurd h List.not_mem_nil⟩⟩⟩⟩, (fun _ h => (List.mem_cons_of_mem _ (List.mem_append_right _ (List.mem_append_left _ h))))⟩) (by decide +kernel)
set_option maxRecDepth 20000 in
theorem g_k_work_k_act_68 : GoodIn wp_k_work (wsV RX4 68 RX4 yX4_act wp_k_act) := goodIn_sub (List.forall_mem_append.mpr ⟨List.forall_mem_cons.mpr ⟨(List.mem_of_getElem? (i := 10) rfl), List.forall_mem_cons.mpr ⟨(List.mem_of_getElem? (i := 11) rfl), List.forall_mem_cons.mpr ⟨(List.mem_of_getElem? (i := 12) rfl), List.forall_mem_cons.mpr ⟨(List.mem_of_getElem? (i := 9) rfl), fun _ h => absurd h List.not_mem_nil⟩⟩⟩⟩, (fun _ h => (List.mem_cons_of_mem _ (List.mem_append_right _ (List.mem_append_right _ (List.mem_append_left _ h)))))⟩) (by decide +kernel)
set_option maxRecDepth 20000 in
theorem g_k_work_k_beginRounds_61 : GoodIn wp_k_work (wsV RX4 61 RX4 yX4_beginRounds wp_k_beginRounds) := goodIn_sub (List.forall_mem_append.mpr ⟨List.forall_mem_cons.mpr ⟨(List.mem_of_getElem? (i := 13) rfl), List.forall_mem_cons.mpr ⟨(List.mem_of_getElem? (i := 14) rfl), List.forall_mem_cons.mpr ⟨(List.mem_of_getElem? (i := 15) rfl), List.forall_mem_cons.mpr ⟨(List.mem_of_getElem? (i := 9) rfl), fun _ h => absurd h List.not_mem_nil⟩⟩⟩⟩, (fun _ h => (List.mem_cons_of_mem _ (List.mem_append_right _ (List.mem_append_right _ (List.mem_append_right _ (List.mem_append_left _ h))))))⟩) (by decide +kernel)
set_option maxRecDepth 20000 in
theorem g_k_work_k_pop_54 : GoodIn wp_k_work (wsV RX4 54 RX4 yX4_pop wp_k_pop) := goodIn_sub (List.forall_mem_append.mpr ⟨List.forall_mem_cons.mpr ⟨(List.mem_of_getElem? (i := 16) rfl), List.forall_mem_cons.mpr ⟨(List.mem_of_getElem? (i := 17) rfl), List.forall_mem_cons.mpr ⟨(List.mem_of_getElem? (i := 18) rfl), List.forall_mem_cons.mpr ⟨(List.mem_of_getElem? (i := 9) rfl), fun _ h => absurd h List.not_mem_nil⟩⟩⟩⟩, (fun _ h => (List.mem_cons_of_mem _ (List.mem_append_right _ (List.mem_append_right _ (List.mem_append_right _ (List.mem_append_right _ (List.mem_append_left _ h)))))))⟩) (by decide +kernel)
set_option maxRecDepth 20000 in
theorem g_k_work_k_goRound_65 : GoodIn wp_k_work (wsV RX4 65 RX4 yX4_goRound wp_k_goRound) := goodIn_sub (List.forall_mem_append.mpr ⟨List.forall_mem_cons.mpr ⟨(List.mem_of_getElem? (i := 23) rfl), List.forall_mem_cons.mpr ⟨(List.mem_of_getElem? (i := 24) rfl), List.forall_mem_cons.mpr ⟨(List.mem_of_getElem? (i := 25) rfl), List.forall_mem_cons.mpr ⟨(List.mem_of_getElem? (i := 9) rfl), fun _ h => absurd h List.not_mem_nil⟩⟩⟩⟩, (fun _ h => (List.mem_cons_of_mem _ (List.mem_append_right _ (List.mem_append_right _ (List.mem_append_right _ (List.mem_append_right _ (List.mem_append_right _ (List.mem_append_left _ h))))))))⟩) (by decide +kernel)
set_option maxRecDepth 20000 in
theorem g_k_work_k_calculate_72 : GoodIn wp_k_work (wsV RX4 72 RX4 yX4_calculate wp_k_calculate) := goodIn_sub (List.forall_mem_append.mpr ⟨List.forall_mem_cons.mpr ⟨(List.mem_of_getElem? (i := 26) rfl), List.forall_mem_cons.mpr ⟨(List.mem_of_getElem? (i := 27) rfl), List.forall_mem_cons.mpr ⟨(List.mem_of_getElem? (i := 28) rfl), List.forall_mem_cons.mpr ⟨(List.mem_of_getElem? (i := 9) rfl), fun _ h => absurd h List.not_mem_nil⟩⟩⟩⟩, (fun _ h => (List.mem_cons_of_mem _ (List.mem_append_right _ (List.mem_append_right _ (List.mem_append_right _ (List.mem_append_right _ (List.mem_append_right _ (List.mem_append_right _ (List.mem_append_left _ h)))))))))⟩) (by decide +kernel)
set_option maxHeartbeats 4000000 in
set_option maxRecDepth 100000 in
theorem lk_work (l : Launch) {p : Program} {e : Env} {s : State} {m : MethodId} {args : Array Value} {below : List Frame} {meth : Method} {c : Code} {Q : State → Prop} {A : Nat → Prop} (D : va_G) (ow : Nat → Nat) (oq : Nat → Nat) (ob : Nat → Nat) (cI : ClassId) (pz : Nat) (fK : Nat → Int32) (fN : Nat → Int32) (fL : Nat → Int32) (tb : Int32) (ts : Int32) (tg : Int32) (Sg : List (Nat × Int32) → Prop) (hpz : pz ≤ 600) (hx : p.tables.exec = Jvm.exec) (hb : c.code = cX4_work) (hml : c.maxLocals = 5) (hown : s.vm.findClass RX4 = some m.cls) (hts : ∀ w ∈ wp_k_work, w.before args s = true) (hA : ∀ q, s.heap.size ≤ q → A q) (hK : va_K D vwCl [(cI, .int)] s) (hN : NC s) (kx269 : ∀ (n8 : Nat), ∀ (az : Int32), ∀ (xst : Nat), ∀ (xrf : Int32), ∀ (xlt : Int32), ∀ (xen : Int32), ∀ (xlo : Nat), ∀ (xoz : Nat), ∀ (gfR : Nat → Int32), ∀ (gfP : Nat → Int32), ∀ (xtr : Int32), ∀ (xtl : Int32), ∀ (xtc : Int32), ∀ (xtu : Int32), ∀ (xtv : Int32), ∀ (xtw : Int32), ∀ (xsd : Int64), ∀ (xda : Nat), ∀ (xdb : Nat), ∀ (xpr : Int32), ∀ (xcn : Nat), ∀ (gfk : Nat → Int32), ∀ (gfv : Nat → Int32), ∀ (xnb : Nat), ∀ (xka : Nat), ∀ (xkb : Nat), ∀ (xsm : Int32), ∀ (xln : Nat), ∀ (gfh : Nat → Int32), ∀ (gff : Nat → Int32), ∀ (gfa : Nat → Int32), ∀ (gfs : Nat → Int32), ∀ (gfj : Nat → Int32), ∀ (gfr : Nat → Int32), ∀ (gfo : Nat → Int32), ∀ (gfx : Nat → Int32), (n8 ≤ 1000000) → (xst ≤ 300) → (xlo ≤ 5) → (xoz ≤ 64) → (TbI gfk gfj gfh gfo xcn xnb xka xkb xln xda xdb) → (∀ g L, MatG g pz fK fN fL → FwG g → Sg L → WkX g L n8 az xst xlt xen xlo gfR xoz gfP gfk gfv xcn) → (∀ g L, MatG g pz fK fN fL → FwG g → Sg L → ∃ z : CC, star (stpC g) (0, false, 0, 0, L, [], []) z ∧ stpC g z = none ∧ xst = z.2.2.1 ∧ KvT gfk gfv xcn z.2.2.2.2.1) → ∀ (H : Heap) (locs : List Loc) (ls : Array Slot), va_P D vwCl [(ow 0, .inr (4, gMa ow (nI xst) xrf xlt xen (nI xlo) (nI xoz))), (ow 1, .inl (cI, 5, .inl gfR)), (ow 2, .inl (cI, 64, .inl gfP)), (oq 1, .inr (7, [.int (nI pz), .ref (oq 2), .ref (oq 3), .ref (oq 4)])), (oq 2, .inl (cI, 600, .inl fK)), (oq 3, .inl (cI, 600, .inl fN)), (oq 4, .inl (cI, 600, .inl fL)), (ob 0, .inr (9, gT ob tb ts tg xtl xtc xtr xtu xtv xtw)), (ob 1, .inr (0, [.long xsd, .int (nI xda), .int (nI xdb), .int xpr])), (ob 2, .inr (2, [.int (nI xcn), .ref (ob 3), .ref (ob 4)])), (ob 3, .inl (cI, 160, .inl gfk)), (ob 4, .inl (cI, 160, .inl gfv)), (ob 5, .inr (3, gY ob (nI xnb) (nI xka) (nI xkb) xsm (nI xln))), (ob 6, .inl (cI, 2048, .inl gfh)), (ob 7, .inl (cI, 2048, .inl gff)), (ob 8, .inl (cI, 2048, .inl gfa)), (ob 9, .inl (cI, 2048, .inl gfs)), (ob 10, .inl (cI, 160, .inl gfj)), (ob 11, .inl (cI, 160, .inl gfr)), (ob 12, .inl (cI, 160, .inl gfo)), (ob 13, .inl (cI, 2048, .inl gfx))] H → va_D A [(ow 0, .inr (4, gMa ow (nI xst) xrf xlt xen (nI xlo) (nI xoz))), (ow 1, .inl (cI, 5, .inl gfR)), (ow 2, .inl (cI, 64, .inl gfP)), (oq 1, .inr (7, [.int (nI pz), .ref (oq 2), .ref (oq 3), .ref (oq 4)])), (oq 2, .inl (cI, 600, .inl fK)), (oq 3, .inl (cI, 600, .inl fN)), (oq 4, .inl (cI, 600, .inl fL)), (ob 0, .inr (9, gT ob tb ts tg xtl xtc xtr xtu xtv xtw)), (ob 1, .inr (0, [.long xsd, .int (nI xda), .int (nI xdb), .int xpr])), (ob 2, .inr (2, [.int (nI xcn), .ref (ob 3), .ref (ob 4)])), (ob 3, .inl (cI, 160, .inl gfk)), (ob 4, .inl (cI, 160, .inl gfv)), (ob 5, .inr (3, gY ob (nI xnb) (nI xka) (nI xkb) xsm (nI xln))), (ob 6, .inl (cI, 2048, .inl gfh)), (ob 7, .inl (cI, 2048, .inl gff)), (ob 8, .inl (cI, 2048, .inl gfa)), (ob 9, .inl (cI, 2048, .inl gfs)), (ob 10, .inl (cI, 160, .inl gfj)), (ob 11, .inl (cI, 160, .inl gfr)), (ob 12, .inl (cI, 160, .inl gfo)), (ob 13, .inl (cI, 2048, .inl gfx))] → va_S A s.heap H locs → lv_has ls 5 [(0, .ref (ow 0))] → W p l e ({ frames := 10, cells := 0, slots := 0, locals := 340 }) s m args below meth c H locs 0 0 Q (F0 m 269 ls [])) : ∀ (N : Nat), ∀ (n8 : Nat), ∀ (az : Int32), ∀ (xst : Nat), ∀ (xrf : Int32), ∀ (xlt : Int32), ∀ (xen : Int32), ∀ (xlo : Nat), ∀ (xoz : Nat), ∀ (gfR : Nat → Int32), ∀ (gfP : Nat → Int32), ∀ (xtr : Int32), ∀ (xtl : Int32), ∀ (xtc : Int32), ∀ (xtu : Int32), ∀ (xtv : Int32), ∀ (xtw : Int32), ∀ (xsd : Int64), ∀ (xda : Nat), ∀ (xdb : Nat), ∀ (xpr : Int32), ∀ (xcn : Nat), ∀ (gfk : Nat → Int32), ∀ (gfv : Nat → Int32), ∀ (xnb : Nat), ∀ (xka : Nat), ∀ (xkb : Nat), ∀ (xsm : Int32), ∀ (xln : Nat), ∀ (gfh : Nat → Int32), ∀ (gff : Nat → Int32), ∀ (gfa : Nat → Int32), ∀ (gfs : Nat → Int32), ∀ (gfj : Nat → Int32), ∀ (gfr : Nat → Int32), ∀ (gfo : Nat → Int32), ∀ (gfx : Nat → Int32), (n8 ≤ 1000000) → (xst ≤ 300) → (xlo ≤ 5) → (xoz ≤ 64) → (TbI gfk gfj gfh gfo xcn xnb xka xkb xln xda xdb) → (∀ g L, MatG g pz fK fN fL → FwG g → Sg L → WkX g L n8 az xst xlt xen xlo gfR xoz gfP gfk gfv xcn) → 1000000 - n8 < N → ∀ (H : Heap) (locs : List Loc) (ls : Array Slot), va_P D vwCl [(ow 0, .inr (4, gMa ow (nI xst) xrf xlt xen (nI xlo) (nI xoz))), (ow 1, .inl (cI, 5, .inl gfR)), (ow 2, .inl (cI, 64, .inl gfP)), (oq 1, .inr (7, [.int (nI pz), .ref (oq 2), .ref (oq 3), .ref (oq 4)])), (oq 2, .inl (cI, 600, .inl fK)), (oq 3, .inl (cI, 600, .inl fN)), (oq 4, .inl (cI, 600, .inl fL)), (ob 0, .inr (9, gT ob tb ts tg xtl xtc xtr xtu xtv xtw)), (ob 1, .inr (0, [.long xsd, .int (nI xda), .int (nI xdb), .int xpr])), (ob 2, .inr (2, [.int (nI xcn), .ref (ob 3), .ref (ob 4)])), (ob 3, .inl (cI, 160, .inl gfk)), (ob 4, .inl (cI, 160, .inl gfv)), (ob 5, .inr (3, gY ob (nI xnb) (nI xka) (nI xkb) xsm (nI xln))), (ob 6, .inl (cI, 2048, .inl gfh)), (ob 7, .inl (cI, 2048, .inl gff)), (ob 8, .inl (cI, 2048, .inl gfa)), (ob 9, .inl (cI, 2048, .inl gfs)), (ob 10, .inl (cI, 160, .inl gfj)), (ob 11, .inl (cI, 160, .inl gfr)), (ob 12, .inl (cI, 160, .inl gfo)), (ob 13, .inl (cI, 2048, .inl gfx))] H → va_D A [(ow 0, .inr (4, gMa ow (nI xst) xrf xlt xen (nI xlo) (nI xoz))), (ow 1, .inl (cI, 5, .inl gfR)), (ow 2, .inl (cI, 64, .inl gfP)), (oq 1, .inr (7, [.int (nI pz), .ref (oq 2), .ref (oq 3), .ref (oq 4)])), (oq 2, .inl (cI, 600, .inl fK)), (oq 3, .inl (cI, 600, .inl fN)), (oq 4, .inl (cI, 600, .inl fL)), (ob 0, .inr (9, gT ob tb ts tg xtl xtc xtr xtu xtv xtw)), (ob 1, .inr (0, [.long xsd, .int (nI xda), .int (nI xdb), .int xpr])), (ob 2, .inr (2, [.int (nI xcn), .ref (ob 3), .ref (ob 4)])), (ob 3, .inl (cI, 160, .inl gfk)), (ob 4, .inl (cI, 160, .inl gfv)), (ob 5, .inr (3, gY ob (nI xnb) (nI xka) (nI xkb) xsm (nI xln))), (ob 6, .inl (cI, 2048, .inl gfh)), (ob 7, .inl (cI, 2048, .inl gff)), (ob 8, .inl (cI, 2048, .inl gfa)), (ob 9, .inl (cI, 2048, .inl gfs)), (ob 10, .inl (cI, 160, .inl gfj)), (ob 11, .inl (cI, 160, .inl gfr)), (ob 12, .inl (cI, 160, .inl gfo)), (ob 13, .inl (cI, 2048, .inl gfx))] → va_S A s.heap H locs → lv_has ls 5 [(4, .int (nI n8)), (3, .int az), (0, .ref (ow 0)), (1, .ref (oq 1)), (2, .ref (ob 0))] → W p l e ({ frames := 10, cells := 0, slots := 0, locals := 340 }) s m args below meth c H locs 0 0 Q (F0 m 5 ls []) := by
  have hin_X7 : ∀ w ∈ wsX70, w ∈ wp_k_work := fun _ h => (List.mem_cons_of_mem _ (List.mem_append_right _ (List.mem_append_right _ (List.mem_append_right _ (List.mem_append_right _ (List.mem_append_right _ (List.mem_append_right _ (List.mem_append_right _ (List.mem_append_left _ h)))))))))
  have hin_X4 : ∀ w ∈ wsX40, w ∈ wp_k_work := fun _ h => (List.mem_cons_of_mem _ (List.mem_append_right _ (List.mem_append_right _ (List.mem_append_right _ (List.mem_append_right _ (List.mem_append_right _ (List.mem_append_right _ (List.mem_append_right _ (List.mem_append_right _ (List.mem_append_left _ h))))))))))
  intro N
  induction N with
  | zero =>
    intro n8 az xst xrf xlt xen xlo xoz gfR gfP xtr xtl xtc xtu xtv xtw xsd xda xdb xpr xcn gfk gfv xnb xka xkb xsm xln gfh gff gfa gfs gfj gfr gfo gfx h8 hst hlo hoz hTb hX hm
    exact absurd hm (Nat.not_lt_zero _)
  | succ N ih =>
    intro n8 az xst xrf xlt xen xlo xoz gfR gfP xtr xtl xtc xtu xtv xtw xsd xda xdb xpr xcn gfk gfv xnb xka xkb xsm xln gfh gff gfa gfs gfj gfr gfo gfx h8 hst hlo hoz hTb hX hm H locs ls hP hD hS hl
    obtain ⟨hky, hL, hO, hn1, hka, hkb, hda, hdb⟩ := id hTb
    have hnb := hL.1
    have hln := hL.2.1
    have hc := hky.1
    have hcz := hky.1
    refine lv_iload hx hb dX4_work_5 (lv_at hl 0 rfl) ?_
    refine lv_ldc (v := 1000000) hx hb hown (hts (.constant RX4 38 (1000000)) (List.mem_of_getElem? (i := 1) rfl)) dX4_work_7 ?_
    refine lv_icmp_ge (tgt := 269) hx hb dX4_work_9 (by decide) (fun hc1 => ?_) (fun hc1 => ?_)
    ·
      have hlt : 1000000 ≤ n8 := (nI_leI (by omega) (by omega)).mp hc1
      exact kx269 n8 az xst xrf xlt xen xlo xoz gfR gfP xtr xtl xtc xtu xtv xtw xsd xda xdb xpr xcn gfk gfv xnb xka xkb xsm xln gfh gff gfa gfs gfj gfr gfo gfx (by omega) (hst) (hlo) (hoz) (hTb) (hX) (fun g L hG hF hS => (hX g L hG hF hS).fin (by have := hG.1; omega) (Or.inl hlt)) H locs ls (hP.sub [0, 1, 2, 3, 4, 5, 6, 7, 8, 9, 10, 11, 12, 13, 14, 15, 16, 17, 18, 19, 20] rfl) (hD.sub [0, 1, 2, 3, 4, 5, 6, 7, 8, 9, 10, 11, 12, 13, 14, 15, 16, 17, 18, 19, 20] (by decide) rfl) hS (lv_sub hl [2] rfl)
    ·
      have hlt : n8 < 1000000 := by
        rcases Nat.lt_or_ge n8 (1000000) with z | z
        · exact z
        · exact absurd (nI_le z (by omega)) hc1
      refine lv_iload_n hx hb dX4_work_12 rfl (lv_at hl 1 rfl) ?_
      refine lv_if_lt (tgt := 269) hx hb dX4_work_13 (by decide) (fun hc2 => ?_) (fun hc2 => ?_)
      ·
        exact kx269 n8 az xst xrf xlt xen xlo xoz gfR gfP xtr xtl xtc xtu xtv xtw xsd xda xdb xpr xcn gfk gfv xnb xka xkb xsm xln gfh gff gfa gfs gfj gfr gfo gfx (by omega) (hst) (hlo) (hoz) (hTb) (hX) (fun g L hG hF hS => (hX g L hG hF hS).fin (by have := hG.1; omega) (Or.inr (Or.inl hc2))) H locs ls (hP.sub [0, 1, 2, 3, 4, 5, 6, 7, 8, 9, 10, 11, 12, 13, 14, 15, 16, 17, 18, 19, 20] rfl) (hD.sub [0, 1, 2, 3, 4, 5, 6, 7, 8, 9, 10, 11, 12, 13, 14, 15, 16, 17, 18, 19, 20] (by decide) rfl) hS (lv_sub hl [2] rfl)
      ·
        refine lv_iload_n hx hb dX4_work_16 rfl (lv_at hl 1 rfl) ?_
        refine lv_aload_n hx hb dX4_work_17 rfl (lv_at hl 3 rfl) ?_
        refine va_get (D := D) (ci := 7) (v := .int (nI pz)) (C := RX7) (T := TX7) (N := 4) hx hb hts hin_X7 hown hK hP 3 rfl rfl 0 (by decide) (hts (.fieldLink RX4 39 "ClashFree$Program" "size" "I") (List.mem_of_getElem? (i := 2) rfl)) (fun _ h9 => h9) rfl dX4_work_18 ?_
        refine lv_icmp_ge (tgt := 269) hx hb dX4_work_21 (by decide) (fun hc3 => ?_) (fun hc3 => ?_)
        ·
          exact kx269 n8 az xst xrf xlt xen xlo xoz gfR gfP xtr xtl xtc xtu xtv xtw xsd xda xdb xpr xcn gfk gfv xnb xka xkb xsm xln gfh gff gfa gfs gfj gfr gfo gfx (by omega) (hst) (hlo) (hoz) (hTb) (hX) (fun g L hG hF hS => (hX g L hG hF hS).fin (by have := hG.1; omega) (Or.inr (Or.inr (Or.inl (by rw [← hG.1]; exact hc3))))) H locs ls (hP.sub [0, 1, 2, 3, 4, 5, 6, 7, 8, 9, 10, 11, 12, 13, 14, 15, 16, 17, 18, 19, 20] rfl) (hD.sub [0, 1, 2, 3, 4, 5, 6, 7, 8, 9, 10, 11, 12, 13, 14, 15, 16, 17, 18, 19, 20] (by decide) rfl) hS (lv_sub hl [2] rfl)
        ·
          obtain ⟨xa, hxa, rfl⟩ := inz (by omega) hc2 (Int32.not_le.mp hc3)
          have hxa6 : xa < 600 := by omega
          refine lv_aload_n hx hb dX4_work_24 rfl (lv_at hl 2 rfl) ?_
          refine va_get (D := D) (ci := 4) (v := .int xen) (C := RX4) (T := TX4) (N := 8) hx hb hts hin_X4 hown hK hP 0 rfl rfl 3 (by decide) (hts (.fieldLink RX4 28 "ClashFree$Machine" "ended" "Z") (List.mem_of_getElem? (i := 3) rfl)) (fun _ h9 => h9) rfl dX4_work_25 ?_
          refine lv_if_ne (tgt := 269) hx hb dX4_work_28 (by decide) (fun hc4 => ?_) (fun hc4 => ?_)
          ·
            exact kx269 n8 (nI xa) xst xrf xlt xen xlo xoz gfR gfP xtr xtl xtc xtu xtv xtw xsd xda xdb xpr xcn gfk gfv xnb xka xkb xsm xln gfh gff gfa gfs gfj gfr gfo gfx (by omega) (hst) (hlo) (hoz) (hTb) (hX) (fun g L hG hF hS => (hX g L hG hF hS).fin (by have := hG.1; omega) (Or.inr (Or.inr (Or.inr hc4)))) H locs ls (hP.sub [0, 1, 2, 3, 4, 5, 6, 7, 8, 9, 10, 11, 12, 13, 14, 15, 16, 17, 18, 19, 20] rfl) (hD.sub [0, 1, 2, 3, 4, 5, 6, 7, 8, 9, 10, 11, 12, 13, 14, 15, 16, 17, 18, 19, 20] (by decide) rfl) hS (lv_sub hl [2] rfl)
          ·
            have hen := hc4
            refine lv_aload_n hx hb dX4_work_31 rfl (lv_at hl 3 rfl) ?_
            refine va_get (D := D) (ci := 7) (v := .ref (oq 2)) (C := RX7) (T := TX7) (N := 4) hx hb hts hin_X7 hown hK hP 3 rfl rfl 1 (by decide) (hts (.fieldLink RX4 44 "ClashFree$Program" "kinds" "[I") (List.mem_of_getElem? (i := 4) rfl)) (fun _ h9 => h9) rfl dX4_work_32 ?_
            refine lv_iload_n hx hb dX4_work_35 rfl (lv_at hl 1 rfl) ?_
            refine va_iald hx hb hK hP 4 0 rfl rfl (vp_in_nI (by omega) (by decide)) dX4_work_36 ?_
            refine lv_topi (fun kd ekd => ?_)
            rw [nI_clamp (by omega)] at ekd
            by_cases hs5 : kd = 2
            ·
              subst hs5
              refine lv_lookup (off := 91) (tgt := 128) hx hb dX4_work_37 (by decide +kernel) (by decide +kernel) (by decide) ?_
              refine lv_aload_n hx hb dX4_work_128 rfl (lv_at hl 2 rfl) ?_
              refine lv_aload_n hx hb dX4_work_129 rfl (lv_at hl 3 rfl) ?_
              refine va_get (D := D) (ci := 7) (v := .ref (oq 3)) (C := RX7) (T := TX7) (N := 4) hx hb hts hin_X7 hown hK hP 3 rfl rfl 2 (by decide) (hts (.fieldLink RX4 47 "ClashFree$Program" "numbers" "[I") (List.mem_of_getElem? (i := 5) rfl)) (fun _ h9 => h9) rfl dX4_work_130 ?_
              refine lv_iload_n hx hb dX4_work_133 rfl (lv_at hl 1 rfl) ?_
              refine va_iald hx hb hK hP 5 0 rfl rfl (vp_in_nI (by omega) (by decide)) dX4_work_134 ?_
              refine lv_topi (fun v6 ev6 => ?_)
              obtain rfl : v6 = fN xa := ev6.trans (by rw [nI_clamp (by omega)])
              have hPc := hP.sub (ws' := [(ow 0, .inr (4, gMa ow (nI xst) xrf xlt xen (nI xlo) (nI xoz))), (ow 2, .inl (cI, 64, .inl gfP))]) [0, 2] rfl
              have hKc := hK.sub (tys' := [(cI, .int)]) [0] rfl
              have hDc := hD.sub (ws' := [(ow 0, .inr (4, gMa ow (nI xst) xrf xlt xen (nI xlo) (nI xoz))), (ow 2, .inl (cI, 64, .inl gfP))]) [0, 2] (by decide) rfl
              have hFc := va_free (wc := [(ow 0, .inr (4, gMa ow (nI xst) xrf xlt xen (nI xlo) (nI xoz))), (ow 2, .inl (cI, 64, .inl gfP))]) hD hS hA [0, 2] rfl
              refine va_callv (va_runV (As := [.int (fN xa)]) (rest := []) ⟨hx, hb, hml, hown, hts⟩ (k_push l D _ ow cI xst xrf xlt xen xlo xoz gfP (fN xa) hoz) (cwV 1 hts g_k_work_k_push_50 rfl rfl rfl (by decide +kernel) ⟨(Nat.le_of_ble_eq_true rfl), (Nat.le_of_ble_eq_true rfl)⟩) (PcWC_V (q0 := 0) hPc hKc hDc hN rfl rfl) rfl rfl hl.1 rfl (lv_room (Nat.le_of_ble_eq_true rfl)) dX4_work_135 ⟨(Nat.le_of_ble_eq_true rfl), (Nat.le_of_ble_eq_true rfl)⟩) hS (fun q _ h => hFc q h) hFc (fun uu tt H locs htt hvm hw hB hz1 hk1 hS => ?_)
              obtain ⟨w8, w9⟩ := uu
              obtain ⟨hP1, hK1, hD1⟩ := hB
              rw [htt] at hP1
              have hK1 := va_K.moved hvm.symm hK1
              have hP1 : va_P D vwCl [(ow 0, .inr (4, gMa ow (nI xst) xrf xlt xen (nI xlo) (nI w8))), (ow 2, .inl (cI, 64, .inl w9))] H := hP1
              obtain ⟨hP, hD⟩ := va_join (wr := [(ow 1, .inl (cI, 5, .inl gfR)), (oq 1, .inr (7, [.int (nI pz), .ref (oq 2), .ref (oq 3), .ref (oq 4)])), (oq 2, .inl (cI, 600, .inl fK)), (oq 3, .inl (cI, 600, .inl fN)), (oq 4, .inl (cI, 600, .inl fL)), (ob 0, .inr (9, gT ob tb ts tg xtl xtc xtr xtu xtv xtw)), (ob 1, .inr (0, [.long xsd, .int (nI xda), .int (nI xdb), .int xpr])), (ob 2, .inr (2, [.int (nI xcn), .ref (ob 3), .ref (ob 4)])), (ob 3, .inl (cI, 160, .inl gfk)), (ob 4, .inl (cI, 160, .inl gfv)), (ob 5, .inr (3, gY ob (nI xnb) (nI xka) (nI xkb) xsm (nI xln))), (ob 6, .inl (cI, 2048, .inl gfh)), (ob 7, .inl (cI, 2048, .inl gff)), (ob 8, .inl (cI, 2048, .inl gfa)), (ob 9, .inl (cI, 2048, .inl gfs)), (ob 10, .inl (cI, 160, .inl gfj)), (ob 11, .inl (cI, 160, .inl gfr)), (ob 12, .inl (cI, 160, .inl gfo)), (ob 13, .inl (cI, 2048, .inl gfx))]) (w1 := [(ow 0, .inr (4, gMa ow (nI xst) xrf xlt xen (nI xlo) (nI w8))), (ow 2, .inl (cI, 64, .inl w9))]) hP hD [0, 2] [1, 3, 4, 5, 6, 7, 8, 9, 10, 11, 12, 13, 14, 15, 16, 17, 18, 19, 20] rfl rfl (by decide) (by decide) hk1 hFc hP1 hD1
              have hP : va_P D vwCl [(ow 1, .inl (cI, 5, .inl gfR)), (oq 1, .inr (7, [.int (nI pz), .ref (oq 2), .ref (oq 3), .ref (oq 4)])), (oq 2, .inl (cI, 600, .inl fK)), (oq 3, .inl (cI, 600, .inl fN)), (oq 4, .inl (cI, 600, .inl fL)), (ob 0, .inr (9, gT ob tb ts tg xtl xtc xtr xtu xtv xtw)), (ob 1, .inr (0, [.long xsd, .int (nI xda), .int (nI xdb), .int xpr])), (ob 2, .inr (2, [.int (nI xcn), .ref (ob 3), .ref (ob 4)])), (ob 3, .inl (cI, 160, .inl gfk)), (ob 4, .inl (cI, 160, .inl gfv)), (ob 5, .inr (3, gY ob (nI xnb) (nI xka) (nI xkb) xsm (nI xln))), (ob 6, .inl (cI, 2048, .inl gfh)), (ob 7, .inl (cI, 2048, .inl gff)), (ob 8, .inl (cI, 2048, .inl gfa)), (ob 9, .inl (cI, 2048, .inl gfs)), (ob 10, .inl (cI, 160, .inl gfj)), (ob 11, .inl (cI, 160, .inl gfr)), (ob 12, .inl (cI, 160, .inl gfo)), (ob 13, .inl (cI, 2048, .inl gfx)), (ow 0, .inr (4, gMa ow (nI xst) xrf xlt xen (nI xlo) (nI w8))), (ow 2, .inl (cI, 64, .inl w9))] H := hP
              have hD : va_D A [(ow 1, .inl (cI, 5, .inl gfR)), (oq 1, .inr (7, [.int (nI pz), .ref (oq 2), .ref (oq 3), .ref (oq 4)])), (oq 2, .inl (cI, 600, .inl fK)), (oq 3, .inl (cI, 600, .inl fN)), (oq 4, .inl (cI, 600, .inl fL)), (ob 0, .inr (9, gT ob tb ts tg xtl xtc xtr xtu xtv xtw)), (ob 1, .inr (0, [.long xsd, .int (nI xda), .int (nI xdb), .int xpr])), (ob 2, .inr (2, [.int (nI xcn), .ref (ob 3), .ref (ob 4)])), (ob 3, .inl (cI, 160, .inl gfk)), (ob 4, .inl (cI, 160, .inl gfv)), (ob 5, .inr (3, gY ob (nI xnb) (nI xka) (nI xkb) xsm (nI xln))), (ob 6, .inl (cI, 2048, .inl gfh)), (ob 7, .inl (cI, 2048, .inl gff)), (ob 8, .inl (cI, 2048, .inl gfa)), (ob 9, .inl (cI, 2048, .inl gfs)), (ob 10, .inl (cI, 160, .inl gfj)), (ob 11, .inl (cI, 160, .inl gfr)), (ob 12, .inl (cI, 160, .inl gfo)), (ob 13, .inl (cI, 2048, .inl gfx)), (ow 0, .inr (4, gMa ow (nI xst) xrf xlt xen (nI xlo) (nI w8))), (ow 2, .inl (cI, 64, .inl w9))] := hD
              try dsimp only at hw
              clear hz1 hk1 hFc hPc hKc hDc
              obtain ⟨hm10_hoz, hm10_v⟩ := hw
              refine lv_iinc (v := nI (xa + 1)) (lv' := [(3, .int (nI (xa + 1))), (4, .int (nI n8)), (0, .ref (ow 0)), (1, .ref (oq 1)), (2, .ref (ob 0))]) hx hb dX4_work_138 hl (k := 1) rfl (nI_1 _) (by decide) rfl (fun ls hl => ?_)
              refine lv_goto (tgt := 263) hx hb dX4_work_141 (by decide) ?_
              refine lv_iinc (v := nI (n8 + 1)) (lv' := [(4, .int (nI (n8 + 1))), (3, .int (nI (xa + 1))), (0, .ref (ow 0)), (1, .ref (oq 1)), (2, .ref (ob 0))]) hx hb dX4_work_263 hl (k := 1) rfl (nI_1 _) (by decide) rfl (fun ls hl => ?_)
              refine lv_goto (tgt := 5) hx hb dX4_work_266 (by decide) ?_
              exact ih (n8 + 1) (nI (xa + 1)) xst xrf xlt xen xlo w8 gfR w9 xtr xtl xtc xtu xtv xtw xsd xda xdb xpr xcn gfk gfv xnb xka xkb xsm xln gfh gff gfa gfs gfj gfr gfo gfx (by omega) (hst) (hlo) (hm10_hoz) (hTb) ((fun g L hG hF hS => by
                  have hpg := hG.1
                  obtain ⟨g1, g2, g3⟩ := hG.2.2.2.2 xa (by omega)
                  have gK := hG.2.1 xa (by omega)
                  obtain ⟨T, lS, oS, s1, k1, ⟨l1, l2, l3⟩, ⟨o1, o2⟩, m1, st3⟩ := (hX g L hG hF hS).go (by omega) (by omega) hen
                  have hk : g.2.1 xa = 2 := (nI_eq (b := 2) (by omega) (by decide)).mp (gK.symm.trans ekd.symm)
                  exact WkX.mk s1 m1 (sC_2 (by omega) hk) (rfl) (by omega) (by omega) (hen) (k1) (⟨l1, l2, l3⟩) (by rw [← hG.2.2.2.1 xa (by omega) (Or.inl hk)]; exact hm10_v oS o1 o2) (fun _ => Or.inl ⟨rfl, by omega⟩) (st3))) (by omega) H locs ls (hP.sub [19, 0, 20, 1, 2, 3, 4, 5, 6, 7, 8, 9, 10, 11, 12, 13, 14, 15, 16, 17, 18] rfl) (hD.sub [19, 0, 20, 1, 2, 3, 4, 5, 6, 7, 8, 9, 10, 11, 12, 13, 14, 15, 16, 17, 18] (by decide) rfl) hS (lv_sub hl [0, 1, 2, 3, 4] rfl)
            by_cases hs11 : kd = 3
            ·
              subst hs11
              refine lv_lookup (off := 196) (tgt := 233) hx hb dX4_work_37 (by decide +kernel) (by decide +kernel) (by decide) ?_
              refine lv_aload_n hx hb dX4_work_233 rfl (lv_at hl 2 rfl) ?_
              refine lv_aload_n hx hb dX4_work_234 rfl (lv_at hl 3 rfl) ?_
              refine va_get (D := D) (ci := 7) (v := .ref (oq 2)) (C := RX7) (T := TX7) (N := 4) hx hb hts hin_X7 hown hK hP 3 rfl rfl 1 (by decide) (hts (.fieldLink RX4 44 "ClashFree$Program" "kinds" "[I") (List.mem_of_getElem? (i := 4) rfl)) (fun _ h9 => h9) rfl dX4_work_235 ?_
              refine lv_iload_n hx hb dX4_work_238 rfl (lv_at hl 1 rfl) ?_
              refine va_iald hx hb hK hP 4 0 rfl rfl (vp_in_nI (by omega) (by decide)) dX4_work_239 ?_
              refine lv_topi (fun v12 ev12 => ?_)
              obtain rfl : v12 = fK xa := ev12.trans (by rw [nI_clamp (by omega)])
              refine lv_aload_n hx hb dX4_work_240 rfl (lv_at hl 4 rfl) ?_
              have hPc := hP.sub (ws' := [(ow 0, .inr (4, gMa ow (nI xst) xrf xlt xen (nI xlo) (nI xoz))), (ow 2, .inl (cI, 64, .inl gfP)), (ob 0, .inr (9, gT ob tb ts tg xtl xtc xtr xtu xtv xtw)), (ob 1, .inr (0, [.long xsd, .int (nI xda), .int (nI xdb), .int xpr])), (ob 2, .inr (2, [.int (nI xcn), .ref (ob 3), .ref (ob 4)])), (ob 3, .inl (cI, 160, .inl gfk)), (ob 4, .inl (cI, 160, .inl gfv)), (ob 5, .inr (3, gY ob (nI xnb) (nI xka) (nI xkb) xsm (nI xln))), (ob 6, .inl (cI, 2048, .inl gfh)), (ob 7, .inl (cI, 2048, .inl gff)), (ob 8, .inl (cI, 2048, .inl gfa)), (ob 9, .inl (cI, 2048, .inl gfs)), (ob 10, .inl (cI, 160, .inl gfj)), (ob 11, .inl (cI, 160, .inl gfr)), (ob 12, .inl (cI, 160, .inl gfo)), (ob 13, .inl (cI, 2048, .inl gfx))]) [0, 2, 7, 8, 9, 10, 11, 12, 13, 14, 15, 16, 17, 18, 19, 20] rfl
              have hKc := hK.sub (tys' := [(cI, .int)]) [0] rfl
              have hDc := hD.sub (ws' := [(ow 0, .inr (4, gMa ow (nI xst) xrf xlt xen (nI xlo) (nI xoz))), (ow 2, .inl (cI, 64, .inl gfP)), (ob 0, .inr (9, gT ob tb ts tg xtl xtc xtr xtu xtv xtw)), (ob 1, .inr (0, [.long xsd, .int (nI xda), .int (nI xdb), .int xpr])), (ob 2, .inr (2, [.int (nI xcn), .ref (ob 3), .ref (ob 4)])), (ob 3, .inl (cI, 160, .inl gfk)), (ob 4, .inl (cI, 160, .inl gfv)), (ob 5, .inr (3, gY ob (nI xnb) (nI xka) (nI xkb) xsm (nI xln))), (ob 6, .inl (cI, 2048, .inl gfh)), (ob 7, .inl (cI, 2048, .inl gff)), (ob 8, .inl (cI, 2048, .inl gfa)), (ob 9, .inl (cI, 2048, .inl gfs)), (ob 10, .inl (cI, 160, .inl gfj)), (ob 11, .inl (cI, 160, .inl gfr)), (ob 12, .inl (cI, 160, .inl gfo)), (ob 13, .inl (cI, 2048, .inl gfx))]) [0, 2, 7, 8, 9, 10, 11, 12, 13, 14, 15, 16, 17, 18, 19, 20] (by decide) rfl
              have hFc := va_free (wc := [(ow 0, .inr (4, gMa ow (nI xst) xrf xlt xen (nI xlo) (nI xoz))), (ow 2, .inl (cI, 64, .inl gfP)), (ob 0, .inr (9, gT ob tb ts tg xtl xtc xtr xtu xtv xtw)), (ob 1, .inr (0, [.long xsd, .int (nI xda), .int (nI xdb), .int xpr])), (ob 2, .inr (2, [.int (nI xcn), .ref (ob 3), .ref (ob 4)])), (ob 3, .inl (cI, 160, .inl gfk)), (ob 4, .inl (cI, 160, .inl gfv)), (ob 5, .inr (3, gY ob (nI xnb) (nI xka) (nI xkb) xsm (nI xln))), (ob 6, .inl (cI, 2048, .inl gfh)), (ob 7, .inl (cI, 2048, .inl gff)), (ob 8, .inl (cI, 2048, .inl gfa)), (ob 9, .inl (cI, 2048, .inl gfs)), (ob 10, .inl (cI, 160, .inl gfj)), (ob 11, .inl (cI, 160, .inl gfr)), (ob 12, .inl (cI, 160, .inl gfo)), (ob 13, .inl (cI, 2048, .inl gfx))]) hD hS hA [0, 2, 7, 8, 9, 10, 11, 12, 13, 14, 15, 16, 17, 18, 19, 20] rfl
              refine va_callv (va_runV (As := [.int (fK xa), .ref (ob 0)]) (rest := []) ⟨hx, hb, hml, hown, hts⟩ (k_act l D _ ow ob cI xst xrf xlt xen xlo xoz gfP tb ts tg xtl xtc xtr xtu xtv xtw xsd xda xdb xpr xcn gfk gfv xnb xka xkb xsm xln gfh gff gfa gfs gfj gfr gfo gfx (fK xa) hst hoz hTb) (cwV 2 hts g_k_work_k_act_68 rfl rfl rfl (by decide +kernel) ⟨(Nat.le_of_ble_eq_true rfl), (Nat.le_of_ble_eq_true rfl)⟩) (PcWC_V (q0 := 0) hPc hKc hDc hN rfl rfl) rfl rfl hl.1 rfl (lv_room (Nat.le_of_ble_eq_true rfl)) dX4_work_241 ⟨(Nat.le_of_ble_eq_true rfl), (Nat.le_of_ble_eq_true rfl)⟩) hS (fun q _ h => hFc q h) hFc (fun uu tt H locs htt hvm hw hB hz1 hk1 hS => ?_)
              obtain ⟨w14, w15, w16, w17, w18, w19, w20, w21, w22, w23, w24, w25, w26, w27, w28, w29, w30, w31, w32, w33, w34, w35, w36, w37, w38, w39, w40, w41, w42, w43, w44⟩ := uu
              obtain ⟨hP1, hK1, hD1⟩ := hB
              rw [htt] at hP1
              have hK1 := va_K.moved hvm.symm hK1
              have hP1 : va_P D vwCl [(ow 0, .inr (4, gMa ow (nI w14) w15 w16 w17 (nI xlo) (nI w18))), (ow 2, .inl (cI, 64, .inl gfP)), (ob 0, .inr (9, gT ob tb ts tg w20 w21 w19 w22 w23 w24)), (ob 1, .inr (0, [.long w25, .int (nI w26), .int (nI w27), .int w28])), (ob 2, .inr (2, [.int (nI w29), .ref (ob 3), .ref (ob 4)])), (ob 3, .inl (cI, 160, .inl w30)), (ob 4, .inl (cI, 160, .inl w31)), (ob 5, .inr (3, gY ob (nI w32) (nI w33) (nI w34) w35 (nI w36))), (ob 6, .inl (cI, 2048, .inl w37)), (ob 7, .inl (cI, 2048, .inl w38)), (ob 8, .inl (cI, 2048, .inl w39)), (ob 9, .inl (cI, 2048, .inl w40)), (ob 10, .inl (cI, 160, .inl w41)), (ob 11, .inl (cI, 160, .inl w42)), (ob 12, .inl (cI, 160, .inl w43)), (ob 13, .inl (cI, 2048, .inl w44))] H := hP1
              obtain ⟨hP, hD⟩ := va_join (wr := [(ow 1, .inl (cI, 5, .inl gfR)), (oq 1, .inr (7, [.int (nI pz), .ref (oq 2), .ref (oq 3), .ref (oq 4)])), (oq 2, .inl (cI, 600, .inl fK)), (oq 3, .inl (cI, 600, .inl fN)), (oq 4, .inl (cI, 600, .inl fL))]) (w1 := [(ow 0, .inr (4, gMa ow (nI w14) w15 w16 w17 (nI xlo) (nI w18))), (ow 2, .inl (cI, 64, .inl gfP)), (ob 0, .inr (9, gT ob tb ts tg w20 w21 w19 w22 w23 w24)), (ob 1, .inr (0, [.long w25, .int (nI w26), .int (nI w27), .int w28])), (ob 2, .inr (2, [.int (nI w29), .ref (ob 3), .ref (ob 4)])), (ob 3, .inl (cI, 160, .inl w30)), (ob 4, .inl (cI, 160, .inl w31)), (ob 5, .inr (3, gY ob (nI w32) (nI w33) (nI w34) w35 (nI w36))), (ob 6, .inl (cI, 2048, .inl w37)), (ob 7, .inl (cI, 2048, .inl w38)), (ob 8, .inl (cI, 2048, .inl w39)), (ob 9, .inl (cI, 2048, .inl w40)), (ob 10, .inl (cI, 160, .inl w41)), (ob 11, .inl (cI, 160, .inl w42)), (ob 12, .inl (cI, 160, .inl w43)), (ob 13, .inl (cI, 2048, .inl w44))]) hP hD [0, 2, 7, 8, 9, 10, 11, 12, 13, 14, 15, 16, 17, 18, 19, 20] [1, 3, 4, 5, 6] rfl rfl (by decide) (by decide) hk1 hFc hP1 hD1
              have hP : va_P D vwCl [(ow 1, .inl (cI, 5, .inl gfR)), (oq 1, .inr (7, [.int (nI pz), .ref (oq 2), .ref (oq 3), .ref (oq 4)])), (oq 2, .inl (cI, 600, .inl fK)), (oq 3, .inl (cI, 600, .inl fN)), (oq 4, .inl (cI, 600, .inl fL)), (ow 0, .inr (4, gMa ow (nI w14) w15 w16 w17 (nI xlo) (nI w18))), (ow 2, .inl (cI, 64, .inl gfP)), (ob 0, .inr (9, gT ob tb ts tg w20 w21 w19 w22 w23 w24)), (ob 1, .inr (0, [.long w25, .int (nI w26), .int (nI w27), .int w28])), (ob 2, .inr (2, [.int (nI w29), .ref (ob 3), .ref (ob 4)])), (ob 3, .inl (cI, 160, .inl w30)), (ob 4, .inl (cI, 160, .inl w31)), (ob 5, .inr (3, gY ob (nI w32) (nI w33) (nI w34) w35 (nI w36))), (ob 6, .inl (cI, 2048, .inl w37)), (ob 7, .inl (cI, 2048, .inl w38)), (ob 8, .inl (cI, 2048, .inl w39)), (ob 9, .inl (cI, 2048, .inl w40)), (ob 10, .inl (cI, 160, .inl w41)), (ob 11, .inl (cI, 160, .inl w42)), (ob 12, .inl (cI, 160, .inl w43)), (ob 13, .inl (cI, 2048, .inl w44))] H := hP
              have hD : va_D A [(ow 1, .inl (cI, 5, .inl gfR)), (oq 1, .inr (7, [.int (nI pz), .ref (oq 2), .ref (oq 3), .ref (oq 4)])), (oq 2, .inl (cI, 600, .inl fK)), (oq 3, .inl (cI, 600, .inl fN)), (oq 4, .inl (cI, 600, .inl fL)), (ow 0, .inr (4, gMa ow (nI w14) w15 w16 w17 (nI xlo) (nI w18))), (ow 2, .inl (cI, 64, .inl gfP)), (ob 0, .inr (9, gT ob tb ts tg w20 w21 w19 w22 w23 w24)), (ob 1, .inr (0, [.long w25, .int (nI w26), .int (nI w27), .int w28])), (ob 2, .inr (2, [.int (nI w29), .ref (ob 3), .ref (ob 4)])), (ob 3, .inl (cI, 160, .inl w30)), (ob 4, .inl (cI, 160, .inl w31)), (ob 5, .inr (3, gY ob (nI w32) (nI w33) (nI w34) w35 (nI w36))), (ob 6, .inl (cI, 2048, .inl w37)), (ob 7, .inl (cI, 2048, .inl w38)), (ob 8, .inl (cI, 2048, .inl w39)), (ob 9, .inl (cI, 2048, .inl w40)), (ob 10, .inl (cI, 160, .inl w41)), (ob 11, .inl (cI, 160, .inl w42)), (ob 12, .inl (cI, 160, .inl w43)), (ob 13, .inl (cI, 2048, .inl w44))] := hD
              try dsimp only at hw
              clear hz1 hk1 hFc hPc hKc hDc
              obtain ⟨hTb45_s, hTb45_z, hTb45, hTb45_v⟩ := hw
              obtain ⟨hky45, hL45, hO45, hn145, hka45, hkb45, hda45, hdb45⟩ := id hTb45
              have hnb45 := hL45.1
              have hln45 := hL45.2.1
              have hc45 := hky45.1
              refine lv_iinc (v := nI (xa + 1)) (lv' := [(3, .int (nI (xa + 1))), (4, .int (nI n8)), (0, .ref (ow 0)), (1, .ref (oq 1)), (2, .ref (ob 0))]) hx hb dX4_work_244 hl (k := 1) rfl (nI_1 _) (by decide) rfl (fun ls hl => ?_)
              refine lv_goto (tgt := 263) hx hb dX4_work_247 (by decide) ?_
              refine lv_iinc (v := nI (n8 + 1)) (lv' := [(4, .int (nI (n8 + 1))), (3, .int (nI (xa + 1))), (0, .ref (ow 0)), (1, .ref (oq 1)), (2, .ref (ob 0))]) hx hb dX4_work_263 hl (k := 1) rfl (nI_1 _) (by decide) rfl (fun ls hl => ?_)
              refine lv_goto (tgt := 5) hx hb dX4_work_266 (by decide) ?_
              exact ih (n8 + 1) (nI (xa + 1)) w14 w15 w16 w17 xlo w18 gfR gfP w19 w20 w21 w22 w23 w24 w25 w26 w27 w28 w29 w30 w31 w32 w33 w34 w35 w36 w37 w38 w39 w40 w41 w42 w43 w44 (by omega) (hTb45_s) (hlo) (hTb45_z) (hTb45) ((fun g L hG hF hS => by
                  have hpg := hG.1
                  obtain ⟨g1, g2, g3⟩ := hG.2.2.2.2 xa (by omega)
                  have gK := hG.2.1 xa (by omega)
                  obtain ⟨T, lS, oS, s1, k1, ⟨l1, l2, l3⟩, ⟨o1, o2⟩, m1, st3⟩ := (hX g L hG hF hS).go (by omega) (by omega) hen
                  have hk : g.2.1 xa = 3 := (nI_eq (b := 3) (by omega) (by decide)).mp (gK.symm.trans ekd.symm)
                  rcases hTb45_v T oS (g.2.1 xa) gK (by omega) k1 o1 o2 with ⟨z1, rfl, rfl, x9, v9, oQ, hc9, b1, b2, b3, b4⟩ | ⟨z1, rfl, rfl, rfl, rfl, b4⟩
                  · obtain ⟨_, rfl, rfl, rfl⟩ := hc9.resolve_right (fun q => q.1 hk)
                    rw [hk] at b3 b4
                    subst b3
                    exact WkX.mk s1 m1 (sC_a3 (by omega) hk z1) (rfl) (by omega) (by omega) (hen) (b4) (⟨l1, l2, l3⟩) (⟨b1, b2⟩) (fun _ => Or.inr rfl) (by omega)
                  · exact WkX.mk s1 m1 (sC_ac (by omega) (by omega) (by omega)) (rfl) (by omega) (by omega) (rfl) (b4) (⟨l1, l2, l3⟩) (⟨o1, o2⟩) (fun q => by contradiction) (st3))) (by omega) H locs ls (hP.sub [5, 0, 6, 1, 2, 3, 4, 7, 8, 9, 10, 11, 12, 13, 14, 15, 16, 17, 18, 19, 20] rfl) (hD.sub [5, 0, 6, 1, 2, 3, 4, 7, 8, 9, 10, 11, 12, 13, 14, 15, 16, 17, 18, 19, 20] (by decide) rfl) hS (lv_sub hl [0, 1, 2, 3, 4] rfl)
            by_cases hs46 : kd = 5
            ·
              subst hs46
              refine lv_lookup (off := 196) (tgt := 233) hx hb dX4_work_37 (by decide +kernel) (by decide +kernel) (by decide) ?_
              refine lv_aload_n hx hb dX4_work_233 rfl (lv_at hl 2 rfl) ?_
              refine lv_aload_n hx hb dX4_work_234 rfl (lv_at hl 3 rfl) ?_
              refine va_get (D := D) (ci := 7) (v := .ref (oq 2)) (C := RX7) (T := TX7) (N := 4) hx hb hts hin_X7 hown hK hP 3 rfl rfl 1 (by decide) (hts (.fieldLink RX4 44 "ClashFree$Program" "kinds" "[I") (List.mem_of_getElem? (i := 4) rfl)) (fun _ h9 => h9) rfl dX4_work_235 ?_
              refine lv_iload_n hx hb dX4_work_238 rfl (lv_at hl 1 rfl) ?_
              refine va_iald hx hb hK hP 4 0 rfl rfl (vp_in_nI (by omega) (by decide)) dX4_work_239 ?_
              refine lv_topi (fun v47 ev47 => ?_)
              obtain rfl : v47 = fK xa := ev47.trans (by rw [nI_clamp (by omega)])
              refine lv_aload_n hx hb dX4_work_240 rfl (lv_at hl 4 rfl) ?_
              have hPc := hP.sub (ws' := [(ow 0, .inr (4, gMa ow (nI xst) xrf xlt xen (nI xlo) (nI xoz))), (ow 2, .inl (cI, 64, .inl gfP)), (ob 0, .inr (9, gT ob tb ts tg xtl xtc xtr xtu xtv xtw)), (ob 1, .inr (0, [.long xsd, .int (nI xda), .int (nI xdb), .int xpr])), (ob 2, .inr (2, [.int (nI xcn), .ref (ob 3), .ref (ob 4)])), (ob 3, .inl (cI, 160, .inl gfk)), (ob 4, .inl (cI, 160, .inl gfv)), (ob 5, .inr (3, gY ob (nI xnb) (nI xka) (nI xkb) xsm (nI xln))), (ob 6, .inl (cI, 2048, .inl gfh)), (ob 7, .inl (cI, 2048, .inl gff)), (ob 8, .inl (cI, 2048, .inl gfa)), (ob 9, .inl (cI, 2048, .inl gfs)), (ob 10, .inl (cI, 160, .inl gfj)), (ob 11, .inl (cI, 160, .inl gfr)), (ob 12, .inl (cI, 160, .inl gfo)), (ob 13, .inl (cI, 2048, .inl gfx))]) [0, 2, 7, 8, 9, 10, 11, 12, 13, 14, 15, 16, 17, 18, 19, 20] rfl
              have hKc := hK.sub (tys' := [(cI, .int)]) [0] rfl
              have hDc := hD.sub (ws' := [(ow 0, .inr (4, gMa ow (nI xst) xrf xlt xen (nI xlo) (nI xoz))), (ow 2, .inl (cI, 64, .inl gfP)), (ob 0, .inr (9, gT ob tb ts tg xtl xtc xtr xtu xtv xtw)), (ob 1, .inr (0, [.long xsd, .int (nI xda), .int (nI xdb), .int xpr])), (ob 2, .inr (2, [.int (nI xcn), .ref (ob 3), .ref (ob 4)])), (ob 3, .inl (cI, 160, .inl gfk)), (ob 4, .inl (cI, 160, .inl gfv)), (ob 5, .inr (3, gY ob (nI xnb) (nI xka) (nI xkb) xsm (nI xln))), (ob 6, .inl (cI, 2048, .inl gfh)), (ob 7, .inl (cI, 2048, .inl gff)), (ob 8, .inl (cI, 2048, .inl gfa)), (ob 9, .inl (cI, 2048, .inl gfs)), (ob 10, .inl (cI, 160, .inl gfj)), (ob 11, .inl (cI, 160, .inl gfr)), (ob 12, .inl (cI, 160, .inl gfo)), (ob 13, .inl (cI, 2048, .inl gfx))]) [0, 2, 7, 8, 9, 10, 11, 12, 13, 14, 15, 16, 17, 18, 19, 20] (by decide) rfl
              have hFc := va_free (wc := [(ow 0, .inr (4, gMa ow (nI xst) xrf xlt xen (nI xlo) (nI xoz))), (ow 2, .inl (cI, 64, .inl gfP)), (ob 0, .inr (9, gT ob tb ts tg xtl xtc xtr xtu xtv xtw)), (ob 1, .inr (0, [.long xsd, .int (nI xda), .int (nI xdb), .int xpr])), (ob 2, .inr (2, [.int (nI xcn), .ref (ob 3), .ref (ob 4)])), (ob 3, .inl (cI, 160, .inl gfk)), (ob 4, .inl (cI, 160, .inl gfv)), (ob 5, .inr (3, gY ob (nI xnb) (nI xka) (nI xkb) xsm (nI xln))), (ob 6, .inl (cI, 2048, .inl gfh)), (ob 7, .inl (cI, 2048, .inl gff)), (ob 8, .inl (cI, 2048, .inl gfa)), (ob 9, .inl (cI, 2048, .inl gfs)), (ob 10, .inl (cI, 160, .inl gfj)), (ob 11, .inl (cI, 160, .inl gfr)), (ob 12, .inl (cI, 160, .inl gfo)), (ob 13, .inl (cI, 2048, .inl gfx))]) hD hS hA [0, 2, 7, 8, 9, 10, 11, 12, 13, 14, 15, 16, 17, 18, 19, 20] rfl
              refine va_callv (va_runV (As := [.int (fK xa), .ref (ob 0)]) (rest := []) ⟨hx, hb, hml, hown, hts⟩ (k_act l D _ ow ob cI xst xrf xlt xen xlo xoz gfP tb ts tg xtl xtc xtr xtu xtv xtw xsd xda xdb xpr xcn gfk gfv xnb xka xkb xsm xln gfh gff gfa gfs gfj gfr gfo gfx (fK xa) hst hoz hTb) (cwV 2 hts g_k_work_k_act_68 rfl rfl rfl (by decide +kernel) ⟨(Nat.le_of_ble_eq_true rfl), (Nat.le_of_ble_eq_true rfl)⟩) (PcWC_V (q0 := 0) hPc hKc hDc hN rfl rfl) rfl rfl hl.1 rfl (lv_room (Nat.le_of_ble_eq_true rfl)) dX4_work_241 ⟨(Nat.le_of_ble_eq_true rfl), (Nat.le_of_ble_eq_true rfl)⟩) hS (fun q _ h => hFc q h) hFc (fun uu tt H locs htt hvm hw hB hz1 hk1 hS => ?_)
              obtain ⟨w49, w50, w51, w52, w53, w54, w55, w56, w57, w58, w59, w60, w61, w62, w63, w64, w65, w66, w67, w68, w69, w70, w71, w72, w73, w74, w75, w76, w77, w78, w79⟩ := uu
              obtain ⟨hP1, hK1, hD1⟩ := hB
              rw [htt] at hP1
              have hK1 := va_K.moved hvm.symm hK1
              have hP1 : va_P D vwCl [(ow 0, .inr (4, gMa ow (nI w49) w50 w51 w52 (nI xlo) (nI w53))), (ow 2, .inl (cI, 64, .inl gfP)), (ob 0, .inr (9, gT ob tb ts tg w55 w56 w54 w57 w58 w59)), (ob 1, .inr (0, [.long w60, .int (nI w61), .int (nI w62), .int w63])), (ob 2, .inr (2, [.int (nI w64), .ref (ob 3), .ref (ob 4)])), (ob 3, .inl (cI, 160, .inl w65)), (ob 4, .inl (cI, 160, .inl w66)), (ob 5, .inr (3, gY ob (nI w67) (nI w68) (nI w69) w70 (nI w71))), (ob 6, .inl (cI, 2048, .inl w72)), (ob 7, .inl (cI, 2048, .inl w73)), (ob 8, .inl (cI, 2048, .inl w74)), (ob 9, .inl (cI, 2048, .inl w75)), (ob 10, .inl (cI, 160, .inl w76)), (ob 11, .inl (cI, 160, .inl w77)), (ob 12, .inl (cI, 160, .inl w78)), (ob 13, .inl (cI, 2048, .inl w79))] H := hP1
              obtain ⟨hP, hD⟩ := va_join (wr := [(ow 1, .inl (cI, 5, .inl gfR)), (oq 1, .inr (7, [.int (nI pz), .ref (oq 2), .ref (oq 3), .ref (oq 4)])), (oq 2, .inl (cI, 600, .inl fK)), (oq 3, .inl (cI, 600, .inl fN)), (oq 4, .inl (cI, 600, .inl fL))]) (w1 := [(ow 0, .inr (4, gMa ow (nI w49) w50 w51 w52 (nI xlo) (nI w53))), (ow 2, .inl (cI, 64, .inl gfP)), (ob 0, .inr (9, gT ob tb ts tg w55 w56 w54 w57 w58 w59)), (ob 1, .inr (0, [.long w60, .int (nI w61), .int (nI w62), .int w63])), (ob 2, .inr (2, [.int (nI w64), .ref (ob 3), .ref (ob 4)])), (ob 3, .inl (cI, 160, .inl w65)), (ob 4, .inl (cI, 160, .inl w66)), (ob 5, .inr (3, gY ob (nI w67) (nI w68) (nI w69) w70 (nI w71))), (ob 6, .inl (cI, 2048, .inl w72)), (ob 7, .inl (cI, 2048, .inl w73)), (ob 8, .inl (cI, 2048, .inl w74)), (ob 9, .inl (cI, 2048, .inl w75)), (ob 10, .inl (cI, 160, .inl w76)), (ob 11, .inl (cI, 160, .inl w77)), (ob 12, .inl (cI, 160, .inl w78)), (ob 13, .inl (cI, 2048, .inl w79))]) hP hD [0, 2, 7, 8, 9, 10, 11, 12, 13, 14, 15, 16, 17, 18, 19, 20] [1, 3, 4, 5, 6] rfl rfl (by decide) (by decide) hk1 hFc hP1 hD1
              have hP : va_P D vwCl [(ow 1, .inl (cI, 5, .inl gfR)), (oq 1, .inr (7, [.int (nI pz), .ref (oq 2), .ref (oq 3), .ref (oq 4)])), (oq 2, .inl (cI, 600, .inl fK)), (oq 3, .inl (cI, 600, .inl fN)), (oq 4, .inl (cI, 600, .inl fL)), (ow 0, .inr (4, gMa ow (nI w49) w50 w51 w52 (nI xlo) (nI w53))), (ow 2, .inl (cI, 64, .inl gfP)), (ob 0, .inr (9, gT ob tb ts tg w55 w56 w54 w57 w58 w59)), (ob 1, .inr (0, [.long w60, .int (nI w61), .int (nI w62), .int w63])), (ob 2, .inr (2, [.int (nI w64), .ref (ob 3), .ref (ob 4)])), (ob 3, .inl (cI, 160, .inl w65)), (ob 4, .inl (cI, 160, .inl w66)), (ob 5, .inr (3, gY ob (nI w67) (nI w68) (nI w69) w70 (nI w71))), (ob 6, .inl (cI, 2048, .inl w72)), (ob 7, .inl (cI, 2048, .inl w73)), (ob 8, .inl (cI, 2048, .inl w74)), (ob 9, .inl (cI, 2048, .inl w75)), (ob 10, .inl (cI, 160, .inl w76)), (ob 11, .inl (cI, 160, .inl w77)), (ob 12, .inl (cI, 160, .inl w78)), (ob 13, .inl (cI, 2048, .inl w79))] H := hP
              have hD : va_D A [(ow 1, .inl (cI, 5, .inl gfR)), (oq 1, .inr (7, [.int (nI pz), .ref (oq 2), .ref (oq 3), .ref (oq 4)])), (oq 2, .inl (cI, 600, .inl fK)), (oq 3, .inl (cI, 600, .inl fN)), (oq 4, .inl (cI, 600, .inl fL)), (ow 0, .inr (4, gMa ow (nI w49) w50 w51 w52 (nI xlo) (nI w53))), (ow 2, .inl (cI, 64, .inl gfP)), (ob 0, .inr (9, gT ob tb ts tg w55 w56 w54 w57 w58 w59)), (ob 1, .inr (0, [.long w60, .int (nI w61), .int (nI w62), .int w63])), (ob 2, .inr (2, [.int (nI w64), .ref (ob 3), .ref (ob 4)])), (ob 3, .inl (cI, 160, .inl w65)), (ob 4, .inl (cI, 160, .inl w66)), (ob 5, .inr (3, gY ob (nI w67) (nI w68) (nI w69) w70 (nI w71))), (ob 6, .inl (cI, 2048, .inl w72)), (ob 7, .inl (cI, 2048, .inl w73)), (ob 8, .inl (cI, 2048, .inl w74)), (ob 9, .inl (cI, 2048, .inl w75)), (ob 10, .inl (cI, 160, .inl w76)), (ob 11, .inl (cI, 160, .inl w77)), (ob 12, .inl (cI, 160, .inl w78)), (ob 13, .inl (cI, 2048, .inl w79))] := hD
              try dsimp only at hw
              clear hz1 hk1 hFc hPc hKc hDc
              obtain ⟨hTb80_s, hTb80_z, hTb80, hTb80_v⟩ := hw
              obtain ⟨hky80, hL80, hO80, hn180, hka80, hkb80, hda80, hdb80⟩ := id hTb80
              have hnb80 := hL80.1
              have hln80 := hL80.2.1
              have hc80 := hky80.1
              refine lv_iinc (v := nI (xa + 1)) (lv' := [(3, .int (nI (xa + 1))), (4, .int (nI n8)), (0, .ref (ow 0)), (1, .ref (oq 1)), (2, .ref (ob 0))]) hx hb dX4_work_244 hl (k := 1) rfl (nI_1 _) (by decide) rfl (fun ls hl => ?_)
              refine lv_goto (tgt := 263) hx hb dX4_work_247 (by decide) ?_
              refine lv_iinc (v := nI (n8 + 1)) (lv' := [(4, .int (nI (n8 + 1))), (3, .int (nI (xa + 1))), (0, .ref (ow 0)), (1, .ref (oq 1)), (2, .ref (ob 0))]) hx hb dX4_work_263 hl (k := 1) rfl (nI_1 _) (by decide) rfl (fun ls hl => ?_)
              refine lv_goto (tgt := 5) hx hb dX4_work_266 (by decide) ?_
              exact ih (n8 + 1) (nI (xa + 1)) w49 w50 w51 w52 xlo w53 gfR gfP w54 w55 w56 w57 w58 w59 w60 w61 w62 w63 w64 w65 w66 w67 w68 w69 w70 w71 w72 w73 w74 w75 w76 w77 w78 w79 (by omega) (hTb80_s) (hlo) (hTb80_z) (hTb80) ((fun g L hG hF hS => by
                  have hpg := hG.1
                  obtain ⟨g1, g2, g3⟩ := hG.2.2.2.2 xa (by omega)
                  have gK := hG.2.1 xa (by omega)
                  obtain ⟨T, lS, oS, s1, k1, ⟨l1, l2, l3⟩, ⟨o1, o2⟩, m1, st3⟩ := (hX g L hG hF hS).go (by omega) (by omega) hen
                  have hk : g.2.1 xa = 5 := (nI_eq (b := 5) (by omega) (by decide)).mp (gK.symm.trans ekd.symm)
                  rcases hTb80_v T oS (g.2.1 xa) gK (by omega) k1 o1 o2 with ⟨z1, rfl, rfl, x9, v9, oQ, hc9, b1, b2, b3, b4⟩ | ⟨z1, rfl, rfl, rfl, rfl, b4⟩
                  · obtain ⟨_, rfl, rfl, rfl⟩ := hc9.resolve_left (fun q => by have := q.1; omega)
                    subst b3
                    exact WkX.mk s1 m1 (sC_a (by omega) (by omega) z1) (rfl) (by omega) (by omega) (hen) (b4) (⟨l1, l2, l3⟩) (⟨b1, b2⟩) (fun _ => Or.inr rfl) (by omega)
                  · exact WkX.mk s1 m1 (sC_ac (by omega) (by omega) (by omega)) (rfl) (by omega) (by omega) (rfl) (b4) (⟨l1, l2, l3⟩) (⟨o1, o2⟩) (fun q => by contradiction) (st3))) (by omega) H locs ls (hP.sub [5, 0, 6, 1, 2, 3, 4, 7, 8, 9, 10, 11, 12, 13, 14, 15, 16, 17, 18, 19, 20] rfl) (hD.sub [5, 0, 6, 1, 2, 3, 4, 7, 8, 9, 10, 11, 12, 13, 14, 15, 16, 17, 18, 19, 20] (by decide) rfl) hS (lv_sub hl [0, 1, 2, 3, 4] rfl)
            by_cases hs81 : kd = 6
            ·
              subst hs81
              refine lv_lookup (off := 196) (tgt := 233) hx hb dX4_work_37 (by decide +kernel) (by decide +kernel) (by decide) ?_
              refine lv_aload_n hx hb dX4_work_233 rfl (lv_at hl 2 rfl) ?_
              refine lv_aload_n hx hb dX4_work_234 rfl (lv_at hl 3 rfl) ?_
              refine va_get (D := D) (ci := 7) (v := .ref (oq 2)) (C := RX7) (T := TX7) (N := 4) hx hb hts hin_X7 hown hK hP 3 rfl rfl 1 (by decide) (hts (.fieldLink RX4 44 "ClashFree$Program" "kinds" "[I") (List.mem_of_getElem? (i := 4) rfl)) (fun _ h9 => h9) rfl dX4_work_235 ?_
              refine lv_iload_n hx hb dX4_work_238 rfl (lv_at hl 1 rfl) ?_
              refine va_iald hx hb hK hP 4 0 rfl rfl (vp_in_nI (by omega) (by decide)) dX4_work_239 ?_
              refine lv_topi (fun v82 ev82 => ?_)
              obtain rfl : v82 = fK xa := ev82.trans (by rw [nI_clamp (by omega)])
              refine lv_aload_n hx hb dX4_work_240 rfl (lv_at hl 4 rfl) ?_
              have hPc := hP.sub (ws' := [(ow 0, .inr (4, gMa ow (nI xst) xrf xlt xen (nI xlo) (nI xoz))), (ow 2, .inl (cI, 64, .inl gfP)), (ob 0, .inr (9, gT ob tb ts tg xtl xtc xtr xtu xtv xtw)), (ob 1, .inr (0, [.long xsd, .int (nI xda), .int (nI xdb), .int xpr])), (ob 2, .inr (2, [.int (nI xcn), .ref (ob 3), .ref (ob 4)])), (ob 3, .inl (cI, 160, .inl gfk)), (ob 4, .inl (cI, 160, .inl gfv)), (ob 5, .inr (3, gY ob (nI xnb) (nI xka) (nI xkb) xsm (nI xln))), (ob 6, .inl (cI, 2048, .inl gfh)), (ob 7, .inl (cI, 2048, .inl gff)), (ob 8, .inl (cI, 2048, .inl gfa)), (ob 9, .inl (cI, 2048, .inl gfs)), (ob 10, .inl (cI, 160, .inl gfj)), (ob 11, .inl (cI, 160, .inl gfr)), (ob 12, .inl (cI, 160, .inl gfo)), (ob 13, .inl (cI, 2048, .inl gfx))]) [0, 2, 7, 8, 9, 10, 11, 12, 13, 14, 15, 16, 17, 18, 19, 20] rfl
              have hKc := hK.sub (tys' := [(cI, .int)]) [0] rfl
              have hDc := hD.sub (ws' := [(ow 0, .inr (4, gMa ow (nI xst) xrf xlt xen (nI xlo) (nI xoz))), (ow 2, .inl (cI, 64, .inl gfP)), (ob 0, .inr (9, gT ob tb ts tg xtl xtc xtr xtu xtv xtw)), (ob 1, .inr (0, [.long xsd, .int (nI xda), .int (nI xdb), .int xpr])), (ob 2, .inr (2, [.int (nI xcn), .ref (ob 3), .ref (ob 4)])), (ob 3, .inl (cI, 160, .inl gfk)), (ob 4, .inl (cI, 160, .inl gfv)), (ob 5, .inr (3, gY ob (nI xnb) (nI xka) (nI xkb) xsm (nI xln))), (ob 6, .inl (cI, 2048, .inl gfh)), (ob 7, .inl (cI, 2048, .inl gff)), (ob 8, .inl (cI, 2048, .inl gfa)), (ob 9, .inl (cI, 2048, .inl gfs)), (ob 10, .inl (cI, 160, .inl gfj)), (ob 11, .inl (cI, 160, .inl gfr)), (ob 12, .inl (cI, 160, .inl gfo)), (ob 13, .inl (cI, 2048, .inl gfx))]) [0, 2, 7, 8, 9, 10, 11, 12, 13, 14, 15, 16, 17, 18, 19, 20] (by decide) rfl
              have hFc := va_free (wc := [(ow 0, .inr (4, gMa ow (nI xst) xrf xlt xen (nI xlo) (nI xoz))), (ow 2, .inl (cI, 64, .inl gfP)), (ob 0, .inr (9, gT ob tb ts tg xtl xtc xtr xtu xtv xtw)), (ob 1, .inr (0, [.long xsd, .int (nI xda), .int (nI xdb), .int xpr])), (ob 2, .inr (2, [.int (nI xcn), .ref (ob 3), .ref (ob 4)])), (ob 3, .inl (cI, 160, .inl gfk)), (ob 4, .inl (cI, 160, .inl gfv)), (ob 5, .inr (3, gY ob (nI xnb) (nI xka) (nI xkb) xsm (nI xln))), (ob 6, .inl (cI, 2048, .inl gfh)), (ob 7, .inl (cI, 2048, .inl gff)), (ob 8, .inl (cI, 2048, .inl gfa)), (ob 9, .inl (cI, 2048, .inl gfs)), (ob 10, .inl (cI, 160, .inl gfj)), (ob 11, .inl (cI, 160, .inl gfr)), (ob 12, .inl (cI, 160, .inl gfo)), (ob 13, .inl (cI, 2048, .inl gfx))]) hD hS hA [0, 2, 7, 8, 9, 10, 11, 12, 13, 14, 15, 16, 17, 18, 19, 20] rfl
              refine va_callv (va_runV (As := [.int (fK xa), .ref (ob 0)]) (rest := []) ⟨hx, hb, hml, hown, hts⟩ (k_act l D _ ow ob cI xst xrf xlt xen xlo xoz gfP tb ts tg xtl xtc xtr xtu xtv xtw xsd xda xdb xpr xcn gfk gfv xnb xka xkb xsm xln gfh gff gfa gfs gfj gfr gfo gfx (fK xa) hst hoz hTb) (cwV 2 hts g_k_work_k_act_68 rfl rfl rfl (by decide +kernel) ⟨(Nat.le_of_ble_eq_true rfl), (Nat.le_of_ble_eq_true rfl)⟩) (PcWC_V (q0 := 0) hPc hKc hDc hN rfl rfl) rfl rfl hl.1 rfl (lv_room (Nat.le_of_ble_eq_true rfl)) dX4_work_241 ⟨(Nat.le_of_ble_eq_true rfl), (Nat.le_of_ble_eq_true rfl)⟩) hS (fun q _ h => hFc q h) hFc (fun uu tt H locs htt hvm hw hB hz1 hk1 hS => ?_)
              obtain ⟨w84, w85, w86, w87, w88, w89, w90, w91, w92, w93, w94, w95, w96, w97, w98, w99, w100, w101, w102, w103, w104, w105, w106, w107, w108, w109, w110, w111, w112, w113, w114⟩ := uu
              obtain ⟨hP1, hK1, hD1⟩ := hB
              rw [htt] at hP1
              have hK1 := va_K.moved hvm.symm hK1
              have hP1 : va_P D vwCl [(ow 0, .inr (4, gMa ow (nI w84) w85 w86 w87 (nI xlo) (nI w88))), (ow 2, .inl (cI, 64, .inl gfP)), (ob 0, .inr (9, gT ob tb ts tg w90 w91 w89 w92 w93 w94)), (ob 1, .inr (0, [.long w95, .int (nI w96), .int (nI w97), .int w98])), (ob 2, .inr (2, [.int (nI w99), .ref (ob 3), .ref (ob 4)])), (ob 3, .inl (cI, 160, .inl w100)), (ob 4, .inl (cI, 160, .inl w101)), (ob 5, .inr (3, gY ob (nI w102) (nI w103) (nI w104) w105 (nI w106))), (ob 6, .inl (cI, 2048, .inl w107)), (ob 7, .inl (cI, 2048, .inl w108)), (ob 8, .inl (cI, 2048, .inl w109)), (ob 9, .inl (cI, 2048, .inl w110)), (ob 10, .inl (cI, 160, .inl w111)), (ob 11, .inl (cI, 160, .inl w112)), (ob 12, .inl (cI, 160, .inl w113)), (ob 13, .inl (cI, 2048, .inl w114))] H := hP1
              obtain ⟨hP, hD⟩ := va_join (wr := [(ow 1, .inl (cI, 5, .inl gfR)), (oq 1, .inr (7, [.int (nI pz), .ref (oq 2), .ref (oq 3), .ref (oq 4)])), (oq 2, .inl (cI, 600, .inl fK)), (oq 3, .inl (cI, 600, .inl fN)), (oq 4, .inl (cI, 600, .inl fL))]) (w1 := [(ow 0, .inr (4, gMa ow (nI w84) w85 w86 w87 (nI xlo) (nI w88))), (ow 2, .inl (cI, 64, .inl gfP)), (ob 0, .inr (9, gT ob tb ts tg w90 w91 w89 w92 w93 w94)), (ob 1, .inr (0, [.long w95, .int (nI w96), .int (nI w97), .int w98])), (ob 2, .inr (2, [.int (nI w99), .ref (ob 3), .ref (ob 4)])), (ob 3, .inl (cI, 160, .inl w100)), (ob 4, .inl (cI, 160, .inl w101)), (ob 5, .inr (3, gY ob (nI w102) (nI w103) (nI w104) w105 (nI w106))), (ob 6, .inl (cI, 2048, .inl w107)), (ob 7, .inl (cI, 2048, .inl w108)), (ob 8, .inl (cI, 2048, .inl w109)), (ob 9, .inl (cI, 2048, .inl w110)), (ob 10, .inl (cI, 160, .inl w111)), (ob 11, .inl (cI, 160, .inl w112)), (ob 12, .inl (cI, 160, .inl w113)), (ob 13, .inl (cI, 2048, .inl w114))]) hP hD [0, 2, 7, 8, 9, 10, 11, 12, 13, 14, 15, 16, 17, 18, 19, 20] [1, 3, 4, 5, 6] rfl rfl (by decide) (by decide) hk1 hFc hP1 hD1
              have hP : va_P D vwCl [(ow 1, .inl (cI, 5, .inl gfR)), (oq 1, .inr (7, [.int (nI pz), .ref (oq 2), .ref (oq 3), .ref (oq 4)])), (oq 2, .inl (cI, 600, .inl fK)), (oq 3, .inl (cI, 600, .inl fN)), (oq 4, .inl (cI, 600, .inl fL)), (ow 0, .inr (4, gMa ow (nI w84) w85 w86 w87 (nI xlo) (nI w88))), (ow 2, .inl (cI, 64, .inl gfP)), (ob 0, .inr (9, gT ob tb ts tg w90 w91 w89 w92 w93 w94)), (ob 1, .inr (0, [.long w95, .int (nI w96), .int (nI w97), .int w98])), (ob 2, .inr (2, [.int (nI w99), .ref (ob 3), .ref (ob 4)])), (ob 3, .inl (cI, 160, .inl w100)), (ob 4, .inl (cI, 160, .inl w101)), (ob 5, .inr (3, gY ob (nI w102) (nI w103) (nI w104) w105 (nI w106))), (ob 6, .inl (cI, 2048, .inl w107)), (ob 7, .inl (cI, 2048, .inl w108)), (ob 8, .inl (cI, 2048, .inl w109)), (ob 9, .inl (cI, 2048, .inl w110)), (ob 10, .inl (cI, 160, .inl w111)), (ob 11, .inl (cI, 160, .inl w112)), (ob 12, .inl (cI, 160, .inl w113)), (ob 13, .inl (cI, 2048, .inl w114))] H := hP
              have hD : va_D A [(ow 1, .inl (cI, 5, .inl gfR)), (oq 1, .inr (7, [.int (nI pz), .ref (oq 2), .ref (oq 3), .ref (oq 4)])), (oq 2, .inl (cI, 600, .inl fK)), (oq 3, .inl (cI, 600, .inl fN)), (oq 4, .inl (cI, 600, .inl fL)), (ow 0, .inr (4, gMa ow (nI w84) w85 w86 w87 (nI xlo) (nI w88))), (ow 2, .inl (cI, 64, .inl gfP)), (ob 0, .inr (9, gT ob tb ts tg w90 w91 w89 w92 w93 w94)), (ob 1, .inr (0, [.long w95, .int (nI w96), .int (nI w97), .int w98])), (ob 2, .inr (2, [.int (nI w99), .ref (ob 3), .ref (ob 4)])), (ob 3, .inl (cI, 160, .inl w100)), (ob 4, .inl (cI, 160, .inl w101)), (ob 5, .inr (3, gY ob (nI w102) (nI w103) (nI w104) w105 (nI w106))), (ob 6, .inl (cI, 2048, .inl w107)), (ob 7, .inl (cI, 2048, .inl w108)), (ob 8, .inl (cI, 2048, .inl w109)), (ob 9, .inl (cI, 2048, .inl w110)), (ob 10, .inl (cI, 160, .inl w111)), (ob 11, .inl (cI, 160, .inl w112)), (ob 12, .inl (cI, 160, .inl w113)), (ob 13, .inl (cI, 2048, .inl w114))] := hD
              try dsimp only at hw
              clear hz1 hk1 hFc hPc hKc hDc
              obtain ⟨hTb115_s, hTb115_z, hTb115, hTb115_v⟩ := hw
              obtain ⟨hky115, hL115, hO115, hn1115, hka115, hkb115, hda115, hdb115⟩ := id hTb115
              have hnb115 := hL115.1
              have hln115 := hL115.2.1
              have hc115 := hky115.1
              refine lv_iinc (v := nI (xa + 1)) (lv' := [(3, .int (nI (xa + 1))), (4, .int (nI n8)), (0, .ref (ow 0)), (1, .ref (oq 1)), (2, .ref (ob 0))]) hx hb dX4_work_244 hl (k := 1) rfl (nI_1 _) (by decide) rfl (fun ls hl => ?_)
              refine lv_goto (tgt := 263) hx hb dX4_work_247 (by decide) ?_
              refine lv_iinc (v := nI (n8 + 1)) (lv' := [(4, .int (nI (n8 + 1))), (3, .int (nI (xa + 1))), (0, .ref (ow 0)), (1, .ref (oq 1)), (2, .ref (ob 0))]) hx hb dX4_work_263 hl (k := 1) rfl (nI_1 _) (by decide) rfl (fun ls hl => ?_)
              refine lv_goto (tgt := 5) hx hb dX4_work_266 (by decide) ?_
              exact ih (n8 + 1) (nI (xa + 1)) w84 w85 w86 w87 xlo w88 gfR gfP w89 w90 w91 w92 w93 w94 w95 w96 w97 w98 w99 w100 w101 w102 w103 w104 w105 w106 w107 w108 w109 w110 w111 w112 w113 w114 (by omega) (hTb115_s) (hlo) (hTb115_z) (hTb115) ((fun g L hG hF hS => by
                  have hpg := hG.1
                  obtain ⟨g1, g2, g3⟩ := hG.2.2.2.2 xa (by omega)
                  have gK := hG.2.1 xa (by omega)
                  obtain ⟨T, lS, oS, s1, k1, ⟨l1, l2, l3⟩, ⟨o1, o2⟩, m1, st3⟩ := (hX g L hG hF hS).go (by omega) (by omega) hen
                  have hk : g.2.1 xa = 6 := (nI_eq (b := 6) (by omega) (by decide)).mp (gK.symm.trans ekd.symm)
                  rcases hTb115_v T oS (g.2.1 xa) gK (by omega) k1 o1 o2 with ⟨z1, rfl, rfl, x9, v9, oQ, hc9, b1, b2, b3, b4⟩ | ⟨z1, rfl, rfl, rfl, rfl, b4⟩
                  · obtain ⟨_, rfl, rfl, rfl⟩ := hc9.resolve_left (fun q => by have := q.1; omega)
                    subst b3
                    exact WkX.mk s1 m1 (sC_a (by omega) (by omega) z1) (rfl) (by omega) (by omega) (hen) (b4) (⟨l1, l2, l3⟩) (⟨b1, b2⟩) (fun _ => Or.inr rfl) (by omega)
                  · exact WkX.mk s1 m1 (sC_ac (by omega) (by omega) (by omega)) (rfl) (by omega) (by omega) (rfl) (b4) (⟨l1, l2, l3⟩) (⟨o1, o2⟩) (fun q => by contradiction) (st3))) (by omega) H locs ls (hP.sub [5, 0, 6, 1, 2, 3, 4, 7, 8, 9, 10, 11, 12, 13, 14, 15, 16, 17, 18, 19, 20] rfl) (hD.sub [5, 0, 6, 1, 2, 3, 4, 7, 8, 9, 10, 11, 12, 13, 14, 15, 16, 17, 18, 19, 20] (by decide) rfl) hS (lv_sub hl [0, 1, 2, 3, 4] rfl)
            by_cases hs116 : kd = 7
            ·
              subst hs116
              refine lv_lookup (off := 196) (tgt := 233) hx hb dX4_work_37 (by decide +kernel) (by decide +kernel) (by decide) ?_
              refine lv_aload_n hx hb dX4_work_233 rfl (lv_at hl 2 rfl) ?_
              refine lv_aload_n hx hb dX4_work_234 rfl (lv_at hl 3 rfl) ?_
              refine va_get (D := D) (ci := 7) (v := .ref (oq 2)) (C := RX7) (T := TX7) (N := 4) hx hb hts hin_X7 hown hK hP 3 rfl rfl 1 (by decide) (hts (.fieldLink RX4 44 "ClashFree$Program" "kinds" "[I") (List.mem_of_getElem? (i := 4) rfl)) (fun _ h9 => h9) rfl dX4_work_235 ?_
              refine lv_iload_n hx hb dX4_work_238 rfl (lv_at hl 1 rfl) ?_
              refine va_iald hx hb hK hP 4 0 rfl rfl (vp_in_nI (by omega) (by decide)) dX4_work_239 ?_
              refine lv_topi (fun v117 ev117 => ?_)
              obtain rfl : v117 = fK xa := ev117.trans (by rw [nI_clamp (by omega)])
              refine lv_aload_n hx hb dX4_work_240 rfl (lv_at hl 4 rfl) ?_
              have hPc := hP.sub (ws' := [(ow 0, .inr (4, gMa ow (nI xst) xrf xlt xen (nI xlo) (nI xoz))), (ow 2, .inl (cI, 64, .inl gfP)), (ob 0, .inr (9, gT ob tb ts tg xtl xtc xtr xtu xtv xtw)), (ob 1, .inr (0, [.long xsd, .int (nI xda), .int (nI xdb), .int xpr])), (ob 2, .inr (2, [.int (nI xcn), .ref (ob 3), .ref (ob 4)])), (ob 3, .inl (cI, 160, .inl gfk)), (ob 4, .inl (cI, 160, .inl gfv)), (ob 5, .inr (3, gY ob (nI xnb) (nI xka) (nI xkb) xsm (nI xln))), (ob 6, .inl (cI, 2048, .inl gfh)), (ob 7, .inl (cI, 2048, .inl gff)), (ob 8, .inl (cI, 2048, .inl gfa)), (ob 9, .inl (cI, 2048, .inl gfs)), (ob 10, .inl (cI, 160, .inl gfj)), (ob 11, .inl (cI, 160, .inl gfr)), (ob 12, .inl (cI, 160, .inl gfo)), (ob 13, .inl (cI, 2048, .inl gfx))]) [0, 2, 7, 8, 9, 10, 11, 12, 13, 14, 15, 16, 17, 18, 19, 20] rfl
              have hKc := hK.sub (tys' := [(cI, .int)]) [0] rfl
              have hDc := hD.sub (ws' := [(ow 0, .inr (4, gMa ow (nI xst) xrf xlt xen (nI xlo) (nI xoz))), (ow 2, .inl (cI, 64, .inl gfP)), (ob 0, .inr (9, gT ob tb ts tg xtl xtc xtr xtu xtv xtw)), (ob 1, .inr (0, [.long xsd, .int (nI xda), .int (nI xdb), .int xpr])), (ob 2, .inr (2, [.int (nI xcn), .ref (ob 3), .ref (ob 4)])), (ob 3, .inl (cI, 160, .inl gfk)), (ob 4, .inl (cI, 160, .inl gfv)), (ob 5, .inr (3, gY ob (nI xnb) (nI xka) (nI xkb) xsm (nI xln))), (ob 6, .inl (cI, 2048, .inl gfh)), (ob 7, .inl (cI, 2048, .inl gff)), (ob 8, .inl (cI, 2048, .inl gfa)), (ob 9, .inl (cI, 2048, .inl gfs)), (ob 10, .inl (cI, 160, .inl gfj)), (ob 11, .inl (cI, 160, .inl gfr)), (ob 12, .inl (cI, 160, .inl gfo)), (ob 13, .inl (cI, 2048, .inl gfx))]) [0, 2, 7, 8, 9, 10, 11, 12, 13, 14, 15, 16, 17, 18, 19, 20] (by decide) rfl
              have hFc := va_free (wc := [(ow 0, .inr (4, gMa ow (nI xst) xrf xlt xen (nI xlo) (nI xoz))), (ow 2, .inl (cI, 64, .inl gfP)), (ob 0, .inr (9, gT ob tb ts tg xtl xtc xtr xtu xtv xtw)), (ob 1, .inr (0, [.long xsd, .int (nI xda), .int (nI xdb), .int xpr])), (ob 2, .inr (2, [.int (nI xcn), .ref (ob 3), .ref (ob 4)])), (ob 3, .inl (cI, 160, .inl gfk)), (ob 4, .inl (cI, 160, .inl gfv)), (ob 5, .inr (3, gY ob (nI xnb) (nI xka) (nI xkb) xsm (nI xln))), (ob 6, .inl (cI, 2048, .inl gfh)), (ob 7, .inl (cI, 2048, .inl gff)), (ob 8, .inl (cI, 2048, .inl gfa)), (ob 9, .inl (cI, 2048, .inl gfs)), (ob 10, .inl (cI, 160, .inl gfj)), (ob 11, .inl (cI, 160, .inl gfr)), (ob 12, .inl (cI, 160, .inl gfo)), (ob 13, .inl (cI, 2048, .inl gfx))]) hD hS hA [0, 2, 7, 8, 9, 10, 11, 12, 13, 14, 15, 16, 17, 18, 19, 20] rfl
              refine va_callv (va_runV (As := [.int (fK xa), .ref (ob 0)]) (rest := []) ⟨hx, hb, hml, hown, hts⟩ (k_act l D _ ow ob cI xst xrf xlt xen xlo xoz gfP tb ts tg xtl xtc xtr xtu xtv xtw xsd xda xdb xpr xcn gfk gfv xnb xka xkb xsm xln gfh gff gfa gfs gfj gfr gfo gfx (fK xa) hst hoz hTb) (cwV 2 hts g_k_work_k_act_68 rfl rfl rfl (by decide +kernel) ⟨(Nat.le_of_ble_eq_true rfl), (Nat.le_of_ble_eq_true rfl)⟩) (PcWC_V (q0 := 0) hPc hKc hDc hN rfl rfl) rfl rfl hl.1 rfl (lv_room (Nat.le_of_ble_eq_true rfl)) dX4_work_241 ⟨(Nat.le_of_ble_eq_true rfl), (Nat.le_of_ble_eq_true rfl)⟩) hS (fun q _ h => hFc q h) hFc (fun uu tt H locs htt hvm hw hB hz1 hk1 hS => ?_)
              obtain ⟨w119, w120, w121, w122, w123, w124, w125, w126, w127, w128, w129, w130, w131, w132, w133, w134, w135, w136, w137, w138, w139, w140, w141, w142, w143, w144, w145, w146, w147, w148, w149⟩ := uu
              obtain ⟨hP1, hK1, hD1⟩ := hB
              rw [htt] at hP1
              have hK1 := va_K.moved hvm.symm hK1
              have hP1 : va_P D vwCl [(ow 0, .inr (4, gMa ow (nI w119) w120 w121 w122 (nI xlo) (nI w123))), (ow 2, .inl (cI, 64, .inl gfP)), (ob 0, .inr (9, gT ob tb ts tg w125 w126 w124 w127 w128 w129)), (ob 1, .inr (0, [.long w130, .int (nI w131), .int (nI w132), .int w133])), (ob 2, .inr (2, [.int (nI w134), .ref (ob 3), .ref (ob 4)])), (ob 3, .inl (cI, 160, .inl w135)), (ob 4, .inl (cI, 160, .inl w136)), (ob 5, .inr (3, gY ob (nI w137) (nI w138) (nI w139) w140 (nI w141))), (ob 6, .inl (cI, 2048, .inl w142)), (ob 7, .inl (cI, 2048, .inl w143)), (ob 8, .inl (cI, 2048, .inl w144)), (ob 9, .inl (cI, 2048, .inl w145)), (ob 10, .inl (cI, 160, .inl w146)), (ob 11, .inl (cI, 160, .inl w147)), (ob 12, .inl (cI, 160, .inl w148)), (ob 13, .inl (cI, 2048, .inl w149))] H := hP1
              obtain ⟨hP, hD⟩ := va_join (wr := [(ow 1, .inl (cI, 5, .inl gfR)), (oq 1, .inr (7, [.int (nI pz), .ref (oq 2), .ref (oq 3), .ref (oq 4)])), (oq 2, .inl (cI, 600, .inl fK)), (oq 3, .inl (cI, 600, .inl fN)), (oq 4, .inl (cI, 600, .inl fL))]) (w1 := [(ow 0, .inr (4, gMa ow (nI w119) w120 w121 w122 (nI xlo) (nI w123))), (ow 2, .inl (cI, 64, .inl gfP)), (ob 0, .inr (9, gT ob tb ts tg w125 w126 w124 w127 w128 w129)), (ob 1, .inr (0, [.long w130, .int (nI w131), .int (nI w132), .int w133])), (ob 2, .inr (2, [.int (nI w134), .ref (ob 3), .ref (ob 4)])), (ob 3, .inl (cI, 160, .inl w135)), (ob 4, .inl (cI, 160, .inl w136)), (ob 5, .inr (3, gY ob (nI w137) (nI w138) (nI w139) w140 (nI w141))), (ob 6, .inl (cI, 2048, .inl w142)), (ob 7, .inl (cI, 2048, .inl w143)), (ob 8, .inl (cI, 2048, .inl w144)), (ob 9, .inl (cI, 2048, .inl w145)), (ob 10, .inl (cI, 160, .inl w146)), (ob 11, .inl (cI, 160, .inl w147)), (ob 12, .inl (cI, 160, .inl w148)), (ob 13, .inl (cI, 2048, .inl w149))]) hP hD [0, 2, 7, 8, 9, 10, 11, 12, 13, 14, 15, 16, 17, 18, 19, 20] [1, 3, 4, 5, 6] rfl rfl (by decide) (by decide) hk1 hFc hP1 hD1
              have hP : va_P D vwCl [(ow 1, .inl (cI, 5, .inl gfR)), (oq 1, .inr (7, [.int (nI pz), .ref (oq 2), .ref (oq 3), .ref (oq 4)])), (oq 2, .inl (cI, 600, .inl fK)), (oq 3, .inl (cI, 600, .inl fN)), (oq 4, .inl (cI, 600, .inl fL)), (ow 0, .inr (4, gMa ow (nI w119) w120 w121 w122 (nI xlo) (nI w123))), (ow 2, .inl (cI, 64, .inl gfP)), (ob 0, .inr (9, gT ob tb ts tg w125 w126 w124 w127 w128 w129)), (ob 1, .inr (0, [.long w130, .int (nI w131), .int (nI w132), .int w133])), (ob 2, .inr (2, [.int (nI w134), .ref (ob 3), .ref (ob 4)])), (ob 3, .inl (cI, 160, .inl w135)), (ob 4, .inl (cI, 160, .inl w136)), (ob 5, .inr (3, gY ob (nI w137) (nI w138) (nI w139) w140 (nI w141))), (ob 6, .inl (cI, 2048, .inl w142)), (ob 7, .inl (cI, 2048, .inl w143)), (ob 8, .inl (cI, 2048, .inl w144)), (ob 9, .inl (cI, 2048, .inl w145)), (ob 10, .inl (cI, 160, .inl w146)), (ob 11, .inl (cI, 160, .inl w147)), (ob 12, .inl (cI, 160, .inl w148)), (ob 13, .inl (cI, 2048, .inl w149))] H := hP
              have hD : va_D A [(ow 1, .inl (cI, 5, .inl gfR)), (oq 1, .inr (7, [.int (nI pz), .ref (oq 2), .ref (oq 3), .ref (oq 4)])), (oq 2, .inl (cI, 600, .inl fK)), (oq 3, .inl (cI, 600, .inl fN)), (oq 4, .inl (cI, 600, .inl fL)), (ow 0, .inr (4, gMa ow (nI w119) w120 w121 w122 (nI xlo) (nI w123))), (ow 2, .inl (cI, 64, .inl gfP)), (ob 0, .inr (9, gT ob tb ts tg w125 w126 w124 w127 w128 w129)), (ob 1, .inr (0, [.long w130, .int (nI w131), .int (nI w132), .int w133])), (ob 2, .inr (2, [.int (nI w134), .ref (ob 3), .ref (ob 4)])), (ob 3, .inl (cI, 160, .inl w135)), (ob 4, .inl (cI, 160, .inl w136)), (ob 5, .inr (3, gY ob (nI w137) (nI w138) (nI w139) w140 (nI w141))), (ob 6, .inl (cI, 2048, .inl w142)), (ob 7, .inl (cI, 2048, .inl w143)), (ob 8, .inl (cI, 2048, .inl w144)), (ob 9, .inl (cI, 2048, .inl w145)), (ob 10, .inl (cI, 160, .inl w146)), (ob 11, .inl (cI, 160, .inl w147)), (ob 12, .inl (cI, 160, .inl w148)), (ob 13, .inl (cI, 2048, .inl w149))] := hD
              try dsimp only at hw
              clear hz1 hk1 hFc hPc hKc hDc
              obtain ⟨hTb150_s, hTb150_z, hTb150, hTb150_v⟩ := hw
              obtain ⟨hky150, hL150, hO150, hn1150, hka150, hkb150, hda150, hdb150⟩ := id hTb150
              have hnb150 := hL150.1
              have hln150 := hL150.2.1
              have hc150 := hky150.1
              refine lv_iinc (v := nI (xa + 1)) (lv' := [(3, .int (nI (xa + 1))), (4, .int (nI n8)), (0, .ref (ow 0)), (1, .ref (oq 1)), (2, .ref (ob 0))]) hx hb dX4_work_244 hl (k := 1) rfl (nI_1 _) (by decide) rfl (fun ls hl => ?_)
              refine lv_goto (tgt := 263) hx hb dX4_work_247 (by decide) ?_
              refine lv_iinc (v := nI (n8 + 1)) (lv' := [(4, .int (nI (n8 + 1))), (3, .int (nI (xa + 1))), (0, .ref (ow 0)), (1, .ref (oq 1)), (2, .ref (ob 0))]) hx hb dX4_work_263 hl (k := 1) rfl (nI_1 _) (by decide) rfl (fun ls hl => ?_)
              refine lv_goto (tgt := 5) hx hb dX4_work_266 (by decide) ?_
              exact ih (n8 + 1) (nI (xa + 1)) w119 w120 w121 w122 xlo w123 gfR gfP w124 w125 w126 w127 w128 w129 w130 w131 w132 w133 w134 w135 w136 w137 w138 w139 w140 w141 w142 w143 w144 w145 w146 w147 w148 w149 (by omega) (hTb150_s) (hlo) (hTb150_z) (hTb150) ((fun g L hG hF hS => by
                  have hpg := hG.1
                  obtain ⟨g1, g2, g3⟩ := hG.2.2.2.2 xa (by omega)
                  have gK := hG.2.1 xa (by omega)
                  obtain ⟨T, lS, oS, s1, k1, ⟨l1, l2, l3⟩, ⟨o1, o2⟩, m1, st3⟩ := (hX g L hG hF hS).go (by omega) (by omega) hen
                  have hk : g.2.1 xa = 7 := (nI_eq (b := 7) (by omega) (by decide)).mp (gK.symm.trans ekd.symm)
                  rcases hTb150_v T oS (g.2.1 xa) gK (by omega) k1 o1 o2 with ⟨z1, rfl, rfl, x9, v9, oQ, hc9, b1, b2, b3, b4⟩ | ⟨z1, rfl, rfl, rfl, rfl, b4⟩
                  · obtain ⟨_, rfl, rfl, rfl⟩ := hc9.resolve_left (fun q => by have := q.1; omega)
                    subst b3
                    exact WkX.mk s1 m1 (sC_a (by omega) (by omega) z1) (rfl) (by omega) (by omega) (hen) (b4) (⟨l1, l2, l3⟩) (⟨b1, b2⟩) (fun _ => Or.inr rfl) (by omega)
                  · exact WkX.mk s1 m1 (sC_ac (by omega) (by omega) (by omega)) (rfl) (by omega) (by omega) (rfl) (b4) (⟨l1, l2, l3⟩) (⟨o1, o2⟩) (fun q => by contradiction) (st3))) (by omega) H locs ls (hP.sub [5, 0, 6, 1, 2, 3, 4, 7, 8, 9, 10, 11, 12, 13, 14, 15, 16, 17, 18, 19, 20] rfl) (hD.sub [5, 0, 6, 1, 2, 3, 4, 7, 8, 9, 10, 11, 12, 13, 14, 15, 16, 17, 18, 19, 20] (by decide) rfl) hS (lv_sub hl [0, 1, 2, 3, 4] rfl)
            by_cases hs151 : kd = 8
            ·
              subst hs151
              refine lv_lookup (off := 176) (tgt := 213) hx hb dX4_work_37 (by decide +kernel) (by decide +kernel) (by decide) ?_
              refine lv_aload_n hx hb dX4_work_213 rfl (lv_at hl 2 rfl) ?_
              refine lv_aload_n hx hb dX4_work_214 rfl (lv_at hl 3 rfl) ?_
              refine lv_iload_n hx hb dX4_work_215 rfl (lv_at hl 1 rfl) ?_
              have hPc := hP.sub (ws' := [(ow 0, .inr (4, gMa ow (nI xst) xrf xlt xen (nI xlo) (nI xoz))), (ow 1, .inl (cI, 5, .inl gfR)), (oq 1, .inr (7, [.int (nI pz), .ref (oq 2), .ref (oq 3), .ref (oq 4)])), (oq 3, .inl (cI, 600, .inl fN)), (oq 4, .inl (cI, 600, .inl fL))]) [0, 1, 3, 5, 6] rfl
              have hKc := hK.sub (tys' := [(cI, .int)]) [0] rfl
              have hDc := hD.sub (ws' := [(ow 0, .inr (4, gMa ow (nI xst) xrf xlt xen (nI xlo) (nI xoz))), (ow 1, .inl (cI, 5, .inl gfR)), (oq 1, .inr (7, [.int (nI pz), .ref (oq 2), .ref (oq 3), .ref (oq 4)])), (oq 3, .inl (cI, 600, .inl fN)), (oq 4, .inl (cI, 600, .inl fL))]) [0, 1, 3, 5, 6] (by decide) rfl
              have hFc := va_free (wc := [(ow 0, .inr (4, gMa ow (nI xst) xrf xlt xen (nI xlo) (nI xoz))), (ow 1, .inl (cI, 5, .inl gfR)), (oq 1, .inr (7, [.int (nI pz), .ref (oq 2), .ref (oq 3), .ref (oq 4)])), (oq 3, .inl (cI, 600, .inl fN)), (oq 4, .inl (cI, 600, .inl fL))]) hD hS hA [0, 1, 3, 5, 6] rfl
              refine va_calli (va_runV (As := [.ref (oq 1), .int (nI xa)]) (rest := []) ⟨hx, hb, hml, hown, hts⟩ (k_beginRounds l D _ ow oq cI xst xrf xlt xen xlo xoz gfR pz fN fL xa hst hlo hxa6) (cwV 2 hts g_k_work_k_beginRounds_61 rfl rfl rfl (by decide +kernel) ⟨(Nat.le_of_ble_eq_true rfl), (Nat.le_of_ble_eq_true rfl)⟩) (PcWC_V (q0 := 0) hPc hKc hDc hN rfl rfl) rfl rfl hl.1 rfl (lv_room (Nat.le_of_ble_eq_true rfl)) dX4_work_216 ⟨(Nat.le_of_ble_eq_true rfl), (Nat.le_of_ble_eq_true rfl)⟩) hS (fun q _ h => hFc q h) hFc (fun r152 uu tt H locs htt hvm hw hB hz1 hk1 hS => ?_)
              obtain ⟨w153, w154, w155, w156⟩ := uu
              obtain ⟨hP1, hK1, hD1⟩ := hB
              rw [htt] at hP1
              have hK1 := va_K.moved hvm.symm hK1
              have hP1 : va_P D vwCl [(ow 0, .inr (4, gMa ow (nI w153) xrf xlt w154 (nI w155) (nI xoz))), (ow 1, .inl (cI, 5, .inl w156)), (oq 1, .inr (7, [.int (nI pz), .ref (oq 2), .ref (oq 3), .ref (oq 4)])), (oq 3, .inl (cI, 600, .inl fN)), (oq 4, .inl (cI, 600, .inl fL))] H := hP1
              obtain ⟨hP, hD⟩ := va_join (wr := [(ow 2, .inl (cI, 64, .inl gfP)), (oq 2, .inl (cI, 600, .inl fK)), (ob 0, .inr (9, gT ob tb ts tg xtl xtc xtr xtu xtv xtw)), (ob 1, .inr (0, [.long xsd, .int (nI xda), .int (nI xdb), .int xpr])), (ob 2, .inr (2, [.int (nI xcn), .ref (ob 3), .ref (ob 4)])), (ob 3, .inl (cI, 160, .inl gfk)), (ob 4, .inl (cI, 160, .inl gfv)), (ob 5, .inr (3, gY ob (nI xnb) (nI xka) (nI xkb) xsm (nI xln))), (ob 6, .inl (cI, 2048, .inl gfh)), (ob 7, .inl (cI, 2048, .inl gff)), (ob 8, .inl (cI, 2048, .inl gfa)), (ob 9, .inl (cI, 2048, .inl gfs)), (ob 10, .inl (cI, 160, .inl gfj)), (ob 11, .inl (cI, 160, .inl gfr)), (ob 12, .inl (cI, 160, .inl gfo)), (ob 13, .inl (cI, 2048, .inl gfx))]) (w1 := [(ow 0, .inr (4, gMa ow (nI w153) xrf xlt w154 (nI w155) (nI xoz))), (ow 1, .inl (cI, 5, .inl w156)), (oq 1, .inr (7, [.int (nI pz), .ref (oq 2), .ref (oq 3), .ref (oq 4)])), (oq 3, .inl (cI, 600, .inl fN)), (oq 4, .inl (cI, 600, .inl fL))]) hP hD [0, 1, 3, 5, 6] [2, 4, 7, 8, 9, 10, 11, 12, 13, 14, 15, 16, 17, 18, 19, 20] rfl rfl (by decide) (by decide) hk1 hFc hP1 hD1
              have hP : va_P D vwCl [(ow 2, .inl (cI, 64, .inl gfP)), (oq 2, .inl (cI, 600, .inl fK)), (ob 0, .inr (9, gT ob tb ts tg xtl xtc xtr xtu xtv xtw)), (ob 1, .inr (0, [.long xsd, .int (nI xda), .int (nI xdb), .int xpr])), (ob 2, .inr (2, [.int (nI xcn), .ref (ob 3), .ref (ob 4)])), (ob 3, .inl (cI, 160, .inl gfk)), (ob 4, .inl (cI, 160, .inl gfv)), (ob 5, .inr (3, gY ob (nI xnb) (nI xka) (nI xkb) xsm (nI xln))), (ob 6, .inl (cI, 2048, .inl gfh)), (ob 7, .inl (cI, 2048, .inl gff)), (ob 8, .inl (cI, 2048, .inl gfa)), (ob 9, .inl (cI, 2048, .inl gfs)), (ob 10, .inl (cI, 160, .inl gfj)), (ob 11, .inl (cI, 160, .inl gfr)), (ob 12, .inl (cI, 160, .inl gfo)), (ob 13, .inl (cI, 2048, .inl gfx)), (ow 0, .inr (4, gMa ow (nI w153) xrf xlt w154 (nI w155) (nI xoz))), (ow 1, .inl (cI, 5, .inl w156)), (oq 1, .inr (7, [.int (nI pz), .ref (oq 2), .ref (oq 3), .ref (oq 4)])), (oq 3, .inl (cI, 600, .inl fN)), (oq 4, .inl (cI, 600, .inl fL))] H := hP
              have hD : va_D A [(ow 2, .inl (cI, 64, .inl gfP)), (oq 2, .inl (cI, 600, .inl fK)), (ob 0, .inr (9, gT ob tb ts tg xtl xtc xtr xtu xtv xtw)), (ob 1, .inr (0, [.long xsd, .int (nI xda), .int (nI xdb), .int xpr])), (ob 2, .inr (2, [.int (nI xcn), .ref (ob 3), .ref (ob 4)])), (ob 3, .inl (cI, 160, .inl gfk)), (ob 4, .inl (cI, 160, .inl gfv)), (ob 5, .inr (3, gY ob (nI xnb) (nI xka) (nI xkb) xsm (nI xln))), (ob 6, .inl (cI, 2048, .inl gfh)), (ob 7, .inl (cI, 2048, .inl gff)), (ob 8, .inl (cI, 2048, .inl gfa)), (ob 9, .inl (cI, 2048, .inl gfs)), (ob 10, .inl (cI, 160, .inl gfj)), (ob 11, .inl (cI, 160, .inl gfr)), (ob 12, .inl (cI, 160, .inl gfo)), (ob 13, .inl (cI, 2048, .inl gfx)), (ow 0, .inr (4, gMa ow (nI w153) xrf xlt w154 (nI w155) (nI xoz))), (ow 1, .inl (cI, 5, .inl w156)), (oq 1, .inr (7, [.int (nI pz), .ref (oq 2), .ref (oq 3), .ref (oq 4)])), (oq 3, .inl (cI, 600, .inl fN)), (oq 4, .inl (cI, 600, .inl fL))] := hD
              try dsimp only at hw
              clear hz1 hk1 hFc hPc hKc hDc
              obtain ⟨⟨hm157_hst, hm157_hlo⟩, hm157_r⟩ := hw
              refine lv_istore_n (lv' := [(3, .int r152), (4, .int (nI n8)), (0, .ref (ow 0)), (1, .ref (oq 1)), (2, .ref (ob 0))]) hx hb dX4_work_219 rfl hl (by decide) rfl (fun ls hl => ?_)
              refine lv_goto (tgt := 263) hx hb dX4_work_220 (by decide) ?_
              refine lv_iinc (v := nI (n8 + 1)) (lv' := [(4, .int (nI (n8 + 1))), (3, .int r152), (0, .ref (ow 0)), (1, .ref (oq 1)), (2, .ref (ob 0))]) hx hb dX4_work_263 hl (k := 1) rfl (nI_1 _) (by decide) rfl (fun ls hl => ?_)
              refine lv_goto (tgt := 5) hx hb dX4_work_266 (by decide) ?_
              exact ih (n8 + 1) r152 w153 xrf xlt w154 w155 xoz w156 gfP xtr xtl xtc xtu xtv xtw xsd xda xdb xpr xcn gfk gfv xnb xka xkb xsm xln gfh gff gfa gfs gfj gfr gfo gfx (by omega) (hm157_hst) (hm157_hlo) (hoz) (hTb) ((fun g L hG hF hS => by
                  have hpg := hG.1
                  obtain ⟨g1, g2, g3⟩ := hG.2.2.2.2 xa (by omega)
                  have gK := hG.2.1 xa (by omega)
                  obtain ⟨T, lS, oS, s1, k1, ⟨l1, l2, l3⟩, ⟨o1, o2⟩, m1, st3⟩ := (hX g L hG hF hS).go (by omega) (by omega) hen
                  have hk : g.2.1 xa = 8 := (nI_eq (b := 8) (by omega) (by decide)).mp (gK.symm.trans ekd.symm)
                  have hfw := hF xa (by omega) (Or.inl hk)
                  have hn := hG.2.2.2.1 xa (by omega) (Or.inr hk)
                  have gL := hG.2.2.1 xa (by omega)
                  have g4 := g3 (Or.inr hk)
                  rcases hm157_r with ⟨z0, rfl, rfl, rfl, rfl, rfl⟩ | ⟨z0, rfl, ⟨z1, z2, rfl, rfl, rfl, rfl⟩ | ⟨z1, z2, rfl, rfl, rfl, rfl⟩ | ⟨z1, rfl, rfl, rfl, rfl⟩⟩
                  · exact WkX.mk s1 m1 (sC_8z (by omega) hk ((nI_eq (b := 0) (by omega) (by decide)).mp (hn.symm.trans z0))) (by rw [gL]; exact nI_1 _) (by omega) (by omega) (hen) (k1) (⟨l1, l2, l3⟩) (⟨o1, o2⟩) (fun _ => Or.inl ⟨rfl, by omega⟩) (st3)
                  · exact WkX.mk s1 m1 (sC_8 (by omega) hk (fun q => z0 (hn.trans (congrArg nI q))) (by omega) z2) (rfl) (by omega) (by omega) (hen) (k1) (⟨by rw [List.length_cons]; omega, LoM_psh (q := 0) l1 l2, fun q hq => by
                    rcases List.mem_cons.mp hq with y | y
                    · omega
                    · exact l3 q y⟩) (⟨o1, o2⟩) (fun _ => Or.inr rfl) (by omega)
                  · exact WkX.mk s1 m1 (sC_8c (by omega) hk (fun q => z0 (hn.trans (congrArg nI q))) (by omega) (by omega)) (rfl) (by omega) (by omega) (rfl) (k1) (⟨l1, l2, l3⟩) (⟨o1, o2⟩) (fun q => by contradiction) (st3)
                  · exact WkX.mk s1 m1 (sC_8d (by omega) hk (fun q => z0 (hn.trans (congrArg nI q))) (by omega)) (rfl) (by omega) (by omega) (hen) (k1) (⟨l1, l2, l3⟩) (⟨o1, o2⟩) (fun _ => Or.inl ⟨rfl, by omega⟩) (st3))) (by omega) H locs ls (hP.sub [16, 17, 0, 18, 1, 19, 20, 2, 3, 4, 5, 6, 7, 8, 9, 10, 11, 12, 13, 14, 15] rfl) (hD.sub [16, 17, 0, 18, 1, 19, 20, 2, 3, 4, 5, 6, 7, 8, 9, 10, 11, 12, 13, 14, 15] (by decide) rfl) hS (lv_sub hl [0, 1, 2, 3, 4] rfl)
            by_cases hs158 : kd = 9
            ·
              subst hs158
              refine lv_lookup (off := 153) (tgt := 190) hx hb dX4_work_37 (by decide +kernel) (by decide +kernel) (by decide) ?_
              refine lv_aload_n hx hb dX4_work_190 rfl (lv_at hl 2 rfl) ?_
              have hPc := hP.sub (ws' := [(ow 0, .inr (4, gMa ow (nI xst) xrf xlt xen (nI xlo) (nI xoz))), (ow 2, .inl (cI, 64, .inl gfP))]) [0, 2] rfl
              have hKc := hK.sub (tys' := [(cI, .int)]) [0] rfl
              have hDc := hD.sub (ws' := [(ow 0, .inr (4, gMa ow (nI xst) xrf xlt xen (nI xlo) (nI xoz))), (ow 2, .inl (cI, 64, .inl gfP))]) [0, 2] (by decide) rfl
              have hFc := va_free (wc := [(ow 0, .inr (4, gMa ow (nI xst) xrf xlt xen (nI xlo) (nI xoz))), (ow 2, .inl (cI, 64, .inl gfP))]) hD hS hA [0, 2] rfl
              refine va_calli (va_runV (As := []) (rest := []) ⟨hx, hb, hml, hown, hts⟩ (k_pop l D _ ow cI xst xrf xlt xen xlo xoz gfP hoz) (cwV 0 hts g_k_work_k_pop_54 rfl rfl rfl (by decide +kernel) ⟨(Nat.le_of_ble_eq_true rfl), (Nat.le_of_ble_eq_true rfl)⟩) (PcWC_V (q0 := 0) hPc hKc hDc hN rfl rfl) rfl rfl hl.1 rfl (lv_room (Nat.le_of_ble_eq_true rfl)) dX4_work_191 ⟨(Nat.le_of_ble_eq_true rfl), (Nat.le_of_ble_eq_true rfl)⟩) hS (fun q _ h => hFc q h) hFc (fun r159 uu tt H locs htt hvm hw hB hz1 hk1 hS => ?_)
              obtain ⟨w160, rfl⟩ : ∃ z, z = uu := ⟨_, rfl⟩
              obtain ⟨hP1, hK1, hD1⟩ := hB
              rw [htt] at hP1
              have hK1 := va_K.moved hvm.symm hK1
              have hP1 : va_P D vwCl [(ow 0, .inr (4, gMa ow (nI xst) xrf xlt xen (nI xlo) (nI w160))), (ow 2, .inl (cI, 64, .inl gfP))] H := hP1
              obtain ⟨hP, hD⟩ := va_join (wr := [(ow 1, .inl (cI, 5, .inl gfR)), (oq 1, .inr (7, [.int (nI pz), .ref (oq 2), .ref (oq 3), .ref (oq 4)])), (oq 2, .inl (cI, 600, .inl fK)), (oq 3, .inl (cI, 600, .inl fN)), (oq 4, .inl (cI, 600, .inl fL)), (ob 0, .inr (9, gT ob tb ts tg xtl xtc xtr xtu xtv xtw)), (ob 1, .inr (0, [.long xsd, .int (nI xda), .int (nI xdb), .int xpr])), (ob 2, .inr (2, [.int (nI xcn), .ref (ob 3), .ref (ob 4)])), (ob 3, .inl (cI, 160, .inl gfk)), (ob 4, .inl (cI, 160, .inl gfv)), (ob 5, .inr (3, gY ob (nI xnb) (nI xka) (nI xkb) xsm (nI xln))), (ob 6, .inl (cI, 2048, .inl gfh)), (ob 7, .inl (cI, 2048, .inl gff)), (ob 8, .inl (cI, 2048, .inl gfa)), (ob 9, .inl (cI, 2048, .inl gfs)), (ob 10, .inl (cI, 160, .inl gfj)), (ob 11, .inl (cI, 160, .inl gfr)), (ob 12, .inl (cI, 160, .inl gfo)), (ob 13, .inl (cI, 2048, .inl gfx))]) (w1 := [(ow 0, .inr (4, gMa ow (nI xst) xrf xlt xen (nI xlo) (nI w160))), (ow 2, .inl (cI, 64, .inl gfP))]) hP hD [0, 2] [1, 3, 4, 5, 6, 7, 8, 9, 10, 11, 12, 13, 14, 15, 16, 17, 18, 19, 20] rfl rfl (by decide) (by decide) hk1 hFc hP1 hD1
              have hP : va_P D vwCl [(ow 1, .inl (cI, 5, .inl gfR)), (oq 1, .inr (7, [.int (nI pz), .ref (oq 2), .ref (oq 3), .ref (oq 4)])), (oq 2, .inl (cI, 600, .inl fK)), (oq 3, .inl (cI, 600, .inl fN)), (oq 4, .inl (cI, 600, .inl fL)), (ob 0, .inr (9, gT ob tb ts tg xtl xtc xtr xtu xtv xtw)), (ob 1, .inr (0, [.long xsd, .int (nI xda), .int (nI xdb), .int xpr])), (ob 2, .inr (2, [.int (nI xcn), .ref (ob 3), .ref (ob 4)])), (ob 3, .inl (cI, 160, .inl gfk)), (ob 4, .inl (cI, 160, .inl gfv)), (ob 5, .inr (3, gY ob (nI xnb) (nI xka) (nI xkb) xsm (nI xln))), (ob 6, .inl (cI, 2048, .inl gfh)), (ob 7, .inl (cI, 2048, .inl gff)), (ob 8, .inl (cI, 2048, .inl gfa)), (ob 9, .inl (cI, 2048, .inl gfs)), (ob 10, .inl (cI, 160, .inl gfj)), (ob 11, .inl (cI, 160, .inl gfr)), (ob 12, .inl (cI, 160, .inl gfo)), (ob 13, .inl (cI, 2048, .inl gfx)), (ow 0, .inr (4, gMa ow (nI xst) xrf xlt xen (nI xlo) (nI w160))), (ow 2, .inl (cI, 64, .inl gfP))] H := hP
              have hD : va_D A [(ow 1, .inl (cI, 5, .inl gfR)), (oq 1, .inr (7, [.int (nI pz), .ref (oq 2), .ref (oq 3), .ref (oq 4)])), (oq 2, .inl (cI, 600, .inl fK)), (oq 3, .inl (cI, 600, .inl fN)), (oq 4, .inl (cI, 600, .inl fL)), (ob 0, .inr (9, gT ob tb ts tg xtl xtc xtr xtu xtv xtw)), (ob 1, .inr (0, [.long xsd, .int (nI xda), .int (nI xdb), .int xpr])), (ob 2, .inr (2, [.int (nI xcn), .ref (ob 3), .ref (ob 4)])), (ob 3, .inl (cI, 160, .inl gfk)), (ob 4, .inl (cI, 160, .inl gfv)), (ob 5, .inr (3, gY ob (nI xnb) (nI xka) (nI xkb) xsm (nI xln))), (ob 6, .inl (cI, 2048, .inl gfh)), (ob 7, .inl (cI, 2048, .inl gff)), (ob 8, .inl (cI, 2048, .inl gfa)), (ob 9, .inl (cI, 2048, .inl gfs)), (ob 10, .inl (cI, 160, .inl gfj)), (ob 11, .inl (cI, 160, .inl gfr)), (ob 12, .inl (cI, 160, .inl gfo)), (ob 13, .inl (cI, 2048, .inl gfx)), (ow 0, .inr (4, gMa ow (nI xst) xrf xlt xen (nI xlo) (nI w160))), (ow 2, .inl (cI, 64, .inl gfP))] := hD
              try dsimp only at hw
              clear hz1 hk1 hFc hPc hKc hDc
              obtain ⟨hm161_hoz, hm161_v⟩ := hw
              refine lv_if_le (tgt := 203) hx hb dX4_work_194 (by decide) (fun hc162 => ?_) (fun hc162 => ?_)
              ·
                refine lv_aload_n hx hb dX4_work_203 rfl (lv_at hl 3 rfl) ?_
                refine va_get (D := D) (ci := 7) (v := .ref (oq 4)) (C := RX7) (T := TX7) (N := 4) hx hb hts hin_X7 hown hK hP 1 rfl rfl 3 (by decide) (hts (.fieldLink RX4 58 "ClashFree$Program" "links" "[I") (List.mem_of_getElem? (i := 19) rfl)) (fun _ h9 => h9) rfl dX4_work_204 ?_
                refine lv_iload_n hx hb dX4_work_207 rfl (lv_at hl 1 rfl) ?_
                refine va_iald hx hb hK hP 4 0 rfl rfl (vp_in_nI (by omega) (by decide)) dX4_work_208 ?_
                refine lv_topi (fun v163 ev163 => ?_)
                obtain rfl : v163 = fL xa := ev163.trans (by rw [nI_clamp (by omega)])
                refine lv_istore_n (lv' := [(3, .int (fL xa)), (4, .int (nI n8)), (0, .ref (ow 0)), (1, .ref (oq 1)), (2, .ref (ob 0))]) hx hb dX4_work_209 rfl hl (by decide) rfl (fun ls hl => ?_)
                refine lv_goto (tgt := 263) hx hb dX4_work_210 (by decide) ?_
                refine lv_iinc (v := nI (n8 + 1)) (lv' := [(4, .int (nI (n8 + 1))), (3, .int (fL xa)), (0, .ref (ow 0)), (1, .ref (oq 1)), (2, .ref (ob 0))]) hx hb dX4_work_263 hl (k := 1) rfl (nI_1 _) (by decide) rfl (fun ls hl => ?_)
                refine lv_goto (tgt := 5) hx hb dX4_work_266 (by decide) ?_
                exact ih (n8 + 1) (fL xa) xst xrf xlt xen xlo w160 gfR gfP xtr xtl xtc xtu xtv xtw xsd xda xdb xpr xcn gfk gfv xnb xka xkb xsm xln gfh gff gfa gfs gfj gfr gfo gfx (by omega) (hst) (hlo) (hm161_hoz) (hTb) ((fun g L hG hF hS => by
                    have hpg := hG.1
                    obtain ⟨g1, g2, g3⟩ := hG.2.2.2.2 xa (by omega)
                    have gK := hG.2.1 xa (by omega)
                    obtain ⟨T, lS, oS, s1, k1, ⟨l1, l2, l3⟩, ⟨o1, o2⟩, m1, st3⟩ := (hX g L hG hF hS).go (by omega) (by omega) hen
                    have hk : g.2.1 xa = 9 := (nI_eq (b := 9) (by omega) (by decide)).mp (gK.symm.trans ekd.symm)
                    obtain ⟨b1, b2, b3⟩ := hm161_v oS o1 o2
                    have hif : (if 0 < oS.headD 0 then xa + 1 else g.2.2.2 xa) = g.2.2.2 xa := if_neg (by rw [← b1]; exact Int32.not_lt.mpr hc162)
                    have hfw := hF xa (by omega) (Or.inr hk)
                    have hsC := sC_9 (st := xst) (lt := xlt) (T := T) (lS := lS) (oS := oS) (by omega) hk
                    rw [hif] at hsC
                    exact WkX.mk s1 m1 (hsC) (hG.2.2.1 xa (by omega)) (by omega) (by omega) (hen) (k1) (⟨l1, l2, l3⟩) (⟨b2, b3⟩) (fun _ => Or.inl ⟨rfl, by omega⟩) (st3))) (by omega) H locs ls (hP.sub [19, 0, 20, 1, 2, 3, 4, 5, 6, 7, 8, 9, 10, 11, 12, 13, 14, 15, 16, 17, 18] rfl) (hD.sub [19, 0, 20, 1, 2, 3, 4, 5, 6, 7, 8, 9, 10, 11, 12, 13, 14, 15, 16, 17, 18] (by decide) rfl) hS (lv_sub hl [0, 1, 2, 3, 4] rfl)
              ·
                refine lv_iload_n hx hb dX4_work_197 rfl (lv_at hl 1 rfl) ?_
                refine lv_iconst (v := 1) hx hb dX4_work_198 (by decide) ?_
                refine lv_iadd hx hb dX4_work_199 ?_
                refine lv_topi (fun v164 ev164 => ?_)
                obtain rfl : v164 = nI (xa + 1) := ev164.trans (nI_1 _)
                refine lv_goto (tgt := 209) hx hb dX4_work_200 (by decide) ?_
                refine lv_istore_n (lv' := [(3, .int (nI (xa + 1))), (4, .int (nI n8)), (0, .ref (ow 0)), (1, .ref (oq 1)), (2, .ref (ob 0))]) hx hb dX4_work_209 rfl hl (by decide) rfl (fun ls hl => ?_)
                refine lv_goto (tgt := 263) hx hb dX4_work_210 (by decide) ?_
                refine lv_iinc (v := nI (n8 + 1)) (lv' := [(4, .int (nI (n8 + 1))), (3, .int (nI (xa + 1))), (0, .ref (ow 0)), (1, .ref (oq 1)), (2, .ref (ob 0))]) hx hb dX4_work_263 hl (k := 1) rfl (nI_1 _) (by decide) rfl (fun ls hl => ?_)
                refine lv_goto (tgt := 5) hx hb dX4_work_266 (by decide) ?_
                exact ih (n8 + 1) (nI (xa + 1)) xst xrf xlt xen xlo w160 gfR gfP xtr xtl xtc xtu xtv xtw xsd xda xdb xpr xcn gfk gfv xnb xka xkb xsm xln gfh gff gfa gfs gfj gfr gfo gfx (by omega) (hst) (hlo) (hm161_hoz) (hTb) ((fun g L hG hF hS => by
                    have hpg := hG.1
                    obtain ⟨g1, g2, g3⟩ := hG.2.2.2.2 xa (by omega)
                    have gK := hG.2.1 xa (by omega)
                    obtain ⟨T, lS, oS, s1, k1, ⟨l1, l2, l3⟩, ⟨o1, o2⟩, m1, st3⟩ := (hX g L hG hF hS).go (by omega) (by omega) hen
                    have hk : g.2.1 xa = 9 := (nI_eq (b := 9) (by omega) (by decide)).mp (gK.symm.trans ekd.symm)
                    obtain ⟨b1, b2, b3⟩ := hm161_v oS o1 o2
                    have hif : (if 0 < oS.headD 0 then xa + 1 else g.2.2.2 xa) = xa + 1 := if_pos (by rw [← b1]; exact Int32.not_le.mp hc162)
                    have hsC := sC_9 (st := xst) (lt := xlt) (T := T) (lS := lS) (oS := oS) (by omega) hk
                    rw [hif] at hsC
                    exact WkX.mk s1 m1 (hsC) (rfl) (by omega) (by omega) (hen) (k1) (⟨l1, l2, l3⟩) (⟨b2, b3⟩) (fun _ => Or.inl ⟨rfl, by omega⟩) (st3))) (by omega) H locs ls (hP.sub [19, 0, 20, 1, 2, 3, 4, 5, 6, 7, 8, 9, 10, 11, 12, 13, 14, 15, 16, 17, 18] rfl) (hD.sub [19, 0, 20, 1, 2, 3, 4, 5, 6, 7, 8, 9, 10, 11, 12, 13, 14, 15, 16, 17, 18] (by decide) rfl) hS (lv_sub hl [0, 1, 2, 3, 4] rfl)
            by_cases hs165 : kd = 10
            ·
              subst hs165
              refine lv_lookup (off := 107) (tgt := 144) hx hb dX4_work_37 (by decide +kernel) (by decide +kernel) (by decide) ?_
              refine lv_aload_n hx hb dX4_work_144 rfl (lv_at hl 2 rfl) ?_
              refine lv_aload_n hx hb dX4_work_145 rfl (lv_at hl 2 rfl) ?_
              refine va_get (D := D) (ci := 4) (v := .int (nI xlo)) (C := RX4) (T := TX4) (N := 8) hx hb hts hin_X4 hown hK hP 0 rfl rfl 4 (by decide) (hts (.fieldLink RX4 32 "ClashFree$Machine" "loops" "I") (List.mem_of_getElem? (i := 20) rfl)) (fun _ h9 => h9) rfl dX4_work_146 ?_
              refine lv_if_le (tgt := 166) hx hb dX4_work_149 (by decide) (fun hc166 => ?_) (fun hc166 => ?_)
              ·
                have hl0 : xlo = 0 := by
                  have := (nI_leI (b := 0) (by omega) (by decide)).mp hc166
                  omega
                refine lv_iconst (v := 0) hx hb dX4_work_166 (by decide) ?_
                have hPc := hP.sub (ws' := [(ow 0, .inr (4, gMa ow (nI xst) xrf xlt xen (nI xlo) (nI xoz))), (ow 2, .inl (cI, 64, .inl gfP))]) [0, 2] rfl
                have hKc := hK.sub (tys' := [(cI, .int)]) [0] rfl
                have hDc := hD.sub (ws' := [(ow 0, .inr (4, gMa ow (nI xst) xrf xlt xen (nI xlo) (nI xoz))), (ow 2, .inl (cI, 64, .inl gfP))]) [0, 2] (by decide) rfl
                have hFc := va_free (wc := [(ow 0, .inr (4, gMa ow (nI xst) xrf xlt xen (nI xlo) (nI xoz))), (ow 2, .inl (cI, 64, .inl gfP))]) hD hS hA [0, 2] rfl
                refine va_callv (va_runV (As := [.int 0]) (rest := []) ⟨hx, hb, hml, hown, hts⟩ (k_push l D _ ow cI xst xrf xlt xen xlo xoz gfP 0 hoz) (cwV 1 hts g_k_work_k_push_50 rfl rfl rfl (by decide +kernel) ⟨(Nat.le_of_ble_eq_true rfl), (Nat.le_of_ble_eq_true rfl)⟩) (PcWC_V (q0 := 0) hPc hKc hDc hN rfl rfl) rfl rfl hl.1 rfl (lv_room (Nat.le_of_ble_eq_true rfl)) dX4_work_167 ⟨(Nat.le_of_ble_eq_true rfl), (Nat.le_of_ble_eq_true rfl)⟩) hS (fun q _ h => hFc q h) hFc (fun uu tt H locs htt hvm hw hB hz1 hk1 hS => ?_)
                obtain ⟨w168, w169⟩ := uu
                obtain ⟨hP1, hK1, hD1⟩ := hB
                rw [htt] at hP1
                have hK1 := va_K.moved hvm.symm hK1
                have hP1 : va_P D vwCl [(ow 0, .inr (4, gMa ow (nI xst) xrf xlt xen (nI xlo) (nI w168))), (ow 2, .inl (cI, 64, .inl w169))] H := hP1
                obtain ⟨hP, hD⟩ := va_join (wr := [(ow 1, .inl (cI, 5, .inl gfR)), (oq 1, .inr (7, [.int (nI pz), .ref (oq 2), .ref (oq 3), .ref (oq 4)])), (oq 2, .inl (cI, 600, .inl fK)), (oq 3, .inl (cI, 600, .inl fN)), (oq 4, .inl (cI, 600, .inl fL)), (ob 0, .inr (9, gT ob tb ts tg xtl xtc xtr xtu xtv xtw)), (ob 1, .inr (0, [.long xsd, .int (nI xda), .int (nI xdb), .int xpr])), (ob 2, .inr (2, [.int (nI xcn), .ref (ob 3), .ref (ob 4)])), (ob 3, .inl (cI, 160, .inl gfk)), (ob 4, .inl (cI, 160, .inl gfv)), (ob 5, .inr (3, gY ob (nI xnb) (nI xka) (nI xkb) xsm (nI xln))), (ob 6, .inl (cI, 2048, .inl gfh)), (ob 7, .inl (cI, 2048, .inl gff)), (ob 8, .inl (cI, 2048, .inl gfa)), (ob 9, .inl (cI, 2048, .inl gfs)), (ob 10, .inl (cI, 160, .inl gfj)), (ob 11, .inl (cI, 160, .inl gfr)), (ob 12, .inl (cI, 160, .inl gfo)), (ob 13, .inl (cI, 2048, .inl gfx))]) (w1 := [(ow 0, .inr (4, gMa ow (nI xst) xrf xlt xen (nI xlo) (nI w168))), (ow 2, .inl (cI, 64, .inl w169))]) hP hD [0, 2] [1, 3, 4, 5, 6, 7, 8, 9, 10, 11, 12, 13, 14, 15, 16, 17, 18, 19, 20] rfl rfl (by decide) (by decide) hk1 hFc hP1 hD1
                have hP : va_P D vwCl [(ow 1, .inl (cI, 5, .inl gfR)), (oq 1, .inr (7, [.int (nI pz), .ref (oq 2), .ref (oq 3), .ref (oq 4)])), (oq 2, .inl (cI, 600, .inl fK)), (oq 3, .inl (cI, 600, .inl fN)), (oq 4, .inl (cI, 600, .inl fL)), (ob 0, .inr (9, gT ob tb ts tg xtl xtc xtr xtu xtv xtw)), (ob 1, .inr (0, [.long xsd, .int (nI xda), .int (nI xdb), .int xpr])), (ob 2, .inr (2, [.int (nI xcn), .ref (ob 3), .ref (ob 4)])), (ob 3, .inl (cI, 160, .inl gfk)), (ob 4, .inl (cI, 160, .inl gfv)), (ob 5, .inr (3, gY ob (nI xnb) (nI xka) (nI xkb) xsm (nI xln))), (ob 6, .inl (cI, 2048, .inl gfh)), (ob 7, .inl (cI, 2048, .inl gff)), (ob 8, .inl (cI, 2048, .inl gfa)), (ob 9, .inl (cI, 2048, .inl gfs)), (ob 10, .inl (cI, 160, .inl gfj)), (ob 11, .inl (cI, 160, .inl gfr)), (ob 12, .inl (cI, 160, .inl gfo)), (ob 13, .inl (cI, 2048, .inl gfx)), (ow 0, .inr (4, gMa ow (nI xst) xrf xlt xen (nI xlo) (nI w168))), (ow 2, .inl (cI, 64, .inl w169))] H := hP
                have hD : va_D A [(ow 1, .inl (cI, 5, .inl gfR)), (oq 1, .inr (7, [.int (nI pz), .ref (oq 2), .ref (oq 3), .ref (oq 4)])), (oq 2, .inl (cI, 600, .inl fK)), (oq 3, .inl (cI, 600, .inl fN)), (oq 4, .inl (cI, 600, .inl fL)), (ob 0, .inr (9, gT ob tb ts tg xtl xtc xtr xtu xtv xtw)), (ob 1, .inr (0, [.long xsd, .int (nI xda), .int (nI xdb), .int xpr])), (ob 2, .inr (2, [.int (nI xcn), .ref (ob 3), .ref (ob 4)])), (ob 3, .inl (cI, 160, .inl gfk)), (ob 4, .inl (cI, 160, .inl gfv)), (ob 5, .inr (3, gY ob (nI xnb) (nI xka) (nI xkb) xsm (nI xln))), (ob 6, .inl (cI, 2048, .inl gfh)), (ob 7, .inl (cI, 2048, .inl gff)), (ob 8, .inl (cI, 2048, .inl gfa)), (ob 9, .inl (cI, 2048, .inl gfs)), (ob 10, .inl (cI, 160, .inl gfj)), (ob 11, .inl (cI, 160, .inl gfr)), (ob 12, .inl (cI, 160, .inl gfo)), (ob 13, .inl (cI, 2048, .inl gfx)), (ow 0, .inr (4, gMa ow (nI xst) xrf xlt xen (nI xlo) (nI w168))), (ow 2, .inl (cI, 64, .inl w169))] := hD
                try dsimp only at hw
                clear hz1 hk1 hFc hPc hKc hDc
                obtain ⟨hm170_hoz, hm170_v⟩ := hw
                refine lv_iinc (v := nI (xa + 1)) (lv' := [(3, .int (nI (xa + 1))), (4, .int (nI n8)), (0, .ref (ow 0)), (1, .ref (oq 1)), (2, .ref (ob 0))]) hx hb dX4_work_170 hl (k := 1) rfl (nI_1 _) (by decide) rfl (fun ls hl => ?_)
                refine lv_goto (tgt := 263) hx hb dX4_work_173 (by decide) ?_
                refine lv_iinc (v := nI (n8 + 1)) (lv' := [(4, .int (nI (n8 + 1))), (3, .int (nI (xa + 1))), (0, .ref (ow 0)), (1, .ref (oq 1)), (2, .ref (ob 0))]) hx hb dX4_work_263 hl (k := 1) rfl (nI_1 _) (by decide) rfl (fun ls hl => ?_)
                refine lv_goto (tgt := 5) hx hb dX4_work_266 (by decide) ?_
                exact ih (n8 + 1) (nI (xa + 1)) xst xrf xlt xen xlo w168 gfR w169 xtr xtl xtc xtu xtv xtw xsd xda xdb xpr xcn gfk gfv xnb xka xkb xsm xln gfh gff gfa gfs gfj gfr gfo gfx (by omega) (hst) (hlo) (hm170_hoz) (hTb) ((fun g L hG hF hS => by
                    have hpg := hG.1
                    obtain ⟨g1, g2, g3⟩ := hG.2.2.2.2 xa (by omega)
                    have gK := hG.2.1 xa (by omega)
                    obtain ⟨T, lS, oS, s1, k1, ⟨l1, l2, l3⟩, ⟨o1, o2⟩, m1, st3⟩ := (hX g L hG hF hS).go (by omega) (by omega) hen
                    have hk : g.2.1 xa = 10 := (nI_eq (b := 10) (by omega) (by decide)).mp (gK.symm.trans ekd.symm)
                    have hnil := LoM_nil l1 hl0
                    exact WkX.mk s1 m1 (sC_10 (by omega) hk) (rfl) (by omega) (by omega) (hen) (k1) (⟨l1, l2, l3⟩) (by rw [hnil]; exact hm170_v oS o1 o2) (fun _ => Or.inl ⟨rfl, by omega⟩) (st3))) (by omega) H locs ls (hP.sub [19, 0, 20, 1, 2, 3, 4, 5, 6, 7, 8, 9, 10, 11, 12, 13, 14, 15, 16, 17, 18] rfl) (hD.sub [19, 0, 20, 1, 2, 3, 4, 5, 6, 7, 8, 9, 10, 11, 12, 13, 14, 15, 16, 17, 18] (by decide) rfl) hS (lv_sub hl [0, 1, 2, 3, 4] rfl)
              ·
                have hp1 : 1 ≤ xlo := by
                  rcases Nat.eq_zero_or_pos xlo with z | z
                  · exact absurd (by rw [z]; decide) hc166
                  · exact z
                refine lv_aload_n hx hb dX4_work_152 rfl (lv_at hl 2 rfl) ?_
                refine va_get (D := D) (ci := 4) (v := .ref (ow 1)) (C := RX4) (T := TX4) (N := 8) hx hb hts hin_X4 hown hK hP 0 rfl rfl 5 (by decide) (hts (.fieldLink RX4 9 "ClashFree$Machine" "roundOf" "[I") (List.mem_of_getElem? (i := 21) rfl)) (fun _ h9 => h9) rfl dX4_work_153 ?_
                refine lv_aload_n hx hb dX4_work_156 rfl (lv_at hl 2 rfl) ?_
                refine va_get (D := D) (ci := 4) (v := .int (nI xlo)) (C := RX4) (T := TX4) (N := 8) hx hb hts hin_X4 hown hK hP 0 rfl rfl 4 (by decide) (hts (.fieldLink RX4 32 "ClashFree$Machine" "loops" "I") (List.mem_of_getElem? (i := 20) rfl)) (fun _ h9 => h9) rfl dX4_work_157 ?_
                refine lv_iconst (v := 1) hx hb dX4_work_160 (by decide) ?_
                refine lv_isub hx hb dX4_work_161 ?_
                refine lv_topi (fun v171 ev171 => ?_)
                obtain rfl : v171 = nI (xlo - 1) := ev171.trans (pk_sub (b := 1) (by omega))
                refine va_iald hx hb hK hP 1 0 rfl rfl (vp_in_nI (by omega) (by decide)) dX4_work_162 ?_
                refine lv_topi (fun v172 ev172 => ?_)
                obtain rfl : v172 = gfR (xlo - 1) := ev172.trans (by rw [nI_clamp (by omega)])
                refine lv_goto (tgt := 167) hx hb dX4_work_163 (by decide) ?_
                have hPc := hP.sub (ws' := [(ow 0, .inr (4, gMa ow (nI xst) xrf xlt xen (nI xlo) (nI xoz))), (ow 2, .inl (cI, 64, .inl gfP))]) [0, 2] rfl
                have hKc := hK.sub (tys' := [(cI, .int)]) [0] rfl
                have hDc := hD.sub (ws' := [(ow 0, .inr (4, gMa ow (nI xst) xrf xlt xen (nI xlo) (nI xoz))), (ow 2, .inl (cI, 64, .inl gfP))]) [0, 2] (by decide) rfl
                have hFc := va_free (wc := [(ow 0, .inr (4, gMa ow (nI xst) xrf xlt xen (nI xlo) (nI xoz))), (ow 2, .inl (cI, 64, .inl gfP))]) hD hS hA [0, 2] rfl
                refine va_callv (va_runV (As := [.int (gfR (xlo - 1))]) (rest := []) ⟨hx, hb, hml, hown, hts⟩ (k_push l D _ ow cI xst xrf xlt xen xlo xoz gfP (gfR (xlo - 1)) hoz) (cwV 1 hts g_k_work_k_push_50 rfl rfl rfl (by decide +kernel) ⟨(Nat.le_of_ble_eq_true rfl), (Nat.le_of_ble_eq_true rfl)⟩) (PcWC_V (q0 := 0) hPc hKc hDc hN rfl rfl) rfl rfl hl.1 rfl (lv_room (Nat.le_of_ble_eq_true rfl)) dX4_work_167 ⟨(Nat.le_of_ble_eq_true rfl), (Nat.le_of_ble_eq_true rfl)⟩) hS (fun q _ h => hFc q h) hFc (fun uu tt H locs htt hvm hw hB hz1 hk1 hS => ?_)
                obtain ⟨w174, w175⟩ := uu
                obtain ⟨hP1, hK1, hD1⟩ := hB
                rw [htt] at hP1
                have hK1 := va_K.moved hvm.symm hK1
                have hP1 : va_P D vwCl [(ow 0, .inr (4, gMa ow (nI xst) xrf xlt xen (nI xlo) (nI w174))), (ow 2, .inl (cI, 64, .inl w175))] H := hP1
                obtain ⟨hP, hD⟩ := va_join (wr := [(ow 1, .inl (cI, 5, .inl gfR)), (oq 1, .inr (7, [.int (nI pz), .ref (oq 2), .ref (oq 3), .ref (oq 4)])), (oq 2, .inl (cI, 600, .inl fK)), (oq 3, .inl (cI, 600, .inl fN)), (oq 4, .inl (cI, 600, .inl fL)), (ob 0, .inr (9, gT ob tb ts tg xtl xtc xtr xtu xtv xtw)), (ob 1, .inr (0, [.long xsd, .int (nI xda), .int (nI xdb), .int xpr])), (ob 2, .inr (2, [.int (nI xcn), .ref (ob 3), .ref (ob 4)])), (ob 3, .inl (cI, 160, .inl gfk)), (ob 4, .inl (cI, 160, .inl gfv)), (ob 5, .inr (3, gY ob (nI xnb) (nI xka) (nI xkb) xsm (nI xln))), (ob 6, .inl (cI, 2048, .inl gfh)), (ob 7, .inl (cI, 2048, .inl gff)), (ob 8, .inl (cI, 2048, .inl gfa)), (ob 9, .inl (cI, 2048, .inl gfs)), (ob 10, .inl (cI, 160, .inl gfj)), (ob 11, .inl (cI, 160, .inl gfr)), (ob 12, .inl (cI, 160, .inl gfo)), (ob 13, .inl (cI, 2048, .inl gfx))]) (w1 := [(ow 0, .inr (4, gMa ow (nI xst) xrf xlt xen (nI xlo) (nI w174))), (ow 2, .inl (cI, 64, .inl w175))]) hP hD [0, 2] [1, 3, 4, 5, 6, 7, 8, 9, 10, 11, 12, 13, 14, 15, 16, 17, 18, 19, 20] rfl rfl (by decide) (by decide) hk1 hFc hP1 hD1
                have hP : va_P D vwCl [(ow 1, .inl (cI, 5, .inl gfR)), (oq 1, .inr (7, [.int (nI pz), .ref (oq 2), .ref (oq 3), .ref (oq 4)])), (oq 2, .inl (cI, 600, .inl fK)), (oq 3, .inl (cI, 600, .inl fN)), (oq 4, .inl (cI, 600, .inl fL)), (ob 0, .inr (9, gT ob tb ts tg xtl xtc xtr xtu xtv xtw)), (ob 1, .inr (0, [.long xsd, .int (nI xda), .int (nI xdb), .int xpr])), (ob 2, .inr (2, [.int (nI xcn), .ref (ob 3), .ref (ob 4)])), (ob 3, .inl (cI, 160, .inl gfk)), (ob 4, .inl (cI, 160, .inl gfv)), (ob 5, .inr (3, gY ob (nI xnb) (nI xka) (nI xkb) xsm (nI xln))), (ob 6, .inl (cI, 2048, .inl gfh)), (ob 7, .inl (cI, 2048, .inl gff)), (ob 8, .inl (cI, 2048, .inl gfa)), (ob 9, .inl (cI, 2048, .inl gfs)), (ob 10, .inl (cI, 160, .inl gfj)), (ob 11, .inl (cI, 160, .inl gfr)), (ob 12, .inl (cI, 160, .inl gfo)), (ob 13, .inl (cI, 2048, .inl gfx)), (ow 0, .inr (4, gMa ow (nI xst) xrf xlt xen (nI xlo) (nI w174))), (ow 2, .inl (cI, 64, .inl w175))] H := hP
                have hD : va_D A [(ow 1, .inl (cI, 5, .inl gfR)), (oq 1, .inr (7, [.int (nI pz), .ref (oq 2), .ref (oq 3), .ref (oq 4)])), (oq 2, .inl (cI, 600, .inl fK)), (oq 3, .inl (cI, 600, .inl fN)), (oq 4, .inl (cI, 600, .inl fL)), (ob 0, .inr (9, gT ob tb ts tg xtl xtc xtr xtu xtv xtw)), (ob 1, .inr (0, [.long xsd, .int (nI xda), .int (nI xdb), .int xpr])), (ob 2, .inr (2, [.int (nI xcn), .ref (ob 3), .ref (ob 4)])), (ob 3, .inl (cI, 160, .inl gfk)), (ob 4, .inl (cI, 160, .inl gfv)), (ob 5, .inr (3, gY ob (nI xnb) (nI xka) (nI xkb) xsm (nI xln))), (ob 6, .inl (cI, 2048, .inl gfh)), (ob 7, .inl (cI, 2048, .inl gff)), (ob 8, .inl (cI, 2048, .inl gfa)), (ob 9, .inl (cI, 2048, .inl gfs)), (ob 10, .inl (cI, 160, .inl gfj)), (ob 11, .inl (cI, 160, .inl gfr)), (ob 12, .inl (cI, 160, .inl gfo)), (ob 13, .inl (cI, 2048, .inl gfx)), (ow 0, .inr (4, gMa ow (nI xst) xrf xlt xen (nI xlo) (nI w174))), (ow 2, .inl (cI, 64, .inl w175))] := hD
                try dsimp only at hw
                clear hz1 hk1 hFc hPc hKc hDc
                obtain ⟨hm176_hoz, hm176_v⟩ := hw
                refine lv_iinc (v := nI (xa + 1)) (lv' := [(3, .int (nI (xa + 1))), (4, .int (nI n8)), (0, .ref (ow 0)), (1, .ref (oq 1)), (2, .ref (ob 0))]) hx hb dX4_work_170 hl (k := 1) rfl (nI_1 _) (by decide) rfl (fun ls hl => ?_)
                refine lv_goto (tgt := 263) hx hb dX4_work_173 (by decide) ?_
                refine lv_iinc (v := nI (n8 + 1)) (lv' := [(4, .int (nI (n8 + 1))), (3, .int (nI (xa + 1))), (0, .ref (ow 0)), (1, .ref (oq 1)), (2, .ref (ob 0))]) hx hb dX4_work_263 hl (k := 1) rfl (nI_1 _) (by decide) rfl (fun ls hl => ?_)
                refine lv_goto (tgt := 5) hx hb dX4_work_266 (by decide) ?_
                exact ih (n8 + 1) (nI (xa + 1)) xst xrf xlt xen xlo w174 gfR w175 xtr xtl xtc xtu xtv xtw xsd xda xdb xpr xcn gfk gfv xnb xka xkb xsm xln gfh gff gfa gfs gfj gfr gfo gfx (by omega) (hst) (hlo) (hm176_hoz) (hTb) ((fun g L hG hF hS => by
                    have hpg := hG.1
                    obtain ⟨g1, g2, g3⟩ := hG.2.2.2.2 xa (by omega)
                    have gK := hG.2.1 xa (by omega)
                    obtain ⟨T, lS, oS, s1, k1, ⟨l1, l2, l3⟩, ⟨o1, o2⟩, m1, st3⟩ := (hX g L hG hF hS).go (by omega) (by omega) hen
                    have hk : g.2.1 xa = 10 := (nI_eq (b := 10) (by omega) (by decide)).mp (gK.symm.trans ekd.symm)
                    have hhd := (LoM_hd l1 l2 hp1).1
                    exact WkX.mk s1 m1 (sC_10 (by omega) hk) (rfl) (by omega) (by omega) (hen) (k1) (⟨l1, l2, l3⟩) (by rw [← hhd]; exact hm176_v oS o1 o2) (fun _ => Or.inl ⟨rfl, by omega⟩) (st3))) (by omega) H locs ls (hP.sub [19, 0, 20, 1, 2, 3, 4, 5, 6, 7, 8, 9, 10, 11, 12, 13, 14, 15, 16, 17, 18] rfl) (hD.sub [19, 0, 20, 1, 2, 3, 4, 5, 6, 7, 8, 9, 10, 11, 12, 13, 14, 15, 16, 17, 18] (by decide) rfl) hS (lv_sub hl [0, 1, 2, 3, 4] rfl)
            by_cases hs177 : kd = 11
            ·
              subst hs177
              refine lv_lookup (off := 139) (tgt := 176) hx hb dX4_work_37 (by decide +kernel) (by decide +kernel) (by decide) ?_
              refine lv_aload_n hx hb dX4_work_176 rfl (lv_at hl 2 rfl) ?_
              refine lv_aload_n hx hb dX4_work_177 rfl (lv_at hl 2 rfl) ?_
              refine va_get (D := D) (ci := 4) (v := .int xlt) (C := RX4) (T := TX4) (N := 8) hx hb hts hin_X4 hown hK hP 0 rfl rfl 2 (by decide) (hts (.fieldLink RX4 25 "ClashFree$Machine" "latest" "I") (List.mem_of_getElem? (i := 22) rfl)) (fun _ h9 => h9) rfl dX4_work_178 ?_
              have hPc := hP.sub (ws' := [(ow 0, .inr (4, gMa ow (nI xst) xrf xlt xen (nI xlo) (nI xoz))), (ow 2, .inl (cI, 64, .inl gfP))]) [0, 2] rfl
              have hKc := hK.sub (tys' := [(cI, .int)]) [0] rfl
              have hDc := hD.sub (ws' := [(ow 0, .inr (4, gMa ow (nI xst) xrf xlt xen (nI xlo) (nI xoz))), (ow 2, .inl (cI, 64, .inl gfP))]) [0, 2] (by decide) rfl
              have hFc := va_free (wc := [(ow 0, .inr (4, gMa ow (nI xst) xrf xlt xen (nI xlo) (nI xoz))), (ow 2, .inl (cI, 64, .inl gfP))]) hD hS hA [0, 2] rfl
              refine va_callv (va_runV (As := [.int xlt]) (rest := []) ⟨hx, hb, hml, hown, hts⟩ (k_push l D _ ow cI xst xrf xlt xen xlo xoz gfP xlt hoz) (cwV 1 hts g_k_work_k_push_50 rfl rfl rfl (by decide +kernel) ⟨(Nat.le_of_ble_eq_true rfl), (Nat.le_of_ble_eq_true rfl)⟩) (PcWC_V (q0 := 0) hPc hKc hDc hN rfl rfl) rfl rfl hl.1 rfl (lv_room (Nat.le_of_ble_eq_true rfl)) dX4_work_181 ⟨(Nat.le_of_ble_eq_true rfl), (Nat.le_of_ble_eq_true rfl)⟩) hS (fun q _ h => hFc q h) hFc (fun uu tt H locs htt hvm hw hB hz1 hk1 hS => ?_)
              obtain ⟨w179, w180⟩ := uu
              obtain ⟨hP1, hK1, hD1⟩ := hB
              rw [htt] at hP1
              have hK1 := va_K.moved hvm.symm hK1
              have hP1 : va_P D vwCl [(ow 0, .inr (4, gMa ow (nI xst) xrf xlt xen (nI xlo) (nI w179))), (ow 2, .inl (cI, 64, .inl w180))] H := hP1
              obtain ⟨hP, hD⟩ := va_join (wr := [(ow 1, .inl (cI, 5, .inl gfR)), (oq 1, .inr (7, [.int (nI pz), .ref (oq 2), .ref (oq 3), .ref (oq 4)])), (oq 2, .inl (cI, 600, .inl fK)), (oq 3, .inl (cI, 600, .inl fN)), (oq 4, .inl (cI, 600, .inl fL)), (ob 0, .inr (9, gT ob tb ts tg xtl xtc xtr xtu xtv xtw)), (ob 1, .inr (0, [.long xsd, .int (nI xda), .int (nI xdb), .int xpr])), (ob 2, .inr (2, [.int (nI xcn), .ref (ob 3), .ref (ob 4)])), (ob 3, .inl (cI, 160, .inl gfk)), (ob 4, .inl (cI, 160, .inl gfv)), (ob 5, .inr (3, gY ob (nI xnb) (nI xka) (nI xkb) xsm (nI xln))), (ob 6, .inl (cI, 2048, .inl gfh)), (ob 7, .inl (cI, 2048, .inl gff)), (ob 8, .inl (cI, 2048, .inl gfa)), (ob 9, .inl (cI, 2048, .inl gfs)), (ob 10, .inl (cI, 160, .inl gfj)), (ob 11, .inl (cI, 160, .inl gfr)), (ob 12, .inl (cI, 160, .inl gfo)), (ob 13, .inl (cI, 2048, .inl gfx))]) (w1 := [(ow 0, .inr (4, gMa ow (nI xst) xrf xlt xen (nI xlo) (nI w179))), (ow 2, .inl (cI, 64, .inl w180))]) hP hD [0, 2] [1, 3, 4, 5, 6, 7, 8, 9, 10, 11, 12, 13, 14, 15, 16, 17, 18, 19, 20] rfl rfl (by decide) (by decide) hk1 hFc hP1 hD1
              have hP : va_P D vwCl [(ow 1, .inl (cI, 5, .inl gfR)), (oq 1, .inr (7, [.int (nI pz), .ref (oq 2), .ref (oq 3), .ref (oq 4)])), (oq 2, .inl (cI, 600, .inl fK)), (oq 3, .inl (cI, 600, .inl fN)), (oq 4, .inl (cI, 600, .inl fL)), (ob 0, .inr (9, gT ob tb ts tg xtl xtc xtr xtu xtv xtw)), (ob 1, .inr (0, [.long xsd, .int (nI xda), .int (nI xdb), .int xpr])), (ob 2, .inr (2, [.int (nI xcn), .ref (ob 3), .ref (ob 4)])), (ob 3, .inl (cI, 160, .inl gfk)), (ob 4, .inl (cI, 160, .inl gfv)), (ob 5, .inr (3, gY ob (nI xnb) (nI xka) (nI xkb) xsm (nI xln))), (ob 6, .inl (cI, 2048, .inl gfh)), (ob 7, .inl (cI, 2048, .inl gff)), (ob 8, .inl (cI, 2048, .inl gfa)), (ob 9, .inl (cI, 2048, .inl gfs)), (ob 10, .inl (cI, 160, .inl gfj)), (ob 11, .inl (cI, 160, .inl gfr)), (ob 12, .inl (cI, 160, .inl gfo)), (ob 13, .inl (cI, 2048, .inl gfx)), (ow 0, .inr (4, gMa ow (nI xst) xrf xlt xen (nI xlo) (nI w179))), (ow 2, .inl (cI, 64, .inl w180))] H := hP
              have hD : va_D A [(ow 1, .inl (cI, 5, .inl gfR)), (oq 1, .inr (7, [.int (nI pz), .ref (oq 2), .ref (oq 3), .ref (oq 4)])), (oq 2, .inl (cI, 600, .inl fK)), (oq 3, .inl (cI, 600, .inl fN)), (oq 4, .inl (cI, 600, .inl fL)), (ob 0, .inr (9, gT ob tb ts tg xtl xtc xtr xtu xtv xtw)), (ob 1, .inr (0, [.long xsd, .int (nI xda), .int (nI xdb), .int xpr])), (ob 2, .inr (2, [.int (nI xcn), .ref (ob 3), .ref (ob 4)])), (ob 3, .inl (cI, 160, .inl gfk)), (ob 4, .inl (cI, 160, .inl gfv)), (ob 5, .inr (3, gY ob (nI xnb) (nI xka) (nI xkb) xsm (nI xln))), (ob 6, .inl (cI, 2048, .inl gfh)), (ob 7, .inl (cI, 2048, .inl gff)), (ob 8, .inl (cI, 2048, .inl gfa)), (ob 9, .inl (cI, 2048, .inl gfs)), (ob 10, .inl (cI, 160, .inl gfj)), (ob 11, .inl (cI, 160, .inl gfr)), (ob 12, .inl (cI, 160, .inl gfo)), (ob 13, .inl (cI, 2048, .inl gfx)), (ow 0, .inr (4, gMa ow (nI xst) xrf xlt xen (nI xlo) (nI w179))), (ow 2, .inl (cI, 64, .inl w180))] := hD
              try dsimp only at hw
              clear hz1 hk1 hFc hPc hKc hDc
              obtain ⟨hm181_hoz, hm181_v⟩ := hw
              refine lv_iinc (v := nI (xa + 1)) (lv' := [(3, .int (nI (xa + 1))), (4, .int (nI n8)), (0, .ref (ow 0)), (1, .ref (oq 1)), (2, .ref (ob 0))]) hx hb dX4_work_184 hl (k := 1) rfl (nI_1 _) (by decide) rfl (fun ls hl => ?_)
              refine lv_goto (tgt := 263) hx hb dX4_work_187 (by decide) ?_
              refine lv_iinc (v := nI (n8 + 1)) (lv' := [(4, .int (nI (n8 + 1))), (3, .int (nI (xa + 1))), (0, .ref (ow 0)), (1, .ref (oq 1)), (2, .ref (ob 0))]) hx hb dX4_work_263 hl (k := 1) rfl (nI_1 _) (by decide) rfl (fun ls hl => ?_)
              refine lv_goto (tgt := 5) hx hb dX4_work_266 (by decide) ?_
              exact ih (n8 + 1) (nI (xa + 1)) xst xrf xlt xen xlo w179 gfR w180 xtr xtl xtc xtu xtv xtw xsd xda xdb xpr xcn gfk gfv xnb xka xkb xsm xln gfh gff gfa gfs gfj gfr gfo gfx (by omega) (hst) (hlo) (hm181_hoz) (hTb) ((fun g L hG hF hS => by
                  have hpg := hG.1
                  obtain ⟨g1, g2, g3⟩ := hG.2.2.2.2 xa (by omega)
                  have gK := hG.2.1 xa (by omega)
                  obtain ⟨T, lS, oS, s1, k1, ⟨l1, l2, l3⟩, ⟨o1, o2⟩, m1, st3⟩ := (hX g L hG hF hS).go (by omega) (by omega) hen
                  have hk : g.2.1 xa = 11 := (nI_eq (b := 11) (by omega) (by decide)).mp (gK.symm.trans ekd.symm)
                  exact WkX.mk s1 m1 (sC_11 (by omega) hk) (rfl) (by omega) (by omega) (hen) (k1) (⟨l1, l2, l3⟩) (hm181_v oS o1 o2) (fun _ => Or.inl ⟨rfl, by omega⟩) (st3))) (by omega) H locs ls (hP.sub [19, 0, 20, 1, 2, 3, 4, 5, 6, 7, 8, 9, 10, 11, 12, 13, 14, 15, 16, 17, 18] rfl) (hD.sub [19, 0, 20, 1, 2, 3, 4, 5, 6, 7, 8, 9, 10, 11, 12, 13, 14, 15, 16, 17, 18] (by decide) rfl) hS (lv_sub hl [0, 1, 2, 3, 4] rfl)
            by_cases hs182 : kd = 93
            ·
              subst hs182
              refine lv_lookup (off := 186) (tgt := 223) hx hb dX4_work_37 (by decide +kernel) (by decide +kernel) (by decide) ?_
              refine lv_aload_n hx hb dX4_work_223 rfl (lv_at hl 2 rfl) ?_
              refine lv_aload_n hx hb dX4_work_224 rfl (lv_at hl 3 rfl) ?_
              refine lv_iload_n hx hb dX4_work_225 rfl (lv_at hl 1 rfl) ?_
              have hPc := hP.sub (ws' := [(ow 0, .inr (4, gMa ow (nI xst) xrf xlt xen (nI xlo) (nI xoz))), (ow 1, .inl (cI, 5, .inl gfR)), (oq 1, .inr (7, [.int (nI pz), .ref (oq 2), .ref (oq 3), .ref (oq 4)])), (oq 2, .inl (cI, 600, .inl fK)), (oq 3, .inl (cI, 600, .inl fN)), (oq 4, .inl (cI, 600, .inl fL))]) [0, 1, 3, 4, 5, 6] rfl
              have hKc := hK.sub (tys' := [(cI, .int)]) [0] rfl
              have hDc := hD.sub (ws' := [(ow 0, .inr (4, gMa ow (nI xst) xrf xlt xen (nI xlo) (nI xoz))), (ow 1, .inl (cI, 5, .inl gfR)), (oq 1, .inr (7, [.int (nI pz), .ref (oq 2), .ref (oq 3), .ref (oq 4)])), (oq 2, .inl (cI, 600, .inl fK)), (oq 3, .inl (cI, 600, .inl fN)), (oq 4, .inl (cI, 600, .inl fL))]) [0, 1, 3, 4, 5, 6] (by decide) rfl
              have hFc := va_free (wc := [(ow 0, .inr (4, gMa ow (nI xst) xrf xlt xen (nI xlo) (nI xoz))), (ow 1, .inl (cI, 5, .inl gfR)), (oq 1, .inr (7, [.int (nI pz), .ref (oq 2), .ref (oq 3), .ref (oq 4)])), (oq 2, .inl (cI, 600, .inl fK)), (oq 3, .inl (cI, 600, .inl fN)), (oq 4, .inl (cI, 600, .inl fL))]) hD hS hA [0, 1, 3, 4, 5, 6] rfl
              refine va_calli (va_runV (As := [.ref (oq 1), .int (nI xa)]) (rest := []) ⟨hx, hb, hml, hown, hts⟩ (k_goRound l D _ ow oq cI xst xrf xlt xen xlo xoz gfR pz fK fN fL xa hst hlo hxa6 hpz) (cwV 2 hts g_k_work_k_goRound_65 rfl rfl rfl (by decide +kernel) ⟨(Nat.le_of_ble_eq_true rfl), (Nat.le_of_ble_eq_true rfl)⟩) (PcWC_V (q0 := 0) hPc hKc hDc hN rfl rfl) rfl rfl hl.1 rfl (lv_room (Nat.le_of_ble_eq_true rfl)) dX4_work_226 ⟨(Nat.le_of_ble_eq_true rfl), (Nat.le_of_ble_eq_true rfl)⟩) hS (fun q _ h => hFc q h) hFc (fun r183 uu tt H locs htt hvm hw hB hz1 hk1 hS => ?_)
              obtain ⟨w184, w185, w186, w187⟩ := uu
              obtain ⟨hP1, hK1, hD1⟩ := hB
              rw [htt] at hP1
              have hK1 := va_K.moved hvm.symm hK1
              have hP1 : va_P D vwCl [(ow 0, .inr (4, gMa ow (nI w184) xrf xlt w185 (nI w186) (nI xoz))), (ow 1, .inl (cI, 5, .inl w187)), (oq 1, .inr (7, [.int (nI pz), .ref (oq 2), .ref (oq 3), .ref (oq 4)])), (oq 2, .inl (cI, 600, .inl fK)), (oq 3, .inl (cI, 600, .inl fN)), (oq 4, .inl (cI, 600, .inl fL))] H := hP1
              obtain ⟨hP, hD⟩ := va_join (wr := [(ow 2, .inl (cI, 64, .inl gfP)), (ob 0, .inr (9, gT ob tb ts tg xtl xtc xtr xtu xtv xtw)), (ob 1, .inr (0, [.long xsd, .int (nI xda), .int (nI xdb), .int xpr])), (ob 2, .inr (2, [.int (nI xcn), .ref (ob 3), .ref (ob 4)])), (ob 3, .inl (cI, 160, .inl gfk)), (ob 4, .inl (cI, 160, .inl gfv)), (ob 5, .inr (3, gY ob (nI xnb) (nI xka) (nI xkb) xsm (nI xln))), (ob 6, .inl (cI, 2048, .inl gfh)), (ob 7, .inl (cI, 2048, .inl gff)), (ob 8, .inl (cI, 2048, .inl gfa)), (ob 9, .inl (cI, 2048, .inl gfs)), (ob 10, .inl (cI, 160, .inl gfj)), (ob 11, .inl (cI, 160, .inl gfr)), (ob 12, .inl (cI, 160, .inl gfo)), (ob 13, .inl (cI, 2048, .inl gfx))]) (w1 := [(ow 0, .inr (4, gMa ow (nI w184) xrf xlt w185 (nI w186) (nI xoz))), (ow 1, .inl (cI, 5, .inl w187)), (oq 1, .inr (7, [.int (nI pz), .ref (oq 2), .ref (oq 3), .ref (oq 4)])), (oq 2, .inl (cI, 600, .inl fK)), (oq 3, .inl (cI, 600, .inl fN)), (oq 4, .inl (cI, 600, .inl fL))]) hP hD [0, 1, 3, 4, 5, 6] [2, 7, 8, 9, 10, 11, 12, 13, 14, 15, 16, 17, 18, 19, 20] rfl rfl (by decide) (by decide) hk1 hFc hP1 hD1
              have hP : va_P D vwCl [(ow 2, .inl (cI, 64, .inl gfP)), (ob 0, .inr (9, gT ob tb ts tg xtl xtc xtr xtu xtv xtw)), (ob 1, .inr (0, [.long xsd, .int (nI xda), .int (nI xdb), .int xpr])), (ob 2, .inr (2, [.int (nI xcn), .ref (ob 3), .ref (ob 4)])), (ob 3, .inl (cI, 160, .inl gfk)), (ob 4, .inl (cI, 160, .inl gfv)), (ob 5, .inr (3, gY ob (nI xnb) (nI xka) (nI xkb) xsm (nI xln))), (ob 6, .inl (cI, 2048, .inl gfh)), (ob 7, .inl (cI, 2048, .inl gff)), (ob 8, .inl (cI, 2048, .inl gfa)), (ob 9, .inl (cI, 2048, .inl gfs)), (ob 10, .inl (cI, 160, .inl gfj)), (ob 11, .inl (cI, 160, .inl gfr)), (ob 12, .inl (cI, 160, .inl gfo)), (ob 13, .inl (cI, 2048, .inl gfx)), (ow 0, .inr (4, gMa ow (nI w184) xrf xlt w185 (nI w186) (nI xoz))), (ow 1, .inl (cI, 5, .inl w187)), (oq 1, .inr (7, [.int (nI pz), .ref (oq 2), .ref (oq 3), .ref (oq 4)])), (oq 2, .inl (cI, 600, .inl fK)), (oq 3, .inl (cI, 600, .inl fN)), (oq 4, .inl (cI, 600, .inl fL))] H := hP
              have hD : va_D A [(ow 2, .inl (cI, 64, .inl gfP)), (ob 0, .inr (9, gT ob tb ts tg xtl xtc xtr xtu xtv xtw)), (ob 1, .inr (0, [.long xsd, .int (nI xda), .int (nI xdb), .int xpr])), (ob 2, .inr (2, [.int (nI xcn), .ref (ob 3), .ref (ob 4)])), (ob 3, .inl (cI, 160, .inl gfk)), (ob 4, .inl (cI, 160, .inl gfv)), (ob 5, .inr (3, gY ob (nI xnb) (nI xka) (nI xkb) xsm (nI xln))), (ob 6, .inl (cI, 2048, .inl gfh)), (ob 7, .inl (cI, 2048, .inl gff)), (ob 8, .inl (cI, 2048, .inl gfa)), (ob 9, .inl (cI, 2048, .inl gfs)), (ob 10, .inl (cI, 160, .inl gfj)), (ob 11, .inl (cI, 160, .inl gfr)), (ob 12, .inl (cI, 160, .inl gfo)), (ob 13, .inl (cI, 2048, .inl gfx)), (ow 0, .inr (4, gMa ow (nI w184) xrf xlt w185 (nI w186) (nI xoz))), (ow 1, .inl (cI, 5, .inl w187)), (oq 1, .inr (7, [.int (nI pz), .ref (oq 2), .ref (oq 3), .ref (oq 4)])), (oq 2, .inl (cI, 600, .inl fK)), (oq 3, .inl (cI, 600, .inl fN)), (oq 4, .inl (cI, 600, .inl fL))] := hD
              try dsimp only at hw
              clear hz1 hk1 hFc hPc hKc hDc
              obtain ⟨⟨hm188_hst, hm188_hlo⟩, hm188_r⟩ := hw
              refine lv_istore_n (lv' := [(3, .int r183), (4, .int (nI n8)), (0, .ref (ow 0)), (1, .ref (oq 1)), (2, .ref (ob 0))]) hx hb dX4_work_229 rfl hl (by decide) rfl (fun ls hl => ?_)
              refine lv_goto (tgt := 263) hx hb dX4_work_230 (by decide) ?_
              refine lv_iinc (v := nI (n8 + 1)) (lv' := [(4, .int (nI (n8 + 1))), (3, .int r183), (0, .ref (ow 0)), (1, .ref (oq 1)), (2, .ref (ob 0))]) hx hb dX4_work_263 hl (k := 1) rfl (nI_1 _) (by decide) rfl (fun ls hl => ?_)
              refine lv_goto (tgt := 5) hx hb dX4_work_266 (by decide) ?_
              exact ih (n8 + 1) r183 w184 xrf xlt w185 w186 xoz w187 gfP xtr xtl xtc xtu xtv xtw xsd xda xdb xpr xcn gfk gfv xnb xka xkb xsm xln gfh gff gfa gfs gfj gfr gfo gfx (by omega) (hm188_hst) (hm188_hlo) (hoz) (hTb) ((fun g L hG hF hS => by
                  have hpg := hG.1
                  obtain ⟨g1, g2, g3⟩ := hG.2.2.2.2 xa (by omega)
                  have gK := hG.2.1 xa (by omega)
                  obtain ⟨T, lS, oS, s1, k1, ⟨l1, l2, l3⟩, ⟨o1, o2⟩, m1, st3⟩ := (hX g L hG hF hS).go (by omega) (by omega) hen
                  have hk : g.2.1 xa = 93 := (nI_eq (b := 93) (by omega) (by decide)).mp (gK.symm.trans ekd.symm)
                  have gL := hG.2.2.1 xa (by omega)
                  rcases hm188_r with ⟨z0, rfl, rfl, rfl, rfl, rfl⟩ | ⟨xf, y1, y2, y3, y4, z0⟩
                  · exact WkX.mk s1 m1 (sC_93n (by omega) hk (z0.elim (fun y => Or.inl (LoM_nil l1 y)) (fun y => Or.inr (fun q => y (g.2.2.2 xa) (by omega) gL (by rw [hG.2.1 _ (by omega), q.2]; rfl))))) (rfl) (by omega) (by omega) (hen) (k1) (⟨l1, l2, l3⟩) (⟨o1, o2⟩) (fun _ => Or.inl ⟨rfl, by omega⟩) (st3)
                  · have ef : g.2.2.2 xa = xf := (nI_eq (by omega) (by omega)).mp (gL.symm.trans y2)
                    have f8 : g.2.1 xf = 8 := by
                      have q5 := (hG.2.2.2.2 xf y1).1
                      exact (nI_eq (b := 8) (by omega) (by decide)).mp ((hG.2.1 xf y1).symm.trans y3)
                    obtain ⟨hh1, hh2, hh3, hh4⟩ := LoM_hd l1 l2 y4
                    obtain ⟨hq1, hq2⟩ := hd_mem l3 hh4
                    have hnm := hG.2.2.2.1 xf y1 (Or.inr f8)
                    have hnb := (hG.2.2.2.2 xf y1).2.2 (Or.inr f8)
                    have hf : ¬ (lS = [] ∨ ¬ (g.2.2.2 xa < g.1 ∧ g.2.1 (g.2.2.2 xa) = 8)) := fun q => q.elim hh4 (fun y => y ⟨by omega, by rw [ef]; exact f8⟩)
                    have hcm : gfR (xlo - 1) + 1 < fN xf ↔ lS.headD 0 + 1 < g.2.2.1 xf := by
                      rw [hh1, hnm, show nI (lS.headD 0) + 1 = nI (lS.headD 0 + 1) from nI_1 _, nI_ltI (by omega) (by omega)]
                    rcases z0 with ⟨z1, rfl, rfl, rfl, rfl, rfl⟩ | ⟨z1, rfl, ⟨z2, rfl, rfl, rfl, rfl⟩ | ⟨z2, rfl, rfl, rfl, rfl⟩⟩
                    · exact WkX.mk s1 m1 (sC_93p (by omega) hk hf (by rw [ef]; exact Nat.not_lt.mp (fun q => z1 (hcm.mpr q)))) (rfl) (by omega) (by omega) (hen) (k1) (⟨hh2, hh3, hq2⟩) (⟨o1, o2⟩) (fun _ => Or.inl ⟨rfl, by omega⟩) (st3)
                    · exact WkX.mk s1 m1 (sC_93 (by omega) hk hf (by rw [ef]; exact Nat.not_le.mpr (hcm.mp z1)) z2) (by rw [ef]) (by omega) (by omega) (hen) (k1) (⟨(LoM_set l1 l2 y4).2, (LoM_set l1 l2 y4).1, fun q hq => by
                      rcases List.mem_cons.mp hq with y | y
                      · have := hcm.mp z1
                        omega
                      · exact hq2 q y⟩) (⟨o1, o2⟩) (fun _ => Or.inr rfl) (by omega)
                    · exact WkX.mk s1 m1 (sC_93c (by omega) hk hf (by rw [ef]; exact Nat.not_le.mpr (hcm.mp z1)) (by omega)) (by rw [ef]) (by omega) (by omega) (rfl) (k1) (⟨l1, l2, l3⟩) (⟨o1, o2⟩) (fun q => by contradiction) (st3))) (by omega) H locs ls (hP.sub [15, 16, 0, 17, 18, 19, 20, 1, 2, 3, 4, 5, 6, 7, 8, 9, 10, 11, 12, 13, 14] rfl) (hD.sub [15, 16, 0, 17, 18, 19, 20, 1, 2, 3, 4, 5, 6, 7, 8, 9, 10, 11, 12, 13, 14] (by decide) rfl) hS (lv_sub hl [0, 1, 2, 3, 4] rfl)
            refine lv_lookup (off := 213) (tgt := 250) hx hb dX4_work_37 (by decide +kernel) (by simp [Op.lookupswitch.offset, List.find?, show ¬ (2 : Int) = Int32.toInt kd from fun q => sw_ne (n := 2) hs5 (by decide) (by decide) q.symm, show ¬ (3 : Int) = Int32.toInt kd from fun q => sw_ne (n := 3) hs11 (by decide) (by decide) q.symm, show ¬ (5 : Int) = Int32.toInt kd from fun q => sw_ne (n := 5) hs46 (by decide) (by decide) q.symm, show ¬ (6 : Int) = Int32.toInt kd from fun q => sw_ne (n := 6) hs81 (by decide) (by decide) q.symm, show ¬ (7 : Int) = Int32.toInt kd from fun q => sw_ne (n := 7) hs116 (by decide) (by decide) q.symm, show ¬ (8 : Int) = Int32.toInt kd from fun q => sw_ne (n := 8) hs151 (by decide) (by decide) q.symm, show ¬ (9 : Int) = Int32.toInt kd from fun q => sw_ne (n := 9) hs158 (by decide) (by decide) q.symm, show ¬ (10 : Int) = Int32.toInt kd from fun q => sw_ne (n := 10) hs165 (by decide) (by decide) q.symm, show ¬ (11 : Int) = Int32.toInt kd from fun q => sw_ne (n := 11) hs177 (by decide) (by decide) q.symm, show ¬ (93 : Int) = Int32.toInt kd from fun q => sw_ne (n := 93) hs182 (by decide) (by decide) q.symm]) (by decide) ?_
            refine lv_aload_n hx hb dX4_work_250 rfl (lv_at hl 2 rfl) ?_
            refine lv_aload_n hx hb dX4_work_251 rfl (lv_at hl 3 rfl) ?_
            refine va_get (D := D) (ci := 7) (v := .ref (oq 2)) (C := RX7) (T := TX7) (N := 4) hx hb hts hin_X7 hown hK hP 3 rfl rfl 1 (by decide) (hts (.fieldLink RX4 44 "ClashFree$Program" "kinds" "[I") (List.mem_of_getElem? (i := 4) rfl)) (fun _ h9 => h9) rfl dX4_work_252 ?_
            refine lv_iload_n hx hb dX4_work_255 rfl (lv_at hl 1 rfl) ?_
            refine va_iald hx hb hK hP 4 0 rfl rfl (vp_in_nI (by omega) (by decide)) dX4_work_256 ?_
            refine lv_topi (fun v189 ev189 => ?_)
            obtain rfl : v189 = fK xa := ev189.trans (by rw [nI_clamp (by omega)])
            have hPc := hP.sub (ws' := [(ow 0, .inr (4, gMa ow (nI xst) xrf xlt xen (nI xlo) (nI xoz))), (ow 2, .inl (cI, 64, .inl gfP))]) [0, 2] rfl
            have hKc := hK.sub (tys' := [(cI, .int)]) [0] rfl
            have hDc := hD.sub (ws' := [(ow 0, .inr (4, gMa ow (nI xst) xrf xlt xen (nI xlo) (nI xoz))), (ow 2, .inl (cI, 64, .inl gfP))]) [0, 2] (by decide) rfl
            have hFc := va_free (wc := [(ow 0, .inr (4, gMa ow (nI xst) xrf xlt xen (nI xlo) (nI xoz))), (ow 2, .inl (cI, 64, .inl gfP))]) hD hS hA [0, 2] rfl
            refine va_callv (va_runV (As := [.int (fK xa)]) (rest := []) ⟨hx, hb, hml, hown, hts⟩ (k_calculate l D _ ow cI xst xrf xlt xen xlo xoz gfP (fK xa) hoz) (cwV 1 hts g_k_work_k_calculate_72 rfl rfl rfl (by decide +kernel) ⟨(Nat.le_of_ble_eq_true rfl), (Nat.le_of_ble_eq_true rfl)⟩) (PcWC_V (q0 := 0) hPc hKc hDc hN rfl rfl) rfl rfl hl.1 rfl (lv_room (Nat.le_of_ble_eq_true rfl)) dX4_work_257 ⟨(Nat.le_of_ble_eq_true rfl), (Nat.le_of_ble_eq_true rfl)⟩) hS (fun q _ h => hFc q h) hFc (fun uu tt H locs htt hvm hw hB hz1 hk1 hS => ?_)
            obtain ⟨w191, w192⟩ := uu
            obtain ⟨hP1, hK1, hD1⟩ := hB
            rw [htt] at hP1
            have hK1 := va_K.moved hvm.symm hK1
            have hP1 : va_P D vwCl [(ow 0, .inr (4, gMa ow (nI xst) xrf xlt xen (nI xlo) (nI w191))), (ow 2, .inl (cI, 64, .inl w192))] H := hP1
            obtain ⟨hP, hD⟩ := va_join (wr := [(ow 1, .inl (cI, 5, .inl gfR)), (oq 1, .inr (7, [.int (nI pz), .ref (oq 2), .ref (oq 3), .ref (oq 4)])), (oq 2, .inl (cI, 600, .inl fK)), (oq 3, .inl (cI, 600, .inl fN)), (oq 4, .inl (cI, 600, .inl fL)), (ob 0, .inr (9, gT ob tb ts tg xtl xtc xtr xtu xtv xtw)), (ob 1, .inr (0, [.long xsd, .int (nI xda), .int (nI xdb), .int xpr])), (ob 2, .inr (2, [.int (nI xcn), .ref (ob 3), .ref (ob 4)])), (ob 3, .inl (cI, 160, .inl gfk)), (ob 4, .inl (cI, 160, .inl gfv)), (ob 5, .inr (3, gY ob (nI xnb) (nI xka) (nI xkb) xsm (nI xln))), (ob 6, .inl (cI, 2048, .inl gfh)), (ob 7, .inl (cI, 2048, .inl gff)), (ob 8, .inl (cI, 2048, .inl gfa)), (ob 9, .inl (cI, 2048, .inl gfs)), (ob 10, .inl (cI, 160, .inl gfj)), (ob 11, .inl (cI, 160, .inl gfr)), (ob 12, .inl (cI, 160, .inl gfo)), (ob 13, .inl (cI, 2048, .inl gfx))]) (w1 := [(ow 0, .inr (4, gMa ow (nI xst) xrf xlt xen (nI xlo) (nI w191))), (ow 2, .inl (cI, 64, .inl w192))]) hP hD [0, 2] [1, 3, 4, 5, 6, 7, 8, 9, 10, 11, 12, 13, 14, 15, 16, 17, 18, 19, 20] rfl rfl (by decide) (by decide) hk1 hFc hP1 hD1
            have hP : va_P D vwCl [(ow 1, .inl (cI, 5, .inl gfR)), (oq 1, .inr (7, [.int (nI pz), .ref (oq 2), .ref (oq 3), .ref (oq 4)])), (oq 2, .inl (cI, 600, .inl fK)), (oq 3, .inl (cI, 600, .inl fN)), (oq 4, .inl (cI, 600, .inl fL)), (ob 0, .inr (9, gT ob tb ts tg xtl xtc xtr xtu xtv xtw)), (ob 1, .inr (0, [.long xsd, .int (nI xda), .int (nI xdb), .int xpr])), (ob 2, .inr (2, [.int (nI xcn), .ref (ob 3), .ref (ob 4)])), (ob 3, .inl (cI, 160, .inl gfk)), (ob 4, .inl (cI, 160, .inl gfv)), (ob 5, .inr (3, gY ob (nI xnb) (nI xka) (nI xkb) xsm (nI xln))), (ob 6, .inl (cI, 2048, .inl gfh)), (ob 7, .inl (cI, 2048, .inl gff)), (ob 8, .inl (cI, 2048, .inl gfa)), (ob 9, .inl (cI, 2048, .inl gfs)), (ob 10, .inl (cI, 160, .inl gfj)), (ob 11, .inl (cI, 160, .inl gfr)), (ob 12, .inl (cI, 160, .inl gfo)), (ob 13, .inl (cI, 2048, .inl gfx)), (ow 0, .inr (4, gMa ow (nI xst) xrf xlt xen (nI xlo) (nI w191))), (ow 2, .inl (cI, 64, .inl w192))] H := hP
            have hD : va_D A [(ow 1, .inl (cI, 5, .inl gfR)), (oq 1, .inr (7, [.int (nI pz), .ref (oq 2), .ref (oq 3), .ref (oq 4)])), (oq 2, .inl (cI, 600, .inl fK)), (oq 3, .inl (cI, 600, .inl fN)), (oq 4, .inl (cI, 600, .inl fL)), (ob 0, .inr (9, gT ob tb ts tg xtl xtc xtr xtu xtv xtw)), (ob 1, .inr (0, [.long xsd, .int (nI xda), .int (nI xdb), .int xpr])), (ob 2, .inr (2, [.int (nI xcn), .ref (ob 3), .ref (ob 4)])), (ob 3, .inl (cI, 160, .inl gfk)), (ob 4, .inl (cI, 160, .inl gfv)), (ob 5, .inr (3, gY ob (nI xnb) (nI xka) (nI xkb) xsm (nI xln))), (ob 6, .inl (cI, 2048, .inl gfh)), (ob 7, .inl (cI, 2048, .inl gff)), (ob 8, .inl (cI, 2048, .inl gfa)), (ob 9, .inl (cI, 2048, .inl gfs)), (ob 10, .inl (cI, 160, .inl gfj)), (ob 11, .inl (cI, 160, .inl gfr)), (ob 12, .inl (cI, 160, .inl gfo)), (ob 13, .inl (cI, 2048, .inl gfx)), (ow 0, .inr (4, gMa ow (nI xst) xrf xlt xen (nI xlo) (nI w191))), (ow 2, .inl (cI, 64, .inl w192))] := hD
            try dsimp only at hw
            clear hz1 hk1 hFc hPc hKc hDc
            obtain ⟨hm193_hoz, hm193_v⟩ := hw
            refine lv_iinc (v := nI (xa + 1)) (lv' := [(3, .int (nI (xa + 1))), (4, .int (nI n8)), (0, .ref (ow 0)), (1, .ref (oq 1)), (2, .ref (ob 0))]) hx hb dX4_work_260 hl (k := 1) rfl (nI_1 _) (by decide) rfl (fun ls hl => ?_)
            refine lv_iinc (v := nI (n8 + 1)) (lv' := [(4, .int (nI (n8 + 1))), (3, .int (nI (xa + 1))), (0, .ref (ow 0)), (1, .ref (oq 1)), (2, .ref (ob 0))]) hx hb dX4_work_263 hl (k := 1) rfl (nI_1 _) (by decide) rfl (fun ls hl => ?_)
            refine lv_goto (tgt := 5) hx hb dX4_work_266 (by decide) ?_
            exact ih (n8 + 1) (nI (xa + 1)) xst xrf xlt xen xlo w191 gfR w192 xtr xtl xtc xtu xtv xtw xsd xda xdb xpr xcn gfk gfv xnb xka xkb xsm xln gfh gff gfa gfs gfj gfr gfo gfx (by omega) (hst) (hlo) (hm193_hoz) (hTb) ((fun g L hG hF hS => by
                have hpg := hG.1
                obtain ⟨g1, g2, g3⟩ := hG.2.2.2.2 xa (by omega)
                have gK := hG.2.1 xa (by omega)
                obtain ⟨T, lS, oS, s1, k1, ⟨l1, l2, l3⟩, ⟨o1, o2⟩, m1, st3⟩ := (hX g L hG hF hS).go (by omega) (by omega) hen
                have hn2 : ¬ g.2.1 xa = 2 := fun q => absurd (ekd.trans (gK.trans (congrArg nI q))) (by assumption)
                have hn3 : ¬ g.2.1 xa = 3 := fun q => absurd (ekd.trans (gK.trans (congrArg nI q))) (by assumption)
                have hn5 : ¬ g.2.1 xa = 5 := fun q => absurd (ekd.trans (gK.trans (congrArg nI q))) (by assumption)
                have hn6 : ¬ g.2.1 xa = 6 := fun q => absurd (ekd.trans (gK.trans (congrArg nI q))) (by assumption)
                have hn7 : ¬ g.2.1 xa = 7 := fun q => absurd (ekd.trans (gK.trans (congrArg nI q))) (by assumption)
                have hn8 : ¬ g.2.1 xa = 8 := fun q => absurd (ekd.trans (gK.trans (congrArg nI q))) (by assumption)
                have hn9 : ¬ g.2.1 xa = 9 := fun q => absurd (ekd.trans (gK.trans (congrArg nI q))) (by assumption)
                have hn10 : ¬ g.2.1 xa = 10 := fun q => absurd (ekd.trans (gK.trans (congrArg nI q))) (by assumption)
                have hn11 : ¬ g.2.1 xa = 11 := fun q => absurd (ekd.trans (gK.trans (congrArg nI q))) (by assumption)
                have hn93 : ¬ g.2.1 xa = 93 := fun q => absurd (ekd.trans (gK.trans (congrArg nI q))) (by assumption)
                exact WkX.mk s1 m1 (sC_s (by omega) (by omega)) (rfl) (by omega) (by omega) (hen) (k1) (⟨l1, l2, l3⟩) (hm193_v oS (g.2.1 xa) gK (by omega) o1 o2) (fun _ => Or.inl ⟨rfl, by omega⟩) (st3))) (by omega) H locs ls (hP.sub [19, 0, 20, 1, 2, 3, 4, 5, 6, 7, 8, 9, 10, 11, 12, 13, 14, 15, 16, 17, 18] rfl) (hD.sub [19, 0, 20, 1, 2, 3, 4, 5, 6, 7, 8, 9, 10, 11, 12, 13, 14, 15, 16, 17, 18] (by decide) rfl) hS (lv_sub hl [0, 1, 2, 3, 4] rfl)
set_option maxHeartbeats 4000000 in
set_option maxRecDepth 100000 in
theorem k_work (l : Launch) (D : va_G) (sz : Nat) (ow : Nat → Nat) (oq : Nat → Nat) (ob : Nat → Nat) (cI : ClassId) (st : Nat) (rf : Int32) (lt : Int32) (en : Int32) (lo : Nat) (oz : Nat) (fR : Nat → Int32) (fP : Nat → Int32) (pz : Nat) (fK : Nat → Int32) (fN : Nat → Int32) (fL : Nat → Int32) (tb : Int32) (ts : Int32) (tg : Int32) (tl : Int32) (tc : Int32) (tr : Int32) (tu : Int32) (tv : Int32) (tw : Int32) (sd : Int64) (da : Nat) (db : Nat) (pr : Int32) (cn : Nat) (fk : Nat → Int32) (fv : Nat → Int32) (nb : Nat) (ka : Nat) (kb : Nat) (sm : Int32) (ln : Nat) (fh : Nat → Int32) (ff : Nat → Int32) (fa : Nat → Int32) (fs : Nat → Int32) (fj : Nat → Int32) (fr : Nat → Int32) (fo : Nat → Int32) (fx : Nat → Int32) (hst : st ≤ 300) (hlo : lo ≤ 5) (hoz : oz ≤ 64) (hpz : pz ≤ 600) (hTb : TbI fk fj fh fo cn nb ka kb ln da db) : Met l yX4_work wp_k_work ({ frames := 10, cells := 0, slots := 0, locals := 340 }) (PcWC D [.ref (ow 0), .ref (oq 1), .ref (ob 0)] sz [(ow 0, .inr (4, gMa ow (nI st) rf lt en (nI lo) (nI oz))), (ow 1, .inl (cI, 5, .inl fR)), (ow 2, .inl (cI, 64, .inl fP)), (oq 1, .inr (7, [.int (nI pz), .ref (oq 2), .ref (oq 3), .ref (oq 4)])), (oq 2, .inl (cI, 600, .inl fK)), (oq 3, .inl (cI, 600, .inl fN)), (oq 4, .inl (cI, 600, .inl fL)), (ob 0, .inr (9, gT ob tb ts tg tl tc tr tu tv tw)), (ob 1, .inr (0, [.long sd, .int (nI da), .int (nI db), .int pr])), (ob 2, .inr (2, [.int (nI cn), .ref (ob 3), .ref (ob 4)])), (ob 3, .inl (cI, 160, .inl fk)), (ob 4, .inl (cI, 160, .inl fv)), (ob 5, .inr (3, gY ob (nI nb) (nI ka) (nI kb) sm (nI ln))), (ob 6, .inl (cI, 2048, .inl fh)), (ob 7, .inl (cI, 2048, .inl ff)), (ob 8, .inl (cI, 2048, .inl fa)), (ob 9, .inl (cI, 2048, .inl fs)), (ob 10, .inl (cI, 160, .inl fj)), (ob 11, .inl (cI, 160, .inl fr)), (ob 12, .inl (cI, 160, .inl fo)), (ob 13, .inl (cI, 2048, .inl fx))] [(cI, .int)]) (va_Qv (fun (u : (Nat) × (Int32) × (Int32) × (Int32) × (Nat) × (Nat) × (Nat → Int32) × (Nat → Int32) × (Int32) × (Int32) × (Int32) × (Int32) × (Int32) × (Int32) × (Int64) × (Nat) × (Nat) × (Int32) × (Nat) × (Nat → Int32) × (Nat → Int32) × (Nat) × (Nat) × (Nat) × (Int32) × (Nat) × (Nat → Int32) × (Nat → Int32) × (Nat → Int32) × (Nat → Int32) × (Nat → Int32) × (Nat → Int32) × (Nat → Int32) × (Nat → Int32)) => u.1 ≤ 300 ∧ u.2.2.2.2.1 ≤ 5 ∧ u.2.2.2.2.2.1 ≤ 64 ∧ (TbI u.2.2.2.2.2.2.2.2.2.2.2.2.2.2.2.2.2.2.2.1 u.2.2.2.2.2.2.2.2.2.2.2.2.2.2.2.2.2.2.2.2.2.2.2.2.2.2.2.2.2.2.1 u.2.2.2.2.2.2.2.2.2.2.2.2.2.2.2.2.2.2.2.2.2.2.2.2.2.2.1 u.2.2.2.2.2.2.2.2.2.2.2.2.2.2.2.2.2.2.2.2.2.2.2.2.2.2.2.2.2.2.2.2.1 u.2.2.2.2.2.2.2.2.2.2.2.2.2.2.2.2.2.2.1 u.2.2.2.2.2.2.2.2.2.2.2.2.2.2.2.2.2.2.2.2.2.1 u.2.2.2.2.2.2.2.2.2.2.2.2.2.2.2.2.2.2.2.2.2.2.1 u.2.2.2.2.2.2.2.2.2.2.2.2.2.2.2.2.2.2.2.2.2.2.2.1 u.2.2.2.2.2.2.2.2.2.2.2.2.2.2.2.2.2.2.2.2.2.2.2.2.2.1 u.2.2.2.2.2.2.2.2.2.2.2.2.2.2.2.1 u.2.2.2.2.2.2.2.2.2.2.2.2.2.2.2.2.1) ∧ ∀ g L, MatG g pz fK fN fL → FwG g → (KvT fk fv cn L ∧ st = 0 ∧ lt = 0 ∧ en = 0 ∧ lo = 0 ∧ oz = 0) → ∃ z : CC, star (stpC g) (0, false, 0, 0, L, [], []) z ∧ stpC g z = none ∧ u.1 = z.2.2.1 ∧ KvT u.2.2.2.2.2.2.2.2.2.2.2.2.2.2.2.2.2.2.2.1 u.2.2.2.2.2.2.2.2.2.2.2.2.2.2.2.2.2.2.2.2.1 u.2.2.2.2.2.2.2.2.2.2.2.2.2.2.2.2.2.2.1 z.2.2.2.2.1) (fun (u : (Nat) × (Int32) × (Int32) × (Int32) × (Nat) × (Nat) × (Nat → Int32) × (Nat → Int32) × (Int32) × (Int32) × (Int32) × (Int32) × (Int32) × (Int32) × (Int64) × (Nat) × (Nat) × (Int32) × (Nat) × (Nat → Int32) × (Nat → Int32) × (Nat) × (Nat) × (Nat) × (Int32) × (Nat) × (Nat → Int32) × (Nat → Int32) × (Nat → Int32) × (Nat → Int32) × (Nat → Int32) × (Nat → Int32) × (Nat → Int32) × (Nat → Int32)) t => va_P D vwCl [(ow 0, .inr (4, gMa ow (nI u.1) u.2.1 u.2.2.1 u.2.2.2.1 (nI u.2.2.2.2.1) (nI u.2.2.2.2.2.1))), (ow 1, .inl (cI, 5, .inl u.2.2.2.2.2.2.1)), (ow 2, .inl (cI, 64, .inl u.2.2.2.2.2.2.2.1)), (oq 1, .inr (7, [.int (nI pz), .ref (oq 2), .ref (oq 3), .ref (oq 4)])), (oq 2, .inl (cI, 600, .inl fK)), (oq 3, .inl (cI, 600, .inl fN)), (oq 4, .inl (cI, 600, .inl fL)), (ob 0, .inr (9, gT ob tb ts tg u.2.2.2.2.2.2.2.2.2.1 u.2.2.2.2.2.2.2.2.2.2.1 u.2.2.2.2.2.2.2.2.1 u.2.2.2.2.2.2.2.2.2.2.2.1 u.2.2.2.2.2.2.2.2.2.2.2.2.1 u.2.2.2.2.2.2.2.2.2.2.2.2.2.1)), (ob 1, .inr (0, [.long u.2.2.2.2.2.2.2.2.2.2.2.2.2.2.1, .int (nI u.2.2.2.2.2.2.2.2.2.2.2.2.2.2.2.1), .int (nI u.2.2.2.2.2.2.2.2.2.2.2.2.2.2.2.2.1), .int u.2.2.2.2.2.2.2.2.2.2.2.2.2.2.2.2.2.1])), (ob 2, .inr (2, [.int (nI u.2.2.2.2.2.2.2.2.2.2.2.2.2.2.2.2.2.2.1), .ref (ob 3), .ref (ob 4)])), (ob 3, .inl (cI, 160, .inl u.2.2.2.2.2.2.2.2.2.2.2.2.2.2.2.2.2.2.2.1)), (ob 4, .inl (cI, 160, .inl u.2.2.2.2.2.2.2.2.2.2.2.2.2.2.2.2.2.2.2.2.1)), (ob 5, .inr (3, gY ob (nI u.2.2.2.2.2.2.2.2.2.2.2.2.2.2.2.2.2.2.2.2.2.1) (nI u.2.2.2.2.2.2.2.2.2.2.2.2.2.2.2.2.2.2.2.2.2.2.1) (nI u.2.2.2.2.2.2.2.2.2.2.2.2.2.2.2.2.2.2.2.2.2.2.2.1) u.2.2.2.2.2.2.2.2.2.2.2.2.2.2.2.2.2.2.2.2.2.2.2.2.1 (nI u.2.2.2.2.2.2.2.2.2.2.2.2.2.2.2.2.2.2.2.2.2.2.2.2.2.1))), (ob 6, .inl (cI, 2048, .inl u.2.2.2.2.2.2.2.2.2.2.2.2.2.2.2.2.2.2.2.2.2.2.2.2.2.2.1)), (ob 7, .inl (cI, 2048, .inl u.2.2.2.2.2.2.2.2.2.2.2.2.2.2.2.2.2.2.2.2.2.2.2.2.2.2.2.1)), (ob 8, .inl (cI, 2048, .inl u.2.2.2.2.2.2.2.2.2.2.2.2.2.2.2.2.2.2.2.2.2.2.2.2.2.2.2.2.1)), (ob 9, .inl (cI, 2048, .inl u.2.2.2.2.2.2.2.2.2.2.2.2.2.2.2.2.2.2.2.2.2.2.2.2.2.2.2.2.2.1)), (ob 10, .inl (cI, 160, .inl u.2.2.2.2.2.2.2.2.2.2.2.2.2.2.2.2.2.2.2.2.2.2.2.2.2.2.2.2.2.2.1)), (ob 11, .inl (cI, 160, .inl u.2.2.2.2.2.2.2.2.2.2.2.2.2.2.2.2.2.2.2.2.2.2.2.2.2.2.2.2.2.2.2.1)), (ob 12, .inl (cI, 160, .inl u.2.2.2.2.2.2.2.2.2.2.2.2.2.2.2.2.2.2.2.2.2.2.2.2.2.2.2.2.2.2.2.2.1)), (ob 13, .inl (cI, 2048, .inl u.2.2.2.2.2.2.2.2.2.2.2.2.2.2.2.2.2.2.2.2.2.2.2.2.2.2.2.2.2.2.2.2.2))] t.heap ∧ va_K D vwCl [(cI, .int)] t ∧ va_D (va_A [(ow 0, .inr (4, gMa ow (nI st) rf lt en (nI lo) (nI oz))), (ow 1, .inl (cI, 5, .inl fR)), (ow 2, .inl (cI, 64, .inl fP)), (oq 1, .inr (7, [.int (nI pz), .ref (oq 2), .ref (oq 3), .ref (oq 4)])), (oq 2, .inl (cI, 600, .inl fK)), (oq 3, .inl (cI, 600, .inl fN)), (oq 4, .inl (cI, 600, .inl fL)), (ob 0, .inr (9, gT ob tb ts tg tl tc tr tu tv tw)), (ob 1, .inr (0, [.long sd, .int (nI da), .int (nI db), .int pr])), (ob 2, .inr (2, [.int (nI cn), .ref (ob 3), .ref (ob 4)])), (ob 3, .inl (cI, 160, .inl fk)), (ob 4, .inl (cI, 160, .inl fv)), (ob 5, .inr (3, gY ob (nI nb) (nI ka) (nI kb) sm (nI ln))), (ob 6, .inl (cI, 2048, .inl fh)), (ob 7, .inl (cI, 2048, .inl ff)), (ob 8, .inl (cI, 2048, .inl fa)), (ob 9, .inl (cI, 2048, .inl fs)), (ob 10, .inl (cI, 160, .inl fj)), (ob 11, .inl (cI, 160, .inl fr)), (ob 12, .inl (cI, 160, .inl fo)), (ob 13, .inl (cI, 2048, .inl fx))] sz) [(ow 0, .inr (4, gMa ow (nI u.1) u.2.1 u.2.2.1 u.2.2.2.1 (nI u.2.2.2.2.1) (nI u.2.2.2.2.2.1))), (ow 1, .inl (cI, 5, .inl u.2.2.2.2.2.2.1)), (ow 2, .inl (cI, 64, .inl u.2.2.2.2.2.2.2.1)), (oq 1, .inr (7, [.int (nI pz), .ref (oq 2), .ref (oq 3), .ref (oq 4)])), (oq 2, .inl (cI, 600, .inl fK)), (oq 3, .inl (cI, 600, .inl fN)), (oq 4, .inl (cI, 600, .inl fL)), (ob 0, .inr (9, gT ob tb ts tg u.2.2.2.2.2.2.2.2.2.1 u.2.2.2.2.2.2.2.2.2.2.1 u.2.2.2.2.2.2.2.2.1 u.2.2.2.2.2.2.2.2.2.2.2.1 u.2.2.2.2.2.2.2.2.2.2.2.2.1 u.2.2.2.2.2.2.2.2.2.2.2.2.2.1)), (ob 1, .inr (0, [.long u.2.2.2.2.2.2.2.2.2.2.2.2.2.2.1, .int (nI u.2.2.2.2.2.2.2.2.2.2.2.2.2.2.2.1), .int (nI u.2.2.2.2.2.2.2.2.2.2.2.2.2.2.2.2.1), .int u.2.2.2.2.2.2.2.2.2.2.2.2.2.2.2.2.2.1])), (ob 2, .inr (2, [.int (nI u.2.2.2.2.2.2.2.2.2.2.2.2.2.2.2.2.2.2.1), .ref (ob 3), .ref (ob 4)])), (ob 3, .inl (cI, 160, .inl u.2.2.2.2.2.2.2.2.2.2.2.2.2.2.2.2.2.2.2.1)), (ob 4, .inl (cI, 160, .inl u.2.2.2.2.2.2.2.2.2.2.2.2.2.2.2.2.2.2.2.2.1)), (ob 5, .inr (3, gY ob (nI u.2.2.2.2.2.2.2.2.2.2.2.2.2.2.2.2.2.2.2.2.2.1) (nI u.2.2.2.2.2.2.2.2.2.2.2.2.2.2.2.2.2.2.2.2.2.2.1) (nI u.2.2.2.2.2.2.2.2.2.2.2.2.2.2.2.2.2.2.2.2.2.2.2.1) u.2.2.2.2.2.2.2.2.2.2.2.2.2.2.2.2.2.2.2.2.2.2.2.2.1 (nI u.2.2.2.2.2.2.2.2.2.2.2.2.2.2.2.2.2.2.2.2.2.2.2.2.2.1))), (ob 6, .inl (cI, 2048, .inl u.2.2.2.2.2.2.2.2.2.2.2.2.2.2.2.2.2.2.2.2.2.2.2.2.2.2.1)), (ob 7, .inl (cI, 2048, .inl u.2.2.2.2.2.2.2.2.2.2.2.2.2.2.2.2.2.2.2.2.2.2.2.2.2.2.2.1)), (ob 8, .inl (cI, 2048, .inl u.2.2.2.2.2.2.2.2.2.2.2.2.2.2.2.2.2.2.2.2.2.2.2.2.2.2.2.2.1)), (ob 9, .inl (cI, 2048, .inl u.2.2.2.2.2.2.2.2.2.2.2.2.2.2.2.2.2.2.2.2.2.2.2.2.2.2.2.2.2.1)), (ob 10, .inl (cI, 160, .inl u.2.2.2.2.2.2.2.2.2.2.2.2.2.2.2.2.2.2.2.2.2.2.2.2.2.2.2.2.2.2.1)), (ob 11, .inl (cI, 160, .inl u.2.2.2.2.2.2.2.2.2.2.2.2.2.2.2.2.2.2.2.2.2.2.2.2.2.2.2.2.2.2.2.1)), (ob 12, .inl (cI, 160, .inl u.2.2.2.2.2.2.2.2.2.2.2.2.2.2.2.2.2.2.2.2.2.2.2.2.2.2.2.2.2.2.2.2.1)), (ob 13, .inl (cI, 2048, .inl u.2.2.2.2.2.2.2.2.2.2.2.2.2.2.2.2.2.2.2.2.2.2.2.2.2.2.2.2.2.2.2.2.2))]) (va_A [(ow 0, .inr (4, gMa ow (nI st) rf lt en (nI lo) (nI oz))), (ow 1, .inl (cI, 5, .inl fR)), (ow 2, .inl (cI, 64, .inl fP)), (oq 1, .inr (7, [.int (nI pz), .ref (oq 2), .ref (oq 3), .ref (oq 4)])), (oq 2, .inl (cI, 600, .inl fK)), (oq 3, .inl (cI, 600, .inl fN)), (oq 4, .inl (cI, 600, .inl fL)), (ob 0, .inr (9, gT ob tb ts tg tl tc tr tu tv tw)), (ob 1, .inr (0, [.long sd, .int (nI da), .int (nI db), .int pr])), (ob 2, .inr (2, [.int (nI cn), .ref (ob 3), .ref (ob 4)])), (ob 3, .inl (cI, 160, .inl fk)), (ob 4, .inl (cI, 160, .inl fv)), (ob 5, .inr (3, gY ob (nI nb) (nI ka) (nI kb) sm (nI ln))), (ob 6, .inl (cI, 2048, .inl fh)), (ob 7, .inl (cI, 2048, .inl ff)), (ob 8, .inl (cI, 2048, .inl fa)), (ob 9, .inl (cI, 2048, .inl fs)), (ob 10, .inl (cI, 160, .inl fj)), (ob 11, .inl (cI, 160, .inl fr)), (ob 12, .inl (cI, 160, .inl fo)), (ob 13, .inl (cI, 2048, .inl fx))] sz)) 0 0 (va_A [(ow 0, .inr (4, gMa ow (nI st) rf lt en (nI lo) (nI oz))), (ow 1, .inl (cI, 5, .inl fR)), (ow 2, .inl (cI, 64, .inl fP)), (oq 1, .inr (7, [.int (nI pz), .ref (oq 2), .ref (oq 3), .ref (oq 4)])), (oq 2, .inl (cI, 600, .inl fK)), (oq 3, .inl (cI, 600, .inl fN)), (oq 4, .inl (cI, 600, .inl fL)), (ob 0, .inr (9, gT ob tb ts tg tl tc tr tu tv tw)), (ob 1, .inr (0, [.long sd, .int (nI da), .int (nI db), .int pr])), (ob 2, .inr (2, [.int (nI cn), .ref (ob 3), .ref (ob 4)])), (ob 3, .inl (cI, 160, .inl fk)), (ob 4, .inl (cI, 160, .inl fv)), (ob 5, .inr (3, gY ob (nI nb) (nI ka) (nI kb) sm (nI ln))), (ob 6, .inl (cI, 2048, .inl fh)), (ob 7, .inl (cI, 2048, .inl ff)), (ob 8, .inl (cI, 2048, .inl fa)), (ob 9, .inl (cI, 2048, .inl fs)), (ob 10, .inl (cI, 160, .inl fj)), (ob 11, .inl (cI, 160, .inl fr)), (ob 12, .inl (cI, 160, .inl fo)), (ob 13, .inl (cI, 2048, .inl fx))] sz) := by
  refine Met.ofW (cc := cX4_work) (maxL := 5) (ret := none) (by decide) rfl ?_
  intro p e s m args below meth c s₁ B hml hv
  obtain ⟨rfl, hsz, hP, hK, hD0, hN⟩ := hv
  have hx := B.exec
  have hb := B.bytes
  have hr := B.returns
  have hts := atoms_spec (ws := wp_k_work) B.pre
  have hin_X7 : ∀ w ∈ wsX70, w ∈ wp_k_work := fun _ h => (List.mem_cons_of_mem _ (List.mem_append_right _ (List.mem_append_right _ (List.mem_append_right _ (List.mem_append_right _ (List.mem_append_right _ (List.mem_append_right _ (List.mem_append_right _ (List.mem_append_left _ h)))))))))
  have hin_X4 : ∀ w ∈ wsX40, w ∈ wp_k_work := fun _ h => (List.mem_cons_of_mem _ (List.mem_append_right _ (List.mem_append_right _ (List.mem_append_right _ (List.mem_append_right _ (List.mem_append_right _ (List.mem_append_right _ (List.mem_append_right _ (List.mem_append_right _ (List.mem_append_left _ h))))))))))
  have hown : s.vm.findClass RX4 = some m.cls := findClass_of_methodNamed B.named
  have hlocks := B.notSynchronized
  subst hsz
  have hD := hD0.self (sz := s.heap.size)
  generalize hAe : va_A [(ow 0, .inr (4, gMa ow (nI st) rf lt en (nI lo) (nI oz))), (ow 1, .inl (cI, 5, .inl fR)), (ow 2, .inl (cI, 64, .inl fP)), (oq 1, .inr (7, [.int (nI pz), .ref (oq 2), .ref (oq 3), .ref (oq 4)])), (oq 2, .inl (cI, 600, .inl fK)), (oq 3, .inl (cI, 600, .inl fN)), (oq 4, .inl (cI, 600, .inl fL)), (ob 0, .inr (9, gT ob tb ts tg tl tc tr tu tv tw)), (ob 1, .inr (0, [.long sd, .int (nI da), .int (nI db), .int pr])), (ob 2, .inr (2, [.int (nI cn), .ref (ob 3), .ref (ob 4)])), (ob 3, .inl (cI, 160, .inl fk)), (ob 4, .inl (cI, 160, .inl fv)), (ob 5, .inr (3, gY ob (nI nb) (nI ka) (nI kb) sm (nI ln))), (ob 6, .inl (cI, 2048, .inl fh)), (ob 7, .inl (cI, 2048, .inl ff)), (ob 8, .inl (cI, 2048, .inl fa)), (ob 9, .inl (cI, 2048, .inl fs)), (ob 10, .inl (cI, 160, .inl fj)), (ob 11, .inl (cI, 160, .inl fr)), (ob 12, .inl (cI, 160, .inl fo)), (ob 13, .inl (cI, 2048, .inl fx))] s.heap.size = A at hD ⊢
  have hA : ∀ q : Nat, s.heap.size ≤ q → A q := fun q h => by rw [← hAe]; exact Or.inr h
  have hS : va_S A s.heap s.heap [] := va_S.rf
  have hP : va_P D vwCl [(ow 0, .inr (4, gMa ow (nI st) rf lt en (nI lo) (nI oz))), (ow 1, .inl (cI, 5, .inl fR)), (ow 2, .inl (cI, 64, .inl fP)), (oq 1, .inr (7, [.int (nI pz), .ref (oq 2), .ref (oq 3), .ref (oq 4)])), (oq 2, .inl (cI, 600, .inl fK)), (oq 3, .inl (cI, 600, .inl fN)), (oq 4, .inl (cI, 600, .inl fL)), (ob 0, .inr (9, gT ob tb ts tg tl tc tr tu tv tw)), (ob 1, .inr (0, [.long sd, .int (nI da), .int (nI db), .int pr])), (ob 2, .inr (2, [.int (nI cn), .ref (ob 3), .ref (ob 4)])), (ob 3, .inl (cI, 160, .inl fk)), (ob 4, .inl (cI, 160, .inl fv)), (ob 5, .inr (3, gY ob (nI nb) (nI ka) (nI kb) sm (nI ln))), (ob 6, .inl (cI, 2048, .inl fh)), (ob 7, .inl (cI, 2048, .inl ff)), (ob 8, .inl (cI, 2048, .inl fa)), (ob 9, .inl (cI, 2048, .inl fs)), (ob 10, .inl (cI, 160, .inl fj)), (ob 11, .inl (cI, 160, .inl fr)), (ob 12, .inl (cI, 160, .inl fo)), (ob 13, .inl (cI, 2048, .inl fx))] s.heap := hP
  have hl := lv_entry ([.ref (ow 0), .ref (oq 1), .ref (ob 0)]) (n := 5) (Nat.le_of_ble_eq_true rfl)
  rw [lg_entry_eq]
  generalize (lg_sl ([.ref (ow 0), .ref (oq 1), .ref (ob 0)]) ++ List.replicate (5 - (lg_sl ([.ref (ow 0), .ref (oq 1), .ref (ob 0)])).length) Slot.unset).toArray = ls at hl ⊢
  have hl : lv_has ls 5 [(0, .ref (ow 0)), (1, .ref (oq 1)), (2, .ref (ob 0))] := hl
  refine lv_iconst (v := 0) hx hb dX4_work_0 (by decide) ?_
  refine lv_istore_n (lv' := [(3, .int 0), (0, .ref (ow 0)), (1, .ref (oq 1)), (2, .ref (ob 0))]) hx hb dX4_work_1 rfl hl (by decide) rfl (fun ls hl => ?_)
  refine lv_iconst (v := 0) hx hb dX4_work_2 (by decide) ?_
  refine lv_istore (lv' := [(4, .int 0), (3, .int 0), (0, .ref (ow 0)), (1, .ref (oq 1)), (2, .ref (ob 0))]) hx hb dX4_work_3 hl (by decide) rfl (fun ls hl => ?_)
  refine lk_work l D ow oq ob cI pz fK fN fL tb ts tg (fun L => KvT fk fv cn L ∧ st = 0 ∧ lt = 0 ∧ en = 0 ∧ lo = 0 ∧ oz = 0) (hpz) hx hb hml hown hts hA (hK.sub [0] rfl) hN ?_ (1000001) 0 0 st rf lt en lo oz fR fP tr tl tc tu tv tw sd da db pr cn fk fv nb ka kb sm ln fh ff fa fs fj fr fo fx (by omega) (hst) (hlo) (hoz) (hTb) (fun g L _ _ hS => by
      obtain ⟨q1, rfl, rfl, rfl, rfl, rfl⟩ := hS
      exact WkX_0 q1) (by omega) _ _ _ (hP.sub [0, 1, 2, 3, 4, 5, 6, 7, 8, 9, 10, 11, 12, 13, 14, 15, 16, 17, 18, 19, 20] rfl) (hD.sub [0, 1, 2, 3, 4, 5, 6, 7, 8, 9, 10, 11, 12, 13, 14, 15, 16, 17, 18, 19, 20] (by decide) rfl) hS (lv_sub hl [0, 1, 2, 3, 4] rfl)
  intro n8_1 az_2 xst_3 xrf_4 xlt_5 xen_6 xlo_7 xoz_8 gfR_9 gfP_10 xtr_11 xtl_12 xtc_13 xtu_14 xtv_15 xtw_16 xsd_17 xda_18 xdb_19 xpr_20 xcn_21 gfk_22 gfv_23 xnb_24 xka_25 xkb_26 xsm_27 xln_28 gfh_29 gff_30 gfa_31 gfs_32 gfj_33 gfr_34 gfo_35 gfx_36 h8_37 hst_38 hlo_39 hoz_40 hTb_41 hX_42 hx43 H locs ls hP hD hS hl
  exact W.vret hx hb hr (fun t ht hW => ⟨⟨(xst_3, xrf_4, xlt_5, xen_6, xlo_7, xoz_8, gfR_9, gfP_10, xtr_11, xtl_12, xtc_13, xtu_14, xtv_15, xtw_16, xsd_17, xda_18, xdb_19, xpr_20, xcn_21, gfk_22, gfv_23, xnb_24, xka_25, xkb_26, xsm_27, xln_28, gfh_29, gff_30, gfa_31, gfs_32, gfj_33, gfr_34, gfo_35, gfx_36), rfl, (by (try dsimp only); first | done | exact ⟨hst_38, hlo_39, hoz_40, hTb_41, hx43⟩), by rw [ht]; exact hP.sub [0, 1, 2, 3, 4, 5, 6, 7, 8, 9, 10, 11, 12, 13, 14, 15, 16, 17, 18, 19, 20] rfl, va_K.moved hW.alike (hK.sub [0] rfl), hD.sub [0, 1, 2, 3, 4, 5, 6, 7, 8, 9, 10, 11, 12, 13, 14, 15, 16, 17, 18, 19, 20] (by decide) rfl⟩, hS.F ht⟩) hS.2.2 dX4_work_269

