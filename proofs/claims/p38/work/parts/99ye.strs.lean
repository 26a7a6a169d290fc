set_option maxRecDepth 20000 in
theorem lww_225 : Cond.laysStatic RJ0 "COMPACT_STRINGS" "Z" ∈ lw_tbl := List.mem_of_getElem? (i := 964) (by decide +kernel)
set_option maxRecDepth 20000 in
theorem lww_226 : Cond.initialized RJ0 ∈ lw_tbl := List.mem_of_getElem? (i := 120) (by decide +kernel)
set_option maxRecDepth 20000 in
theorem lww_227 : Cond.laysStatic RJ3 "SIOOBE_FORMATTER" "Ljava/util/function/BiFunction;" ∈ lw_tbl := List.mem_of_getElem? (i := 980) (by decide +kernel)
set_option maxRecDepth 20000 in
theorem lww_228 : Cond.initialized RJ3 ∈ lw_tbl := List.mem_of_getElem? (i := 122) (by decide +kernel)
set_option maxRecDepth 20000 in
theorem lww_229 : Cond.stringRef RX8 66 "put" ∈ lw_tbl := List.mem_of_getElem? (i := 950) (by decide +kernel)
set_option maxRecDepth 20000 in
theorem lww_230 : Cond.stringRef RX8 72 "as" ∈ lw_tbl := List.mem_of_getElem? (i := 1003) (by decide +kernel)
set_option maxRecDepth 20000 in
theorem lww_231 : Cond.stringRef RX8 74 "drop" ∈ lw_tbl := List.mem_of_getElem? (i := 1004) (by decide +kernel)
set_option maxRecDepth 20000 in
theorem lww_232 : Cond.stringRef RX8 76 "get" ∈ lw_tbl := List.mem_of_getElem? (i := 1005) (by decide +kernel)
set_option maxRecDepth 20000 in
theorem lww_233 : Cond.stringRef RX8 78 "let" ∈ lw_tbl := List.mem_of_getElem? (i := 1006) (by decide +kernel)
set_option maxRecDepth 20000 in
theorem lww_234 : Cond.stringRef RX8 80 "for" ∈ lw_tbl := List.mem_of_getElem? (i := 1007) (by decide +kernel)
set_option maxRecDepth 20000 in
theorem lww_235 : Cond.stringRef RX8 82 "if" ∈ lw_tbl := List.mem_of_getElem? (i := 1008) (by decide +kernel)
set_option maxRecDepth 20000 in
theorem lww_236 : Cond.stringRef RX8 84 "i" ∈ lw_tbl := List.mem_of_getElem? (i := 1009) (by decide +kernel)
set_option maxRecDepth 20000 in
theorem lww_237 : Cond.stringRef RX8 86 "x" ∈ lw_tbl := List.mem_of_getElem? (i := 1010) (by decide +kernel)

def tmS (i : Nat) : Term := .string "ClashFree$Scanner" ([66, 72, 74, 76, 78, 80, 82, 84, 86].getD i 0)
theorem tmS_1 : ∀ i : Nat, i < 9 → Cond.exactly (tmS i) "java/lang/String" ∈ flatC (Jvm.Cond.and given_1 narrow_1) := by decide +kernel
theorem tmS_2 : ∀ i : Nat, i < 9 → Cond.eq (.field (tmS i) "java/lang/String" "coder" "B") (.int 0) ∈ flatC (Jvm.Cond.and given_1 narrow_1) := by decide +kernel
theorem tmS_3 : ∀ i : Nat, i < 9 → Cond.arrayOf (.field (tmS i) "java/lang/String" "value" "[B") .byte ∈ flatC (Jvm.Cond.and given_1 narrow_1) := by decide +kernel
theorem tmS_4 : ∀ i : Nat, i < 9 → Cond.eq (.length (.field (tmS i) "java/lang/String" "value" "[B")) (.int (Int32.ofNat (lenS.getD i 0))) ∈ flatC (Jvm.Cond.and given_1 narrow_1) := by decide +kernel
theorem tmS_5 : ∀ i : Nat, i < 9 → ∀ j : Nat, j < lenS.getD i 0 → Cond.eq (.elem (.field (tmS i) "java/lang/String" "value" "[B") (.int (Int32.ofNat j))) (.int ((bytS.getD i []).getD j 0)) ∈ flatC (Jvm.Cond.and given_1 narrow_1) := by decide +kernel
theorem tmS_6 : ∀ i : Nat, i < 9 → ∀ j : Nat, j < 9 → i ≠ j → Cond.not (Cond.eq (tmS i) (tmS j)) ∈ flatC (Jvm.Cond.and given_1 narrow_1) ∨ Cond.not (Cond.eq (tmS j) (tmS i)) ∈ flatC (Jvm.Cond.and given_1 narrow_1) := by decide +kernel
theorem ST_start {s : State} {b : Nat} {A : Nat → Prop} (hts : ∀ w ∈ lw_tbl, w.before #[Value.ref b] s = true) (hgv : (Jvm.Cond.and given_1 narrow_1).before #[Value.ref b] s = true) (hA : ∀ a : Nat, a < s.heap.size → ¬ A a) : ∃ adK adV : Nat → Nat, ST adK adV A s s.heap := by
  have hs := flat_of_before _ hgv
  obtain ⟨adK, adV, hk, hev⟩ := vk_Sof (N := 9) (tm := tmS) (len := lenS) (byt := bytS) (fun i hi => Nat.lt_of_le_of_lt (lenS_le i hi) (by decide)) (fun i hi => hs _ (tmS_1 i hi)) (fun i hi => hs _ (tmS_2 i hi)) (fun i hi => hs _ (tmS_3 i hi)) (fun i hi => hs _ (tmS_4 i hi)) (fun i hi j hj => hs _ (tmS_5 i hi j hj)) (fun i j hi hj hij => (tmS_6 i hi j hj hij).imp (hs _) (hs _)) hA
  exact ⟨adK, adV, hk, va_Zof (hts (.laysStatic RJ0 "COMPACT_STRINGS" "Z") lww_225) (hts (.initialized RJ0) lww_226) (va_eqi (hs _ (by decide +kernel))) hA, va_Zqof (hts (.laysStatic RJ3 "SIOOBE_FORMATTER" "Ljava/util/function/BiFunction;") lww_227) (hts (.initialized RJ3) lww_228) (hs _ (by decide +kernel)) hA, vk_R.of (hts (.stringRef RX8 66 "put") lww_229) (hev 0 (by decide)), vk_R.of (hts (.stringRef RX8 72 "as") lww_230) (hev 1 (by decide)), vk_R.of (hts (.stringRef RX8 74 "drop") lww_231) (hev 2 (by decide)), vk_R.of (hts (.stringRef RX8 76 "get") lww_232) (hev 3 (by decide)), vk_R.of (hts (.stringRef RX8 78 "let") lww_233) (hev 4 (by decide)), vk_R.of (hts (.stringRef RX8 80 "for") lww_234) (hev 5 (by decide)), vk_R.of (hts (.stringRef RX8 82 "if") lww_235) (hev 6 (by decide)), vk_R.of (hts (.stringRef RX8 84 "i") lww_236) (hev 7 (by decide)), vk_R.of (hts (.stringRef RX8 86 "x") lww_237) (hev 8 (by decide))⟩

