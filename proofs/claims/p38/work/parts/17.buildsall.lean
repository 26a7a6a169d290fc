theorem dX11_buildsAll_0 : decode cX11_buildsAll 0 = .ok (.aload_n 0, 1) := by decide +kernel
theorem dX11_buildsAll_1 : decode cX11_buildsAll 1 = .ok (.iload_n 1, 1) := by decide +kernel
theorem dX11_buildsAll_2 : decode cX11_buildsAll 2 = .ok (.invokevirtual 95, 3) := by decide +kernel
theorem dX11_buildsAll_5 : decode cX11_buildsAll 5 = .ok (.istore_n 2, 1) := by decide +kernel
theorem dX11_buildsAll_6 : decode cX11_buildsAll 6 = .ok (.aload_n 0, 1) := by decide +kernel
theorem dX11_buildsAll_7 : decode cX11_buildsAll 7 = .ok (.iload_n 1, 1) := by decide +kernel
theorem dX11_buildsAll_8 : decode cX11_buildsAll 8 = .ok (.iconst 2, 1) := by decide +kernel
theorem dX11_buildsAll_9 : decode cX11_buildsAll 9 = .ok (.iload_n 2, 1) := by decide +kernel
theorem dX11_buildsAll_10 : decode cX11_buildsAll 10 = .ok (.i2l, 1) := by decide +kernel
theorem dX11_buildsAll_11 : decode cX11_buildsAll 11 = .ok (.aload_n 0, 1) := by decide +kernel
theorem dX11_buildsAll_12 : decode cX11_buildsAll 12 = .ok (.iload_n 1, 1) := by decide +kernel
theorem dX11_buildsAll_13 : decode cX11_buildsAll 13 = .ok (.bipush 16, 2) := by decide +kernel
theorem dX11_buildsAll_15 : decode cX11_buildsAll 15 = .ok (.invokevirtual 89, 3) := by decide +kernel
theorem dX11_buildsAll_18 : decode cX11_buildsAll 18 = .ok (.iload_n 2, 1) := by decide +kernel
theorem dX11_buildsAll_19 : decode cX11_buildsAll 19 = .ok (.i2l, 1) := by decide +kernel
theorem dX11_buildsAll_20 : decode cX11_buildsAll 20 = .ok (.lmul, 1) := by decide +kernel
theorem dX11_buildsAll_21 : decode cX11_buildsAll 21 = .ok (.ldc2_w 158, 3) := by decide +kernel
theorem dX11_buildsAll_24 : decode cX11_buildsAll 24 = .ok (.ldiv, 1) := by decide +kernel
theorem dX11_buildsAll_25 : decode cX11_buildsAll 25 = .ok (.ladd, 1) := by decide +kernel
theorem dX11_buildsAll_26 : decode cX11_buildsAll 26 = .ok (.ldc2_w 160, 3) := by decide +kernel
theorem dX11_buildsAll_29 : decode cX11_buildsAll 29 = .ok (.ladd, 1) := by decide +kernel
theorem dX11_buildsAll_30 : decode cX11_buildsAll 30 = .ok (.invokevirtual 126, 3) := by decide +kernel
theorem dX11_buildsAll_33 : decode cX11_buildsAll 33 = .ok (.aload_n 0, 1) := by decide +kernel
theorem dX11_buildsAll_34 : decode cX11_buildsAll 34 = .ok (.iload_n 1, 1) := by decide +kernel
theorem dX11_buildsAll_35 : decode cX11_buildsAll 35 = .ok (.iconst 3, 1) := by decide +kernel
theorem dX11_buildsAll_36 : decode cX11_buildsAll 36 = .ok (.iload_n 2, 1) := by decide +kernel
theorem dX11_buildsAll_37 : decode cX11_buildsAll 37 = .ok (.i2l, 1) := by decide +kernel
theorem dX11_buildsAll_38 : decode cX11_buildsAll 38 = .ok (.invokevirtual 126, 3) := by decide +kernel
theorem dX11_buildsAll_41 : decode cX11_buildsAll 41 = .ok (.aload_n 0, 1) := by decide +kernel
theorem dX11_buildsAll_42 : decode cX11_buildsAll 42 = .ok (.iload_n 1, 1) := by decide +kernel
theorem dX11_buildsAll_43 : decode cX11_buildsAll 43 = .ok (.bipush 15, 2) := by decide +kernel
theorem dX11_buildsAll_45 : decode cX11_buildsAll 45 = .ok (.invokevirtual 89, 3) := by decide +kernel
theorem dX11_buildsAll_48 : decode cX11_buildsAll 48 = .ok (.aload_n 0, 1) := by decide +kernel
theorem dX11_buildsAll_49 : decode cX11_buildsAll 49 = .ok (.iload_n 1, 1) := by decide +kernel
theorem dX11_buildsAll_50 : decode cX11_buildsAll 50 = .ok (.iconst 2, 1) := by decide +kernel
theorem dX11_buildsAll_51 : decode cX11_buildsAll 51 = .ok (.invokevirtual 89, 3) := by decide +kernel
theorem dX11_buildsAll_54 : decode cX11_buildsAll 54 = .ok (.lmul, 1) := by decide +kernel
theorem dX11_buildsAll_55 : decode cX11_buildsAll 55 = .ok (.ldc2_w 158, 3) := by decide +kernel
theorem dX11_buildsAll_58 : decode cX11_buildsAll 58 = .ok (.ldiv, 1) := by decide +kernel
theorem dX11_buildsAll_59 : decode cX11_buildsAll 59 = .ok (.lstore_n 3, 1) := by decide +kernel
theorem dX11_buildsAll_60 : decode cX11_buildsAll 60 = .ok (.aload_n 0, 1) := by decide +kernel
theorem dX11_buildsAll_61 : decode cX11_buildsAll 61 = .ok (.iload_n 1, 1) := by decide +kernel
theorem dX11_buildsAll_62 : decode cX11_buildsAll 62 = .ok (.iconst 4, 1) := by decide +kernel
theorem dX11_buildsAll_63 : decode cX11_buildsAll 63 = .ok (.lload_n 3, 1) := by decide +kernel
theorem dX11_buildsAll_64 : decode cX11_buildsAll 64 = .ok (.lconst 1, 1) := by decide +kernel
theorem dX11_buildsAll_65 : decode cX11_buildsAll 65 = .ok (.lcmp, 1) := by decide +kernel
theorem dX11_buildsAll_66 : decode cX11_buildsAll 66 = .ok (.ifCond .ge 7, 3) := by decide +kernel
theorem dX11_buildsAll_73 : decode cX11_buildsAll 73 = .ok (.lload_n 3, 1) := by decide +kernel
theorem dX11_buildsAll_74 : decode cX11_buildsAll 74 = .ok (.invokevirtual 126, 3) := by decide +kernel
theorem dX11_buildsAll_77 : decode cX11_buildsAll 77 = .ok (.aload_n 0, 1) := by decide +kernel
theorem dX11_buildsAll_78 : decode cX11_buildsAll 78 = .ok (.iload_n 1, 1) := by decide +kernel
theorem dX11_buildsAll_79 : decode cX11_buildsAll 79 = .ok (.invokevirtual 162, 3) := by decide +kernel
theorem dX11_buildsAll_82 : decode cX11_buildsAll 82 = .ok (.aload_n 0, 1) := by decide +kernel
theorem dX11_buildsAll_83 : decode cX11_buildsAll 83 = .ok (.invokevirtual 141, 3) := by decide +kernel
theorem dX11_buildsAll_86 : decode cX11_buildsAll 86 = .ok (.aload_n 0, 1) := by decide +kernel
theorem dX11_buildsAll_87 : decode cX11_buildsAll 87 = .ok (.iload_n 1, 1) := by decide +kernel
theorem dX11_buildsAll_88 : decode cX11_buildsAll 88 = .ok (.aload_n 0, 1) := by decide +kernel
theorem dX11_buildsAll_89 : decode cX11_buildsAll 89 = .ok (.getfield 117, 3) := by decide +kernel
theorem dX11_buildsAll_92 : decode cX11_buildsAll 92 = .ok (.aload_n 0, 1) := by decide +kernel
theorem dX11_buildsAll_93 : decode cX11_buildsAll 93 = .ok (.getfield 120, 3) := by decide +kernel
theorem dX11_buildsAll_96 : decode cX11_buildsAll 96 = .ok (.iconst 2, 1) := by decide +kernel
theorem dX11_buildsAll_97 : decode cX11_buildsAll 97 = .ok (.invokevirtual 165, 3) := by decide +kernel
theorem dX11_buildsAll_100 : decode cX11_buildsAll 100 = .ok (.aload_n 0, 1) := by decide +kernel
theorem dX11_buildsAll_101 : decode cX11_buildsAll 101 = .ok (.iload_n 1, 1) := by decide +kernel
theorem dX11_buildsAll_102 : decode cX11_buildsAll 102 = .ok (.bipush 14, 2) := by decide +kernel
theorem dX11_buildsAll_104 : decode cX11_buildsAll 104 = .ok (.invokevirtual 89, 3) := by decide +kernel
theorem dX11_buildsAll_107 : decode cX11_buildsAll 107 = .ok (.aload_n 0, 1) := by decide +kernel
theorem dX11_buildsAll_108 : decode cX11_buildsAll 108 = .ok (.iload_n 1, 1) := by decide +kernel
theorem dX11_buildsAll_109 : decode cX11_buildsAll 109 = .ok (.iconst 2, 1) := by decide +kernel
theorem dX11_buildsAll_110 : decode cX11_buildsAll 110 = .ok (.invokevirtual 89, 3) := by decide +kernel
theorem dX11_buildsAll_113 : decode cX11_buildsAll 113 = .ok (.lmul, 1) := by decide +kernel
theorem dX11_buildsAll_114 : decode cX11_buildsAll 114 = .ok (.lcmp, 1) := by decide +kernel
theorem dX11_buildsAll_115 : decode cX11_buildsAll 115 = .ok (.ifCond .le 63, 3) := by decide +kernel
theorem dX11_buildsAll_118 : decode cX11_buildsAll 118 = .ok (.aload_n 0, 1) := by decide +kernel
theorem dX11_buildsAll_119 : decode cX11_buildsAll 119 = .ok (.getfield 123, 3) := by decide +kernel
theorem dX11_buildsAll_122 : decode cX11_buildsAll 122 = .ok (.sipush 400, 3) := by decide +kernel
theorem dX11_buildsAll_125 : decode cX11_buildsAll 125 = .ok (.if_icmp .ge 53, 3) := by decide +kernel
theorem dX11_buildsAll_128 : decode cX11_buildsAll 128 = .ok (.aload_n 0, 1) := by decide +kernel
theorem dX11_buildsAll_129 : decode cX11_buildsAll 129 = .ok (.getfield 123, 3) := by decide +kernel
theorem dX11_buildsAll_132 : decode cX11_buildsAll 132 = .ok (.bipush 20, 2) := by decide +kernel
theorem dX11_buildsAll_134 : decode cX11_buildsAll 134 = .ok (.irem, 1) := by decide +kernel
theorem dX11_buildsAll_135 : decode cX11_buildsAll 135 = .ok (.ifCond .ne 36, 3) := by decide +kernel
theorem dX11_buildsAll_138 : decode cX11_buildsAll 138 = .ok (.aload_n 0, 1) := by decide +kernel
theorem dX11_buildsAll_139 : decode cX11_buildsAll 139 = .ok (.iload_n 1, 1) := by decide +kernel
theorem dX11_buildsAll_140 : decode cX11_buildsAll 140 = .ok (.iconst 4, 1) := by decide +kernel
theorem dX11_buildsAll_141 : decode cX11_buildsAll 141 = .ok (.iconst 2, 1) := by decide +kernel
theorem dX11_buildsAll_142 : decode cX11_buildsAll 142 = .ok (.aload_n 0, 1) := by decide +kernel
theorem dX11_buildsAll_143 : decode cX11_buildsAll 143 = .ok (.iload_n 1, 1) := by decide +kernel
theorem dX11_buildsAll_144 : decode cX11_buildsAll 144 = .ok (.invokevirtual 152, 3) := by decide +kernel
theorem dX11_buildsAll_147 : decode cX11_buildsAll 147 = .ok (.imul, 1) := by decide +kernel
theorem dX11_buildsAll_148 : decode cX11_buildsAll 148 = .ok (.sipush 2048, 3) := by decide +kernel
theorem dX11_buildsAll_151 : decode cX11_buildsAll 151 = .ok (.if_icmp .le 9, 3) := by decide +kernel
theorem dX11_buildsAll_154 : decode cX11_buildsAll 154 = .ok (.ldc2_w 169, 3) := by decide +kernel
theorem dX11_buildsAll_157 : decode cX11_buildsAll 157 = .ok (.goto 11, 3) := by decide +kernel
theorem dX11_buildsAll_160 : decode cX11_buildsAll 160 = .ok (.iconst 2, 1) := by decide +kernel
theorem dX11_buildsAll_161 : decode cX11_buildsAll 161 = .ok (.aload_n 0, 1) := by decide +kernel
theorem dX11_buildsAll_162 : decode cX11_buildsAll 162 = .ok (.iload_n 1, 1) := by decide +kernel
theorem dX11_buildsAll_163 : decode cX11_buildsAll 163 = .ok (.invokevirtual 152, 3) := by decide +kernel
theorem dX11_buildsAll_166 : decode cX11_buildsAll 166 = .ok (.imul, 1) := by decide +kernel
theorem dX11_buildsAll_167 : decode cX11_buildsAll 167 = .ok (.i2l, 1) := by decide +kernel
theorem dX11_buildsAll_168 : decode cX11_buildsAll 168 = .ok (.invokevirtual 126, 3) := by decide +kernel
theorem dX11_buildsAll_171 : decode cX11_buildsAll 171 = .ok (.aload_n 0, 1) := by decide +kernel
theorem dX11_buildsAll_172 : decode cX11_buildsAll 172 = .ok (.invokevirtual 141, 3) := by decide +kernel
theorem dX11_buildsAll_175 : decode cX11_buildsAll 175 = .ok (.goto (-89), 3) := by decide +kernel
theorem dX11_buildsAll_178 : decode cX11_buildsAll 178 = .ok (.iconst 0, 1) := by decide +kernel
theorem dX11_buildsAll_179 : decode cX11_buildsAll 179 = .ok (.istore 5, 2) := by decide +kernel
theorem dX11_buildsAll_181 : decode cX11_buildsAll 181 = .ok (.iload 5, 2) := by decide +kernel
theorem dX11_buildsAll_183 : decode cX11_buildsAll 183 = .ok (.aload_n 0, 1) := by decide +kernel
theorem dX11_buildsAll_184 : decode cX11_buildsAll 184 = .ok (.iload_n 1, 1) := by decide +kernel
theorem dX11_buildsAll_185 : decode cX11_buildsAll 185 = .ok (.invokevirtual 152, 3) := by decide +kernel
theorem dX11_buildsAll_188 : decode cX11_buildsAll 188 = .ok (.if_icmp .ge 16, 3) := by decide +kernel
theorem dX11_buildsAll_191 : decode cX11_buildsAll 191 = .ok (.aload_n 0, 1) := by decide +kernel
theorem dX11_buildsAll_192 : decode cX11_buildsAll 192 = .ok (.iload_n 1, 1) := by decide +kernel
theorem dX11_buildsAll_193 : decode cX11_buildsAll 193 = .ok (.iload 5, 2) := by decide +kernel
theorem dX11_buildsAll_195 : decode cX11_buildsAll 195 = .ok (.invokevirtual 171, 3) := by decide +kernel
theorem dX11_buildsAll_198 : decode cX11_buildsAll 198 = .ok (.iinc 5 1, 3) := by decide +kernel
theorem dX11_buildsAll_201 : decode cX11_buildsAll 201 = .ok (.goto (-20), 3) := by decide +kernel
theorem dX11_buildsAll_204 : decode cX11_buildsAll 204 = .ok (.aload_n 0, 1) := by decide +kernel
theorem dX11_buildsAll_205 : decode cX11_buildsAll 205 = .ok (.iload_n 1, 1) := by decide +kernel
theorem dX11_buildsAll_206 : decode cX11_buildsAll 206 = .ok (.invokevirtual 175, 3) := by decide +kernel
theorem dX11_buildsAll_209 : decode cX11_buildsAll 209 = .ok (.aload_n 0, 1) := by decide +kernel
theorem dX11_buildsAll_210 : decode cX11_buildsAll 210 = .ok (.iload_n 1, 1) := by decide +kernel
theorem dX11_buildsAll_211 : decode cX11_buildsAll 211 = .ok (.bipush 12, 2) := by decide +kernel
theorem dX11_buildsAll_213 : decode cX11_buildsAll 213 = .ok (.iload_n 2, 1) := by decide +kernel
theorem dX11_buildsAll_214 : decode cX11_buildsAll 214 = .ok (.i2l, 1) := by decide +kernel
theorem dX11_buildsAll_215 : decode cX11_buildsAll 215 = .ok (.invokevirtual 130, 3) := by decide +kernel
theorem dX11_buildsAll_218 : decode cX11_buildsAll 218 = .ok (.return_, 1) := by decide +kernel
def SetS (k : Nat) (fn : Nat → Int64) : Prop := ∃ bn ns gr, fn (17 * k + 14) = lN bn ∧ bn ≤ 64 ∧ fn (17 * k + 15) = lN ns ∧ 25 ≤ ns ∧ ns ≤ 400 ∧ fn (17 * k + 16) = lN gr ∧ gr ≤ 200
def HsS (k : Nat) (ff fh : Nat → Int32) (cn nb : Nat) (J : Nat → Nat) : Prop := ∀ b, b < nb → fh (2048 * k + b) = nI (cntJ J cn b) ∧ ∃ r, ff (2048 * k + b) = nI r ∧ cntJ J cn b ≤ r ∧ r ≤ 320
def PrS (k : Nat) (fn : Nat → Int64) : Prop := ∃ ka kb, ka < 2147483647 ∧ kb < 2147483647 ∧ fn (17 * k + 6) = lN ka ∧ fn (17 * k + 7) = lN kb
/-- a table of the reference: n's row, its keys (K), their buckets (J), how many each has, its roofs -/
def TabS (k cn nb : Nat) (K J : Nat → Nat) (fn : Nat → Int64) (fk fb ff fh : Nat → Int32) : Prop := fn (17 * k + 1) = lN cn ∧ cn ≤ 160 ∧ fn (17 * k + 4) = lN nb ∧ 1 ≤ nb ∧ nb ≤ 2048 ∧ PrS k fn ∧ KyS k fk cn K ∧ BkS k fb cn nb J ∧ HsS k ff fh cn nb J ∧ SetS k fn
theorem lim_eq (cn gr : Nat) (h1 : cn ≤ 160) (h2 : gr ≤ 200) : lN cn + lN (gr * cn / 100) + 4 = lN (cn + gr * cn / 100 + 4) := by
  rw [lN_add, show (4 : Int64) = lN 4 from rfl, lN_add]
theorem gr_div (gr cn : Nat) (h1 : cn ≤ 160) (h2 : gr ≤ 200) : lN gr * lN cn / 100 = lN (gr * cn / 100) := by
  have h : gr * cn ≤ 200 * 160 := Nat.mul_le_mul h2 h1
  rw [lN_mul, show (100 : Int64) = lN 100 from rfl, pk_lDiv (by omega) (by decide) (by decide)]
theorem lim_le {cn gr : Nat} (h1 : cn ≤ 160) (h2 : gr ≤ 200) : cn + gr * cn / 100 + 4 ≤ 484 := by
  have h : gr * cn ≤ 200 * 160 := Nat.mul_le_mul h2 h1
  omega
theorem nb_eq (ns L : Nat) (h1 : ns ≤ 400) (h2 : L ≤ 484) : lN ns * lN L / 100 = lN (ns * L / 100) := by
  have h : ns * L ≤ 400 * 484 := Nat.mul_le_mul h1 h2
  rw [lN_mul, show (100 : Int64) = lN 100 from rfl, pk_lDiv (by omega) (by decide) (by decide)]
theorem nb_le {ns L : Nat} (h1 : ns ≤ 400) (h2 : L ≤ 484) : ns * L / 100 ≤ 1936 := by
  have h : ns * L ≤ 400 * 484 := Nat.mul_le_mul h1 h2
  omega
theorem nb_ge {ns L : Nat} (h1 : 25 ≤ ns) (h2 : 4 ≤ L) : 1 ≤ ns * L / 100 := by
  have h : 25 * 4 ≤ ns * L := Nat.mul_le_mul h1 h2
  omega
def JpK (K : Nat → Nat) (ka kb nb : Nat) : Nat → Nat := fun y => (ka * K y + kb) % 2147483647 % nb
def own_c_buildsAll : List Cond := [.fieldLink RX11 117 "ClashFreeModel" "pairA" "J", .fieldLink RX11 120 "ClashFreeModel" "pairB" "J", .methodLink RX11 165 yX11_parts, .instanceMethod yX11_parts, .selects RX11 yX11_parts yX11_parts, .initialized RX11, .methodLink RX11 89 yX11_of, .instanceMethod yX11_of, .selects RX11 yX11_of yX11_of, .fieldLink RX11 123 "ClashFreeModel" "drawn" "I", .methodLink RX11 141 yX11_drawsPair, .instanceMethod yX11_drawsPair, .selects RX11 yX11_drawsPair yX11_drawsPair, .methodLink RX11 152 yX11_buckets, .instanceMethod yX11_buckets, .selects RX11 yX11_buckets yX11_buckets, .methodLink RX11 126 yX11_lays, .instanceMethod yX11_lays, .selects RX11 yX11_lays yX11_lays, .constantLong RX11 169 (2048), .methodLink RX11 171 yX11_buildsBucket, .instanceMethod yX11_buildsBucket, .selects RX11 yX11_buildsBucket yX11_buildsBucket, .methodLink RX11 95 yX11_manyOf, .instanceMethod yX11_manyOf, .selects RX11 yX11_manyOf yX11_manyOf, .constantLong RX11 158 (100), .constantLong RX11 160 (4), .methodLink RX11 162 yX11_takesSeed, .instanceMethod yX11_takesSeed, .selects RX11 yX11_takesSeed yX11_takesSeed, .methodLink RX11 175 yX11_laysSeed, .instanceMethod yX11_laysSeed, .selects RX11 yX11_laysSeed yX11_laysSeed, .methodLink RX11 130 yX11_adds, .instanceMethod yX11_adds, .selects RX11 yX11_adds yX11_adds]
def wp_c_buildsAll : List Cond := .code yX11_buildsAll cX11_buildsAll 6 none :: (own_c_buildsAll ++ (wp_c_parts ++ (wp_c_of ++ (wp_c_drawsPair ++ (wp_c_buckets ++ (wp_c_lays ++ (wp_c_buildsBucket ++ (wp_c_manyOf ++ (wp_c_takesSeed ++ (wp_c_laysSeed ++ (wp_c_adds ++ (wsX110 ++ ([] : List Cond)))))))))))))
set_option maxRecDepth 20000 in
theorem inown_c_buildsAll : ∀ w ∈ own_c_buildsAll, w ∈ lw_tbl := mem_places [1229, 1230, 1422, 1424, 45, 115, 1400, 1402, 41, 1231, 1410, 1412, 43, 1426, 1428, 46, 1388, 1390, 38, 1441, 1442, 1444, 49, 1396, 1398, 40, 1404, 1405, 1406, 1408, 42, 1454, 1456, 52, 1458, 1460, 53] (by decide +kernel)
set_option maxRecDepth 20000 in
theorem in_c_buildsAll : ∀ w ∈ wp_c_buildsAll, w ∈ lw_tbl := List.forall_mem_cons.mpr ⟨List.mem_of_getElem? (i := 1395) (by decide +kernel), List.forall_mem_append.mpr ⟨inown_c_buildsAll, List.forall_mem_append.mpr ⟨in_c_parts, List.forall_mem_append.mpr ⟨in_c_of, List.forall_mem_append.mpr ⟨in_c_drawsPair, List.forall_mem_append.mpr ⟨in_c_buckets, List.forall_mem_append.mpr ⟨in_c_lays, List.forall_mem_append.mpr ⟨in_c_buildsBucket, List.forall_mem_append.mpr ⟨in_c_manyOf, List.forall_mem_append.mpr ⟨in_c_takesSeed, List.forall_mem_append.mpr ⟨in_c_laysSeed, List.forall_mem_append.mpr ⟨in_c_adds, List.forall_mem_append.mpr ⟨lwb_X11, fun _ h => absurd h List.not_mem_nil⟩⟩⟩⟩⟩⟩⟩⟩⟩⟩⟩⟩⟩
set_option maxRecDepth 20000 in
theorem good_c_buildsAll : wp_c_buildsAll.all goodWord = true := by decide +kernel
set_option maxRecDepth 20000 in
theorem g_c_buildsAll_c_parts_165 : GoodIn wp_c_buildsAll (wsV RX11 165 RX11 yX11_parts wp_c_parts) := goodIn_sub (List.forall_mem_append.mpr ⟨List.forall_mem_cons.mpr ⟨(List.mem_of_getElem? (i := 3) rfl), List.forall_mem_cons.mpr ⟨(List.mem_of_getElem? (i := 4) rfl), List.forall_mem_cons.mpr ⟨(List.mem_of_getElem? (i := 5) rfl), List.forall_mem_cons.mpr ⟨(List.mem_of_getElem? (i := 6) rfl), fun _ h => absurd h List.not_mem_nil⟩⟩⟩⟩, (fun _ h => (List.mem_cons_of_mem _ (List.mem_append_right _ (List.mem_append_left _ h))))⟩) (by decide +kernel)
set_option maxRecDepth 20000 in
theorem g_c_buildsAll_c_of_89 : GoodIn wp_c_buildsAll (wsV RX11 89 RX11 yX11_of wp_c_of) := goodIn_sub (List.forall_mem_append.mpr ⟨List.forall_mem_cons.mpr ⟨(List.mem_of_getElem? (i := 7) rfl), List.forall_mem_cons.mpr ⟨(List.mem_of_getElem? (i := 8) rfl), List.forall_mem_cons.mpr ⟨(List.mem_of_getElem? (i := 9) rfl), List.forall_mem_cons.mpr ⟨(List.mem_of_getElem? (i := 6) rfl), fun _ h => absurd h List.not_mem_nil⟩⟩⟩⟩, (fun _ h => (List.mem_cons_of_mem _ (List.mem_append_right _ (List.mem_append_right _ (List.mem_append_left _ h)))))⟩) (by decide +kernel)
set_option maxRecDepth 20000 in
theorem g_c_buildsAll_c_drawsPair_141 : GoodIn wp_c_buildsAll (wsV RX11 141 RX11 yX11_drawsPair wp_c_drawsPair) := goodIn_sub (List.forall_mem_append.mpr ⟨List.forall_mem_cons.mpr ⟨(List.mem_of_getElem? (i := 11) rfl), List.forall_mem_cons.mpr ⟨(List.mem_of_getElem? (i := 12) rfl), List.forall_mem_cons.mpr ⟨(List.mem_of_getElem? (i := 13) rfl), List.forall_mem_cons.mpr ⟨(List.mem_of_getElem? (i := 6) rfl), fun _ h => absurd h List.not_mem_nil⟩⟩⟩⟩, (fun _ h => (List.mem_cons_of_mem _ (List.mem_append_right _ (List.mem_append_right _ (List.mem_append_right _ (List.mem_append_left _ h))))))⟩) (by decide +kernel)
set_option maxRecDepth 20000 in
theorem g_c_buildsAll_c_buckets_152 : GoodIn wp_c_buildsAll (wsV RX11 152 RX11 yX11_buckets wp_c_buckets) := goodIn_sub (List.forall_mem_append.mpr ⟨List.forall_mem_cons.mpr ⟨(List.mem_of_getElem? (i := 14) rfl), List.forall_mem_cons.mpr ⟨(List.mem_of_getElem? (i := 15) rfl), List.forall_mem_cons.mpr ⟨(List.mem_of_getElem? (i := 16) rfl), List.forall_mem_cons.mpr ⟨(List.mem_of_getElem? (i := 6) rfl), fun _ h => absurd h List.not_mem_nil⟩⟩⟩⟩, (fun _ h => (List.mem_cons_of_mem _ (List.mem_append_right _ (List.mem_append_right _ (List.mem_append_right _ (List.mem_append_right _ (List.mem_append_left _ h)))))))⟩) (by decide +kernel)
set_option maxRecDepth 20000 in
theorem g_c_buildsAll_c_lays_126 : GoodIn wp_c_buildsAll (wsV RX11 126 RX11 yX11_lays wp_c_lays) := goodIn_sub (List.forall_mem_append.mpr ⟨List.forall_mem_cons.mpr ⟨(List.mem_of_getElem? (i := 17) rfl), List.forall_mem_cons.mpr ⟨(List.mem_of_getElem? (i := 18) rfl), List.forall_mem_cons.mpr ⟨(List.mem_of_getElem? (i := 19) rfl), List.forall_mem_cons.mpr ⟨(List.mem_of_getElem? (i := 6) rfl), fun _ h => absurd h List.not_mem_nil⟩⟩⟩⟩, (fun _ h => (List.mem_cons_of_mem _ (List.mem_append_right _ (List.mem_append_right _ (List.mem_append_right _ (List.mem_append_right _ (List.mem_append_right _ (List.mem_append_left _ h))))))))⟩) (by decide +kernel)
set_option maxRecDepth 20000 in
theorem g_c_buildsAll_c_buildsBucket_171 : GoodIn wp_c_buildsAll (wsV RX11 171 RX11 yX11_buildsBucket wp_c_buildsBucket) := goodIn_sub (List.forall_mem_append.mpr ⟨List.forall_mem_cons.mpr ⟨(List.mem_of_getElem? (i := 21) rfl), List.forall_mem_cons.mpr ⟨(List.mem_of_getElem? (i := 22) rfl), List.forall_mem_cons.mpr ⟨(List.mem_of_getElem? (i := 23) rfl), List.forall_mem_cons.mpr ⟨(List.mem_of_getElem? (i := 6) rfl), fun _ h => absurd h List.not_mem_nil⟩⟩⟩⟩, (fun _ h => (List.mem_cons_of_mem _ (List.mem_append_right _ (List.mem_append_right _ (List.mem_append_right _ (List.mem_append_right _ (List.mem_append_right _ (List.mem_append_right _ (List.mem_append_left _ h)))))))))⟩) (by decide +kernel)
set_option maxRecDepth 20000 in
theorem g_c_buildsAll_c_manyOf_95 : GoodIn wp_c_buildsAll (wsV RX11 95 RX11 yX11_manyOf wp_c_manyOf) := goodIn_sub (List.forall_mem_append.mpr ⟨List.forall_mem_cons.mpr ⟨(List.mem_of_getElem? (i := 24) rfl), List.forall_mem_cons.mpr ⟨(List.mem_of_getElem? (i := 25) rfl), List.forall_mem_cons.mpr ⟨(List.mem_of_getElem? (i := 26) rfl), List.forall_mem_cons.mpr ⟨(List.mem_of_getElem? (i := 6) rfl), fun _ h => absurd h List.not_mem_nil⟩⟩⟩⟩, (fun _ h => (List.mem_cons_of_mem _ (List.mem_append_right _ (List.mem_append_right _ (List.mem_append_right _ (List.mem_append_right _ (List.mem_append_right _ (List.mem_append_right _ (List.mem_append_right _ (List.mem_append_left _ h))))))))))⟩) (by decide +kernel)
set_option maxRecDepth 20000 in
theorem g_c_buildsAll_c_takesSeed_162 : GoodIn wp_c_buildsAll (wsV RX11 162 RX11 yX11_takesSeed wp_c_takesSeed) := goodIn_sub (List.forall_mem_append.mpr ⟨List.forall_mem_cons.mpr ⟨(List.mem_of_getElem? (i := 29) rfl), List.forall_mem_cons.mpr ⟨(List.mem_of_getElem? (i := 30) rfl), List.forall_mem_cons.mpr ⟨(List.mem_of_getElem? (i := 31) rfl), List.forall_mem_cons.mpr ⟨(List.mem_of_getElem? (i := 6) rfl), fun _ h => absurd h List.not_mem_nil⟩⟩⟩⟩, (fun _ h => (List.mem_cons_of_mem _ (List.mem_append_right _ (List.mem_append_right _ (List.mem_append_right _ (List.mem_append_right _ (List.mem_append_right _ (List.mem_append_right _ (List.mem_append_right _ (List.mem_append_right _ (List.mem_append_left _ h)))))))))))⟩) (by decide +kernel)
set_option maxRecDepth 20000 in
theorem g_c_buildsAll_c_laysSeed_175 : GoodIn wp_c_buildsAll (wsV RX11 175 RX11 yX11_laysSeed wp_c_laysSeed) := goodIn_sub (List.forall_mem_append.mpr ⟨List.forall_mem_cons.mpr ⟨(List.mem_of_getElem? (i := 32) rfl), List.forall_mem_cons.mpr ⟨(List.mem_of_getElem? (i := 33) rfl), List.forall_mem_cons.mpr ⟨(List.mem_of_getElem? (i := 34) rfl), List.forall_mem_cons.mpr ⟨(List.mem_of_getElem? (i := 6) rfl), fun _ h => absurd h List.not_mem_nil⟩⟩⟩⟩, (fun _ h => (List.mem_cons_of_mem _ (List.mem_append_right _ (List.mem_append_right _ (List.mem_append_right _ (List.mem_append_right _ (List.mem_append_right _ (List.mem_append_right _ (List.mem_append_right _ (List.mem_append_right _ (List.mem_append_right _ (List.mem_append_left _ h))))))))))))⟩) (by decide +kernel)
set_option maxRecDepth 20000 in
theorem g_c_buildsAll_c_adds_130 : GoodIn wp_c_buildsAll (wsV RX11 130 RX11 yX11_adds wp_c_adds) := goodIn_sub (List.forall_mem_append.mpr ⟨List.forall_mem_cons.mpr ⟨(List.mem_of_getElem? (i := 35) rfl), List.forall_mem_cons.mpr ⟨(List.mem_of_getElem? (i := 36) rfl), List.forall_mem_cons.mpr ⟨(List.mem_of_getElem? (i := 37) rfl), List.forall_mem_cons.mpr ⟨(List.mem_of_getElem? (i := 6) rfl), fun _ h => absurd h List.not_mem_nil⟩⟩⟩⟩, (fun _ h => (List.mem_cons_of_mem _ (List.mem_append_right _ (List.mem_append_right _ (List.mem_append_right _ (List.mem_append_right _ (List.mem_append_right _ (List.mem_append_right _ (List.mem_append_right _ (List.mem_append_right _ (List.mem_append_right _ (List.mem_append_right _ (List.mem_append_left _ h)))))))))))))⟩) (by decide +kernel)
set_option maxHeartbeats 4000000 in
set_option maxRecDepth 100000 in
theorem lp_bA1 (l : Launch) {p : Program} {e : Env} {s : State} {m : MethodId} {args : Array Value} {below : List Frame} {meth : Method} {c : Code} {Q : State → Prop} {A : Nat → Prop} (D : va_G) (h0 : Nat) (a : Nat → Nat) (cm : Nat → ClassId) (i : Nat → Int32) (g : Nat → Int64) (fn : Nat → Int64) (fk : Nat → Int32) (fb : Nat → Int32) (fr : Nat → Int32) (ff : Nat → Int32) (fh : Nat → Int32) (fa : Nat → Int64) (fs : Nat → Int64) (k : Nat) (cn : Nat) (K : Nat → Nat) (bn : Nat) (ns : Nat) (gr : Nat) (bl : Int64) (hk : k < 5) (h1 : fn (17 * k + 1) = lN cn) (hcn : cn ≤ 160) (hKy : KyS k fk cn K) (h14 : fn (17 * k + 14) = lN bn) (hbn : bn ≤ 64) (h15 : fn (17 * k + 15) = lN ns) (hs1 : 25 ≤ ns) (hs2 : ns ≤ 400) (h16 : fn (17 * k + 16) = lN gr) (hgr : gr ≤ 200) (hx : p.tables.exec = Jvm.exec) (hb : c.code = cX11_buildsAll) (hml : c.maxLocals = 6) (hown : s.vm.findClass RX11 = some m.cls) (hts : ∀ w ∈ wp_c_buildsAll, w.before args s = true) (hA : ∀ q, s.heap.size ≤ q → A q) (hK : va_K D vwCl [(cm 3, .long), (cm 4, .int), (cm 6, .int), (cm 7, .int), (cm 8, .int), (cm 9, .int), (cm 10, .long), (cm 11, .long)] s) (kx178 : ∀ (dn : Nat), ∀ (nb : Nat), ∀ (ka : Nat), ∀ (kb : Nat), ∀ (sd : Int64), ∀ (gn : Nat → Int64), ∀ (gb : Nat → Int32), ∀ (gf : Nat → Int32), ∀ (gh : Nat → Int32), (1 ≤ dn) → (dn ≤ 400) → (1 ≤ nb) → (nb ≤ 2048) → (ka < 2147483647) → (kb < 2147483647) → (gn (17 * k + 4) = lN nb) → (∀ x, x ≠ 17 * k + 4 → x ≠ 17 * k + 5 → x ≠ 17 * k + 6 → x ≠ 17 * k + 7 → gn x = fn x) → (∀ x, (x < 160 * k ∨ 160 * k + 160 ≤ x) → gb x = fb x) → (∀ x, (x < 2048 * k ∨ 2048 * k + 2048 ≤ x) → gf x = ff x) → (∀ x, (x < 2048 * k ∨ 2048 * k + 2048 ≤ x) → gh x = fh x) → (gn (17 * k + 6) = lN ka) → (gn (17 * k + 7) = lN kb) → (BkS k gb cn nb (JpK K ka kb nb)) → (∀ b, b < nb → gh (2048 * k + b) = nI (cntJ (JpK K ka kb nb) cn b)) → (∀ b, b < nb → gf (2048 * k + b) = nI (2 * cntJ (JpK K ka kb nb) cn b)) → ∀ (H : Heap) (locs : List Loc) (ls : Array Slot), va_P D vwCl [(h0, .inr (11, gM a (upd i 15 (nI dn)) (vp_updL (vp_updL (vp_updL (fun _ => 0) 12 sd) 13 (lN ka)) 14 (lN kb)))), (a 3, .inl (cm 3, 85, .inr (.inl gn))), (a 4, .inl (cm 4, 800, .inl fk)), (a 6, .inl (cm 6, 800, .inl gb)), (a 7, .inl (cm 7, 800, .inl fr)), (a 8, .inl (cm 8, 10240, .inl gf)), (a 9, .inl (cm 9, 10240, .inl gh)), (a 10, .inl (cm 10, 10240, .inr (.inl fa))), (a 11, .inl (cm 11, 10240, .inr (.inl fs)))] H → va_D A [(h0, .inr (11, gM a (upd i 15 (nI dn)) (vp_updL (vp_updL (vp_updL (fun _ => 0) 12 sd) 13 (lN ka)) 14 (lN kb)))), (a 3, .inl (cm 3, 85, .inr (.inl gn))), (a 4, .inl (cm 4, 800, .inl fk)), (a 6, .inl (cm 6, 800, .inl gb)), (a 7, .inl (cm 7, 800, .inl fr)), (a 8, .inl (cm 8, 10240, .inl gf)), (a 9, .inl (cm 9, 10240, .inl gh)), (a 10, .inl (cm 10, 10240, .inr (.inl fa))), (a 11, .inl (cm 11, 10240, .inr (.inl fs)))] → va_S A s.heap H locs → lv_has ls 6 [(0, .ref h0), (1, .int (nI k)), (2, .int (nI cn))] → W p l e ({ frames := 7, cells := 0, slots := 0, locals := 190 }) s m args below meth c H locs 0 0 Q (F0 m 178 ls [])) : ∀ (N : Nat), ∀ (dn : Nat), ∀ (nb : Nat), ∀ (ka : Nat), ∀ (kb : Nat), ∀ (sd : Int64), ∀ (gn : Nat → Int64), ∀ (gb : Nat → Int32), ∀ (gf : Nat → Int32), ∀ (gh : Nat → Int32), (1 ≤ dn) → (dn ≤ 400) → (1 ≤ nb) → (nb ≤ 2048) → (ka < 2147483647) → (kb < 2147483647) → (gn (17 * k + 4) = lN nb) → (∀ x, x ≠ 17 * k + 4 → x ≠ 17 * k + 5 → x ≠ 17 * k + 6 → x ≠ 17 * k + 7 → gn x = fn x) → (∀ x, (x < 160 * k ∨ 160 * k + 160 ≤ x) → gb x = fb x) → (∀ x, (x < 2048 * k ∨ 2048 * k + 2048 ≤ x) → gf x = ff x) → (∀ x, (x < 2048 * k ∨ 2048 * k + 2048 ≤ x) → gh x = fh x) → 400 - dn < N → ∀ (H : Heap) (locs : List Loc) (ls : Array Slot), va_P D vwCl [(h0, .inr (11, gM a (upd i 15 (nI dn)) (vp_updL (vp_updL (vp_updL (fun _ => 0) 12 sd) 13 (lN ka)) 14 (lN kb)))), (a 3, .inl (cm 3, 85, .inr (.inl gn))), (a 4, .inl (cm 4, 800, .inl fk)), (a 6, .inl (cm 6, 800, .inl gb)), (a 7, .inl (cm 7, 800, .inl fr)), (a 8, .inl (cm 8, 10240, .inl gf)), (a 9, .inl (cm 9, 10240, .inl gh)), (a 10, .inl (cm 10, 10240, .inr (.inl fa))), (a 11, .inl (cm 11, 10240, .inr (.inl fs)))] H → va_D A [(h0, .inr (11, gM a (upd i 15 (nI dn)) (vp_updL (vp_updL (vp_updL (fun _ => 0) 12 sd) 13 (lN ka)) 14 (lN kb)))), (a 3, .inl (cm 3, 85, .inr (.inl gn))), (a 4, .inl (cm 4, 800, .inl fk)), (a 6, .inl (cm 6, 800, .inl gb)), (a 7, .inl (cm 7, 800, .inl fr)), (a 8, .inl (cm 8, 10240, .inl gf)), (a 9, .inl (cm 9, 10240, .inl gh)), (a 10, .inl (cm 10, 10240, .inr (.inl fa))), (a 11, .inl (cm 11, 10240, .inr (.inl fs)))] → va_S A s.heap H locs → lv_has ls 6 [(0, .ref h0), (1, .int (nI k)), (2, .int (nI cn)), (3, .long bl)] → W p l e ({ frames := 7, cells := 0, slots := 0, locals := 190 }) s m args below meth c H locs 0 0 Q (F0 m 86 ls []) := by
  have hin_X11 : ∀ w ∈ wsX110, w ∈ wp_c_buildsAll := fun _ h => (List.mem_cons_of_mem _ (List.mem_append_right _ (List.mem_append_right _ (List.mem_append_right _ (List.mem_append_right _ (List.mem_append_right _ (List.mem_append_right _ (List.mem_append_right _ (List.mem_append_right _ (List.mem_append_right _ (List.mem_append_right _ (List.mem_append_right _ (List.mem_append_left _ h)))))))))))))
  intro N
  induction N with
  | zero =>
    intro dn nb ka kb sd gn gb gf gh hd1 hd2 hn1 hn2 hka hkb g4 gr1 f1 f2 f3 hm
    exact absurd hm (Nat.not_lt_zero _)
  | succ N ih =>
    intro dn nb ka kb sd gn gb gf gh hd1 hd2 hn1 hn2 hka hkb g4 gr1 f1 f2 f3 hm H locs ls hP hD hS hl
    refine lv_aload_n hx hb dX11_buildsAll_86 rfl (lv_at hl 0 rfl) ?_
    refine lv_iload_n hx hb dX11_buildsAll_87 rfl (lv_at hl 1 rfl) ?_
    refine lv_aload_n hx hb dX11_buildsAll_88 rfl (lv_at hl 0 rfl) ?_
    refine va_get (D := D) (ci := 11) (v := .long (lN ka)) (C := RX11) (T := TX11) (N := 47) hx hb hts hin_X11 hown hK hP 0 rfl rfl 13 (by decide) (hts (.fieldLink RX11 117 "ClashFreeModel" "pairA" "J") (List.mem_of_getElem? (i := 1) rfl)) (fun _ h9 => h9) rfl dX11_buildsAll_89 ?_
    refine lv_aload_n hx hb dX11_buildsAll_92 rfl (lv_at hl 0 rfl) ?_
    refine va_get (D := D) (ci := 11) (v := .long (lN kb)) (C := RX11) (T := TX11) (N := 47) hx hb hts hin_X11 hown hK hP 0 rfl rfl 14 (by decide) (hts (.fieldLink RX11 120 "ClashFreeModel" "pairB" "J") (List.mem_of_getElem? (i := 2) rfl)) (fun _ h9 => h9) rfl dX11_buildsAll_93 ?_
    refine lv_iconst (v := 2) hx hb dX11_buildsAll_96 (by decide) ?_
    have hPc := hP.sub (ws' := [(h0, .inr (11, gM a (upd i 15 (nI dn)) (vp_updL (vp_updL (vp_updL (fun _ => 0) 12 sd) 13 (lN ka)) 14 (lN kb)))), (a 3, .inl (cm 3, 85, .inr (.inl gn))), (a 4, .inl (cm 4, 800, .inl fk)), (a 6, .inl (cm 6, 800, .inl gb)), (a 8, .inl (cm 8, 10240, .inl gf)), (a 9, .inl (cm 9, 10240, .inl gh))]) [0, 1, 2, 3, 5, 6] rfl
    have hKc := hK.sub (tys' := [(cm 3, .long), (cm 4, .int), (cm 6, .int), (cm 8, .int), (cm 9, .int)]) [0, 1, 2, 4, 5] rfl
    have hDc := hD.sub (ws' := [(h0, .inr (11, gM a (upd i 15 (nI dn)) (vp_updL (vp_updL (vp_updL (fun _ => 0) 12 sd) 13 (lN ka)) 14 (lN kb)))), (a 3, .inl (cm 3, 85, .inr (.inl gn))), (a 4, .inl (cm 4, 800, .inl fk)), (a 6, .inl (cm 6, 800, .inl gb)), (a 8, .inl (cm 8, 10240, .inl gf)), (a 9, .inl (cm 9, 10240, .inl gh))]) [0, 1, 2, 3, 5, 6] (by decide) rfl
    have hFc := va_free (wc := [(h0, .inr (11, gM a (upd i 15 (nI dn)) (vp_updL (vp_updL (vp_updL (fun _ => 0) 12 sd) 13 (lN ka)) 14 (lN kb)))), (a 3, .inl (cm 3, 85, .inr (.inl gn))), (a 4, .inl (cm 4, 800, .inl fk)), (a 6, .inl (cm 6, 800, .inl gb)), (a 8, .inl (cm 8, 10240, .inl gf)), (a 9, .inl (cm 9, 10240, .inl gh))]) hD hS hA [0, 1, 2, 3, 5, 6] rfl
    refine va_calll (va_runV (As := [.int (nI k), .long (lN ka), .long (lN kb), .int (nI 2)]) (rest := []) ⟨hx, hb, hml, hown, hts⟩ (c_parts l D _ h0 a cm (upd i 15 (nI dn)) (vp_updL (vp_updL (vp_updL (fun _ => 0) 12 sd) 13 (lN ka)) 14 (lN kb)) gn fk gb gf gh k cn nb K ka kb 2 (JpK K ka kb nb) (by first | assumption | omega) ((gr1 _ (by omega) (by omega) (by omega) (by omega)).trans h1) (by first | assumption | omega) g4 (by first | assumption | omega) (by first | assumption | omega) hKy (by first | assumption | omega) (by first | assumption | omega) (by first | assumption | omega) (fun _ _ => rfl)) (cwV 4 hts g_c_buildsAll_c_parts_165 rfl rfl rfl (by decide +kernel) ⟨(Nat.le_of_ble_eq_true rfl), (Nat.le_of_ble_eq_true rfl)⟩) (PcW_V (q0 := 0) hPc hKc hDc rfl rfl) rfl rfl hl.1 rfl (lv_room (Nat.le_of_ble_eq_true rfl)) dX11_buildsAll_97 ⟨(Nat.le_of_ble_eq_true rfl), (Nat.le_of_ble_eq_true rfl)⟩) hS (fun q _ h => hFc q h) hFc (fun r1 uu tt H locs htt hvm hw hB hz1 hk1 hS => ?_)
    obtain ⟨w2, w3, w4, w5⟩ := uu
    obtain ⟨hP1, hK1, hD1⟩ := hB
    rw [htt] at hP1
    have hK1 := va_K.moved hvm.symm hK1
    have hP1 : va_P D vwCl [(h0, .inr (11, gM a (upd i 15 (nI dn)) (vp_updL (vp_updL (vp_updL (fun _ => 0) 12 sd) 13 (lN ka)) 14 (lN kb)))), (a 3, .inl (cm 3, 85, .inr (.inl w2))), (a 4, .inl (cm 4, 800, .inl fk)), (a 6, .inl (cm 6, 800, .inl w3)), (a 8, .inl (cm 8, 10240, .inl w4)), (a 9, .inl (cm 9, 10240, .inl w5))] H := hP1
    obtain ⟨hP, hD⟩ := va_join (wr := [(a 7, .inl (cm 7, 800, .inl fr)), (a 10, .inl (cm 10, 10240, .inr (.inl fa))), (a 11, .inl (cm 11, 10240, .inr (.inl fs)))]) (w1 := [(h0, .inr (11, gM a (upd i 15 (nI dn)) (vp_updL (vp_updL (vp_updL (fun _ => 0) 12 sd) 13 (lN ka)) 14 (lN kb)))), (a 3, .inl (cm 3, 85, .inr (.inl w2))), (a 4, .inl (cm 4, 800, .inl fk)), (a 6, .inl (cm 6, 800, .inl w3)), (a 8, .inl (cm 8, 10240, .inl w4)), (a 9, .inl (cm 9, 10240, .inl w5))]) hP hD [0, 1, 2, 3, 5, 6] [4, 7, 8] rfl rfl (by decide) (by decide) hk1 hFc hP1 hD1
    have hP : va_P D vwCl [(a 7, .inl (cm 7, 800, .inl fr)), (a 10, .inl (cm 10, 10240, .inr (.inl fa))), (a 11, .inl (cm 11, 10240, .inr (.inl fs))), (h0, .inr (11, gM a (upd i 15 (nI dn)) (vp_updL (vp_updL (vp_updL (fun _ => 0) 12 sd) 13 (lN ka)) 14 (lN kb)))), (a 3, .inl (cm 3, 85, .inr (.inl w2))), (a 4, .inl (cm 4, 800, .inl fk)), (a 6, .inl (cm 6, 800, .inl w3)), (a 8, .inl (cm 8, 10240, .inl w4)), (a 9, .inl (cm 9, 10240, .inl w5))] H := hP
    have hD : va_D A [(a 7, .inl (cm 7, 800, .inl fr)), (a 10, .inl (cm 10, 10240, .inr (.inl fa))), (a 11, .inl (cm 11, 10240, .inr (.inl fs))), (h0, .inr (11, gM a (upd i 15 (nI dn)) (vp_updL (vp_updL (vp_updL (fun _ => 0) 12 sd) 13 (lN ka)) 14 (lN kb)))), (a 3, .inl (cm 3, 85, .inr (.inl w2))), (a 4, .inl (cm 4, 800, .inl fk)), (a 6, .inl (cm 6, 800, .inl w3)), (a 8, .inl (cm 8, 10240, .inl w4)), (a 9, .inl (cm 9, 10240, .inl w5))] := hD
    try dsimp only at hw
    clear hz1 hk1 hFc hPc hKc hDc
    obtain ⟨hp6_0, hp6_1, hp6_2, hp6_3, hp6_4, hp6_5, hp6_6, hp6_7, hp6_8⟩ := hw
    refine lv_aload_n hx hb dX11_buildsAll_100 rfl (lv_at hl 0 rfl) ?_
    refine lv_iload_n hx hb dX11_buildsAll_101 rfl (lv_at hl 1 rfl) ?_
    refine lv_bipush (v := 14) hx hb dX11_buildsAll_102 (by decide) ?_
    have hPc := hP.sub (ws' := [(h0, .inr (11, gM a (upd i 15 (nI dn)) (vp_updL (vp_updL (vp_updL (fun _ => 0) 12 sd) 13 (lN ka)) 14 (lN kb)))), (a 3, .inl (cm 3, 85, .inr (.inl w2)))]) [3, 4] rfl
    have hKc := hK.sub (tys' := [(cm 3, .long)]) [0] rfl
    have hFc := va_free0 hS hA
    refine va_calll (va_runV (As := [.int (nI k), .int (nI 14)]) (rest := [.long r1]) ⟨hx, hb, hml, hown, hts⟩ (c_of l D _ h0 a cm (upd i 15 (nI dn)) (vp_updL (vp_updL (vp_updL (fun _ => 0) 12 sd) 13 (lN ka)) 14 (lN kb)) w2 k 14 (by first | assumption | omega) (by first | assumption | omega)) (cwV 2 hts g_c_buildsAll_c_of_89 rfl rfl rfl (by decide +kernel) ⟨(Nat.le_of_ble_eq_true rfl), (Nat.le_of_ble_eq_true rfl)⟩) (PcR_V (q0 := 0) hPc hKc rfl rfl) rfl rfl hl.1 rfl (lv_room (Nat.le_of_ble_eq_true rfl)) dX11_buildsAll_104 ⟨(Nat.le_of_ble_eq_true rfl), (Nat.le_of_ble_eq_true rfl)⟩) hS (fun q _ h => hFc q h) hFc (fun r7 uu tt H locs htt hvm hw hB hz1 hk1 hS => ?_)
    have hP := va_keep hP hk1
    try dsimp only at hw
    clear hB hz1 hk1 hFc hPc hKc
    obtain rfl : r7 = w2 (17 * k + 14) := hw
    refine lv_aload_n hx hb dX11_buildsAll_107 rfl (lv_at hl 0 rfl) ?_
    refine lv_iload_n hx hb dX11_buildsAll_108 rfl (lv_at hl 1 rfl) ?_
    refine lv_iconst (v := 2) hx hb dX11_buildsAll_109 (by decide) ?_
    have hPc := hP.sub (ws' := [(h0, .inr (11, gM a (upd i 15 (nI dn)) (vp_updL (vp_updL (vp_updL (fun _ => 0) 12 sd) 13 (lN ka)) 14 (lN kb)))), (a 3, .inl (cm 3, 85, .inr (.inl w2)))]) [3, 4] rfl
    have hKc := hK.sub (tys' := [(cm 3, .long)]) [0] rfl
    have hFc := va_free0 hS hA
    refine va_calll (va_runV (As := [.int (nI k), .int (nI 2)]) (rest := [.long (w2 (17 * k + 14)), .long r1]) ⟨hx, hb, hml, hown, hts⟩ (c_of l D _ h0 a cm (upd i 15 (nI dn)) (vp_updL (vp_updL (vp_updL (fun _ => 0) 12 sd) 13 (lN ka)) 14 (lN kb)) w2 k 2 (by first | assumption | omega) (by first | assumption | omega)) (cwV 2 hts g_c_buildsAll_c_of_89 rfl rfl rfl (by decide +kernel) ⟨(Nat.le_of_ble_eq_true rfl), (Nat.le_of_ble_eq_true rfl)⟩) (PcR_V (q0 := 0) hPc hKc rfl rfl) rfl rfl hl.1 rfl (lv_room (Nat.le_of_ble_eq_true rfl)) dX11_buildsAll_110 ⟨(Nat.le_of_ble_eq_true rfl), (Nat.le_of_ble_eq_true rfl)⟩) hS (fun q _ h => hFc q h) hFc (fun r8 uu tt H locs htt hvm hw hB hz1 hk1 hS => ?_)
    have hP := va_keep hP hk1
    try dsimp only at hw
    clear hB hz1 hk1 hFc hPc hKc
    obtain rfl : r8 = w2 (17 * k + 2) := hw
    refine lv_lmul hx hb dX11_buildsAll_113 ?_
    refine lv_topl (fun v9 ev9 => ?_)
    refine W.lcmp hx hb dX11_buildsAll_114 ?_
    refine lv_if_le (tgt := 178) hx hb dX11_buildsAll_115 (by decide) (fun hc10 => ?_) (fun hc10 => ?_)
    ·
      exact kx178 dn nb ka kb sd w2 w3 w4 w5 (hd1) (hd2) (hn1) (hn2) (hka) (hkb) (((hp6_0 _ (by omega) (by omega) (by omega)).trans g4)) (fun x e4 e5 e6 e7 => (hp6_0 x e5 e6 e7).trans (gr1 x e4 e5 e6 e7)) (fun x e => (hp6_6 x e).trans (f1 x e)) (fun x e => (hp6_7 x e).trans (f2 x e)) (fun x e => (hp6_8 x e).trans (f3 x e)) (hp6_1) (hp6_2) (hp6_3) (hp6_4) (hp6_5) H locs ls (hP.sub [3, 4, 5, 6, 0, 7, 8, 1, 2] rfl) (hD.sub [3, 4, 5, 6, 0, 7, 8, 1, 2] (by decide) rfl) hS (lv_sub hl [0, 1, 2] rfl)
    ·
      refine lv_aload_n hx hb dX11_buildsAll_118 rfl (lv_at hl 0 rfl) ?_
      refine va_get (D := D) (ci := 11) (v := .int (nI dn)) (C := RX11) (T := TX11) (N := 47) hx hb hts hin_X11 hown hK hP 3 rfl rfl 15 (by decide) (hts (.fieldLink RX11 123 "ClashFreeModel" "drawn" "I") (List.mem_of_getElem? (i := 10) rfl)) (fun _ h9 => h9) rfl dX11_buildsAll_119 ?_
      refine lv_sipush (v := 400) hx hb dX11_buildsAll_122 (by decide) ?_
      refine lv_icmp_ge (tgt := 178) hx hb dX11_buildsAll_125 (by decide) (fun hc11 => ?_) (fun hc11 => ?_)
      ·
        exact kx178 dn nb ka kb sd w2 w3 w4 w5 (hd1) (hd2) (hn1) (hn2) (hka) (hkb) (((hp6_0 _ (by omega) (by omega) (by omega)).trans g4)) (fun x e4 e5 e6 e7 => (hp6_0 x e5 e6 e7).trans (gr1 x e4 e5 e6 e7)) (fun x e => (hp6_6 x e).trans (f1 x e)) (fun x e => (hp6_7 x e).trans (f2 x e)) (fun x e => (hp6_8 x e).trans (f3 x e)) (hp6_1) (hp6_2) (hp6_3) (hp6_4) (hp6_5) H locs ls (hP.sub [3, 4, 5, 6, 0, 7, 8, 1, 2] rfl) (hD.sub [3, 4, 5, 6, 0, 7, 8, 1, 2] (by decide) rfl) hS (lv_sub hl [0, 1, 2] rfl)
      ·
        have hd4 : dn < 400 := by
          rcases Nat.lt_or_ge dn 400 with z | z
          · exact z
          · exact absurd (nI_le (a := 400) z (by omega)) hc11
        refine lv_aload_n hx hb dX11_buildsAll_128 rfl (lv_at hl 0 rfl) ?_
        refine va_get (D := D) (ci := 11) (v := .int (nI dn)) (C := RX11) (T := TX11) (N := 47) hx hb hts hin_X11 hown hK hP 3 rfl rfl 15 (by decide) (hts (.fieldLink RX11 123 "ClashFreeModel" "drawn" "I") (List.mem_of_getElem? (i := 10) rfl)) (fun _ h9 => h9) rfl dX11_buildsAll_129 ?_
        refine lv_bipush (v := 20) hx hb dX11_buildsAll_132 (by decide) ?_
        refine lv_irem hx hb dX11_buildsAll_134 (by decide) ?_
        refine lv_topi (fun v12 ev12 => ?_)
        obtain rfl : v12 = nI (dn % 20) := ev12.trans (pk_rem (d := 20) (by omega) (by decide) (by decide))
        refine lv_if_ne (tgt := 171) hx hb dX11_buildsAll_135 (by decide) (fun hc13 => ?_) (fun hc13 => ?_)
        ·
          refine lv_aload_n hx hb dX11_buildsAll_171 rfl (lv_at hl 0 rfl) ?_
          have hPc := hP.sub (ws' := [(h0, .inr (11, gM a (upd i 15 (nI dn)) (vp_updL (vp_updL (vp_updL (fun _ => 0) 12 sd) 13 (lN ka)) 14 (lN kb))))]) [3] rfl
          have hKc := hK.sub (tys' := []) [] rfl
          have hDc := hD.sub (ws' := [(h0, .inr (11, gM a (upd i 15 (nI dn)) (vp_updL (vp_updL (vp_updL (fun _ => 0) 12 sd) 13 (lN ka)) 14 (lN kb))))]) [3] (by decide) rfl
          have hFc := va_free (wc := [(h0, .inr (11, gM a (upd i 15 (nI dn)) (vp_updL (vp_updL (vp_updL (fun _ => 0) 12 sd) 13 (lN ka)) 14 (lN kb))))]) hD hS hA [3] rfl
          refine va_callv (va_runV (As := []) (rest := []) ⟨hx, hb, hml, hown, hts⟩ (c_drawsPair l D _ h0 a cm (upd i 15 (nI dn)) (vp_updL (vp_updL (vp_updL (fun _ => 0) 12 sd) 13 (lN ka)) 14 (lN kb))) (cwV 0 hts g_c_buildsAll_c_drawsPair_141 rfl rfl rfl (by decide +kernel) ⟨(Nat.le_of_ble_eq_true rfl), (Nat.le_of_ble_eq_true rfl)⟩) (PcW_V (q0 := 0) hPc hKc hDc rfl rfl) rfl rfl hl.1 rfl (lv_room (Nat.le_of_ble_eq_true rfl)) dX11_buildsAll_172 ⟨(Nat.le_of_ble_eq_true rfl), (Nat.le_of_ble_eq_true rfl)⟩) hS (fun q _ h => hFc q h) hFc (fun uu tt H locs htt hvm hw hB hz1 hk1 hS => ?_)
          obtain ⟨w15, w16, w17, w18⟩ := uu
          obtain ⟨hP1, hK1, hD1⟩ := hB
          rw [htt] at hP1
          have hK1 := va_K.moved hvm.symm hK1
          have hP1 : va_P D vwCl [(h0, .inr (11, gM a (upd i 15 w18) (vp_updL (vp_updL (vp_updL (fun _ => 0) 12 w15) 13 w16) 14 w17)))] H := hP1
          obtain ⟨hP, hD⟩ := va_join (wr := [(a 7, .inl (cm 7, 800, .inl fr)), (a 10, .inl (cm 10, 10240, .inr (.inl fa))), (a 11, .inl (cm 11, 10240, .inr (.inl fs))), (a 3, .inl (cm 3, 85, .inr (.inl w2))), (a 4, .inl (cm 4, 800, .inl fk)), (a 6, .inl (cm 6, 800, .inl w3)), (a 8, .inl (cm 8, 10240, .inl w4)), (a 9, .inl (cm 9, 10240, .inl w5))]) (w1 := [(h0, .inr (11, gM a (upd i 15 w18) (vp_updL (vp_updL (vp_updL (fun _ => 0) 12 w15) 13 w16) 14 w17)))]) hP hD [3] [0, 1, 2, 4, 5, 6, 7, 8] rfl rfl (by decide) (by decide) hk1 hFc hP1 hD1
          have hP : va_P D vwCl [(a 7, .inl (cm 7, 800, .inl fr)), (a 10, .inl (cm 10, 10240, .inr (.inl fa))), (a 11, .inl (cm 11, 10240, .inr (.inl fs))), (a 3, .inl (cm 3, 85, .inr (.inl w2))), (a 4, .inl (cm 4, 800, .inl fk)), (a 6, .inl (cm 6, 800, .inl w3)), (a 8, .inl (cm 8, 10240, .inl w4)), (a 9, .inl (cm 9, 10240, .inl w5)), (h0, .inr (11, gM a (upd i 15 w18) (vp_updL (vp_updL (vp_updL (fun _ => 0) 12 w15) 13 w16) 14 w17)))] H := hP
          have hD : va_D A [(a 7, .inl (cm 7, 800, .inl fr)), (a 10, .inl (cm 10, 10240, .inr (.inl fa))), (a 11, .inl (cm 11, 10240, .inr (.inl fs))), (a 3, .inl (cm 3, 85, .inr (.inl w2))), (a 4, .inl (cm 4, 800, .inl fk)), (a 6, .inl (cm 6, 800, .inl w3)), (a 8, .inl (cm 8, 10240, .inl w4)), (a 9, .inl (cm 9, 10240, .inl w5)), (h0, .inr (11, gM a (upd i 15 w18) (vp_updL (vp_updL (vp_updL (fun _ => 0) 12 w15) 13 w16) 14 w17)))] := hD
          try dsimp only at hw
          clear hz1 hk1 hFc hPc hKc hDc
          obtain ⟨es_r14, ⟨ka19, kb20, e2, e3, hka19, hkb20, eka19⟩, ed_r14⟩ := hw
          have es_r14 : w15 = sdn sd := es_r14
          have eka19 : ka19 = aOf sd := eka19
          have ed_r14 : w18 = (nI dn) + 1 := ed_r14
          obtain rfl : w16 = lN ka19 := e2
          obtain rfl : w17 = lN kb20 := e3
          have hP : va_P D vwCl [(a 7, .inl (cm 7, 800, .inl fr)), (a 10, .inl (cm 10, 10240, .inr (.inl fa))), (a 11, .inl (cm 11, 10240, .inr (.inl fs))), (a 3, .inl (cm 3, 85, .inr (.inl w2))), (a 4, .inl (cm 4, 800, .inl fk)), (a 6, .inl (cm 6, 800, .inl w3)), (a 8, .inl (cm 8, 10240, .inl w4)), (a 9, .inl (cm 9, 10240, .inl w5)), (h0, .inr (11, gM a (upd i 15 w18) (vp_updL (vp_updL (vp_updL (fun _ => 0) 12 w15) 13 (lN ka19)) 14 (lN kb20))))] H := hP
          have hD : va_D A [(a 7, .inl (cm 7, 800, .inl fr)), (a 10, .inl (cm 10, 10240, .inr (.inl fa))), (a 11, .inl (cm 11, 10240, .inr (.inl fs))), (a 3, .inl (cm 3, 85, .inr (.inl w2))), (a 4, .inl (cm 4, 800, .inl fk)), (a 6, .inl (cm 6, 800, .inl w3)), (a 8, .inl (cm 8, 10240, .inl w4)), (a 9, .inl (cm 9, 10240, .inl w5)), (h0, .inr (11, gM a (upd i 15 w18) (vp_updL (vp_updL (vp_updL (fun _ => 0) 12 w15) 13 (lN ka19)) 14 (lN kb20))))] := hD
          obtain rfl : w18 = nI (dn + 1) := ed_r14.trans (nI_1 dn)
          have hP : va_P D vwCl [(a 7, .inl (cm 7, 800, .inl fr)), (a 10, .inl (cm 10, 10240, .inr (.inl fa))), (a 11, .inl (cm 11, 10240, .inr (.inl fs))), (a 3, .inl (cm 3, 85, .inr (.inl w2))), (a 4, .inl (cm 4, 800, .inl fk)), (a 6, .inl (cm 6, 800, .inl w3)), (a 8, .inl (cm 8, 10240, .inl w4)), (a 9, .inl (cm 9, 10240, .inl w5)), (h0, .inr (11, gM a (upd i 15 (nI (dn + 1))) (vp_updL (vp_updL (vp_updL (fun _ => 0) 12 w15) 13 (lN ka19)) 14 (lN kb20))))] H := hP
          have hD : va_D A [(a 7, .inl (cm 7, 800, .inl fr)), (a 10, .inl (cm 10, 10240, .inr (.inl fa))), (a 11, .inl (cm 11, 10240, .inr (.inl fs))), (a 3, .inl (cm 3, 85, .inr (.inl w2))), (a 4, .inl (cm 4, 800, .inl fk)), (a 6, .inl (cm 6, 800, .inl w3)), (a 8, .inl (cm 8, 10240, .inl w4)), (a 9, .inl (cm 9, 10240, .inl w5)), (h0, .inr (11, gM a (upd i 15 (nI (dn + 1))) (vp_updL (vp_updL (vp_updL (fun _ => 0) 12 w15) 13 (lN ka19)) 14 (lN kb20))))] := hD
          refine lv_goto (tgt := 86) hx hb dX11_buildsAll_175 (by decide) ?_
          exact ih (dn + 1) nb ka19 kb20 w15 w2 w3 w4 w5 (by omega) (by omega) (by omega) (by omega) (hka19) (hkb20) (((hp6_0 _ (by omega) (by omega) (by omega)).trans g4)) (fun x e4 e5 e6 e7 => (hp6_0 x e5 e6 e7).trans (gr1 x e4 e5 e6 e7)) (fun x e => (hp6_6 x e).trans (f1 x e)) (fun x e => (hp6_7 x e).trans (f2 x e)) (fun x e => (hp6_8 x e).trans (f3 x e)) (by omega) H locs ls (hP.sub [8, 3, 4, 5, 0, 6, 7, 1, 2] rfl) (hD.sub [8, 3, 4, 5, 0, 6, 7, 1, 2] (by decide) rfl) hS (lv_sub hl [0, 1, 2, 3] rfl)
        ·
          refine lv_aload_n hx hb dX11_buildsAll_138 rfl (lv_at hl 0 rfl) ?_
          refine lv_iload_n hx hb dX11_buildsAll_139 rfl (lv_at hl 1 rfl) ?_
          refine lv_iconst (v := 4) hx hb dX11_buildsAll_140 (by decide) ?_
          refine lv_iconst (v := 2) hx hb dX11_buildsAll_141 (by decide) ?_
          refine lv_aload_n hx hb dX11_buildsAll_142 rfl (lv_at hl 0 rfl) ?_
          refine lv_iload_n hx hb dX11_buildsAll_143 rfl (lv_at hl 1 rfl) ?_
          have hPc := hP.sub (ws' := [(h0, .inr (11, gM a (upd i 15 (nI dn)) (vp_updL (vp_updL (vp_updL (fun _ => 0) 12 sd) 13 (lN ka)) 14 (lN kb)))), (a 3, .inl (cm 3, 85, .inr (.inl w2)))]) [3, 4] rfl
          have hKc := hK.sub (tys' := [(cm 3, .long)]) [0] rfl
          have hFc := va_free0 hS hA
          refine va_calli (va_runV (As := [.int (nI k)]) (rest := [.int 2, .int 4, .int (nI k), .ref h0]) ⟨hx, hb, hml, hown, hts⟩ (c_buckets l D _ h0 a cm (upd i 15 (nI dn)) (vp_updL (vp_updL (vp_updL (fun _ => 0) 12 sd) 13 (lN ka)) 14 (lN kb)) w2 k nb (by first | assumption | omega) ((hp6_0 _ (by omega) (by omega) (by omega)).trans g4)) (cwV 1 hts g_c_buildsAll_c_buckets_152 rfl rfl rfl (by decide +kernel) ⟨(Nat.le_of_ble_eq_true rfl), (Nat.le_of_ble_eq_true rfl)⟩) (PcR_V (q0 := 0) hPc hKc rfl rfl) rfl rfl hl.1 rfl (lv_room (Nat.le_of_ble_eq_true rfl)) dX11_buildsAll_144 ⟨(Nat.le_of_ble_eq_true rfl), (Nat.le_of_ble_eq_true rfl)⟩) hS (fun q _ h => hFc q h) hFc (fun r21 uu tt H locs htt hvm hw hB hz1 hk1 hS => ?_)
          have hP := va_keep hP hk1
          try dsimp only at hw
          clear hB hz1 hk1 hFc hPc hKc
          obtain rfl : r21 = nI nb := hw
          refine lv_imul hx hb dX11_buildsAll_147 ?_
          refine lv_topi (fun v22 ev22 => ?_)
          obtain rfl : v22 = nI (2 * nb) := ev22.trans (pk_mul 2 nb)
          refine lv_sipush (v := 2048) hx hb dX11_buildsAll_148 (by decide) ?_
          refine lv_icmp_le (tgt := 160) hx hb dX11_buildsAll_151 (by decide) (fun hc23 => ?_) (fun hc23 => ?_)
          ·
            have h2n : 2 * nb ≤ 2048 := (nI_leI (b := 2048) (by omega) (by decide)).mp hc23
            refine lv_iconst (v := 2) hx hb dX11_buildsAll_160 (by decide) ?_
            refine lv_aload_n hx hb dX11_buildsAll_161 rfl (lv_at hl 0 rfl) ?_
            refine lv_iload_n hx hb dX11_buildsAll_162 rfl (lv_at hl 1 rfl) ?_
            have hPc := hP.sub (ws' := [(h0, .inr (11, gM a (upd i 15 (nI dn)) (vp_updL (vp_updL (vp_updL (fun _ => 0) 12 sd) 13 (lN ka)) 14 (lN kb)))), (a 3, .inl (cm 3, 85, .inr (.inl w2)))]) [3, 4] rfl
            have hKc := hK.sub (tys' := [(cm 3, .long)]) [0] rfl
            have hFc := va_free0 hS hA
            refine va_calli (va_runV (As := [.int (nI k)]) (rest := [.int 2, .int 4, .int (nI k), .ref h0]) ⟨hx, hb, hml, hown, hts⟩ (c_buckets l D _ h0 a cm (upd i 15 (nI dn)) (vp_updL (vp_updL (vp_updL (fun _ => 0) 12 sd) 13 (lN ka)) 14 (lN kb)) w2 k nb (by first | assumption | omega) ((hp6_0 _ (by omega) (by omega) (by omega)).trans g4)) (cwV 1 hts g_c_buildsAll_c_buckets_152 rfl rfl rfl (by decide +kernel) ⟨(Nat.le_of_ble_eq_true rfl), (Nat.le_of_ble_eq_true rfl)⟩) (PcR_V (q0 := 0) hPc hKc rfl rfl) rfl rfl hl.1 rfl (lv_room (Nat.le_of_ble_eq_true rfl)) dX11_buildsAll_163 ⟨(Nat.le_of_ble_eq_true rfl), (Nat.le_of_ble_eq_true rfl)⟩) hS (fun q _ h => hFc q h) hFc (fun r24 uu tt H locs htt hvm hw hB hz1 hk1 hS => ?_)
            have hP := va_keep hP hk1
            try dsimp only at hw
            clear hB hz1 hk1 hFc hPc hKc
            obtain rfl : r24 = nI nb := hw
            refine lv_imul hx hb dX11_buildsAll_166 ?_
            refine lv_topi (fun v25 ev25 => ?_)
            obtain rfl : v25 = nI (2 * nb) := ev25.trans (pk_mul 2 nb)
            refine lv_i2l hx hb dX11_buildsAll_167 rfl ?_
            refine lv_topl (fun v26 ev26 => ?_)
            obtain rfl : v26 = lN (2 * nb) := ev26.trans (nI_l (by omega))
            have hPc := hP.sub (ws' := [(h0, .inr (11, gM a (upd i 15 (nI dn)) (vp_updL (vp_updL (vp_updL (fun _ => 0) 12 sd) 13 (lN ka)) 14 (lN kb)))), (a 3, .inl (cm 3, 85, .inr (.inl w2)))]) [3, 4] rfl
            have hKc := hK.sub (tys' := [(cm 3, .long)]) [0] rfl
            have hDc := hD.sub (ws' := [(h0, .inr (11, gM a (upd i 15 (nI dn)) (vp_updL (vp_updL (vp_updL (fun _ => 0) 12 sd) 13 (lN ka)) 14 (lN kb)))), (a 3, .inl (cm 3, 85, .inr (.inl w2)))]) [3, 4] (by decide) rfl
            have hFc := va_free (wc := [(h0, .inr (11, gM a (upd i 15 (nI dn)) (vp_updL (vp_updL (vp_updL (fun _ => 0) 12 sd) 13 (lN ka)) 14 (lN kb)))), (a 3, .inl (cm 3, 85, .inr (.inl w2)))]) hD hS hA [3, 4] rfl
            refine va_callv (va_runV (As := [.int (nI k), .int (nI 4), .long (lN (2 * nb))]) (rest := []) ⟨hx, hb, hml, hown, hts⟩ (c_lays l D _ h0 a cm (upd i 15 (nI dn)) (vp_updL (vp_updL (vp_updL (fun _ => 0) 12 sd) 13 (lN ka)) 14 (lN kb)) w2 k 4 (lN (2 * nb)) (by first | assumption | omega) (by first | assumption | omega)) (cwV 3 hts g_c_buildsAll_c_lays_126 rfl rfl rfl (by decide +kernel) ⟨(Nat.le_of_ble_eq_true rfl), (Nat.le_of_ble_eq_true rfl)⟩) (PcW_V (q0 := 0) hPc hKc hDc rfl rfl) rfl rfl hl.1 rfl (lv_room (Nat.le_of_ble_eq_true rfl)) dX11_buildsAll_168 ⟨(Nat.le_of_ble_eq_true rfl), (Nat.le_of_ble_eq_true rfl)⟩) hS (fun q _ h => hFc q h) hFc (fun uu tt H locs htt hvm hw hB hz1 hk1 hS => ?_)
            obtain ⟨w28, rfl⟩ : ∃ z, z = uu := ⟨_, rfl⟩
            obtain ⟨hP1, hK1, hD1⟩ := hB
            rw [htt] at hP1
            have hK1 := va_K.moved hvm.symm hK1
            have hP1 : va_P D vwCl [(h0, .inr (11, gM a (upd i 15 (nI dn)) (vp_updL (vp_updL (vp_updL (fun _ => 0) 12 sd) 13 (lN ka)) 14 (lN kb)))), (a 3, .inl (cm 3, 85, .inr (.inl w28)))] H := hP1
            obtain ⟨hP, hD⟩ := va_join (wr := [(a 7, .inl (cm 7, 800, .inl fr)), (a 10, .inl (cm 10, 10240, .inr (.inl fa))), (a 11, .inl (cm 11, 10240, .inr (.inl fs))), (a 4, .inl (cm 4, 800, .inl fk)), (a 6, .inl (cm 6, 800, .inl w3)), (a 8, .inl (cm 8, 10240, .inl w4)), (a 9, .inl (cm 9, 10240, .inl w5))]) (w1 := [(h0, .inr (11, gM a (upd i 15 (nI dn)) (vp_updL (vp_updL (vp_updL (fun _ => 0) 12 sd) 13 (lN ka)) 14 (lN kb)))), (a 3, .inl (cm 3, 85, .inr (.inl w28)))]) hP hD [3, 4] [0, 1, 2, 5, 6, 7, 8] rfl rfl (by decide) (by decide) hk1 hFc hP1 hD1
            have hP : va_P D vwCl [(a 7, .inl (cm 7, 800, .inl fr)), (a 10, .inl (cm 10, 10240, .inr (.inl fa))), (a 11, .inl (cm 11, 10240, .inr (.inl fs))), (a 4, .inl (cm 4, 800, .inl fk)), (a 6, .inl (cm 6, 800, .inl w3)), (a 8, .inl (cm 8, 10240, .inl w4)), (a 9, .inl (cm 9, 10240, .inl w5)), (h0, .inr (11, gM a (upd i 15 (nI dn)) (vp_updL (vp_updL (vp_updL (fun _ => 0) 12 sd) 13 (lN ka)) 14 (lN kb)))), (a 3, .inl (cm 3, 85, .inr (.inl w28)))] H := hP
            have hD : va_D A [(a 7, .inl (cm 7, 800, .inl fr)), (a 10, .inl (cm 10, 10240, .inr (.inl fa))), (a 11, .inl (cm 11, 10240, .inr (.inl fs))), (a 4, .inl (cm 4, 800, .inl fk)), (a 6, .inl (cm 6, 800, .inl w3)), (a 8, .inl (cm 8, 10240, .inl w4)), (a 9, .inl (cm 9, 10240, .inl w5)), (h0, .inr (11, gM a (upd i 15 (nI dn)) (vp_updL (vp_updL (vp_updL (fun _ => 0) 12 sd) 13 (lN ka)) 14 (lN kb)))), (a 3, .inl (cm 3, 85, .inr (.inl w28)))] := hD
            try dsimp only at hw
            clear hz1 hk1 hFc hPc hKc hDc
            have hL29 := hw
            refine lv_aload_n hx hb dX11_buildsAll_171 rfl (lv_at hl 0 rfl) ?_
            have hPc := hP.sub (ws' := [(h0, .inr (11, gM a (upd i 15 (nI dn)) (vp_updL (vp_updL (vp_updL (fun _ => 0) 12 sd) 13 (lN ka)) 14 (lN kb))))]) [7] rfl
            have hKc := hK.sub (tys' := []) [] rfl
            have hDc := hD.sub (ws' := [(h0, .inr (11, gM a (upd i 15 (nI dn)) (vp_updL (vp_updL (vp_updL (fun _ => 0) 12 sd) 13 (lN ka)) 14 (lN kb))))]) [7] (by decide) rfl
            have hFc := va_free (wc := [(h0, .inr (11, gM a (upd i 15 (nI dn)) (vp_updL (vp_updL (vp_updL (fun _ => 0) 12 sd) 13 (lN ka)) 14 (lN kb))))]) hD hS hA [7] rfl
            refine va_callv (va_runV (As := []) (rest := []) ⟨hx, hb, hml, hown, hts⟩ (c_drawsPair l D _ h0 a cm (upd i 15 (nI dn)) (vp_updL (vp_updL (vp_updL (fun _ => 0) 12 sd) 13 (lN ka)) 14 (lN kb))) (cwV 0 hts g_c_buildsAll_c_drawsPair_141 rfl rfl rfl (by decide +kernel) ⟨(Nat.le_of_ble_eq_true rfl), (Nat.le_of_ble_eq_true rfl)⟩) (PcW_V (q0 := 0) hPc hKc hDc rfl rfl) rfl rfl hl.1 rfl (lv_room (Nat.le_of_ble_eq_true rfl)) dX11_buildsAll_172 ⟨(Nat.le_of_ble_eq_true rfl), (Nat.le_of_ble_eq_true rfl)⟩) hS (fun q _ h => hFc q h) hFc (fun uu tt H locs htt hvm hw hB hz1 hk1 hS => ?_)
            obtain ⟨w31, w32, w33, w34⟩ := uu
            obtain ⟨hP1, hK1, hD1⟩ := hB
            rw [htt] at hP1
            have hK1 := va_K.moved hvm.symm hK1
            have hP1 : va_P D vwCl [(h0, .inr (11, gM a (upd i 15 w34) (vp_updL (vp_updL (vp_updL (fun _ => 0) 12 w31) 13 w32) 14 w33)))] H := hP1
            obtain ⟨hP, hD⟩ := va_join (wr := [(a 7, .inl (cm 7, 800, .inl fr)), (a 10, .inl (cm 10, 10240, .inr (.inl fa))), (a 11, .inl (cm 11, 10240, .inr (.inl fs))), (a 4, .inl (cm 4, 800, .inl fk)), (a 6, .inl (cm 6, 800, .inl w3)), (a 8, .inl (cm 8, 10240, .inl w4)), (a 9, .inl (cm 9, 10240, .inl w5)), (a 3, .inl (cm 3, 85, .inr (.inl w28)))]) (w1 := [(h0, .inr (11, gM a (upd i 15 w34) (vp_updL (vp_updL (vp_updL (fun _ => 0) 12 w31) 13 w32) 14 w33)))]) hP hD [7] [0, 1, 2, 3, 4, 5, 6, 8] rfl rfl (by decide) (by decide) hk1 hFc hP1 hD1
            have hP : va_P D vwCl [(a 7, .inl (cm 7, 800, .inl fr)), (a 10, .inl (cm 10, 10240, .inr (.inl fa))), (a 11, .inl (cm 11, 10240, .inr (.inl fs))), (a 4, .inl (cm 4, 800, .inl fk)), (a 6, .inl (cm 6, 800, .inl w3)), (a 8, .inl (cm 8, 10240, .inl w4)), (a 9, .inl (cm 9, 10240, .inl w5)), (a 3, .inl (cm 3, 85, .inr (.inl w28))), (h0, .inr (11, gM a (upd i 15 w34) (vp_updL (vp_updL (vp_updL (fun _ => 0) 12 w31) 13 w32) 14 w33)))] H := hP
            have hD : va_D A [(a 7, .inl (cm 7, 800, .inl fr)), (a 10, .inl (cm 10, 10240, .inr (.inl fa))), (a 11, .inl (cm 11, 10240, .inr (.inl fs))), (a 4, .inl (cm 4, 800, .inl fk)), (a 6, .inl (cm 6, 800, .inl w3)), (a 8, .inl (cm 8, 10240, .inl w4)), (a 9, .inl (cm 9, 10240, .inl w5)), (a 3, .inl (cm 3, 85, .inr (.inl w28))), (h0, .inr (11, gM a (upd i 15 w34) (vp_updL (vp_updL (vp_updL (fun _ => 0) 12 w31) 13 w32) 14 w33)))] := hD
            try dsimp only at hw
            clear hz1 hk1 hFc hPc hKc hDc
            obtain ⟨es_r30, ⟨ka35, kb36, e2, e3, hka35, hkb36, eka35⟩, ed_r30⟩ := hw
            have es_r30 : w31 = sdn sd := es_r30
            have eka35 : ka35 = aOf sd := eka35
            have ed_r30 : w34 = (nI dn) + 1 := ed_r30
            obtain rfl : w32 = lN ka35 := e2
            obtain rfl : w33 = lN kb36 := e3
            have hP : va_P D vwCl [(a 7, .inl (cm 7, 800, .inl fr)), (a 10, .inl (cm 10, 10240, .inr (.inl fa))), (a 11, .inl (cm 11, 10240, .inr (.inl fs))), (a 4, .inl (cm 4, 800, .inl fk)), (a 6, .inl (cm 6, 800, .inl w3)), (a 8, .inl (cm 8, 10240, .inl w4)), (a 9, .inl (cm 9, 10240, .inl w5)), (a 3, .inl (cm 3, 85, .inr (.inl w28))), (h0, .inr (11, gM a (upd i 15 w34) (vp_updL (vp_updL (vp_updL (fun _ => 0) 12 w31) 13 (lN ka35)) 14 (lN kb36))))] H := hP
            have hD : va_D A [(a 7, .inl (cm 7, 800, .inl fr)), (a 10, .inl (cm 10, 10240, .inr (.inl fa))), (a 11, .inl (cm 11, 10240, .inr (.inl fs))), (a 4, .inl (cm 4, 800, .inl fk)), (a 6, .inl (cm 6, 800, .inl w3)), (a 8, .inl (cm 8, 10240, .inl w4)), (a 9, .inl (cm 9, 10240, .inl w5)), (a 3, .inl (cm 3, 85, .inr (.inl w28))), (h0, .inr (11, gM a (upd i 15 w34) (vp_updL (vp_updL (vp_updL (fun _ => 0) 12 w31) 13 (lN ka35)) 14 (lN kb36))))] := hD
            obtain rfl : w34 = nI (dn + 1) := ed_r30.trans (nI_1 dn)
            have hP : va_P D vwCl [(a 7, .inl (cm 7, 800, .inl fr)), (a 10, .inl (cm 10, 10240, .inr (.inl fa))), (a 11, .inl (cm 11, 10240, .inr (.inl fs))), (a 4, .inl (cm 4, 800, .inl fk)), (a 6, .inl (cm 6, 800, .inl w3)), (a 8, .inl (cm 8, 10240, .inl w4)), (a 9, .inl (cm 9, 10240, .inl w5)), (a 3, .inl (cm 3, 85, .inr (.inl w28))), (h0, .inr (11, gM a (upd i 15 (nI (dn + 1))) (vp_updL (vp_updL (vp_updL (fun _ => 0) 12 w31) 13 (lN ka35)) 14 (lN kb36))))] H := hP
            have hD : va_D A [(a 7, .inl (cm 7, 800, .inl fr)), (a 10, .inl (cm 10, 10240, .inr (.inl fa))), (a 11, .inl (cm 11, 10240, .inr (.inl fs))), (a 4, .inl (cm 4, 800, .inl fk)), (a 6, .inl (cm 6, 800, .inl w3)), (a 8, .inl (cm 8, 10240, .inl w4)), (a 9, .inl (cm 9, 10240, .inl w5)), (a 3, .inl (cm 3, 85, .inr (.inl w28))), (h0, .inr (11, gM a (upd i 15 (nI (dn + 1))) (vp_updL (vp_updL (vp_updL (fun _ => 0) 12 w31) 13 (lN ka35)) 14 (lN kb36))))] := hD
            refine lv_goto (tgt := 86) hx hb dX11_buildsAll_175 (by decide) ?_
            exact ih (dn + 1) (2 * nb) ka35 kb36 w31 w28 w3 w4 w5 (by omega) (by omega) (by omega) (by omega) (hka35) (hkb36) (hL29.1) (fun x e4 e5 e6 e7 => (hL29.2 x e4).trans ((hp6_0 x e5 e6 e7).trans (gr1 x e4 e5 e6 e7))) (fun x e => (hp6_6 x e).trans (f1 x e)) (fun x e => (hp6_7 x e).trans (f2 x e)) (fun x e => (hp6_8 x e).trans (f3 x e)) (by omega) H locs ls (hP.sub [8, 7, 3, 4, 0, 5, 6, 1, 2] rfl) (hD.sub [8, 7, 3, 4, 0, 5, 6, 1, 2] (by decide) rfl) hS (lv_sub hl [0, 1, 2, 3] rfl)
          ·
            refine lv_ldc2 (v := 2048) hx hb hown (hts (.constantLong RX11 169 (2048)) (List.mem_of_getElem? (i := 20) rfl)) dX11_buildsAll_154 ?_
            refine lv_topl (fun v37 ev37 => ?_)
            obtain rfl : v37 = lN 2048 := ev37.trans (rfl)
            refine lv_goto (tgt := 168) hx hb dX11_buildsAll_157 (by decide) ?_
            have hPc := hP.sub (ws' := [(h0, .inr (11, gM a (upd i 15 (nI dn)) (vp_updL (vp_updL (vp_updL (fun _ => 0) 12 sd) 13 (lN ka)) 14 (lN kb)))), (a 3, .inl (cm 3, 85, .inr (.inl w2)))]) [3, 4] rfl
            have hKc := hK.sub (tys' := [(cm 3, .long)]) [0] rfl
            have hDc := hD.sub (ws' := [(h0, .inr (11, gM a (upd i 15 (nI dn)) (vp_updL (vp_updL (vp_updL (fun _ => 0) 12 sd) 13 (lN ka)) 14 (lN kb)))), (a 3, .inl (cm 3, 85, .inr (.inl w2)))]) [3, 4] (by decide) rfl
            have hFc := va_free (wc := [(h0, .inr (11, gM a (upd i 15 (nI dn)) (vp_updL (vp_updL (vp_updL (fun _ => 0) 12 sd) 13 (lN ka)) 14 (lN kb)))), (a 3, .inl (cm 3, 85, .inr (.inl w2)))]) hD hS hA [3, 4] rfl
            refine va_callv (va_runV (As := [.int (nI k), .int (nI 4), .long (lN 2048)]) (rest := []) ⟨hx, hb, hml, hown, hts⟩ (c_lays l D _ h0 a cm (upd i 15 (nI dn)) (vp_updL (vp_updL (vp_updL (fun _ => 0) 12 sd) 13 (lN ka)) 14 (lN kb)) w2 k 4 (lN 2048) (by first | assumption | omega) (by first | assumption | omega)) (cwV 3 hts g_c_buildsAll_c_lays_126 rfl rfl rfl (by decide +kernel) ⟨(Nat.le_of_ble_eq_true rfl), (Nat.le_of_ble_eq_true rfl)⟩) (PcW_V (q0 := 0) hPc hKc hDc rfl rfl) rfl rfl hl.1 rfl (lv_room (Nat.le_of_ble_eq_true rfl)) dX11_buildsAll_168 ⟨(Nat.le_of_ble_eq_true rfl), (Nat.le_of_ble_eq_true rfl)⟩) hS (fun q _ h => hFc q h) hFc (fun uu tt H locs htt hvm hw hB hz1 hk1 hS => ?_)
            obtain ⟨w39, rfl⟩ : ∃ z, z = uu := ⟨_, rfl⟩
            obtain ⟨hP1, hK1, hD1⟩ := hB
            rw [htt] at hP1
            have hK1 := va_K.moved hvm.symm hK1
            have hP1 : va_P D vwCl [(h0, .inr (11, gM a (upd i 15 (nI dn)) (vp_updL (vp_updL (vp_updL (fun _ => 0) 12 sd) 13 (lN ka)) 14 (lN kb)))), (a 3, .inl (cm 3, 85, .inr (.inl w39)))] H := hP1
            obtain ⟨hP, hD⟩ := va_join (wr := [(a 7, .inl (cm 7, 800, .inl fr)), (a 10, .inl (cm 10, 10240, .inr (.inl fa))), (a 11, .inl (cm 11, 10240, .inr (.inl fs))), (a 4, .inl (cm 4, 800, .inl fk)), (a 6, .inl (cm 6, 800, .inl w3)), (a 8, .inl (cm 8, 10240, .inl w4)), (a 9, .inl (cm 9, 10240, .inl w5))]) (w1 := [(h0, .inr (11, gM a (upd i 15 (nI dn)) (vp_updL (vp_updL (vp_updL (fun _ => 0) 12 sd) 13 (lN ka)) 14 (lN kb)))), (a 3, .inl (cm 3, 85, .inr (.inl w39)))]) hP hD [3, 4] [0, 1, 2, 5, 6, 7, 8] rfl rfl (by decide) (by decide) hk1 hFc hP1 hD1
            have hP : va_P D vwCl [(a 7, .inl (cm 7, 800, .inl fr)), (a 10, .inl (cm 10, 10240, .inr (.inl fa))), (a 11, .inl (cm 11, 10240, .inr (.inl fs))), (a 4, .inl (cm 4, 800, .inl fk)), (a 6, .inl (cm 6, 800, .inl w3)), (a 8, .inl (cm 8, 10240, .inl w4)), (a 9, .inl (cm 9, 10240, .inl w5)), (h0, .inr (11, gM a (upd i 15 (nI dn)) (vp_updL (vp_updL (vp_updL (fun _ => 0) 12 sd) 13 (lN ka)) 14 (lN kb)))), (a 3, .inl (cm 3, 85, .inr (.inl w39)))] H := hP
            have hD : va_D A [(a 7, .inl (cm 7, 800, .inl fr)), (a 10, .inl (cm 10, 10240, .inr (.inl fa))), (a 11, .inl (cm 11, 10240, .inr (.inl fs))), (a 4, .inl (cm 4, 800, .inl fk)), (a 6, .inl (cm 6, 800, .inl w3)), (a 8, .inl (cm 8, 10240, .inl w4)), (a 9, .inl (cm 9, 10240, .inl w5)), (h0, .inr (11, gM a (upd i 15 (nI dn)) (vp_updL (vp_updL (vp_updL (fun _ => 0) 12 sd) 13 (lN ka)) 14 (lN kb)))), (a 3, .inl (cm 3, 85, .inr (.inl w39)))] := hD
            try dsimp only at hw
            clear hz1 hk1 hFc hPc hKc hDc
            have hL40 := hw
            refine lv_aload_n hx hb dX11_buildsAll_171 rfl (lv_at hl 0 rfl) ?_
            have hPc := hP.sub (ws' := [(h0, .inr (11, gM a (upd i 15 (nI dn)) (vp_updL (vp_updL (vp_updL (fun _ => 0) 12 sd) 13 (lN ka)) 14 (lN kb))))]) [7] rfl
            have hKc := hK.sub (tys' := []) [] rfl
            have hDc := hD.sub (ws' := [(h0, .inr (11, gM a (upd i 15 (nI dn)) (vp_updL (vp_updL (vp_updL (fun _ => 0) 12 sd) 13 (lN ka)) 14 (lN kb))))]) [7] (by decide) rfl
            have hFc := va_free (wc := [(h0, .inr (11, gM a (upd i 15 (nI dn)) (vp_updL (vp_updL (vp_updL (fun _ => 0) 12 sd) 13 (lN ka)) 14 (lN kb))))]) hD hS hA [7] rfl
            refine va_callv (va_runV (As := []) (rest := []) ⟨hx, hb, hml, hown, hts⟩ (c_drawsPair l D _ h0 a cm (upd i 15 (nI dn)) (vp_updL (vp_updL (vp_updL (fun _ => 0) 12 sd) 13 (lN ka)) 14 (lN kb))) (cwV 0 hts g_c_buildsAll_c_drawsPair_141 rfl rfl rfl (by decide +kernel) ⟨(Nat.le_of_ble_eq_true rfl), (Nat.le_of_ble_eq_true rfl)⟩) (PcW_V (q0 := 0) hPc hKc hDc rfl rfl) rfl rfl hl.1 rfl (lv_room (Nat.le_of_ble_eq_true rfl)) dX11_buildsAll_172 ⟨(Nat.le_of_ble_eq_true rfl), (Nat.le_of_ble_eq_true rfl)⟩) hS (fun q _ h => hFc q h) hFc (fun uu tt H locs htt hvm hw hB hz1 hk1 hS => ?_)
            obtain ⟨w42, w43, w44, w45⟩ := uu
            obtain ⟨hP1, hK1, hD1⟩ := hB
            rw [htt] at hP1
            have hK1 := va_K.moved hvm.symm hK1
            have hP1 : va_P D vwCl [(h0, .inr (11, gM a (upd i 15 w45) (vp_updL (vp_updL (vp_updL (fun _ => 0) 12 w42) 13 w43) 14 w44)))] H := hP1
            obtain ⟨hP, hD⟩ := va_join (wr := [(a 7, .inl (cm 7, 800, .inl fr)), (a 10, .inl (cm 10, 10240, .inr (.inl fa))), (a 11, .inl (cm 11, 10240, .inr (.inl fs))), (a 4, .inl (cm 4, 800, .inl fk)), (a 6, .inl (cm 6, 800, .inl w3)), (a 8, .inl (cm 8, 10240, .inl w4)), (a 9, .inl (cm 9, 10240, .inl w5)), (a 3, .inl (cm 3, 85, .inr (.inl w39)))]) (w1 := [(h0, .inr (11, gM a (upd i 15 w45) (vp_updL (vp_updL (vp_updL (fun _ => 0) 12 w42) 13 w43) 14 w44)))]) hP hD [7] [0, 1, 2, 3, 4, 5, 6, 8] rfl rfl (by decide) (by decide) hk1 hFc hP1 hD1
            have hP : va_P D vwCl [(a 7, .inl (cm 7, 800, .inl fr)), (a 10, .inl (cm 10, 10240, .inr (.inl fa))), (a 11, .inl (cm 11, 10240, .inr (.inl fs))), (a 4, .inl (cm 4, 800, .inl fk)), (a 6, .inl (cm 6, 800, .inl w3)), (a 8, .inl (cm 8, 10240, .inl w4)), (a 9, .inl (cm 9, 10240, .inl w5)), (a 3, .inl (cm 3, 85, .inr (.inl w39))), (h0, .inr (11, gM a (upd i 15 w45) (vp_updL (vp_updL (vp_updL (fun _ => 0) 12 w42) 13 w43) 14 w44)))] H := hP
            have hD : va_D A [(a 7, .inl (cm 7, 800, .inl fr)), (a 10, .inl (cm 10, 10240, .inr (.inl fa))), (a 11, .inl (cm 11, 10240, .inr (.inl fs))), (a 4, .inl (cm 4, 800, .inl fk)), (a 6, .inl (cm 6, 800, .inl w3)), (a 8, .inl (cm 8, 10240, .inl w4)), (a 9, .inl (cm 9, 10240, .inl w5)), (a 3, .inl (cm 3, 85, .inr (.inl w39))), (h0, .inr (11, gM a (upd i 15 w45) (vp_updL (vp_updL (vp_updL (fun _ => 0) 12 w42) 13 w43) 14 w44)))] := hD
            try dsimp only at hw
            clear hz1 hk1 hFc hPc hKc hDc
            obtain ⟨es_r41, ⟨ka46, kb47, e2, e3, hka46, hkb47, eka46⟩, ed_r41⟩ := hw
            have es_r41 : w42 = sdn sd := es_r41
            have eka46 : ka46 = aOf sd := eka46
            have ed_r41 : w45 = (nI dn) + 1 := ed_r41
            obtain rfl : w43 = lN ka46 := e2
            obtain rfl : w44 = lN kb47 := e3
            have hP : va_P D vwCl [(a 7, .inl (cm 7, 800, .inl fr)), (a 10, .inl (cm 10, 10240, .inr (.inl fa))), (a 11, .inl (cm 11, 10240, .inr (.inl fs))), (a 4, .inl (cm 4, 800, .inl fk)), (a 6, .inl (cm 6, 800, .inl w3)), (a 8, .inl (cm 8, 10240, .inl w4)), (a 9, .inl (cm 9, 10240, .inl w5)), (a 3, .inl (cm 3, 85, .inr (.inl w39))), (h0, .inr (11, gM a (upd i 15 w45) (vp_updL (vp_updL (vp_updL (fun _ => 0) 12 w42) 13 (lN ka46)) 14 (lN kb47))))] H := hP
            have hD : va_D A [(a 7, .inl (cm 7, 800, .inl fr)), (a 10, .inl (cm 10, 10240, .inr (.inl fa))), (a 11, .inl (cm 11, 10240, .inr (.inl fs))), (a 4, .inl (cm 4, 800, .inl fk)), (a 6, .inl (cm 6, 800, .inl w3)), (a 8, .inl (cm 8, 10240, .inl w4)), (a 9, .inl (cm 9, 10240, .inl w5)), (a 3, .inl (cm 3, 85, .inr (.inl w39))), (h0, .inr (11, gM a (upd i 15 w45) (vp_updL (vp_updL (vp_updL (fun _ => 0) 12 w42) 13 (lN ka46)) 14 (lN kb47))))] := hD
            obtain rfl : w45 = nI (dn + 1) := ed_r41.trans (nI_1 dn)
            have hP : va_P D vwCl [(a 7, .inl (cm 7, 800, .inl fr)), (a 10, .inl (cm 10, 10240, .inr (.inl fa))), (a 11, .inl (cm 11, 10240, .inr (.inl fs))), (a 4, .inl (cm 4, 800, .inl fk)), (a 6, .inl (cm 6, 800, .inl w3)), (a 8, .inl (cm 8, 10240, .inl w4)), (a 9, .inl (cm 9, 10240, .inl w5)), (a 3, .inl (cm 3, 85, .inr (.inl w39))), (h0, .inr (11, gM a (upd i 15 (nI (dn + 1))) (vp_updL (vp_updL (vp_updL (fun _ => 0) 12 w42) 13 (lN ka46)) 14 (lN kb47))))] H := hP
            have hD : va_D A [(a 7, .inl (cm 7, 800, .inl fr)), (a 10, .inl (cm 10, 10240, .inr (.inl fa))), (a 11, .inl (cm 11, 10240, .inr (.inl fs))), (a 4, .inl (cm 4, 800, .inl fk)), (a 6, .inl (cm 6, 800, .inl w3)), (a 8, .inl (cm 8, 10240, .inl w4)), (a 9, .inl (cm 9, 10240, .inl w5)), (a 3, .inl (cm 3, 85, .inr (.inl w39))), (h0, .inr (11, gM a (upd i 15 (nI (dn + 1))) (vp_updL (vp_updL (vp_updL (fun _ => 0) 12 w42) 13 (lN ka46)) 14 (lN kb47))))] := hD
            refine lv_goto (tgt := 86) hx hb dX11_buildsAll_175 (by decide) ?_
            exact ih (dn + 1) 2048 ka46 kb47 w42 w39 w3 w4 w5 (by omega) (by omega) (by omega) (by omega) (hka46) (hkb47) (hL40.1) (fun x e4 e5 e6 e7 => (hL40.2 x e4).trans ((hp6_0 x e5 e6 e7).trans (gr1 x e4 e5 e6 e7))) (fun x e => (hp6_6 x e).trans (f1 x e)) (fun x e => (hp6_7 x e).trans (f2 x e)) (fun x e => (hp6_8 x e).trans (f3 x e)) (by omega) H locs ls (hP.sub [8, 7, 3, 4, 0, 5, 6, 1, 2] rfl) (hD.sub [8, 7, 3, 4, 0, 5, 6, 1, 2] (by decide) rfl) hS (lv_sub hl [0, 1, 2, 3] rfl)
set_option maxHeartbeats 4000000 in
set_option maxRecDepth 100000 in
theorem lp_bA2 (l : Launch) {p : Program} {e : Env} {s : State} {m : MethodId} {args : Array Value} {below : List Frame} {meth : Method} {c : Code} {Q : State → Prop} {A : Nat → Prop} (D : va_G) (h0 : Nat) (a : Nat → Nat) (cm : Nat → ClassId) (i : Nat → Int32) (g : Nat → Int64) (fn : Nat → Int64) (fk : Nat → Int32) (fb : Nat → Int32) (ff : Nat → Int32) (fh : Nat → Int32) (k : Nat) (cn : Nat) (K : Nat → Nat) (nb : Nat) (J : Nat → Nat) (hk : k < 5) (h1 : fn (17 * k + 1) = lN cn) (hcn : cn ≤ 160) (h4 : fn (17 * k + 4) = lN nb) (hn2 : nb ≤ 2048) (hKy : KyS k fk cn K) (hBk : BkS k fb cn nb J) (hr2 : ∀ b, b < nb → ff (2048 * k + b) = nI (2 * cntJ J cn b)) (hx : p.tables.exec = Jvm.exec) (hb : c.code = cX11_buildsAll) (hml : c.maxLocals = 6) (hown : s.vm.findClass RX11 = some m.cls) (hts : ∀ w ∈ wp_c_buildsAll, w.before args s = true) (hA : ∀ q, s.heap.size ≤ q → A q) (hK : va_K D vwCl [(cm 3, .long), (cm 4, .int), (cm 6, .int), (cm 7, .int), (cm 8, .int), (cm 9, .int), (cm 10, .long), (cm 11, .long)] s) (kx204 : ∀ (j : Nat), ∀ (gr7 : Nat → Int32), ∀ (ga : Nat → Int64), ∀ (gs : Nat → Int64), ∀ (sd : Int64), ∀ (pa : Int64), ∀ (pb : Int64), ∀ (dr : Int32), (j ≤ nb) → (RngL ga) → (RngL gs) → (nb ≤ j) → ∀ (H : Heap) (locs : List Loc) (ls : Array Slot), va_P D vwCl [(h0, .inr (11, gM a (upd i 15 dr) (vp_updL (vp_updL (vp_updL (fun _ => 0) 12 sd) 13 pa) 14 pb))), (a 3, .inl (cm 3, 85, .inr (.inl fn))), (a 4, .inl (cm 4, 800, .inl fk)), (a 6, .inl (cm 6, 800, .inl fb)), (a 7, .inl (cm 7, 800, .inl gr7)), (a 8, .inl (cm 8, 10240, .inl ff)), (a 9, .inl (cm 9, 10240, .inl fh)), (a 10, .inl (cm 10, 10240, .inr (.inl ga))), (a 11, .inl (cm 11, 10240, .inr (.inl gs)))] H → va_D A [(h0, .inr (11, gM a (upd i 15 dr) (vp_updL (vp_updL (vp_updL (fun _ => 0) 12 sd) 13 pa) 14 pb))), (a 3, .inl (cm 3, 85, .inr (.inl fn))), (a 4, .inl (cm 4, 800, .inl fk)), (a 6, .inl (cm 6, 800, .inl fb)), (a 7, .inl (cm 7, 800, .inl gr7)), (a 8, .inl (cm 8, 10240, .inl ff)), (a 9, .inl (cm 9, 10240, .inl fh)), (a 10, .inl (cm 10, 10240, .inr (.inl ga))), (a 11, .inl (cm 11, 10240, .inr (.inl gs)))] → va_S A s.heap H locs → lv_has ls 6 [(0, .ref h0), (1, .int (nI k)), (2, .int (nI cn))] → W p l e ({ frames := 7, cells := 0, slots := 0, locals := 190 }) s m args below meth c H locs 0 0 Q (F0 m 204 ls [])) : ∀ (N : Nat), ∀ (j : Nat), ∀ (gr7 : Nat → Int32), ∀ (ga : Nat → Int64), ∀ (gs : Nat → Int64), ∀ (sd : Int64), ∀ (pa : Int64), ∀ (pb : Int64), ∀ (dr : Int32), (j ≤ nb) → (RngL ga) → (RngL gs) → nb - j < N → ∀ (H : Heap) (locs : List Loc) (ls : Array Slot), va_P D vwCl [(h0, .inr (11, gM a (upd i 15 dr) (vp_updL (vp_updL (vp_updL (fun _ => 0) 12 sd) 13 pa) 14 pb))), (a 3, .inl (cm 3, 85, .inr (.inl fn))), (a 4, .inl (cm 4, 800, .inl fk)), (a 6, .inl (cm 6, 800, .inl fb)), (a 7, .inl (cm 7, 800, .inl gr7)), (a 8, .inl (cm 8, 10240, .inl ff)), (a 9, .inl (cm 9, 10240, .inl fh)), (a 10, .inl (cm 10, 10240, .inr (.inl ga))), (a 11, .inl (cm 11, 10240, .inr (.inl gs)))] H → va_D A [(h0, .inr (11, gM a (upd i 15 dr) (vp_updL (vp_updL (vp_updL (fun _ => 0) 12 sd) 13 pa) 14 pb))), (a 3, .inl (cm 3, 85, .inr (.inl fn))), (a 4, .inl (cm 4, 800, .inl fk)), (a 6, .inl (cm 6, 800, .inl fb)), (a 7, .inl (cm 7, 800, .inl gr7)), (a 8, .inl (cm 8, 10240, .inl ff)), (a 9, .inl (cm 9, 10240, .inl fh)), (a 10, .inl (cm 10, 10240, .inr (.inl ga))), (a 11, .inl (cm 11, 10240, .inr (.inl gs)))] → va_S A s.heap H locs → lv_has ls 6 [(5, .int (nI j)), (0, .ref h0), (1, .int (nI k)), (2, .int (nI cn))] → W p l e ({ frames := 7, cells := 0, slots := 0, locals := 190 }) s m args below meth c H locs 0 0 Q (F0 m 181 ls []) := by
  have hin_X11 : ∀ w ∈ wsX110, w ∈ wp_c_buildsAll := fun _ h => (List.mem_cons_of_mem _ (List.mem_append_right _ (List.mem_append_right _ (List.mem_append_right _ (List.mem_append_right _ (List.mem_append_right _ (List.mem_append_right _ (List.mem_append_right _ (List.mem_append_right _ (List.mem_append_right _ (List.mem_append_right _ (List.mem_append_right _ (List.mem_append_left _ h)))))))))))))
  intro N
  induction N with
  | zero =>
    intro j gr7 ga gs sd pa pb dr hj1 hga hgs hm
    exact absurd hm (Nat.not_lt_zero _)
  | succ N ih =>
    intro j gr7 ga gs sd pa pb dr hj1 hga hgs hm H locs ls hP hD hS hl
    have hB : BkS k fb cn 2048 J := fun y a => ⟨(hBk y a).1, by have := (hBk y a).2; omega⟩
    refine lv_iload hx hb dX11_buildsAll_181 (lv_at hl 0 rfl) ?_
    refine lv_aload_n hx hb dX11_buildsAll_183 rfl (lv_at hl 1 rfl) ?_
    refine lv_iload_n hx hb dX11_buildsAll_184 rfl (lv_at hl 2 rfl) ?_
    have hPc := hP.sub (ws' := [(h0, .inr (11, gM a (upd i 15 dr) (vp_updL (vp_updL (vp_updL (fun _ => 0) 12 sd) 13 pa) 14 pb))), (a 3, .inl (cm 3, 85, .inr (.inl fn)))]) [0, 1] rfl
    have hKc := hK.sub (tys' := [(cm 3, .long)]) [0] rfl
    have hFc := va_free0 hS hA
    refine va_calli (va_runV (As := [.int (nI k)]) (rest := [.int (nI j)]) ⟨hx, hb, hml, hown, hts⟩ (c_buckets l D _ h0 a cm (upd i 15 dr) (vp_updL (vp_updL (vp_updL (fun _ => 0) 12 sd) 13 pa) 14 pb) fn k nb (by first | assumption | omega) h4) (cwV 1 hts g_c_buildsAll_c_buckets_152 rfl rfl rfl (by decide +kernel) ⟨(Nat.le_of_ble_eq_true rfl), (Nat.le_of_ble_eq_true rfl)⟩) (PcR_V (q0 := 0) hPc hKc rfl rfl) rfl rfl hl.1 rfl (lv_room (Nat.le_of_ble_eq_true rfl)) dX11_buildsAll_185 ⟨(Nat.le_of_ble_eq_true rfl), (Nat.le_of_ble_eq_true rfl)⟩) hS (fun q _ h => hFc q h) hFc (fun r1 uu tt H locs htt hvm hw hB hz1 hk1 hS => ?_)
    have hP := va_keep hP hk1
    try dsimp only at hw
    clear hB hz1 hk1 hFc hPc hKc
    obtain rfl : r1 = nI nb := hw
    refine lv_icmp_ge (tgt := 204) hx hb dX11_buildsAll_188 (by decide) (fun hc2 => ?_) (fun hc2 => ?_)
    ·
      have hge_j : nb ≤ j := (nI_leI (by omega) (by omega)).mp hc2
      exact kx204 j gr7 ga gs sd pa pb dr (hj1) (hga) (hgs) (by omega) H locs ls (hP.sub [0, 1, 2, 3, 4, 5, 6, 7, 8] rfl) (hD.sub [0, 1, 2, 3, 4, 5, 6, 7, 8] (by decide) rfl) hS (lv_sub hl [1, 2, 3] rfl)
    ·
      have hlt_j : j < nb := by
        rcases Nat.lt_or_ge j nb with z | z
        · exact z
        · exact absurd (nI_le z (by omega)) hc2
      have hcl := cntJ_le J cn j
      refine lv_aload_n hx hb dX11_buildsAll_191 rfl (lv_at hl 1 rfl) ?_
      refine lv_iload_n hx hb dX11_buildsAll_192 rfl (lv_at hl 2 rfl) ?_
      refine lv_iload hx hb dX11_buildsAll_193 (lv_at hl 0 rfl) ?_
      have hPc := hP.sub (ws' := [(h0, .inr (11, gM a (upd i 15 dr) (vp_updL (vp_updL (vp_updL (fun _ => 0) 12 sd) 13 pa) 14 pb))), (a 3, .inl (cm 3, 85, .inr (.inl fn))), (a 4, .inl (cm 4, 800, .inl fk)), (a 6, .inl (cm 6, 800, .inl fb)), (a 7, .inl (cm 7, 800, .inl gr7)), (a 8, .inl (cm 8, 10240, .inl ff)), (a 10, .inl (cm 10, 10240, .inr (.inl ga))), (a 11, .inl (cm 11, 10240, .inr (.inl gs)))]) [0, 1, 2, 3, 4, 5, 7, 8] rfl
      have hKc := hK.sub (tys' := [(cm 3, .long), (cm 4, .int), (cm 6, .int), (cm 7, .int), (cm 8, .int), (cm 10, .long), (cm 11, .long)]) [0, 1, 2, 3, 4, 6, 7] rfl
      have hDc := hD.sub (ws' := [(h0, .inr (11, gM a (upd i 15 dr) (vp_updL (vp_updL (vp_updL (fun _ => 0) 12 sd) 13 pa) 14 pb))), (a 3, .inl (cm 3, 85, .inr (.inl fn))), (a 4, .inl (cm 4, 800, .inl fk)), (a 6, .inl (cm 6, 800, .inl fb)), (a 7, .inl (cm 7, 800, .inl gr7)), (a 8, .inl (cm 8, 10240, .inl ff)), (a 10, .inl (cm 10, 10240, .inr (.inl ga))), (a 11, .inl (cm 11, 10240, .inr (.inl gs)))]) [0, 1, 2, 3, 4, 5, 7, 8] (by decide) rfl
      have hFc := va_free (wc := [(h0, .inr (11, gM a (upd i 15 dr) (vp_updL (vp_updL (vp_updL (fun _ => 0) 12 sd) 13 pa) 14 pb))), (a 3, .inl (cm 3, 85, .inr (.inl fn))), (a 4, .inl (cm 4, 800, .inl fk)), (a 6, .inl (cm 6, 800, .inl fb)), (a 7, .inl (cm 7, 800, .inl gr7)), (a 8, .inl (cm 8, 10240, .inl ff)), (a 10, .inl (cm 10, 10240, .inr (.inl ga))), (a 11, .inl (cm 11, 10240, .inr (.inl gs)))]) hD hS hA [0, 1, 2, 3, 4, 5, 7, 8] rfl
      refine va_callv (va_runV (As := [.int (nI k), .int (nI j)]) (rest := []) ⟨hx, hb, hml, hown, hts⟩ (c_buildsBucket l D _ h0 a cm (upd i 15 dr) (vp_updL (vp_updL (vp_updL (fun _ => 0) 12 sd) 13 pa) 14 pb) fn fk fb gr7 ff ga gs k j cn K J (2 * cntJ J cn j) (by first | assumption | omega) (by first | assumption | omega) h1 (by first | assumption | omega) hKy hB (hr2 j hlt_j) (by first | assumption | omega) (by omega) (by first | assumption | omega) (by first | assumption | omega)) (cwV 2 hts g_c_buildsAll_c_buildsBucket_171 rfl rfl rfl (by decide +kernel) ⟨(Nat.le_of_ble_eq_true rfl), (Nat.le_of_ble_eq_true rfl)⟩) (PcW_V (q0 := 0) hPc hKc hDc rfl rfl) rfl rfl hl.1 rfl (lv_room (Nat.le_of_ble_eq_true rfl)) dX11_buildsAll_195 ⟨(Nat.le_of_ble_eq_true rfl), (Nat.le_of_ble_eq_true rfl)⟩) hS (fun q _ h => hFc q h) hFc (fun uu tt H locs htt hvm hw hB hz1 hk1 hS => ?_)
      obtain ⟨w4, w5, w6, w7, w8, w9, w10⟩ := uu
      obtain ⟨hP1, hK1, hD1⟩ := hB
      rw [htt] at hP1
      have hK1 := va_K.moved hvm.symm hK1
      have hP1 : va_P D vwCl [(h0, .inr (11, gM a (upd i 15 w10) (vp_updL (vp_updL (vp_updL (fun _ => 0) 12 w7) 13 w8) 14 w9))), (a 3, .inl (cm 3, 85, .inr (.inl fn))), (a 4, .inl (cm 4, 800, .inl fk)), (a 6, .inl (cm 6, 800, .inl fb)), (a 7, .inl (cm 7, 800, .inl w4)), (a 8, .inl (cm 8, 10240, .inl ff)), (a 10, .inl (cm 10, 10240, .inr (.inl w5))), (a 11, .inl (cm 11, 10240, .inr (.inl w6)))] H := hP1
      obtain ⟨hP, hD⟩ := va_join (wr := [(a 9, .inl (cm 9, 10240, .inl fh))]) (w1 := [(h0, .inr (11, gM a (upd i 15 w10) (vp_updL (vp_updL (vp_updL (fun _ => 0) 12 w7) 13 w8) 14 w9))), (a 3, .inl (cm 3, 85, .inr (.inl fn))), (a 4, .inl (cm 4, 800, .inl fk)), (a 6, .inl (cm 6, 800, .inl fb)), (a 7, .inl (cm 7, 800, .inl w4)), (a 8, .inl (cm 8, 10240, .inl ff)), (a 10, .inl (cm 10, 10240, .inr (.inl w5))), (a 11, .inl (cm 11, 10240, .inr (.inl w6)))]) hP hD [0, 1, 2, 3, 4, 5, 7, 8] [6] rfl rfl (by decide) (by decide) hk1 hFc hP1 hD1
      have hP : va_P D vwCl [(a 9, .inl (cm 9, 10240, .inl fh)), (h0, .inr (11, gM a (upd i 15 w10) (vp_updL (vp_updL (vp_updL (fun _ => 0) 12 w7) 13 w8) 14 w9))), (a 3, .inl (cm 3, 85, .inr (.inl fn))), (a 4, .inl (cm 4, 800, .inl fk)), (a 6, .inl (cm 6, 800, .inl fb)), (a 7, .inl (cm 7, 800, .inl w4)), (a 8, .inl (cm 8, 10240, .inl ff)), (a 10, .inl (cm 10, 10240, .inr (.inl w5))), (a 11, .inl (cm 11, 10240, .inr (.inl w6)))] H := hP
      have hD : va_D A [(a 9, .inl (cm 9, 10240, .inl fh)), (h0, .inr (11, gM a (upd i 15 w10) (vp_updL (vp_updL (vp_updL (fun _ => 0) 12 w7) 13 w8) 14 w9))), (a 3, .inl (cm 3, 85, .inr (.inl fn))), (a 4, .inl (cm 4, 800, .inl fk)), (a 6, .inl (cm 6, 800, .inl fb)), (a 7, .inl (cm 7, 800, .inl w4)), (a 8, .inl (cm 8, 10240, .inl ff)), (a 10, .inl (cm 10, 10240, .inr (.inl w5))), (a 11, .inl (cm 11, 10240, .inr (.inl w6)))] := hD
      try dsimp only at hw
      clear hz1 hk1 hFc hPc hKc hDc
      have hb_ := hw
      refine lv_iinc (v := nI (j + 1)) (lv' := [(5, .int (nI (j + 1))), (0, .ref h0), (1, .int (nI k)), (2, .int (nI cn))]) hx hb dX11_buildsAll_198 hl (k := 0) rfl (nI_1 j) (by decide) rfl (fun ls hl => ?_)
      refine lv_goto (tgt := 181) hx hb dX11_buildsAll_201 (by decide) ?_
      exact ih (j + 1) w4 w5 w6 w7 w8 w9 w10 (by omega) (hb_.1) (hb_.2) (by omega) H locs ls (hP.sub [1, 2, 3, 4, 5, 6, 0, 7, 8] rfl) (hD.sub [1, 2, 3, 4, 5, 6, 0, 7, 8] (by decide) rfl) hS (lv_sub hl [0, 1, 2, 3] rfl)
set_option maxHeartbeats 4000000 in
set_option maxRecDepth 100000 in
theorem c_buildsAll (l : Launch) (D : va_G) (sz : Nat) (h0 : Nat) (a : Nat → Nat) (cm : Nat → ClassId) (i : Nat → Int32) (g : Nat → Int64) (fn : Nat → Int64) (fk : Nat → Int32) (fb : Nat → Int32) (fr : Nat → Int32) (ff : Nat → Int32) (fh : Nat → Int32) (fa : Nat → Int64) (fs : Nat → Int64) (k : Nat) (cn : Nat) (K : Nat → Nat) (bn : Nat) (ns : Nat) (gr : Nat) (hk : k < 5) (h1 : fn (17 * k + 1) = lN cn) (hcn : cn ≤ 160) (hKy : KyS k fk cn K) (h14 : fn (17 * k + 14) = lN bn) (hbn : bn ≤ 64) (h15 : fn (17 * k + 15) = lN ns) (hs1 : 25 ≤ ns) (hs2 : ns ≤ 400) (h16 : fn (17 * k + 16) = lN gr) (hgr : gr ≤ 200) (hfa : RngL fa) (hfs : RngL fs) : Met l yX11_buildsAll wp_c_buildsAll ({ frames := 7, cells := 0, slots := 0, locals := 190 }) (PcW D [.ref h0, .int (nI k)] sz [(h0, .inr (11, gM a i g)), (a 3, .inl (cm 3, 85, .inr (.inl fn))), (a 4, .inl (cm 4, 800, .inl fk)), (a 6, .inl (cm 6, 800, .inl fb)), (a 7, .inl (cm 7, 800, .inl fr)), (a 8, .inl (cm 8, 10240, .inl ff)), (a 9, .inl (cm 9, 10240, .inl fh)), (a 10, .inl (cm 10, 10240, .inr (.inl fa))), (a 11, .inl (cm 11, 10240, .inr (.inl fs)))] [(cm 3, .long), (cm 4, .int), (cm 6, .int), (cm 7, .int), (cm 8, .int), (cm 9, .int), (cm 10, .long), (cm 11, .long)]) (va_Qv (fun (u : (Nat → Int64) × (Nat → Int32) × (Nat → Int32) × (Nat → Int32) × (Nat → Int32) × (Nat → Int64) × (Nat → Int64) × (Int64) × (Int64) × (Int64) × (Int32)) => (∃ nb J, TabS k cn nb K J u.1 fk u.2.1 u.2.2.2.1 u.2.2.2.2.1) ∧ RngL u.2.2.2.2.2.1 ∧ RngL u.2.2.2.2.2.2.1 ∧ (∀ x, (x < 17 * k ∨ 17 * k + 17 ≤ x) → u.1 x = fn x) ∧ u.1 (17 * k + 0) = fn (17 * k + 0) ∧ (∀ x, (x < 160 * k ∨ 160 * k + 160 ≤ x) → u.2.1 x = fb x) ∧ (∀ x, (x < 2048 * k ∨ 2048 * k + 2048 ≤ x) → u.2.2.2.1 x = ff x) ∧ (∀ x, (x < 2048 * k ∨ 2048 * k + 2048 ≤ x) → u.2.2.2.2.1 x = fh x)) (fun (u : (Nat → Int64) × (Nat → Int32) × (Nat → Int32) × (Nat → Int32) × (Nat → Int32) × (Nat → Int64) × (Nat → Int64) × (Int64) × (Int64) × (Int64) × (Int32)) t => va_P D vwCl [(h0, .inr (11, gM a (upd i 15 u.2.2.2.2.2.2.2.2.2.2) (vp_updL (vp_updL (vp_updL (fun _ => 0) 12 u.2.2.2.2.2.2.2.1) 13 u.2.2.2.2.2.2.2.2.1) 14 u.2.2.2.2.2.2.2.2.2.1))), (a 3, .inl (cm 3, 85, .inr (.inl u.1))), (a 4, .inl (cm 4, 800, .inl fk)), (a 6, .inl (cm 6, 800, .inl u.2.1)), (a 7, .inl (cm 7, 800, .inl u.2.2.1)), (a 8, .inl (cm 8, 10240, .inl u.2.2.2.1)), (a 9, .inl (cm 9, 10240, .inl u.2.2.2.2.1)), (a 10, .inl (cm 10, 10240, .inr (.inl u.2.2.2.2.2.1))), (a 11, .inl (cm 11, 10240, .inr (.inl u.2.2.2.2.2.2.1)))] t.heap ∧ va_K D vwCl [(cm 3, .long), (cm 4, .int), (cm 6, .int), (cm 7, .int), (cm 8, .int), (cm 9, .int), (cm 10, .long), (cm 11, .long)] t ∧ va_D (va_A [(h0, .inr (11, gM a i g)), (a 3, .inl (cm 3, 85, .inr (.inl fn))), (a 4, .inl (cm 4, 800, .inl fk)), (a 6, .inl (cm 6, 800, .inl fb)), (a 7, .inl (cm 7, 800, .inl fr)), (a 8, .inl (cm 8, 10240, .inl ff)), (a 9, .inl (cm 9, 10240, .inl fh)), (a 10, .inl (cm 10, 10240, .inr (.inl fa))), (a 11, .inl (cm 11, 10240, .inr (.inl fs)))] sz) [(h0, .inr (11, gM a (upd i 15 u.2.2.2.2.2.2.2.2.2.2) (vp_updL (vp_updL (vp_updL (fun _ => 0) 12 u.2.2.2.2.2.2.2.1) 13 u.2.2.2.2.2.2.2.2.1) 14 u.2.2.2.2.2.2.2.2.2.1))), (a 3, .inl (cm 3, 85, .inr (.inl u.1))), (a 4, .inl (cm 4, 800, .inl fk)), (a 6, .inl (cm 6, 800, .inl u.2.1)), (a 7, .inl (cm 7, 800, .inl u.2.2.1)), (a 8, .inl (cm 8, 10240, .inl u.2.2.2.1)), (a 9, .inl (cm 9, 10240, .inl u.2.2.2.2.1)), (a 10, .inl (cm 10, 10240, .inr (.inl u.2.2.2.2.2.1))), (a 11, .inl (cm 11, 10240, .inr (.inl u.2.2.2.2.2.2.1)))]) (va_A [(h0, .inr (11, gM a i g)), (a 3, .inl (cm 3, 85, .inr (.inl fn))), (a 4, .inl (cm 4, 800, .inl fk)), (a 6, .inl (cm 6, 800, .inl fb)), (a 7, .inl (cm 7, 800, .inl fr)), (a 8, .inl (cm 8, 10240, .inl ff)), (a 9, .inl (cm 9, 10240, .inl fh)), (a 10, .inl (cm 10, 10240, .inr (.inl fa))), (a 11, .inl (cm 11, 10240, .inr (.inl fs)))] sz)) 0 0 (va_A [(h0, .inr (11, gM a i g)), (a 3, .inl (cm 3, 85, .inr (.inl fn))), (a 4, .inl (cm 4, 800, .inl fk)), (a 6, .inl (cm 6, 800, .inl fb)), (a 7, .inl (cm 7, 800, .inl fr)), (a 8, .inl (cm 8, 10240, .inl ff)), (a 9, .inl (cm 9, 10240, .inl fh)), (a 10, .inl (cm 10, 10240, .inr (.inl fa))), (a 11, .inl (cm 11, 10240, .inr (.inl fs)))] sz) := by
  refine Met.ofW (cc := cX11_buildsAll) (maxL := 6) (ret := none) (by decide) rfl ?_
  intro p e s m args below meth c s₁ B hml hv
  obtain ⟨rfl, hsz, hP, hK, hD0⟩ := hv
  have hx := B.exec
  have hb := B.bytes
  have hr := B.returns
  have hts := atoms_spec (ws := wp_c_buildsAll) B.pre
  have hin_X11 : ∀ w ∈ wsX110, w ∈ wp_c_buildsAll := fun _ h => (List.mem_cons_of_mem _ (List.mem_append_right _ (List.mem_append_right _ (List.mem_append_right _ (List.mem_append_right _ (List.mem_append_right _ (List.mem_append_right _ (List.mem_append_right _ (List.mem_append_right _ (List.mem_append_right _ (List.mem_append_right _ (List.mem_append_right _ (List.mem_append_left _ h)))))))))))))
  have hown : s.vm.findClass RX11 = some m.cls := findClass_of_methodNamed B.named
  have hlocks := B.notSynchronized
  subst hsz
  have hD := hD0.self (sz := s.heap.size)
  generalize hAe : va_A [(h0, .inr (11, gM a i g)), (a 3, .inl (cm 3, 85, .inr (.inl fn))), (a 4, .inl (cm 4, 800, .inl fk)), (a 6, .inl (cm 6, 800, .inl fb)), (a 7, .inl (cm 7, 800, .inl fr)), (a 8, .inl (cm 8, 10240, .inl ff)), (a 9, .inl (cm 9, 10240, .inl fh)), (a 10, .inl (cm 10, 10240, .inr (.inl fa))), (a 11, .inl (cm 11, 10240, .inr (.inl fs)))] s.heap.size = A at hD ⊢
  have hA : ∀ q : Nat, s.heap.size ≤ q → A q := fun q h => by rw [← hAe]; exact Or.inr h
  have hS : va_S A s.heap s.heap [] := va_S.rf
  have hP : va_P D vwCl [(h0, .inr (11, gM a i g)), (a 3, .inl (cm 3, 85, .inr (.inl fn))), (a 4, .inl (cm 4, 800, .inl fk)), (a 6, .inl (cm 6, 800, .inl fb)), (a 7, .inl (cm 7, 800, .inl fr)), (a 8, .inl (cm 8, 10240, .inl ff)), (a 9, .inl (cm 9, 10240, .inl fh)), (a 10, .inl (cm 10, 10240, .inr (.inl fa))), (a 11, .inl (cm 11, 10240, .inr (.inl fs)))] s.heap := hP
  have hl := lv_entry ([.ref h0, .int (nI k)]) (n := 6) (Nat.le_of_ble_eq_true rfl)
  rw [lg_entry_eq]
  generalize (lg_sl ([.ref h0, .int (nI k)]) ++ List.replicate (6 - (lg_sl ([.ref h0, .int (nI k)])).length) Slot.unset).toArray = ls at hl ⊢
  have hl : lv_has ls 6 [(0, .ref h0), (1, .int (nI k))] := hl
  have hl1 := lim_le hcn hgr
  have hl2 : 4 ≤ (cn + gr * cn / 100 + 4) := by omega
  have hnb1 := nb_ge hs1 hl2
  have hnb2 := nb_le hs2 hl1
  refine lv_aload_n hx hb dX11_buildsAll_0 rfl (lv_at hl 0 rfl) ?_
  refine lv_iload_n hx hb dX11_buildsAll_1 rfl (lv_at hl 1 rfl) ?_
  have hPc := hP.sub (ws' := [(h0, .inr (11, gM a i g)), (a 3, .inl (cm 3, 85, .inr (.inl fn)))]) [0, 1] rfl
  have hKc := hK.sub (tys' := [(cm 3, .long)]) [0] rfl
  have hFc := va_free0 hS hA
  refine va_calli (va_runV (As := [.int (nI k)]) (rest := []) ⟨hx, hb, hml, hown, hts⟩ (c_manyOf l D _ h0 a cm i g fn k cn (by first | assumption | omega) h1) (cwV 1 hts g_c_buildsAll_c_manyOf_95 rfl rfl rfl (by decide +kernel) ⟨(Nat.le_of_ble_eq_true rfl), (Nat.le_of_ble_eq_true rfl)⟩) (PcR_V (q0 := 0) hPc hKc rfl rfl) rfl rfl hl.1 rfl (lv_room (Nat.le_of_ble_eq_true rfl)) dX11_buildsAll_2 ⟨(Nat.le_of_ble_eq_true rfl), (Nat.le_of_ble_eq_true rfl)⟩) hS (fun q _ h => hFc q h) hFc (fun r1 uu tt H locs htt hvm hw hB hz1 hk1 hS => ?_)
  have hP := va_keep hP hk1
  try dsimp only at hw
  clear hB hz1 hk1 hFc hPc hKc
  obtain rfl : r1 = nI cn := hw
  refine lv_istore_n (lv' := [(2, .int (nI cn)), (0, .ref h0), (1, .int (nI k))]) hx hb dX11_buildsAll_5 rfl hl (by decide) rfl (fun ls hl => ?_)
  refine lv_aload_n hx hb dX11_buildsAll_6 rfl (lv_at hl 1 rfl) ?_
  refine lv_iload_n hx hb dX11_buildsAll_7 rfl (lv_at hl 2 rfl) ?_
  refine lv_iconst (v := 2) hx hb dX11_buildsAll_8 (by decide) ?_
  refine lv_iload_n hx hb dX11_buildsAll_9 rfl (lv_at hl 0 rfl) ?_
  refine lv_i2l hx hb dX11_buildsAll_10 rfl ?_
  refine lv_topl (fun v2 ev2 => ?_)
  obtain rfl : v2 = lN cn := ev2.trans (nI_l (by omega))
  refine lv_aload_n hx hb dX11_buildsAll_11 rfl (lv_at hl 1 rfl) ?_
  refine lv_iload_n hx hb dX11_buildsAll_12 rfl (lv_at hl 2 rfl) ?_
  refine lv_bipush (v := 16) hx hb dX11_buildsAll_13 (by decide) ?_
  have hPc := hP.sub (ws' := [(h0, .inr (11, gM a i g)), (a 3, .inl (cm 3, 85, .inr (.inl fn)))]) [0, 1] rfl
  have hKc := hK.sub (tys' := [(cm 3, .long)]) [0] rfl
  have hFc := va_free0 hS hA
  refine va_calll (va_runV (As := [.int (nI k), .int (nI 16)]) (rest := [.long (lN cn), .int 2, .int (nI k), .ref h0]) ⟨hx, hb, hml, hown, hts⟩ (c_of l D _ h0 a cm i g fn k 16 (by first | assumption | omega) (by first | assumption | omega)) (cwV 2 hts g_c_buildsAll_c_of_89 rfl rfl rfl (by decide +kernel) ⟨(Nat.le_of_ble_eq_true rfl), (Nat.le_of_ble_eq_true rfl)⟩) (PcR_V (q0 := 0) hPc hKc rfl rfl) rfl rfl hl.1 rfl (lv_room (Nat.le_of_ble_eq_true rfl)) dX11_buildsAll_15 ⟨(Nat.le_of_ble_eq_true rfl), (Nat.le_of_ble_eq_true rfl)⟩) hS (fun q _ h => hFc q h) hFc (fun r3 uu tt H locs htt hvm hw hB hz1 hk1 hS => ?_)
  have hP := va_keep hP hk1
  try dsimp only at hw
  clear hB hz1 hk1 hFc hPc hKc
  obtain rfl : r3 = fn (17 * k + 16) := hw
  refine lv_topl (fun v4 ev4 => ?_)
  obtain rfl : v4 = lN gr := ev4.trans (h16)
  refine lv_iload_n hx hb dX11_buildsAll_18 rfl (lv_at hl 0 rfl) ?_
  refine lv_i2l hx hb dX11_buildsAll_19 rfl ?_
  refine lv_topl (fun v5 ev5 => ?_)
  obtain rfl : v5 = lN cn := ev5.trans (nI_l (by omega))
  refine lv_lmul hx hb dX11_buildsAll_20 ?_
  refine lv_ldc2 (v := 100) hx hb hown (hts (.constantLong RX11 158 (100)) (List.mem_of_getElem? (i := 27) rfl)) dX11_buildsAll_21 ?_
  refine lv_ldiv hx hb dX11_buildsAll_24 (by decide) ?_
  refine lv_topl (fun v6 ev6 => ?_)
  obtain rfl : v6 = lN (gr * cn / 100) := ev6.trans (gr_div gr cn hcn hgr)
  refine lv_ladd hx hb dX11_buildsAll_25 ?_
  refine lv_ldc2 (v := 4) hx hb hown (hts (.constantLong RX11 160 (4)) (List.mem_of_getElem? (i := 28) rfl)) dX11_buildsAll_26 ?_
  refine lv_ladd hx hb dX11_buildsAll_29 ?_
  refine lv_topl (fun v7 ev7 => ?_)
  obtain rfl : v7 = lN (cn + gr * cn / 100 + 4) := ev7.trans (lim_eq cn gr hcn hgr)
  have hPc := hP.sub (ws' := [(h0, .inr (11, gM a i g)), (a 3, .inl (cm 3, 85, .inr (.inl fn)))]) [0, 1] rfl
  have hKc := hK.sub (tys' := [(cm 3, .long)]) [0] rfl
  have hDc := hD.sub (ws' := [(h0, .inr (11, gM a i g)), (a 3, .inl (cm 3, 85, .inr (.inl fn)))]) [0, 1] (by decide) rfl
  have hFc := va_free (wc := [(h0, .inr (11, gM a i g)), (a 3, .inl (cm 3, 85, .inr (.inl fn)))]) hD hS hA [0, 1] rfl
  refine va_callv (va_runV (As := [.int (nI k), .int (nI 2), .long (lN (cn + gr * cn / 100 + 4))]) (rest := []) ⟨hx, hb, hml, hown, hts⟩ (c_lays l D _ h0 a cm i g fn k 2 (lN (cn + gr * cn / 100 + 4)) (by first | assumption | omega) (by first | assumption | omega)) (cwV 3 hts g_c_buildsAll_c_lays_126 rfl rfl rfl (by decide +kernel) ⟨(Nat.le_of_ble_eq_true rfl), (Nat.le_of_ble_eq_true rfl)⟩) (PcW_V (q0 := 0) hPc hKc hDc rfl rfl) rfl rfl hl.1 rfl (lv_room (Nat.le_of_ble_eq_true rfl)) dX11_buildsAll_30 ⟨(Nat.le_of_ble_eq_true rfl), (Nat.le_of_ble_eq_true rfl)⟩) hS (fun q _ h => hFc q h) hFc (fun uu tt H locs htt hvm hw hB hz1 hk1 hS => ?_)
  obtain ⟨w9, rfl⟩ : ∃ z, z = uu := ⟨_, rfl⟩
  obtain ⟨hP1, hK1, hD1⟩ := hB
  rw [htt] at hP1
  have hK1 := va_K.moved hvm.symm hK1
  have hP1 : va_P D vwCl [(h0, .inr (11, gM a i g)), (a 3, .inl (cm 3, 85, .inr (.inl w9)))] H := hP1
  obtain ⟨hP, hD⟩ := va_join (wr := [(a 4, .inl (cm 4, 800, .inl fk)), (a 6, .inl (cm 6, 800, .inl fb)), (a 7, .inl (cm 7, 800, .inl fr)), (a 8, .inl (cm 8, 10240, .inl ff)), (a 9, .inl (cm 9, 10240, .inl fh)), (a 10, .inl (cm 10, 10240, .inr (.inl fa))), (a 11, .inl (cm 11, 10240, .inr (.inl fs)))]) (w1 := [(h0, .inr (11, gM a i g)), (a 3, .inl (cm 3, 85, .inr (.inl w9)))]) hP hD [0, 1] [2, 3, 4, 5, 6, 7, 8] rfl rfl (by decide) (by decide) hk1 hFc hP1 hD1
  have hP : va_P D vwCl [(a 4, .inl (cm 4, 800, .inl fk)), (a 6, .inl (cm 6, 800, .inl fb)), (a 7, .inl (cm 7, 800, .inl fr)), (a 8, .inl (cm 8, 10240, .inl ff)), (a 9, .inl (cm 9, 10240, .inl fh)), (a 10, .inl (cm 10, 10240, .inr (.inl fa))), (a 11, .inl (cm 11, 10240, .inr (.inl fs))), (h0, .inr (11, gM a i g)), (a 3, .inl (cm 3, 85, .inr (.inl w9)))] H := hP
  have hD : va_D A [(a 4, .inl (cm 4, 800, .inl fk)), (a 6, .inl (cm 6, 800, .inl fb)), (a 7, .inl (cm 7, 800, .inl fr)), (a 8, .inl (cm 8, 10240, .inl ff)), (a 9, .inl (cm 9, 10240, .inl fh)), (a 10, .inl (cm 10, 10240, .inr (.inl fa))), (a 11, .inl (cm 11, 10240, .inr (.inl fs))), (h0, .inr (11, gM a i g)), (a 3, .inl (cm 3, 85, .inr (.inl w9)))] := hD
  try dsimp only at hw
  clear hz1 hk1 hFc hPc hKc hDc
  have hL10 := hw
  refine lv_aload_n hx hb dX11_buildsAll_33 rfl (lv_at hl 1 rfl) ?_
  refine lv_iload_n hx hb dX11_buildsAll_34 rfl (lv_at hl 2 rfl) ?_
  refine lv_iconst (v := 3) hx hb dX11_buildsAll_35 (by decide) ?_
  refine lv_iload_n hx hb dX11_buildsAll_36 rfl (lv_at hl 0 rfl) ?_
  refine lv_i2l hx hb dX11_buildsAll_37 rfl ?_
  refine lv_topl (fun v11 ev11 => ?_)
  obtain rfl : v11 = lN cn := ev11.trans (nI_l (by omega))
  have hPc := hP.sub (ws' := [(h0, .inr (11, gM a i g)), (a 3, .inl (cm 3, 85, .inr (.inl w9)))]) [7, 8] rfl
  have hKc := hK.sub (tys' := [(cm 3, .long)]) [0] rfl
  have hDc := hD.sub (ws' := [(h0, .inr (11, gM a i g)), (a 3, .inl (cm 3, 85, .inr (.inl w9)))]) [7, 8] (by decide) rfl
  have hFc := va_free (wc := [(h0, .inr (11, gM a i g)), (a 3, .inl (cm 3, 85, .inr (.inl w9)))]) hD hS hA [7, 8] rfl
  refine va_callv (va_runV (As := [.int (nI k), .int (nI 3), .long (lN cn)]) (rest := []) ⟨hx, hb, hml, hown, hts⟩ (c_lays l D _ h0 a cm i g w9 k 3 (lN cn) (by first | assumption | omega) (by first | assumption | omega)) (cwV 3 hts g_c_buildsAll_c_lays_126 rfl rfl rfl (by decide +kernel) ⟨(Nat.le_of_ble_eq_true rfl), (Nat.le_of_ble_eq_true rfl)⟩) (PcW_V (q0 := 0) hPc hKc hDc rfl rfl) rfl rfl hl.1 rfl (lv_room (Nat.le_of_ble_eq_true rfl)) dX11_buildsAll_38 ⟨(Nat.le_of_ble_eq_true rfl), (Nat.le_of_ble_eq_true rfl)⟩) hS (fun q _ h => hFc q h) hFc (fun uu tt H locs htt hvm hw hB hz1 hk1 hS => ?_)
  obtain ⟨w13, rfl⟩ : ∃ z, z = uu := ⟨_, rfl⟩
  obtain ⟨hP1, hK1, hD1⟩ := hB
  rw [htt] at hP1
  have hK1 := va_K.moved hvm.symm hK1
  have hP1 : va_P D vwCl [(h0, .inr (11, gM a i g)), (a 3, .inl (cm 3, 85, .inr (.inl w13)))] H := hP1
  obtain ⟨hP, hD⟩ := va_join (wr := [(a 4, .inl (cm 4, 800, .inl fk)), (a 6, .inl (cm 6, 800, .inl fb)), (a 7, .inl (cm 7, 800, .inl fr)), (a 8, .inl (cm 8, 10240, .inl ff)), (a 9, .inl (cm 9, 10240, .inl fh)), (a 10, .inl (cm 10, 10240, .inr (.inl fa))), (a 11, .inl (cm 11, 10240, .inr (.inl fs)))]) (w1 := [(h0, .inr (11, gM a i g)), (a 3, .inl (cm 3, 85, .inr (.inl w13)))]) hP hD [7, 8] [0, 1, 2, 3, 4, 5, 6] rfl rfl (by decide) (by decide) hk1 hFc hP1 hD1
  have hP : va_P D vwCl [(a 4, .inl (cm 4, 800, .inl fk)), (a 6, .inl (cm 6, 800, .inl fb)), (a 7, .inl (cm 7, 800, .inl fr)), (a 8, .inl (cm 8, 10240, .inl ff)), (a 9, .inl (cm 9, 10240, .inl fh)), (a 10, .inl (cm 10, 10240, .inr (.inl fa))), (a 11, .inl (cm 11, 10240, .inr (.inl fs))), (h0, .inr (11, gM a i g)), (a 3, .inl (cm 3, 85, .inr (.inl w13)))] H := hP
  have hD : va_D A [(a 4, .inl (cm 4, 800, .inl fk)), (a 6, .inl (cm 6, 800, .inl fb)), (a 7, .inl (cm 7, 800, .inl fr)), (a 8, .inl (cm 8, 10240, .inl ff)), (a 9, .inl (cm 9, 10240, .inl fh)), (a 10, .inl (cm 10, 10240, .inr (.inl fa))), (a 11, .inl (cm 11, 10240, .inr (.inl fs))), (h0, .inr (11, gM a i g)), (a 3, .inl (cm 3, 85, .inr (.inl w13)))] := hD
  try dsimp only at hw
  clear hz1 hk1 hFc hPc hKc hDc
  have hL14 := hw
  refine lv_aload_n hx hb dX11_buildsAll_41 rfl (lv_at hl 1 rfl) ?_
  refine lv_iload_n hx hb dX11_buildsAll_42 rfl (lv_at hl 2 rfl) ?_
  refine lv_bipush (v := 15) hx hb dX11_buildsAll_43 (by decide) ?_
  have hPc := hP.sub (ws' := [(h0, .inr (11, gM a i g)), (a 3, .inl (cm 3, 85, .inr (.inl w13)))]) [7, 8] rfl
  have hKc := hK.sub (tys' := [(cm 3, .long)]) [0] rfl
  have hFc := va_free0 hS hA
  refine va_calll (va_runV (As := [.int (nI k), .int (nI 15)]) (rest := []) ⟨hx, hb, hml, hown, hts⟩ (c_of l D _ h0 a cm i g w13 k 15 (by first | assumption | omega) (by first | assumption | omega)) (cwV 2 hts g_c_buildsAll_c_of_89 rfl rfl rfl (by decide +kernel) ⟨(Nat.le_of_ble_eq_true rfl), (Nat.le_of_ble_eq_true rfl)⟩) (PcR_V (q0 := 0) hPc hKc rfl rfl) rfl rfl hl.1 rfl (lv_room (Nat.le_of_ble_eq_true rfl)) dX11_buildsAll_45 ⟨(Nat.le_of_ble_eq_true rfl), (Nat.le_of_ble_eq_true rfl)⟩) hS (fun q _ h => hFc q h) hFc (fun r15 uu tt H locs htt hvm hw hB hz1 hk1 hS => ?_)
  have hP := va_keep hP hk1
  try dsimp only at hw
  clear hB hz1 hk1 hFc hPc hKc
  obtain rfl : r15 = w13 (17 * k + 15) := hw
  refine lv_topl (fun v16 ev16 => ?_)
  obtain rfl : v16 = lN ns := ev16.trans (((hL14.2 _ (by omega)).trans ((hL10.2 _ (by omega)).trans h15)))
  refine lv_aload_n hx hb dX11_buildsAll_48 rfl (lv_at hl 1 rfl) ?_
  refine lv_iload_n hx hb dX11_buildsAll_49 rfl (lv_at hl 2 rfl) ?_
  refine lv_iconst (v := 2) hx hb dX11_buildsAll_50 (by decide) ?_
  have hPc := hP.sub (ws' := [(h0, .inr (11, gM a i g)), (a 3, .inl (cm 3, 85, .inr (.inl w13)))]) [7, 8] rfl
  have hKc := hK.sub (tys' := [(cm 3, .long)]) [0] rfl
  have hFc := va_free0 hS hA
  refine va_calll (va_runV (As := [.int (nI k), .int (nI 2)]) (rest := [.long (lN ns)]) ⟨hx, hb, hml, hown, hts⟩ (c_of l D _ h0 a cm i g w13 k 2 (by first | assumption | omega) (by first | assumption | omega)) (cwV 2 hts g_c_buildsAll_c_of_89 rfl rfl rfl (by decide +kernel) ⟨(Nat.le_of_ble_eq_true rfl), (Nat.le_of_ble_eq_true rfl)⟩) (PcR_V (q0 := 0) hPc hKc rfl rfl) rfl rfl hl.1 rfl (lv_room (Nat.le_of_ble_eq_true rfl)) dX11_buildsAll_51 ⟨(Nat.le_of_ble_eq_true rfl), (Nat.le_of_ble_eq_true rfl)⟩) hS (fun q _ h => hFc q h) hFc (fun r17 uu tt H locs htt hvm hw hB hz1 hk1 hS => ?_)
  have hP := va_keep hP hk1
  try dsimp only at hw
  clear hB hz1 hk1 hFc hPc hKc
  obtain rfl : r17 = w13 (17 * k + 2) := hw
  refine lv_topl (fun v18 ev18 => ?_)
  obtain rfl : v18 = lN (cn + gr * cn / 100 + 4) := ev18.trans (((hL14.2 _ (by omega)).trans hL10.1))
  refine lv_lmul hx hb dX11_buildsAll_54 ?_
  refine lv_ldc2 (v := 100) hx hb hown (hts (.constantLong RX11 158 (100)) (List.mem_of_getElem? (i := 27) rfl)) dX11_buildsAll_55 ?_
  refine lv_ldiv hx hb dX11_buildsAll_58 (by decide) ?_
  refine lv_topl (fun v19 ev19 => ?_)
  obtain rfl : v19 = lN (ns * (cn + gr * cn / 100 + 4) / 100) := ev19.trans (nb_eq ns _ hs2 hl1)
  refine lv_lstore_n (lv' := [(3, .long (lN (ns * (cn + gr * cn / 100 + 4) / 100))), (2, .int (nI cn)), (0, .ref h0), (1, .int (nI k))]) hx hb dX11_buildsAll_59 rfl hl (by decide) rfl (fun ls hl => ?_)
  refine lv_aload_n hx hb dX11_buildsAll_60 rfl (lv_at hl 2 rfl) ?_
  refine lv_iload_n hx hb dX11_buildsAll_61 rfl (lv_at hl 3 rfl) ?_
  refine lv_iconst (v := 4) hx hb dX11_buildsAll_62 (by decide) ?_
  refine lv_lload_n hx hb dX11_buildsAll_63 rfl (lv_at hl 0 rfl) ?_
  refine lv_lconst (v := 1) hx hb dX11_buildsAll_64 (by decide) ?_
  refine W.lcmp hx hb dX11_buildsAll_65 ?_
  refine lv_if_ge (tgt := 73) hx hb dX11_buildsAll_66 (by decide) (fun hc => ?_) (fun hc => absurd ((lg_cmp_ge _ _).mpr ((lN_le (a := 1) (by decide) (by omega)).mpr (by omega))) hc)
  refine lv_lload_n hx hb dX11_buildsAll_73 rfl (lv_at hl 0 rfl) ?_
  have hPc := hP.sub (ws' := [(h0, .inr (11, gM a i g)), (a 3, .inl (cm 3, 85, .inr (.inl w13)))]) [7, 8] rfl
  have hKc := hK.sub (tys' := [(cm 3, .long)]) [0] rfl
  have hDc := hD.sub (ws' := [(h0, .inr (11, gM a i g)), (a 3, .inl (cm 3, 85, .inr (.inl w13)))]) [7, 8] (by decide) rfl
  have hFc := va_free (wc := [(h0, .inr (11, gM a i g)), (a 3, .inl (cm 3, 85, .inr (.inl w13)))]) hD hS hA [7, 8] rfl
  refine va_callv (va_runV (As := [.int (nI k), .int (nI 4), .long (lN (ns * (cn + gr * cn / 100 + 4) / 100))]) (rest := []) ⟨hx, hb, hml, hown, hts⟩ (c_lays l D _ h0 a cm i g w13 k 4 (lN (ns * (cn + gr * cn / 100 + 4) / 100)) (by first | assumption | omega) (by first | assumption | omega)) (cwV 3 hts g_c_buildsAll_c_lays_126 rfl rfl rfl (by decide +kernel) ⟨(Nat.le_of_ble_eq_true rfl), (Nat.le_of_ble_eq_true rfl)⟩) (PcW_V (q0 := 0) hPc hKc hDc rfl rfl) rfl rfl hl.1 rfl (lv_room (Nat.le_of_ble_eq_true rfl)) dX11_buildsAll_74 ⟨(Nat.le_of_ble_eq_true rfl), (Nat.le_of_ble_eq_true rfl)⟩) hS (fun q _ h => hFc q h) hFc (fun uu tt H locs htt hvm hw hB hz1 hk1 hS => ?_)
  obtain ⟨w21, rfl⟩ : ∃ z, z = uu := ⟨_, rfl⟩
  obtain ⟨hP1, hK1, hD1⟩ := hB
  rw [htt] at hP1
  have hK1 := va_K.moved hvm.symm hK1
  have hP1 : va_P D vwCl [(h0, .inr (11, gM a i g)), (a 3, .inl (cm 3, 85, .inr (.inl w21)))] H := hP1
  obtain ⟨hP, hD⟩ := va_join (wr := [(a 4, .inl (cm 4, 800, .inl fk)), (a 6, .inl (cm 6, 800, .inl fb)), (a 7, .inl (cm 7, 800, .inl fr)), (a 8, .inl (cm 8, 10240, .inl ff)), (a 9, .inl (cm 9, 10240, .inl fh)), (a 10, .inl (cm 10, 10240, .inr (.inl fa))), (a 11, .inl (cm 11, 10240, .inr (.inl fs)))]) (w1 := [(h0, .inr (11, gM a i g)), (a 3, .inl (cm 3, 85, .inr (.inl w21)))]) hP hD [7, 8] [0, 1, 2, 3, 4, 5, 6] rfl rfl (by decide) (by decide) hk1 hFc hP1 hD1
  have hP : va_P D vwCl [(a 4, .inl (cm 4, 800, .inl fk)), (a 6, .inl (cm 6, 800, .inl fb)), (a 7, .inl (cm 7, 800, .inl fr)), (a 8, .inl (cm 8, 10240, .inl ff)), (a 9, .inl (cm 9, 10240, .inl fh)), (a 10, .inl (cm 10, 10240, .inr (.inl fa))), (a 11, .inl (cm 11, 10240, .inr (.inl fs))), (h0, .inr (11, gM a i g)), (a 3, .inl (cm 3, 85, .inr (.inl w21)))] H := hP
  have hD : va_D A [(a 4, .inl (cm 4, 800, .inl fk)), (a 6, .inl (cm 6, 800, .inl fb)), (a 7, .inl (cm 7, 800, .inl fr)), (a 8, .inl (cm 8, 10240, .inl ff)), (a 9, .inl (cm 9, 10240, .inl fh)), (a 10, .inl (cm 10, 10240, .inr (.inl fa))), (a 11, .inl (cm 11, 10240, .inr (.inl fs))), (h0, .inr (11, gM a i g)), (a 3, .inl (cm 3, 85, .inr (.inl w21)))] := hD
  try dsimp only at hw
  clear hz1 hk1 hFc hPc hKc hDc
  have hL22 := hw
  refine lv_aload_n hx hb dX11_buildsAll_77 rfl (lv_at hl 2 rfl) ?_
  refine lv_iload_n hx hb dX11_buildsAll_78 rfl (lv_at hl 3 rfl) ?_
  have hPc := hP.sub (ws' := [(h0, .inr (11, gM a i g)), (a 3, .inl (cm 3, 85, .inr (.inl w21)))]) [7, 8] rfl
  have hKc := hK.sub (tys' := [(cm 3, .long)]) [0] rfl
  have hDc := hD.sub (ws' := [(h0, .inr (11, gM a i g)), (a 3, .inl (cm 3, 85, .inr (.inl w21)))]) [7, 8] (by decide) rfl
  have hFc := va_free (wc := [(h0, .inr (11, gM a i g)), (a 3, .inl (cm 3, 85, .inr (.inl w21)))]) hD hS hA [7, 8] rfl
  refine va_callv (va_runV (As := [.int (nI k)]) (rest := []) ⟨hx, hb, hml, hown, hts⟩ (c_takesSeed l D _ h0 a cm i g w21 k (by first | assumption | omega)) (cwV 1 hts g_c_buildsAll_c_takesSeed_162 rfl rfl rfl (by decide +kernel) ⟨(Nat.le_of_ble_eq_true rfl), (Nat.le_of_ble_eq_true rfl)⟩) (PcW_V (q0 := 0) hPc hKc hDc rfl rfl) rfl rfl hl.1 rfl (lv_room (Nat.le_of_ble_eq_true rfl)) dX11_buildsAll_79 ⟨(Nat.le_of_ble_eq_true rfl), (Nat.le_of_ble_eq_true rfl)⟩) hS (fun q _ h => hFc q h) hFc (fun uu tt H locs htt hvm hw hB hz1 hk1 hS => ?_)
  obtain ⟨w24, w25⟩ := uu
  obtain ⟨hP1, hK1, hD1⟩ := hB
  rw [htt] at hP1
  have hK1 := va_K.moved hvm.symm hK1
  have hP1 : va_P D vwCl [(h0, .inr (11, gM a (upd i 15 w25) (vp_updL g 12 w24))), (a 3, .inl (cm 3, 85, .inr (.inl w21)))] H := hP1
  obtain ⟨hP, hD⟩ := va_join (wr := [(a 4, .inl (cm 4, 800, .inl fk)), (a 6, .inl (cm 6, 800, .inl fb)), (a 7, .inl (cm 7, 800, .inl fr)), (a 8, .inl (cm 8, 10240, .inl ff)), (a 9, .inl (cm 9, 10240, .inl fh)), (a 10, .inl (cm 10, 10240, .inr (.inl fa))), (a 11, .inl (cm 11, 10240, .inr (.inl fs)))]) (w1 := [(h0, .inr (11, gM a (upd i 15 w25) (vp_updL g 12 w24))), (a 3, .inl (cm 3, 85, .inr (.inl w21)))]) hP hD [7, 8] [0, 1, 2, 3, 4, 5, 6] rfl rfl (by decide) (by decide) hk1 hFc hP1 hD1
  have hP : va_P D vwCl [(a 4, .inl (cm 4, 800, .inl fk)), (a 6, .inl (cm 6, 800, .inl fb)), (a 7, .inl (cm 7, 800, .inl fr)), (a 8, .inl (cm 8, 10240, .inl ff)), (a 9, .inl (cm 9, 10240, .inl fh)), (a 10, .inl (cm 10, 10240, .inr (.inl fa))), (a 11, .inl (cm 11, 10240, .inr (.inl fs))), (h0, .inr (11, gM a (upd i 15 w25) (vp_updL g 12 w24))), (a 3, .inl (cm 3, 85, .inr (.inl w21)))] H := hP
  have hD : va_D A [(a 4, .inl (cm 4, 800, .inl fk)), (a 6, .inl (cm 6, 800, .inl fb)), (a 7, .inl (cm 7, 800, .inl fr)), (a 8, .inl (cm 8, 10240, .inl ff)), (a 9, .inl (cm 9, 10240, .inl fh)), (a 10, .inl (cm 10, 10240, .inr (.inl fa))), (a 11, .inl (cm 11, 10240, .inr (.inl fs))), (h0, .inr (11, gM a (upd i 15 w25) (vp_updL g 12 w24))), (a 3, .inl (cm 3, 85, .inr (.inl w21)))] := hD
  try dsimp only at hw
  clear hz1 hk1 hFc hPc hKc hDc
  obtain rfl : w25 = 0 := hw
  have hP : va_P D vwCl [(a 4, .inl (cm 4, 800, .inl fk)), (a 6, .inl (cm 6, 800, .inl fb)), (a 7, .inl (cm 7, 800, .inl fr)), (a 8, .inl (cm 8, 10240, .inl ff)), (a 9, .inl (cm 9, 10240, .inl fh)), (a 10, .inl (cm 10, 10240, .inr (.inl fa))), (a 11, .inl (cm 11, 10240, .inr (.inl fs))), (h0, .inr (11, gM a (upd i 15 0) (vp_updL g 12 w24))), (a 3, .inl (cm 3, 85, .inr (.inl w21)))] H := hP
  have hD : va_D A [(a 4, .inl (cm 4, 800, .inl fk)), (a 6, .inl (cm 6, 800, .inl fb)), (a 7, .inl (cm 7, 800, .inl fr)), (a 8, .inl (cm 8, 10240, .inl ff)), (a 9, .inl (cm 9, 10240, .inl fh)), (a 10, .inl (cm 10, 10240, .inr (.inl fa))), (a 11, .inl (cm 11, 10240, .inr (.inl fs))), (h0, .inr (11, gM a (upd i 15 0) (vp_updL g 12 w24))), (a 3, .inl (cm 3, 85, .inr (.inl w21)))] := hD
  refine lv_aload_n hx hb dX11_buildsAll_82 rfl (lv_at hl 2 rfl) ?_
  have hPc := hP.sub (ws' := [(h0, .inr (11, gM a (upd i 15 0) (vp_updL g 12 w24)))]) [7] rfl
  have hKc := hK.sub (tys' := []) [] rfl
  have hDc := hD.sub (ws' := [(h0, .inr (11, gM a (upd i 15 0) (vp_updL g 12 w24)))]) [7] (by decide) rfl
  have hFc := va_free (wc := [(h0, .inr (11, gM a (upd i 15 0) (vp_updL g 12 w24)))]) hD hS hA [7] rfl
  refine va_callv (va_runV (As := []) (rest := []) ⟨hx, hb, hml, hown, hts⟩ (c_drawsPair l D _ h0 a cm (upd i 15 0) (vp_updL g 12 w24)) (cwV 0 hts g_c_buildsAll_c_drawsPair_141 rfl rfl rfl (by decide +kernel) ⟨(Nat.le_of_ble_eq_true rfl), (Nat.le_of_ble_eq_true rfl)⟩) (PcW_V (q0 := 0) hPc hKc hDc rfl rfl) rfl rfl hl.1 rfl (lv_room (Nat.le_of_ble_eq_true rfl)) dX11_buildsAll_83 ⟨(Nat.le_of_ble_eq_true rfl), (Nat.le_of_ble_eq_true rfl)⟩) hS (fun q _ h => hFc q h) hFc (fun uu tt H locs htt hvm hw hB hz1 hk1 hS => ?_)
  obtain ⟨w27, w28, w29, w30⟩ := uu
  obtain ⟨hP1, hK1, hD1⟩ := hB
  rw [htt] at hP1
  have hK1 := va_K.moved hvm.symm hK1
  have hP1 : va_P D vwCl [(h0, .inr (11, gM a (upd i 15 w30) (vp_updL (vp_updL (vp_updL (fun _ => 0) 12 w27) 13 w28) 14 w29)))] H := hP1
  obtain ⟨hP, hD⟩ := va_join (wr := [(a 4, .inl (cm 4, 800, .inl fk)), (a 6, .inl (cm 6, 800, .inl fb)), (a 7, .inl (cm 7, 800, .inl fr)), (a 8, .inl (cm 8, 10240, .inl ff)), (a 9, .inl (cm 9, 10240, .inl fh)), (a 10, .inl (cm 10, 10240, .inr (.inl fa))), (a 11, .inl (cm 11, 10240, .inr (.inl fs))), (a 3, .inl (cm 3, 85, .inr (.inl w21)))]) (w1 := [(h0, .inr (11, gM a (upd i 15 w30) (vp_updL (vp_updL (vp_updL (fun _ => 0) 12 w27) 13 w28) 14 w29)))]) hP hD [7] [0, 1, 2, 3, 4, 5, 6, 8] rfl rfl (by decide) (by decide) hk1 hFc hP1 hD1
  have hP : va_P D vwCl [(a 4, .inl (cm 4, 800, .inl fk)), (a 6, .inl (cm 6, 800, .inl fb)), (a 7, .inl (cm 7, 800, .inl fr)), (a 8, .inl (cm 8, 10240, .inl ff)), (a 9, .inl (cm 9, 10240, .inl fh)), (a 10, .inl (cm 10, 10240, .inr (.inl fa))), (a 11, .inl (cm 11, 10240, .inr (.inl fs))), (a 3, .inl (cm 3, 85, .inr (.inl w21))), (h0, .inr (11, gM a (upd i 15 w30) (vp_updL (vp_updL (vp_updL (fun _ => 0) 12 w27) 13 w28) 14 w29)))] H := hP
  have hD : va_D A [(a 4, .inl (cm 4, 800, .inl fk)), (a 6, .inl (cm 6, 800, .inl fb)), (a 7, .inl (cm 7, 800, .inl fr)), (a 8, .inl (cm 8, 10240, .inl ff)), (a 9, .inl (cm 9, 10240, .inl fh)), (a 10, .inl (cm 10, 10240, .inr (.inl fa))), (a 11, .inl (cm 11, 10240, .inr (.inl fs))), (a 3, .inl (cm 3, 85, .inr (.inl w21))), (h0, .inr (11, gM a (upd i 15 w30) (vp_updL (vp_updL (vp_updL (fun _ => 0) 12 w27) 13 w28) 14 w29)))] := hD
  try dsimp only at hw
  clear hz1 hk1 hFc hPc hKc hDc
  obtain ⟨es_r26, ⟨ka31, kb32, e2, e3, hka31, hkb32, eka31⟩, ed_r26⟩ := hw
  have es_r26 : w27 = sdn w24 := es_r26
  have eka31 : ka31 = aOf w24 := eka31
  have ed_r26 : w30 = 0 + 1 := ed_r26
  obtain rfl : w28 = lN ka31 := e2
  obtain rfl : w29 = lN kb32 := e3
  have hP : va_P D vwCl [(a 4, .inl (cm 4, 800, .inl fk)), (a 6, .inl (cm 6, 800, .inl fb)), (a 7, .inl (cm 7, 800, .inl fr)), (a 8, .inl (cm 8, 10240, .inl ff)), (a 9, .inl (cm 9, 10240, .inl fh)), (a 10, .inl (cm 10, 10240, .inr (.inl fa))), (a 11, .inl (cm 11, 10240, .inr (.inl fs))), (a 3, .inl (cm 3, 85, .inr (.inl w21))), (h0, .inr (11, gM a (upd i 15 w30) (vp_updL (vp_updL (vp_updL (fun _ => 0) 12 w27) 13 (lN ka31)) 14 (lN kb32))))] H := hP
  have hD : va_D A [(a 4, .inl (cm 4, 800, .inl fk)), (a 6, .inl (cm 6, 800, .inl fb)), (a 7, .inl (cm 7, 800, .inl fr)), (a 8, .inl (cm 8, 10240, .inl ff)), (a 9, .inl (cm 9, 10240, .inl fh)), (a 10, .inl (cm 10, 10240, .inr (.inl fa))), (a 11, .inl (cm 11, 10240, .inr (.inl fs))), (a 3, .inl (cm 3, 85, .inr (.inl w21))), (h0, .inr (11, gM a (upd i 15 w30) (vp_updL (vp_updL (vp_updL (fun _ => 0) 12 w27) 13 (lN ka31)) 14 (lN kb32))))] := hD
  obtain rfl : w30 = nI 1 := ed_r26.trans (by decide)
  have hP : va_P D vwCl [(a 4, .inl (cm 4, 800, .inl fk)), (a 6, .inl (cm 6, 800, .inl fb)), (a 7, .inl (cm 7, 800, .inl fr)), (a 8, .inl (cm 8, 10240, .inl ff)), (a 9, .inl (cm 9, 10240, .inl fh)), (a 10, .inl (cm 10, 10240, .inr (.inl fa))), (a 11, .inl (cm 11, 10240, .inr (.inl fs))), (a 3, .inl (cm 3, 85, .inr (.inl w21))), (h0, .inr (11, gM a (upd i 15 (nI 1)) (vp_updL (vp_updL (vp_updL (fun _ => 0) 12 w27) 13 (lN ka31)) 14 (lN kb32))))] H := hP
  have hD : va_D A [(a 4, .inl (cm 4, 800, .inl fk)), (a 6, .inl (cm 6, 800, .inl fb)), (a 7, .inl (cm 7, 800, .inl fr)), (a 8, .inl (cm 8, 10240, .inl ff)), (a 9, .inl (cm 9, 10240, .inl fh)), (a 10, .inl (cm 10, 10240, .inr (.inl fa))), (a 11, .inl (cm 11, 10240, .inr (.inl fs))), (a 3, .inl (cm 3, 85, .inr (.inl w21))), (h0, .inr (11, gM a (upd i 15 (nI 1)) (vp_updL (vp_updL (vp_updL (fun _ => 0) 12 w27) 13 (lN ka31)) 14 (lN kb32))))] := hD
  refine lp_bA1 l D h0 a cm (upd i 15 (nI 1)) (vp_updL (vp_updL (vp_updL (fun _ => 0) 12 w27) 13 (lN ka31)) 14 (lN kb32)) w21 fk fb fr ff fh fa fs k cn K bn ns gr (lN (ns * (cn + gr * cn / 100 + 4) / 100)) (hk) (((hL22.2 _ (by omega)).trans ((hL14.2 _ (by omega)).trans ((hL10.2 _ (by omega)).trans h1)))) (hcn) (hKy) (((hL22.2 _ (by omega)).trans ((hL14.2 _ (by omega)).trans ((hL10.2 _ (by omega)).trans h14)))) (hbn) (((hL22.2 _ (by omega)).trans ((hL14.2 _ (by omega)).trans ((hL10.2 _ (by omega)).trans h15)))) (hs1) (hs2) (((hL22.2 _ (by omega)).trans ((hL14.2 _ (by omega)).trans ((hL10.2 _ (by omega)).trans h16)))) (hgr) hx hb hml hown hts hA (hK.sub [0, 1, 2, 3, 4, 5, 6, 7] rfl) ?_ (401) 1 (ns * (cn + gr * cn / 100 + 4) / 100) ka31 kb32 w27 w21 fb ff fh (by omega) (by omega) (by omega) (by omega) (hka31) (hkb32) (hL22.1) (fun _ _ _ _ _ => rfl) (fun _ _ => rfl) (fun _ _ => rfl) (fun _ _ => rfl) (by omega) _ _ _ (hP.sub [8, 7, 0, 1, 2, 3, 4, 5, 6] rfl) (hD.sub [8, 7, 0, 1, 2, 3, 4, 5, 6] (by decide) rfl) hS (lv_sub hl [2, 3, 1, 0] rfl)
  intro dn_33 nb_34 ka_35 kb_36 sd_37 gn_38 gb_39 gf_40 gh_41 hd1_42 hd2_43 hn1_44 hn2_45 hka_46 hkb_47 g4_48 gr1_49 f1_50 f2_51 f3_52 hx53 hx54 hx55 hx56 hx57 H locs ls hP hD hS hl
  refine lv_iconst (v := 0) hx hb dX11_buildsAll_178 (by decide) ?_
  refine lv_istore (lv' := [(5, .int 0), (0, .ref h0), (1, .int (nI k)), (2, .int (nI cn))]) hx hb dX11_buildsAll_179 hl (by decide) rfl (fun ls hl => ?_)
  refine lp_bA2 l D h0 a cm (upd (upd i 15 (nI 1)) 15 (nI dn_33)) (vp_updL (vp_updL (vp_updL (fun _ => 0) 12 sd_37) 13 (lN ka_35)) 14 (lN kb_36)) gn_38 fk gb_39 gf_40 gh_41 k cn K nb_34 (JpK K ka_35 kb_36 nb_34) (hk) (((gr1_49 _ (by omega) (by omega) (by omega) (by omega)).trans ((hL22.2 _ (by omega)).trans ((hL14.2 _ (by omega)).trans ((hL10.2 _ (by omega)).trans h1))))) (hcn) (g4_48) (hn2_45) (hKy) (hx55) (hx57) hx hb hml hown hts hA (hK.sub [0, 1, 2, 3, 4, 5, 6, 7] rfl) ?_ (nb_34 + 1) 0 fr fa fs sd_37 (lN ka_35) (lN kb_36) (nI dn_33) (Nat.zero_le _) (hfa) (hfs) (by omega) _ _ _ (hP.sub [0, 1, 2, 3, 4, 5, 6, 7, 8] rfl) (hD.sub [0, 1, 2, 3, 4, 5, 6, 7, 8] (by decide) rfl) hS (lv_sub hl [0, 1, 2, 3] rfl)
  intro j_58 gr7_59 ga_60 gs_61 sd_62 pa_63 pb_64 dr_65 hj1_66 hga_67 hgs_68 hx69 H locs ls hP hD hS hl
  refine lv_aload_n hx hb dX11_buildsAll_204 rfl (lv_at hl 0 rfl) ?_
  refine lv_iload_n hx hb dX11_buildsAll_205 rfl (lv_at hl 1 rfl) ?_
  have hPc := hP.sub (ws' := [(h0, .inr (11, gM a (upd (upd (upd i 15 (nI 1)) 15 (nI dn_33)) 15 dr_65) (vp_updL (vp_updL (vp_updL (fun _ => 0) 12 sd_62) 13 pa_63) 14 pb_64))), (a 3, .inl (cm 3, 85, .inr (.inl gn_38)))]) [0, 1] rfl
  have hKc := hK.sub (tys' := [(cm 3, .long)]) [0] rfl
  have hDc := hD.sub (ws' := [(h0, .inr (11, gM a (upd (upd (upd i 15 (nI 1)) 15 (nI dn_33)) 15 dr_65) (vp_updL (vp_updL (vp_updL (fun _ => 0) 12 sd_62) 13 pa_63) 14 pb_64))), (a 3, .inl (cm 3, 85, .inr (.inl gn_38)))]) [0, 1] (by decide) rfl
  have hFc := va_free (wc := [(h0, .inr (11, gM a (upd (upd (upd i 15 (nI 1)) 15 (nI dn_33)) 15 dr_65) (vp_updL (vp_updL (vp_updL (fun _ => 0) 12 sd_62) 13 pa_63) 14 pb_64))), (a 3, .inl (cm 3, 85, .inr (.inl gn_38)))]) hD hS hA [0, 1] rfl
  refine va_callv (va_runV (As := [.int (nI k)]) (rest := []) ⟨hx, hb, hml, hown, hts⟩ (c_laysSeed l D _ h0 a cm (upd (upd (upd i 15 (nI 1)) 15 (nI dn_33)) 15 dr_65) (vp_updL (vp_updL (vp_updL (fun _ => 0) 12 sd_62) 13 pa_63) 14 pb_64) gn_38 k (by first | assumption | omega)) (cwV 1 hts g_c_buildsAll_c_laysSeed_175 rfl rfl rfl (by decide +kernel) ⟨(Nat.le_of_ble_eq_true rfl), (Nat.le_of_ble_eq_true rfl)⟩) (PcW_V (q0 := 0) hPc hKc hDc rfl rfl) rfl rfl hl.1 rfl (lv_room (Nat.le_of_ble_eq_true rfl)) dX11_buildsAll_206 ⟨(Nat.le_of_ble_eq_true rfl), (Nat.le_of_ble_eq_true rfl)⟩) hS (fun q _ h => hFc q h) hFc (fun uu tt H locs htt hvm hw hB hz1 hk1 hS => ?_)
  obtain ⟨w71, rfl⟩ : ∃ z, z = uu := ⟨_, rfl⟩
  obtain ⟨hP1, hK1, hD1⟩ := hB
  rw [htt] at hP1
  have hK1 := va_K.moved hvm.symm hK1
  have hP1 : va_P D vwCl [(h0, .inr (11, gM a (upd (upd (upd i 15 (nI 1)) 15 (nI dn_33)) 15 dr_65) (vp_updL (vp_updL (vp_updL (fun _ => 0) 12 sd_62) 13 pa_63) 14 pb_64))), (a 3, .inl (cm 3, 85, .inr (.inl w71)))] H := hP1
  obtain ⟨hP, hD⟩ := va_join (wr := [(a 4, .inl (cm 4, 800, .inl fk)), (a 6, .inl (cm 6, 800, .inl gb_39)), (a 7, .inl (cm 7, 800, .inl gr7_59)), (a 8, .inl (cm 8, 10240, .inl gf_40)), (a 9, .inl (cm 9, 10240, .inl gh_41)), (a 10, .inl (cm 10, 10240, .inr (.inl ga_60))), (a 11, .inl (cm 11, 10240, .inr (.inl gs_61)))]) (w1 := [(h0, .inr (11, gM a (upd (upd (upd i 15 (nI 1)) 15 (nI dn_33)) 15 dr_65) (vp_updL (vp_updL (vp_updL (fun _ => 0) 12 sd_62) 13 pa_63) 14 pb_64))), (a 3, .inl (cm 3, 85, .inr (.inl w71)))]) hP hD [0, 1] [2, 3, 4, 5, 6, 7, 8] rfl rfl (by decide) (by decide) hk1 hFc hP1 hD1
  have hP : va_P D vwCl [(a 4, .inl (cm 4, 800, .inl fk)), (a 6, .inl (cm 6, 800, .inl gb_39)), (a 7, .inl (cm 7, 800, .inl gr7_59)), (a 8, .inl (cm 8, 10240, .inl gf_40)), (a 9, .inl (cm 9, 10240, .inl gh_41)), (a 10, .inl (cm 10, 10240, .inr (.inl ga_60))), (a 11, .inl (cm 11, 10240, .inr (.inl gs_61))), (h0, .inr (11, gM a (upd (upd (upd i 15 (nI 1)) 15 (nI dn_33)) 15 dr_65) (vp_updL (vp_updL (vp_updL (fun _ => 0) 12 sd_62) 13 pa_63) 14 pb_64))), (a 3, .inl (cm 3, 85, .inr (.inl w71)))] H := hP
  have hD : va_D A [(a 4, .inl (cm 4, 800, .inl fk)), (a 6, .inl (cm 6, 800, .inl gb_39)), (a 7, .inl (cm 7, 800, .inl gr7_59)), (a 8, .inl (cm 8, 10240, .inl gf_40)), (a 9, .inl (cm 9, 10240, .inl gh_41)), (a 10, .inl (cm 10, 10240, .inr (.inl ga_60))), (a 11, .inl (cm 11, 10240, .inr (.inl gs_61))), (h0, .inr (11, gM a (upd (upd (upd i 15 (nI 1)) 15 (nI dn_33)) 15 dr_65) (vp_updL (vp_updL (vp_updL (fun _ => 0) 12 sd_62) 13 pa_63) 14 pb_64))), (a 3, .inl (cm 3, 85, .inr (.inl w71)))] := hD
  try dsimp only at hw
  clear hz1 hk1 hFc hPc hKc hDc
  have hL72 := hw
  refine lv_aload_n hx hb dX11_buildsAll_209 rfl (lv_at hl 0 rfl) ?_
  refine lv_iload_n hx hb dX11_buildsAll_210 rfl (lv_at hl 1 rfl) ?_
  refine lv_bipush (v := 12) hx hb dX11_buildsAll_211 (by decide) ?_
  refine lv_iload_n hx hb dX11_buildsAll_213 rfl (lv_at hl 2 rfl) ?_
  refine lv_i2l hx hb dX11_buildsAll_214 rfl ?_
  refine lv_topl (fun v73 ev73 => ?_)
  obtain rfl : v73 = lN cn := ev73.trans (nI_l (by omega))
  have hPc := hP.sub (ws' := [(h0, .inr (11, gM a (upd (upd (upd i 15 (nI 1)) 15 (nI dn_33)) 15 dr_65) (vp_updL (vp_updL (vp_updL (fun _ => 0) 12 sd_62) 13 pa_63) 14 pb_64))), (a 3, .inl (cm 3, 85, .inr (.inl w71)))]) [7, 8] rfl
  have hKc := hK.sub (tys' := [(cm 3, .long)]) [0] rfl
  have hDc := hD.sub (ws' := [(h0, .inr (11, gM a (upd (upd (upd i 15 (nI 1)) 15 (nI dn_33)) 15 dr_65) (vp_updL (vp_updL (vp_updL (fun _ => 0) 12 sd_62) 13 pa_63) 14 pb_64))), (a 3, .inl (cm 3, 85, .inr (.inl w71)))]) [7, 8] (by decide) rfl
  have hFc := va_free (wc := [(h0, .inr (11, gM a (upd (upd (upd i 15 (nI 1)) 15 (nI dn_33)) 15 dr_65) (vp_updL (vp_updL (vp_updL (fun _ => 0) 12 sd_62) 13 pa_63) 14 pb_64))), (a 3, .inl (cm 3, 85, .inr (.inl w71)))]) hD hS hA [7, 8] rfl
  refine va_callv (va_runV (As := [.int (nI k), .int (nI 12), .long (lN cn)]) (rest := []) ⟨hx, hb, hml, hown, hts⟩ (c_adds l D _ h0 a cm (upd (upd (upd i 15 (nI 1)) 15 (nI dn_33)) 15 dr_65) (vp_updL (vp_updL (vp_updL (fun _ => 0) 12 sd_62) 13 pa_63) 14 pb_64) w71 k 12 (lN cn) (by first | assumption | omega) (by first | assumption | omega)) (cwV 3 hts g_c_buildsAll_c_adds_130 rfl rfl rfl (by decide +kernel) ⟨(Nat.le_of_ble_eq_true rfl), (Nat.le_of_ble_eq_true rfl)⟩) (PcW_V (q0 := 0) hPc hKc hDc rfl rfl) rfl rfl hl.1 rfl (lv_room (Nat.le_of_ble_eq_true rfl)) dX11_buildsAll_215 ⟨(Nat.le_of_ble_eq_true rfl), (Nat.le_of_ble_eq_true rfl)⟩) hS (fun q _ h => hFc q h) hFc (fun uu tt H locs htt hvm hw hB hz1 hk1 hS => ?_)
  obtain ⟨w75, rfl⟩ : ∃ z, z = uu := ⟨_, rfl⟩
  obtain ⟨hP1, hK1, hD1⟩ := hB
  rw [htt] at hP1
  have hK1 := va_K.moved hvm.symm hK1
  have hP1 : va_P D vwCl [(h0, .inr (11, gM a (upd (upd (upd i 15 (nI 1)) 15 (nI dn_33)) 15 dr_65) (vp_updL (vp_updL (vp_updL (fun _ => 0) 12 sd_62) 13 pa_63) 14 pb_64))), (a 3, .inl (cm 3, 85, .inr (.inl w75)))] H := hP1
  obtain ⟨hP, hD⟩ := va_join (wr := [(a 4, .inl (cm 4, 800, .inl fk)), (a 6, .inl (cm 6, 800, .inl gb_39)), (a 7, .inl (cm 7, 800, .inl gr7_59)), (a 8, .inl (cm 8, 10240, .inl gf_40)), (a 9, .inl (cm 9, 10240, .inl gh_41)), (a 10, .inl (cm 10, 10240, .inr (.inl ga_60))), (a 11, .inl (cm 11, 10240, .inr (.inl gs_61)))]) (w1 := [(h0, .inr (11, gM a (upd (upd (upd i 15 (nI 1)) 15 (nI dn_33)) 15 dr_65) (vp_updL (vp_updL (vp_updL (fun _ => 0) 12 sd_62) 13 pa_63) 14 pb_64))), (a 3, .inl (cm 3, 85, .inr (.inl w75)))]) hP hD [7, 8] [0, 1, 2, 3, 4, 5, 6] rfl rfl (by decide) (by decide) hk1 hFc hP1 hD1
  have hP : va_P D vwCl [(a 4, .inl (cm 4, 800, .inl fk)), (a 6, .inl (cm 6, 800, .inl gb_39)), (a 7, .inl (cm 7, 800, .inl gr7_59)), (a 8, .inl (cm 8, 10240, .inl gf_40)), (a 9, .inl (cm 9, 10240, .inl gh_41)), (a 10, .inl (cm 10, 10240, .inr (.inl ga_60))), (a 11, .inl (cm 11, 10240, .inr (.inl gs_61))), (h0, .inr (11, gM a (upd (upd (upd i 15 (nI 1)) 15 (nI dn_33)) 15 dr_65) (vp_updL (vp_updL (vp_updL (fun _ => 0) 12 sd_62) 13 pa_63) 14 pb_64))), (a 3, .inl (cm 3, 85, .inr (.inl w75)))] H := hP
  have hD : va_D A [(a 4, .inl (cm 4, 800, .inl fk)), (a 6, .inl (cm 6, 800, .inl gb_39)), (a 7, .inl (cm 7, 800, .inl gr7_59)), (a 8, .inl (cm 8, 10240, .inl gf_40)), (a 9, .inl (cm 9, 10240, .inl gh_41)), (a 10, .inl (cm 10, 10240, .inr (.inl ga_60))), (a 11, .inl (cm 11, 10240, .inr (.inl gs_61))), (h0, .inr (11, gM a (upd (upd (upd i 15 (nI 1)) 15 (nI dn_33)) 15 dr_65) (vp_updL (vp_updL (vp_updL (fun _ => 0) 12 sd_62) 13 pa_63) 14 pb_64))), (a 3, .inl (cm 3, 85, .inr (.inl w75)))] := hD
  try dsimp only at hw
  clear hz1 hk1 hFc hPc hKc hDc
  have hL76 := hw
  exact W.vret hx hb hr (fun t ht hW => ⟨⟨(w75, gb_39, gr7_59, gf_40, gh_41, ga_60, gs_61, sd_62, pa_63, pb_64, dr_65), rfl, ⟨⟨nb_34, (JpK K ka_35 kb_36 nb_34), ⟨((hL76.2 _ (by omega)).trans ((hL72 _ (by omega) (by omega)).trans ((gr1_49 _ (by omega) (by omega) (by omega) (by omega)).trans ((hL22.2 _ (by omega)).trans ((hL14.2 _ (by omega)).trans ((hL10.2 _ (by omega)).trans h1)))))), hcn, ((hL76.2 _ (by omega)).trans ((hL72 _ (by omega) (by omega)).trans g4_48)), hn1_44, hn2_45, ⟨_, _, hka_46, hkb_47, ((hL76.2 _ (by omega)).trans ((hL72 _ (by omega) (by omega)).trans hx53)), ((hL76.2 _ (by omega)).trans ((hL72 _ (by omega) (by omega)).trans hx54))⟩, hKy, hx55, (fun b hb => ⟨hx56 b hb, _, hx57 b hb, by omega, by have := cntJ_le (JpK K ka_35 kb_36 nb_34) cn b; omega⟩), ⟨bn, ns, gr, ((hL76.2 _ (by omega)).trans ((hL72 _ (by omega) (by omega)).trans ((gr1_49 _ (by omega) (by omega) (by omega) (by omega)).trans ((hL22.2 _ (by omega)).trans ((hL14.2 _ (by omega)).trans ((hL10.2 _ (by omega)).trans h14)))))), hbn, ((hL76.2 _ (by omega)).trans ((hL72 _ (by omega) (by omega)).trans ((gr1_49 _ (by omega) (by omega) (by omega) (by omega)).trans ((hL22.2 _ (by omega)).trans ((hL14.2 _ (by omega)).trans ((hL10.2 _ (by omega)).trans h15)))))), hs1, hs2, ((hL76.2 _ (by omega)).trans ((hL72 _ (by omega) (by omega)).trans ((gr1_49 _ (by omega) (by omega) (by omega) (by omega)).trans ((hL22.2 _ (by omega)).trans ((hL14.2 _ (by omega)).trans ((hL10.2 _ (by omega)).trans h16)))))), hgr⟩⟩⟩, hga_67, hgs_68, (fun x e => (hL76.2 x (by omega)).trans ((hL72 x (by omega) (by omega)).trans ((gr1_49 x (by omega) (by omega) (by omega) (by omega)).trans ((hL22.2 x (by omega)).trans ((hL14.2 x (by omega)).trans ((hL10.2 x (by omega)))))))), ((hL76.2 _ (by omega)).trans ((hL72 _ (by omega) (by omega)).trans ((gr1_49 _ (by omega) (by omega) (by omega) (by omega)).trans ((hL22.2 _ (by omega)).trans ((hL14.2 _ (by omega)).trans ((hL10.2 _ (by omega)).trans rfl)))))), f1_50, f2_51, f3_52⟩, by rw [ht]; exact hP.sub [7, 8, 0, 1, 2, 3, 4, 5, 6] rfl, va_K.moved hW.alike (hK.sub [0, 1, 2, 3, 4, 5, 6, 7] rfl), hD.sub [7, 8, 0, 1, 2, 3, 4, 5, 6] (by decide) rfl⟩, hS.F ht⟩) hS.2.2 dX11_buildsAll_218

