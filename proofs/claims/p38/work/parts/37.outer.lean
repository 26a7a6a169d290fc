theorem dX11_outer_0 : decode cX11_outer 0 = .ok (.aload_n 0, 1) := by decide +kernel
theorem dX11_outer_1 : decode cX11_outer 1 = .ok (.iconst 0, 1) := by decide +kernel
theorem dX11_outer_2 : decode cX11_outer 2 = .ok (.putfield 73, 3) := by decide +kernel
theorem dX11_outer_5 : decode cX11_outer 5 = .ok (.aload_n 0, 1) := by decide +kernel
theorem dX11_outer_6 : decode cX11_outer 6 = .ok (.iload_n 1, 1) := by decide +kernel
theorem dX11_outer_7 : decode cX11_outer 7 = .ok (.invokevirtual 222, 3) := by decide +kernel
theorem dX11_outer_10 : decode cX11_outer 10 = .ok (.ifCond .eq 37, 3) := by decide +kernel
theorem dX11_outer_13 : decode cX11_outer 13 = .ok (.iload_n 2, 1) := by decide +kernel
theorem dX11_outer_14 : decode cX11_outer 14 = .ok (.iload_n 3, 1) := by decide +kernel
theorem dX11_outer_15 : decode cX11_outer 15 = .ok (.invokestatic 252, 3) := by decide +kernel
theorem dX11_outer_18 : decode cX11_outer 18 = .ok (.ifCond .eq 29, 3) := by decide +kernel
theorem dX11_outer_21 : decode cX11_outer 21 = .ok (.iload 4, 2) := by decide +kernel
theorem dX11_outer_23 : decode cX11_outer 23 = .ok (.i2l, 1) := by decide +kernel
theorem dX11_outer_24 : decode cX11_outer 24 = .ok (.lconst 1, 1) := by decide +kernel
theorem dX11_outer_25 : decode cX11_outer 25 = .ok (.ldc2_w 169, 3) := by decide +kernel
theorem dX11_outer_28 : decode cX11_outer 28 = .ok (.invokestatic 83, 3) := by decide +kernel
theorem dX11_outer_31 : decode cX11_outer 31 = .ok (.ifCond .eq 16, 3) := by decide +kernel
theorem dX11_outer_34 : decode cX11_outer 34 = .ok (.iload 5, 2) := by decide +kernel
theorem dX11_outer_36 : decode cX11_outer 36 = .ok (.i2l, 1) := by decide +kernel
theorem dX11_outer_37 : decode cX11_outer 37 = .ok (.lconst 0, 1) := by decide +kernel
theorem dX11_outer_38 : decode cX11_outer 38 = .ok (.ldc2_w 87, 3) := by decide +kernel
theorem dX11_outer_41 : decode cX11_outer 41 = .ok (.invokestatic 83, 3) := by decide +kernel
theorem dX11_outer_44 : decode cX11_outer 44 = .ok (.ifCond .ne 7, 3) := by decide +kernel
theorem dX11_outer_47 : decode cX11_outer 47 = .ok (.ldc2_w 235, 3) := by decide +kernel
theorem dX11_outer_50 : decode cX11_outer 50 = .ok (.lreturn, 1) := by decide +kernel
theorem dX11_outer_51 : decode cX11_outer 51 = .ok (.iconst 0, 1) := by decide +kernel
theorem dX11_outer_52 : decode cX11_outer 52 = .ok (.istore 6, 2) := by decide +kernel
theorem dX11_outer_54 : decode cX11_outer 54 = .ok (.iload 6, 2) := by decide +kernel
theorem dX11_outer_56 : decode cX11_outer 56 = .ok (.iload 4, 2) := by decide +kernel
theorem dX11_outer_58 : decode cX11_outer 58 = .ok (.if_icmp .ge 17, 3) := by decide +kernel
theorem dX11_outer_61 : decode cX11_outer 61 = .ok (.aload_n 0, 1) := by decide +kernel
theorem dX11_outer_62 : decode cX11_outer 62 = .ok (.getfield 42, 3) := by decide +kernel
theorem dX11_outer_65 : decode cX11_outer 65 = .ok (.iload 6, 2) := by decide +kernel
theorem dX11_outer_67 : decode cX11_outer 67 = .ok (.iconst 0, 1) := by decide +kernel
theorem dX11_outer_68 : decode cX11_outer 68 = .ok (.iastore, 1) := by decide +kernel
theorem dX11_outer_69 : decode cX11_outer 69 = .ok (.iinc 6 1, 3) := by decide +kernel
theorem dX11_outer_72 : decode cX11_outer 72 = .ok (.goto (-18), 3) := by decide +kernel
theorem dX11_outer_75 : decode cX11_outer 75 = .ok (.sipush 160, 3) := by decide +kernel
theorem dX11_outer_78 : decode cX11_outer 78 = .ok (.iload_n 1, 1) := by decide +kernel
theorem dX11_outer_79 : decode cX11_outer 79 = .ok (.imul, 1) := by decide +kernel
theorem dX11_outer_80 : decode cX11_outer 80 = .ok (.istore 6, 2) := by decide +kernel
theorem dX11_outer_82 : decode cX11_outer 82 = .ok (.iload 6, 2) := by decide +kernel
theorem dX11_outer_84 : decode cX11_outer 84 = .ok (.sipush 160, 3) := by decide +kernel
theorem dX11_outer_87 : decode cX11_outer 87 = .ok (.iload_n 1, 1) := by decide +kernel
theorem dX11_outer_88 : decode cX11_outer 88 = .ok (.imul, 1) := by decide +kernel
theorem dX11_outer_89 : decode cX11_outer 89 = .ok (.aload_n 0, 1) := by decide +kernel
theorem dX11_outer_90 : decode cX11_outer 90 = .ok (.iload_n 1, 1) := by decide +kernel
theorem dX11_outer_91 : decode cX11_outer 91 = .ok (.invokevirtual 95, 3) := by decide +kernel
theorem dX11_outer_94 : decode cX11_outer 94 = .ok (.iadd, 1) := by decide +kernel
theorem dX11_outer_95 : decode cX11_outer 95 = .ok (.if_icmp .ge 36, 3) := by decide +kernel
theorem dX11_outer_98 : decode cX11_outer 98 = .ok (.aload_n 0, 1) := by decide +kernel
theorem dX11_outer_99 : decode cX11_outer 99 = .ok (.getfield 42, 3) := by decide +kernel
theorem dX11_outer_102 : decode cX11_outer 102 = .ok (.iload_n 2, 1) := by decide +kernel
theorem dX11_outer_103 : decode cX11_outer 103 = .ok (.i2l, 1) := by decide +kernel
theorem dX11_outer_104 : decode cX11_outer 104 = .ok (.iload_n 3, 1) := by decide +kernel
theorem dX11_outer_105 : decode cX11_outer 105 = .ok (.i2l, 1) := by decide +kernel
theorem dX11_outer_106 : decode cX11_outer 106 = .ok (.aload_n 0, 1) := by decide +kernel
theorem dX11_outer_107 : decode cX11_outer 107 = .ok (.getfield 17, 3) := by decide +kernel
theorem dX11_outer_110 : decode cX11_outer 110 = .ok (.iload 6, 2) := by decide +kernel
theorem dX11_outer_112 : decode cX11_outer 112 = .ok (.iaload, 1) := by decide +kernel
theorem dX11_outer_113 : decode cX11_outer 113 = .ok (.i2l, 1) := by decide +kernel
theorem dX11_outer_114 : decode cX11_outer 114 = .ok (.iload 4, 2) := by decide +kernel
theorem dX11_outer_116 : decode cX11_outer 116 = .ok (.i2l, 1) := by decide +kernel
theorem dX11_outer_117 : decode cX11_outer 117 = .ok (.invokestatic 133, 3) := by decide +kernel
theorem dX11_outer_120 : decode cX11_outer 120 = .ok (.dup2, 1) := by decide +kernel
theorem dX11_outer_121 : decode cX11_outer 121 = .ok (.iaload, 1) := by decide +kernel
theorem dX11_outer_122 : decode cX11_outer 122 = .ok (.iconst 1, 1) := by decide +kernel
theorem dX11_outer_123 : decode cX11_outer 123 = .ok (.iadd, 1) := by decide +kernel
theorem dX11_outer_124 : decode cX11_outer 124 = .ok (.iastore, 1) := by decide +kernel
theorem dX11_outer_125 : decode cX11_outer 125 = .ok (.iinc 6 1, 3) := by decide +kernel
theorem dX11_outer_128 : decode cX11_outer 128 = .ok (.goto (-46), 3) := by decide +kernel
theorem dX11_outer_131 : decode cX11_outer 131 = .ok (.lconst 0, 1) := by decide +kernel
theorem dX11_outer_132 : decode cX11_outer 132 = .ok (.lstore 6, 2) := by decide +kernel
theorem dX11_outer_134 : decode cX11_outer 134 = .ok (.iconst 0, 1) := by decide +kernel
theorem dX11_outer_135 : decode cX11_outer 135 = .ok (.istore 8, 2) := by decide +kernel
theorem dX11_outer_137 : decode cX11_outer 137 = .ok (.iconst 0, 1) := by decide +kernel
theorem dX11_outer_138 : decode cX11_outer 138 = .ok (.istore 9, 2) := by decide +kernel
theorem dX11_outer_140 : decode cX11_outer 140 = .ok (.iconst 0, 1) := by decide +kernel
theorem dX11_outer_141 : decode cX11_outer 141 = .ok (.istore 10, 2) := by decide +kernel
theorem dX11_outer_143 : decode cX11_outer 143 = .ok (.iload 10, 2) := by decide +kernel
theorem dX11_outer_145 : decode cX11_outer 145 = .ok (.iload 4, 2) := by decide +kernel
theorem dX11_outer_147 : decode cX11_outer 147 = .ok (.if_icmp .ge 80, 3) := by decide +kernel
theorem dX11_outer_150 : decode cX11_outer 150 = .ok (.lload 6, 2) := by decide +kernel
theorem dX11_outer_152 : decode cX11_outer 152 = .ok (.aload_n 0, 1) := by decide +kernel
theorem dX11_outer_153 : decode cX11_outer 153 = .ok (.getfield 42, 3) := by decide +kernel
theorem dX11_outer_156 : decode cX11_outer 156 = .ok (.iload 10, 2) := by decide +kernel
theorem dX11_outer_158 : decode cX11_outer 158 = .ok (.iaload, 1) := by decide +kernel
theorem dX11_outer_159 : decode cX11_outer 159 = .ok (.i2l, 1) := by decide +kernel
theorem dX11_outer_160 : decode cX11_outer 160 = .ok (.aload_n 0, 1) := by decide +kernel
theorem dX11_outer_161 : decode cX11_outer 161 = .ok (.getfield 42, 3) := by decide +kernel
theorem dX11_outer_164 : decode cX11_outer 164 = .ok (.iload 10, 2) := by decide +kernel
theorem dX11_outer_166 : decode cX11_outer 166 = .ok (.iaload, 1) := by decide +kernel
theorem dX11_outer_167 : decode cX11_outer 167 = .ok (.i2l, 1) := by decide +kernel
theorem dX11_outer_168 : decode cX11_outer 168 = .ok (.lmul, 1) := by decide +kernel
theorem dX11_outer_169 : decode cX11_outer 169 = .ok (.ladd, 1) := by decide +kernel
theorem dX11_outer_170 : decode cX11_outer 170 = .ok (.lstore 6, 2) := by decide +kernel
theorem dX11_outer_172 : decode cX11_outer 172 = .ok (.aload_n 0, 1) := by decide +kernel
theorem dX11_outer_173 : decode cX11_outer 173 = .ok (.getfield 42, 3) := by decide +kernel
theorem dX11_outer_176 : decode cX11_outer 176 = .ok (.iload 10, 2) := by decide +kernel
theorem dX11_outer_178 : decode cX11_outer 178 = .ok (.iaload, 1) := by decide +kernel
theorem dX11_outer_179 : decode cX11_outer 179 = .ok (.iload 8, 2) := by decide +kernel
theorem dX11_outer_181 : decode cX11_outer 181 = .ok (.if_icmp .le 13, 3) := by decide +kernel
theorem dX11_outer_184 : decode cX11_outer 184 = .ok (.aload_n 0, 1) := by decide +kernel
theorem dX11_outer_185 : decode cX11_outer 185 = .ok (.getfield 42, 3) := by decide +kernel
theorem dX11_outer_188 : decode cX11_outer 188 = .ok (.iload 10, 2) := by decide +kernel
theorem dX11_outer_190 : decode cX11_outer 190 = .ok (.iaload, 1) := by decide +kernel
theorem dX11_outer_191 : decode cX11_outer 191 = .ok (.goto 5, 3) := by decide +kernel
theorem dX11_outer_194 : decode cX11_outer 194 = .ok (.iload 8, 2) := by decide +kernel
theorem dX11_outer_196 : decode cX11_outer 196 = .ok (.istore 8, 2) := by decide +kernel
theorem dX11_outer_198 : decode cX11_outer 198 = .ok (.iload 9, 2) := by decide +kernel
theorem dX11_outer_200 : decode cX11_outer 200 = .ok (.aload_n 0, 1) := by decide +kernel
theorem dX11_outer_201 : decode cX11_outer 201 = .ok (.getfield 42, 3) := by decide +kernel
theorem dX11_outer_204 : decode cX11_outer 204 = .ok (.iload 10, 2) := by decide +kernel
theorem dX11_outer_206 : decode cX11_outer 206 = .ok (.iaload, 1) := by decide +kernel
theorem dX11_outer_207 : decode cX11_outer 207 = .ok (.ifCond .ne 7, 3) := by decide +kernel
theorem dX11_outer_210 : decode cX11_outer 210 = .ok (.iconst 1, 1) := by decide +kernel
theorem dX11_outer_211 : decode cX11_outer 211 = .ok (.goto 4, 3) := by decide +kernel
theorem dX11_outer_214 : decode cX11_outer 214 = .ok (.iconst 0, 1) := by decide +kernel
theorem dX11_outer_215 : decode cX11_outer 215 = .ok (.invokestatic 198, 3) := by decide +kernel
theorem dX11_outer_218 : decode cX11_outer 218 = .ok (.iadd, 1) := by decide +kernel
theorem dX11_outer_219 : decode cX11_outer 219 = .ok (.istore 9, 2) := by decide +kernel
theorem dX11_outer_221 : decode cX11_outer 221 = .ok (.iinc 10 1, 3) := by decide +kernel
theorem dX11_outer_224 : decode cX11_outer 224 = .ok (.goto (-81), 3) := by decide +kernel
theorem dX11_outer_227 : decode cX11_outer 227 = .ok (.iload 5, 2) := by decide +kernel
theorem dX11_outer_229 : decode cX11_outer 229 = .ok (.ifCond .ne 12, 3) := by decide +kernel
theorem dX11_outer_232 : decode cX11_outer 232 = .ok (.ldc2_w 160, 3) := by decide +kernel
theorem dX11_outer_235 : decode cX11_outer 235 = .ok (.lload 6, 2) := by decide +kernel
theorem dX11_outer_237 : decode cX11_outer 237 = .ok (.lmul, 1) := by decide +kernel
theorem dX11_outer_238 : decode cX11_outer 238 = .ok (.goto 29, 3) := by decide +kernel
theorem dX11_outer_241 : decode cX11_outer 241 = .ok (.iload 5, 2) := by decide +kernel
theorem dX11_outer_243 : decode cX11_outer 243 = .ok (.iconst 1, 1) := by decide +kernel
theorem dX11_outer_244 : decode cX11_outer 244 = .ok (.if_icmp .ne 8, 3) := by decide +kernel
theorem dX11_outer_247 : decode cX11_outer 247 = .ok (.lload 6, 2) := by decide +kernel
theorem dX11_outer_249 : decode cX11_outer 249 = .ok (.goto 18, 3) := by decide +kernel
theorem dX11_outer_252 : decode cX11_outer 252 = .ok (.iload 5, 2) := by decide +kernel
theorem dX11_outer_254 : decode cX11_outer 254 = .ok (.iconst 2, 1) := by decide +kernel
theorem dX11_outer_255 : decode cX11_outer 255 = .ok (.if_icmp .ne 9, 3) := by decide +kernel
theorem dX11_outer_258 : decode cX11_outer 258 = .ok (.iload 8, 2) := by decide +kernel
theorem dX11_outer_260 : decode cX11_outer 260 = .ok (.i2l, 1) := by decide +kernel
theorem dX11_outer_261 : decode cX11_outer 261 = .ok (.goto 6, 3) := by decide +kernel
theorem dX11_outer_264 : decode cX11_outer 264 = .ok (.iload 9, 2) := by decide +kernel
theorem dX11_outer_266 : decode cX11_outer 266 = .ok (.i2l, 1) := by decide +kernel
theorem dX11_outer_267 : decode cX11_outer 267 = .ok (.lreturn, 1) := by decide +kernel
theorem in1_2048 {z : Int32} (h : (1 : Int64) ≤ z.toInt64 ∧ z.toInt64 ≤ 2048) : ∃ j, 1 ≤ j ∧ j ≤ 2048 ∧ z = nI j := by
  obtain ⟨h1, h2⟩ := h
  rw [show (1 : Int64) = (1 : Int32).toInt64 from by decide, w64_le] at h1
  rw [show (2048 : Int64) = (2048 : Int32).toInt64 from by decide, w64_le] at h2
  obtain ⟨j, hj, e, h3⟩ := inI (n := 2048) (by decide) (by decide) h1 h2
  have e1 : (1 : Int32).toInt = 1 := by decide
  exact ⟨j, by omega, hj, e⟩
def own_c_outerM : List Cond := [.fieldLink RX11 42 "ClashFreeModel" "paper" "[I", .methodLink RX11 95 yX11_manyOf, .instanceMethod yX11_manyOf, .selects RX11 yX11_manyOf yX11_manyOf, .initialized RX11, .fieldLink RX11 17 "ClashFreeModel" "keys" "[I", .methodLink RX11 133 yX11_placeOf, .static yX11_placeOf, .methodLink RX11 198 yX11_flag, .static yX11_flag, .fieldLink RX11 73 "ClashFreeModel" "thrown" "I", .methodLink RX11 222 yX11_isThere, .instanceMethod yX11_isThere, .selects RX11 yX11_isThere yX11_isThere, .methodLink RX11 252 yX11_isPair, .static yX11_isPair, .constantLong RX11 169 (2048), .methodLink RX11 83 yX11_isIn, .static yX11_isIn, .constantLong RX11 87 (3), .constantLong RX11 160 (4), .constantLong RX11 235 (-1000000000000000)]
def wp_c_outerM : List Cond := .code yX11_outer cX11_outer 11 (some .long) :: (own_c_outerM ++ (wp_c_manyOf ++ (wp_c_placeOf ++ (wp_c_flag ++ (wp_c_isThere ++ (wp_c_isPair ++ (wp_c_isIn ++ (wsX110 ++ ([] : List Cond)))))))))
set_option maxRecDepth 20000 in
theorem inown_c_outerM : ∀ w ∈ own_c_outerM, w ∈ lw_tbl := mem_places [1232, 1396, 1398, 40, 115, 1220, 1434, 1435, 1502, 1503, 1216, 1466, 1468, 54, 1589, 1590, 1441, 1371, 1372, 1378, 1405, 1517] (by decide +kernel)
set_option maxRecDepth 20000 in
theorem in_c_outerM : ∀ w ∈ wp_c_outerM, w ∈ lw_tbl := List.forall_mem_cons.mpr ⟨List.mem_of_getElem? (i := 1588) (by decide +kernel), List.forall_mem_append.mpr ⟨inown_c_outerM, List.forall_mem_append.mpr ⟨in_c_manyOf, List.forall_mem_append.mpr ⟨in_c_placeOf, List.forall_mem_append.mpr ⟨in_c_flag, List.forall_mem_append.mpr ⟨in_c_isThere, List.forall_mem_append.mpr ⟨in_c_isPair, List.forall_mem_append.mpr ⟨in_c_isIn, List.forall_mem_append.mpr ⟨lwb_X11, fun _ h => absurd h List.not_mem_nil⟩⟩⟩⟩⟩⟩⟩⟩⟩
set_option maxRecDepth 20000 in
theorem good_c_outerM : wp_c_outerM.all goodWord = true := by decide +kernel
set_option maxRecDepth 20000 in
theorem g_c_outerM_c_manyOf_95 : GoodIn wp_c_outerM (wsV RX11 95 RX11 yX11_manyOf wp_c_manyOf) := goodIn_sub (List.forall_mem_append.mpr ⟨List.forall_mem_cons.mpr ⟨(List.mem_of_getElem? (i := 2) rfl), List.forall_mem_cons.mpr ⟨(List.mem_of_getElem? (i := 3) rfl), List.forall_mem_cons.mpr ⟨(List.mem_of_getElem? (i := 4) rfl), List.forall_mem_cons.mpr ⟨(List.mem_of_getElem? (i := 5) rfl), fun _ h => absurd h List.not_mem_nil⟩⟩⟩⟩, (fun _ h => (List.mem_cons_of_mem _ (List.mem_append_right _ (List.mem_append_left _ h))))⟩) (by decide +kernel)
set_option maxRecDepth 20000 in
theorem g_c_outerM_c_placeOf_133 : GoodIn wp_c_outerM (va_wsS RX11 133 yX11_placeOf wp_c_placeOf) := goodIn_sub (List.forall_mem_append.mpr ⟨List.forall_mem_cons.mpr ⟨(List.mem_of_getElem? (i := 7) rfl), List.forall_mem_cons.mpr ⟨(List.mem_of_getElem? (i := 8) rfl), List.forall_mem_cons.mpr ⟨(List.mem_of_getElem? (i := 5) rfl), fun _ h => absurd h List.not_mem_nil⟩⟩⟩, (fun _ h => (List.mem_cons_of_mem _ (List.mem_append_right _ (List.mem_append_right _ (List.mem_append_left _ h)))))⟩) (by decide +kernel)
set_option maxRecDepth 20000 in
theorem g_c_outerM_c_flag_198 : GoodIn wp_c_outerM (va_wsS RX11 198 yX11_flag wp_c_flag) := goodIn_sub (List.forall_mem_append.mpr ⟨List.forall_mem_cons.mpr ⟨(List.mem_of_getElem? (i := 9) rfl), List.forall_mem_cons.mpr ⟨(List.mem_of_getElem? (i := 10) rfl), List.forall_mem_cons.mpr ⟨(List.mem_of_getElem? (i := 5) rfl), fun _ h => absurd h List.not_mem_nil⟩⟩⟩, (fun _ h => (List.mem_cons_of_mem _ (List.mem_append_right _ (List.mem_append_right _ (List.mem_append_right _ (List.mem_append_left _ h))))))⟩) (by decide +kernel)
set_option maxRecDepth 20000 in
theorem g_c_outerM_c_isThere_222 : GoodIn wp_c_outerM (wsV RX11 222 RX11 yX11_isThere wp_c_isThere) := goodIn_sub (List.forall_mem_append.mpr ⟨List.forall_mem_cons.mpr ⟨(List.mem_of_getElem? (i := 12) rfl), List.forall_mem_cons.mpr ⟨(List.mem_of_getElem? (i := 13) rfl), List.forall_mem_cons.mpr ⟨(List.mem_of_getElem? (i := 14) rfl), List.forall_mem_cons.mpr ⟨(List.mem_of_getElem? (i := 5) rfl), fun _ h => absurd h List.not_mem_nil⟩⟩⟩⟩, (fun _ h => (List.mem_cons_of_mem _ (List.mem_append_right _ (List.mem_append_right _ (List.mem_append_right _ (List.mem_append_right _ (List.mem_append_left _ h)))))))⟩) (by decide +kernel)
set_option maxRecDepth 20000 in
theorem g_c_outerM_c_isPair_252 : GoodIn wp_c_outerM (va_wsS RX11 252 yX11_isPair wp_c_isPair) := goodIn_sub (List.forall_mem_append.mpr ⟨List.forall_mem_cons.mpr ⟨(List.mem_of_getElem? (i := 15) rfl), List.forall_mem_cons.mpr ⟨(List.mem_of_getElem? (i := 16) rfl), List.forall_mem_cons.mpr ⟨(List.mem_of_getElem? (i := 5) rfl), fun _ h => absurd h List.not_mem_nil⟩⟩⟩, (fun _ h => (List.mem_cons_of_mem _ (List.mem_append_right _ (List.mem_append_right _ (List.mem_append_right _ (List.mem_append_right _ (List.mem_append_right _ (List.mem_append_left _ h))))))))⟩) (by decide +kernel)
set_option maxRecDepth 20000 in
theorem g_c_outerM_c_isIn_83 : GoodIn wp_c_outerM (va_wsS RX11 83 yX11_isIn wp_c_isIn) := goodIn_sub (List.forall_mem_append.mpr ⟨List.forall_mem_cons.mpr ⟨(List.mem_of_getElem? (i := 18) rfl), List.forall_mem_cons.mpr ⟨(List.mem_of_getElem? (i := 19) rfl), List.forall_mem_cons.mpr ⟨(List.mem_of_getElem? (i := 5) rfl), fun _ h => absurd h List.not_mem_nil⟩⟩⟩, (fun _ h => (List.mem_cons_of_mem _ (List.mem_append_right _ (List.mem_append_right _ (List.mem_append_right _ (List.mem_append_right _ (List.mem_append_right _ (List.mem_append_right _ (List.mem_append_left _ h)))))))))⟩) (by decide +kernel)
set_option maxHeartbeats 4000000 in
set_option maxRecDepth 100000 in
theorem lp_out1 (l : Launch) {p : Program} {e : Env} {s : State} {m : MethodId} {args : Array Value} {below : List Frame} {meth : Method} {c : Code} {Q : State → Prop} {A : Nat → Prop} (D : va_G) (h0 : Nat) (a : Nat → Nat) (cm : Nat → ClassId) (i : Nat → Int32) (g : Nat → Int64) (fn : Nat → Int64) (fk : Nat → Int32) (fb : Nat → Int32) (ff : Nat → Int32) (fh : Nat → Int32) (fa : Nat → Int64) (fs : Nat → Int64) (z5 : Int32) (k : Nat) (cn : Nat) (K : Nat → Nat) (ca : Nat) (cb : Nat) (nn : Nat) (hk : k < 4) (h1 : fn (17 * k + 1) = lN cn) (hcn : cn ≤ 160) (hKy : KyS k fk cn K) (hca : ca < 2147483647) (hcb : cb < 2147483647) (hm1 : 1 ≤ nn) (hm2 : nn ≤ 2048) (hx : p.tables.exec = Jvm.exec) (hb : c.code = cX11_outer) (hml : c.maxLocals = 11) (hown : s.vm.findClass RX11 = some m.cls) (hts : ∀ w ∈ wp_c_outerM, w.before args s = true) (hA : ∀ q, s.heap.size ≤ q → A q) (hK : va_K D vwCl [(cm 3, .long), (cm 4, .int), (cm 6, .int), (cm 8, .int), (cm 9, .int), (cm 10, .long), (cm 11, .long), (cm 16, .int)] s) (kx75 : ∀ (j : Nat), ∀ (gp : Nat → Int32), (j ≤ nn) → ∀ (H : Heap) (locs : List Loc) (ls : Array Slot), va_P D vwCl [(h0, .inr (11, gM a (upd i 0 0) g)), (a 3, .inl (cm 3, 85, .inr (.inl fn))), (a 4, .inl (cm 4, 800, .inl fk)), (a 6, .inl (cm 6, 800, .inl fb)), (a 8, .inl (cm 8, 10240, .inl ff)), (a 9, .inl (cm 9, 10240, .inl fh)), (a 10, .inl (cm 10, 10240, .inr (.inl fa))), (a 11, .inl (cm 11, 10240, .inr (.inl fs))), (a 16, .inl (cm 16, 2048, .inl gp))] H → va_D A [(h0, .inr (11, gM a (upd i 0 0) g)), (a 3, .inl (cm 3, 85, .inr (.inl fn))), (a 4, .inl (cm 4, 800, .inl fk)), (a 6, .inl (cm 6, 800, .inl fb)), (a 8, .inl (cm 8, 10240, .inl ff)), (a 9, .inl (cm 9, 10240, .inl fh)), (a 10, .inl (cm 10, 10240, .inr (.inl fa))), (a 11, .inl (cm 11, 10240, .inr (.inl fs))), (a 16, .inl (cm 16, 2048, .inl gp))] → va_S A s.heap H locs → lv_has ls 11 [(0, .ref h0), (1, .int (nI k)), (2, .int (nI ca)), (3, .int (nI cb)), (4, .int (nI nn)), (5, .int z5)] → W p l e ({ frames := 6, cells := 0, slots := 0, locals := 160 }) s m args below meth c H locs 0 0 Q (F0 m 75 ls [])) : ∀ (N : Nat), ∀ (j : Nat), ∀ (gp : Nat → Int32), (j ≤ nn) → nn - j < N → ∀ (H : Heap) (locs : List Loc) (ls : Array Slot), va_P D vwCl [(h0, .inr (11, gM a (upd i 0 0) g)), (a 3, .inl (cm 3, 85, .inr (.inl fn))), (a 4, .inl (cm 4, 800, .inl fk)), (a 6, .inl (cm 6, 800, .inl fb)), (a 8, .inl (cm 8, 10240, .inl ff)), (a 9, .inl (cm 9, 10240, .inl fh)), (a 10, .inl (cm 10, 10240, .inr (.inl fa))), (a 11, .inl (cm 11, 10240, .inr (.inl fs))), (a 16, .inl (cm 16, 2048, .inl gp))] H → va_D A [(h0, .inr (11, gM a (upd i 0 0) g)), (a 3, .inl (cm 3, 85, .inr (.inl fn))), (a 4, .inl (cm 4, 800, .inl fk)), (a 6, .inl (cm 6, 800, .inl fb)), (a 8, .inl (cm 8, 10240, .inl ff)), (a 9, .inl (cm 9, 10240, .inl fh)), (a 10, .inl (cm 10, 10240, .inr (.inl fa))), (a 11, .inl (cm 11, 10240, .inr (.inl fs))), (a 16, .inl (cm 16, 2048, .inl gp))] → va_S A s.heap H locs → lv_has ls 11 [(6, .int (nI j)), (0, .ref h0), (1, .int (nI k)), (2, .int (nI ca)), (3, .int (nI cb)), (4, .int (nI nn)), (5, .int z5)] → W p l e ({ frames := 6, cells := 0, slots := 0, locals := 160 }) s m args below meth c H locs 0 0 Q (F0 m 54 ls []) := by
  have hin_X11 : ∀ w ∈ wsX110, w ∈ wp_c_outerM := fun _ h => (List.mem_cons_of_mem _ (List.mem_append_right _ (List.mem_append_right _ (List.mem_append_right _ (List.mem_append_right _ (List.mem_append_right _ (List.mem_append_right _ (List.mem_append_right _ (List.mem_append_left _ h)))))))))
  intro N
  induction N with
  | zero =>
    intro j gp hj1 hm
    exact absurd hm (Nat.not_lt_zero _)
  | succ N ih =>
    intro j gp hj1 hm H locs ls hP hD hS hl
    have hKl : ∀ z, z < cn → K z < 2147483648 := fun z a => Nat.lt_trans (hKy.1 z a).2 (by decide)
    refine lv_iload hx hb dX11_outer_54 (lv_at hl 0 rfl) ?_
    refine lv_iload hx hb dX11_outer_56 (lv_at hl 5 rfl) ?_
    refine lv_icmp_ge (tgt := 75) hx hb dX11_outer_58 (by decide) (fun hc1 => ?_) (fun hc1 => ?_)
    ·
      exact kx75 j gp (hj1) H locs ls (hP.sub [0, 1, 2, 3, 4, 5, 6, 7, 8] rfl) (hD.sub [0, 1, 2, 3, 4, 5, 6, 7, 8] (by decide) rfl) hS (lv_sub hl [1, 2, 3, 4, 5, 6] rfl)
    ·
      have hlt_j : j < nn := by
        rcases Nat.lt_or_ge j nn with z | z
        · exact z
        · exact absurd (nI_le z (by omega)) hc1
      refine lv_aload_n hx hb dX11_outer_61 rfl (lv_at hl 1 rfl) ?_
      refine va_get (D := D) (ci := 11) (v := .ref (a 16)) (C := RX11) (T := TX11) (N := 47) hx hb hts hin_X11 hown hK hP 0 rfl rfl 16 (by decide) (hts (.fieldLink RX11 42 "ClashFreeModel" "paper" "[I") (List.mem_of_getElem? (i := 1) rfl)) (fun _ h9 => h9) rfl dX11_outer_62 ?_
      refine lv_iload hx hb dX11_outer_65 (lv_at hl 0 rfl) ?_
      refine lv_iconst (v := 0) hx hb dX11_outer_67 (by decide) ?_
      refine va_iast hx hb hK hP hD hS 8 7 rfl rfl (vp_in_nI (by omega) (by decide)) dX11_outer_68 (fun H locs hP hD hS => ?_)
      have hP : va_P D vwCl [(h0, .inr (11, gM a (upd i 0 0) g)), (a 3, .inl (cm 3, 85, .inr (.inl fn))), (a 4, .inl (cm 4, 800, .inl fk)), (a 6, .inl (cm 6, 800, .inl fb)), (a 8, .inl (cm 8, 10240, .inl ff)), (a 9, .inl (cm 9, 10240, .inl fh)), (a 10, .inl (cm 10, 10240, .inr (.inl fa))), (a 11, .inl (cm 11, 10240, .inr (.inl fs))), (a 16, .inl (cm 16, 2048, .inl (upd gp (Int32.toNatClampNeg (nI j)) 0)))] H := hP
      have hD : va_D A [(h0, .inr (11, gM a (upd i 0 0) g)), (a 3, .inl (cm 3, 85, .inr (.inl fn))), (a 4, .inl (cm 4, 800, .inl fk)), (a 6, .inl (cm 6, 800, .inl fb)), (a 8, .inl (cm 8, 10240, .inl ff)), (a 9, .inl (cm 9, 10240, .inl fh)), (a 10, .inl (cm 10, 10240, .inr (.inl fa))), (a 11, .inl (cm 11, 10240, .inr (.inl fs))), (a 16, .inl (cm 16, 2048, .inl (upd gp (Int32.toNatClampNeg (nI j)) 0)))] := hD
      generalize upd gp (Int32.toNatClampNeg (nI j)) 0 = g2 at hP hD
      refine lv_iinc (v := nI (j + 1)) (lv' := [(6, .int (nI (j + 1))), (0, .ref h0), (1, .int (nI k)), (2, .int (nI ca)), (3, .int (nI cb)), (4, .int (nI nn)), (5, .int z5)]) hx hb dX11_outer_69 hl (k := 0) rfl (nI_1 j) (by decide) rfl (fun ls hl => ?_)
      refine lv_goto (tgt := 54) hx hb dX11_outer_72 (by decide) ?_
      exact ih (j + 1) g2 (by omega) (by omega) H locs ls (hP.sub [0, 1, 2, 3, 4, 5, 6, 7, 8] rfl) (hD.sub [0, 1, 2, 3, 4, 5, 6, 7, 8] (by decide) rfl) hS (lv_sub hl [0, 1, 2, 3, 4, 5, 6] rfl)
set_option maxHeartbeats 4000000 in
set_option maxRecDepth 100000 in
theorem lp_out2 (l : Launch) {p : Program} {e : Env} {s : State} {m : MethodId} {args : Array Value} {below : List Frame} {meth : Method} {c : Code} {Q : State → Prop} {A : Nat → Prop} (D : va_G) (h0 : Nat) (a : Nat → Nat) (cm : Nat → ClassId) (i : Nat → Int32) (g : Nat → Int64) (fn : Nat → Int64) (fk : Nat → Int32) (fb : Nat → Int32) (ff : Nat → Int32) (fh : Nat → Int32) (fa : Nat → Int64) (fs : Nat → Int64) (z5 : Int32) (k : Nat) (cn : Nat) (K : Nat → Nat) (ca : Nat) (cb : Nat) (nn : Nat) (hk : k < 4) (h1 : fn (17 * k + 1) = lN cn) (hcn : cn ≤ 160) (hKy : KyS k fk cn K) (hca : ca < 2147483647) (hcb : cb < 2147483647) (hm1 : 1 ≤ nn) (hm2 : nn ≤ 2048) (hx : p.tables.exec = Jvm.exec) (hb : c.code = cX11_outer) (hml : c.maxLocals = 11) (hown : s.vm.findClass RX11 = some m.cls) (hts : ∀ w ∈ wp_c_outerM, w.before args s = true) (hA : ∀ q, s.heap.size ≤ q → A q) (hK : va_K D vwCl [(cm 3, .long), (cm 4, .int), (cm 6, .int), (cm 8, .int), (cm 9, .int), (cm 10, .long), (cm 11, .long), (cm 16, .int)] s) (kx131 : ∀ (x : Nat), ∀ (gp : Nat → Int32), (x ≤ cn) → ∀ (H : Heap) (locs : List Loc) (ls : Array Slot), va_P D vwCl [(h0, .inr (11, gM a (upd i 0 0) g)), (a 3, .inl (cm 3, 85, .inr (.inl fn))), (a 4, .inl (cm 4, 800, .inl fk)), (a 6, .inl (cm 6, 800, .inl fb)), (a 8, .inl (cm 8, 10240, .inl ff)), (a 9, .inl (cm 9, 10240, .inl fh)), (a 10, .inl (cm 10, 10240, .inr (.inl fa))), (a 11, .inl (cm 11, 10240, .inr (.inl fs))), (a 16, .inl (cm 16, 2048, .inl gp))] H → va_D A [(h0, .inr (11, gM a (upd i 0 0) g)), (a 3, .inl (cm 3, 85, .inr (.inl fn))), (a 4, .inl (cm 4, 800, .inl fk)), (a 6, .inl (cm 6, 800, .inl fb)), (a 8, .inl (cm 8, 10240, .inl ff)), (a 9, .inl (cm 9, 10240, .inl fh)), (a 10, .inl (cm 10, 10240, .inr (.inl fa))), (a 11, .inl (cm 11, 10240, .inr (.inl fs))), (a 16, .inl (cm 16, 2048, .inl gp))] → va_S A s.heap H locs → lv_has ls 11 [(0, .ref h0), (1, .int (nI k)), (2, .int (nI ca)), (3, .int (nI cb)), (4, .int (nI nn)), (5, .int z5)] → W p l e ({ frames := 6, cells := 0, slots := 0, locals := 160 }) s m args below meth c H locs 0 0 Q (F0 m 131 ls [])) : ∀ (N : Nat), ∀ (x : Nat), ∀ (gp : Nat → Int32), (x ≤ cn) → cn - x < N → ∀ (H : Heap) (locs : List Loc) (ls : Array Slot), va_P D vwCl [(h0, .inr (11, gM a (upd i 0 0) g)), (a 3, .inl (cm 3, 85, .inr (.inl fn))), (a 4, .inl (cm 4, 800, .inl fk)), (a 6, .inl (cm 6, 800, .inl fb)), (a 8, .inl (cm 8, 10240, .inl ff)), (a 9, .inl (cm 9, 10240, .inl fh)), (a 10, .inl (cm 10, 10240, .inr (.inl fa))), (a 11, .inl (cm 11, 10240, .inr (.inl fs))), (a 16, .inl (cm 16, 2048, .inl gp))] H → va_D A [(h0, .inr (11, gM a (upd i 0 0) g)), (a 3, .inl (cm 3, 85, .inr (.inl fn))), (a 4, .inl (cm 4, 800, .inl fk)), (a 6, .inl (cm 6, 800, .inl fb)), (a 8, .inl (cm 8, 10240, .inl ff)), (a 9, .inl (cm 9, 10240, .inl fh)), (a 10, .inl (cm 10, 10240, .inr (.inl fa))), (a 11, .inl (cm 11, 10240, .inr (.inl fs))), (a 16, .inl (cm 16, 2048, .inl gp))] → va_S A s.heap H locs → lv_has ls 11 [(6, .int (nI (160 * k + x))), (0, .ref h0), (1, .int (nI k)), (2, .int (nI ca)), (3, .int (nI cb)), (4, .int (nI nn)), (5, .int z5)] → W p l e ({ frames := 6, cells := 0, slots := 0, locals := 160 }) s m args below meth c H locs 0 0 Q (F0 m 82 ls []) := by
  have hin_X11 : ∀ w ∈ wsX110, w ∈ wp_c_outerM := fun _ h => (List.mem_cons_of_mem _ (List.mem_append_right _ (List.mem_append_right _ (List.mem_append_right _ (List.mem_append_right _ (List.mem_append_right _ (List.mem_append_right _ (List.mem_append_right _ (List.mem_append_left _ h)))))))))
  intro N
  induction N with
  | zero =>
    intro x gp hx2 hm
    exact absurd hm (Nat.not_lt_zero _)
  | succ N ih =>
    intro x gp hx2 hm H locs ls hP hD hS hl
    have hKl : ∀ z, z < cn → K z < 2147483648 := fun z a => Nat.lt_trans (hKy.1 z a).2 (by decide)
    refine lv_iload hx hb dX11_outer_82 (lv_at hl 0 rfl) ?_
    refine lv_sipush (v := 160) hx hb dX11_outer_84 (by decide) ?_
    refine lv_iload_n hx hb dX11_outer_87 rfl (lv_at hl 2 rfl) ?_
    refine lv_imul hx hb dX11_outer_88 ?_
    refine lv_aload_n hx hb dX11_outer_89 rfl (lv_at hl 1 rfl) ?_
    refine lv_iload_n hx hb dX11_outer_90 rfl (lv_at hl 2 rfl) ?_
    have hPc := hP.sub (ws' := [(h0, .inr (11, gM a (upd i 0 0) g)), (a 3, .inl (cm 3, 85, .inr (.inl fn)))]) [0, 1] rfl
    have hKc := hK.sub (tys' := [(cm 3, .long)]) [0] rfl
    have hFc := va_free0 hS hA
    refine va_calli (va_runV (As := [.int (nI k)]) (rest := [.int (160 * (nI k)), .int (nI (160 * k + x))]) ⟨hx, hb, hml, hown, hts⟩ (c_manyOf l D _ h0 a cm (upd i 0 0) g fn k cn (by first | assumption | omega) h1) (cwV 1 hts g_c_outerM_c_manyOf_95 rfl rfl rfl (by decide +kernel) ⟨(Nat.le_of_ble_eq_true rfl), (Nat.le_of_ble_eq_true rfl)⟩) (PcR_V (q0 := 0) hPc hKc rfl rfl) rfl rfl hl.1 rfl (lv_room (Nat.le_of_ble_eq_true rfl)) dX11_outer_91 ⟨(Nat.le_of_ble_eq_true rfl), (Nat.le_of_ble_eq_true rfl)⟩) hS (fun q _ h => hFc q h) hFc (fun r1 uu tt H locs htt hvm hw hB hz1 hk1 hS => ?_)
    have hP := va_keep hP hk1
    try dsimp only at hw
    clear hB hz1 hk1 hFc hPc hKc
    obtain rfl : r1 = nI cn := hw
    refine lv_iadd hx hb dX11_outer_94 ?_
    refine lv_topi (fun v2 ev2 => ?_)
    obtain rfl : v2 = nI (160 * k + cn) := ev2.trans (ix160 k _)
    refine lv_icmp_ge (tgt := 131) hx hb dX11_outer_95 (by decide) (fun hc3 => ?_) (fun hc3 => ?_)
    ·
      have hge_x : cn ≤ x := by
        have := (nI_leI (a := 160 * k + cn) (b := 160 * k + x) (by omega) (by omega)).mp hc3
        omega
      exact kx131 x gp (hx2) H locs ls (hP.sub [0, 1, 2, 3, 4, 5, 6, 7, 8] rfl) (hD.sub [0, 1, 2, 3, 4, 5, 6, 7, 8] (by decide) rfl) hS (lv_sub hl [1, 2, 3, 4, 5, 6] rfl)
    ·
      have hlt_x : x < cn := by
        rcases Nat.lt_or_ge x cn with z | z
        · exact z
        · exact absurd (nI_le (show 160 * k + cn ≤ 160 * k + x by omega) (by omega)) hc3
      refine lv_aload_n hx hb dX11_outer_98 rfl (lv_at hl 1 rfl) ?_
      refine va_get (D := D) (ci := 11) (v := .ref (a 16)) (C := RX11) (T := TX11) (N := 47) hx hb hts hin_X11 hown hK hP 0 rfl rfl 16 (by decide) (hts (.fieldLink RX11 42 "ClashFreeModel" "paper" "[I") (List.mem_of_getElem? (i := 1) rfl)) (fun _ h9 => h9) rfl dX11_outer_99 ?_
      refine lv_iload_n hx hb dX11_outer_102 rfl (lv_at hl 3 rfl) ?_
      refine lv_i2l hx hb dX11_outer_103 rfl ?_
      refine lv_topl (fun v4 ev4 => ?_)
      obtain rfl : v4 = lN ca := ev4.trans (nI_l (by omega))
      refine lv_iload_n hx hb dX11_outer_104 rfl (lv_at hl 4 rfl) ?_
      refine lv_i2l hx hb dX11_outer_105 rfl ?_
      refine lv_topl (fun v5 ev5 => ?_)
      obtain rfl : v5 = lN cb := ev5.trans (nI_l (by omega))
      refine lv_aload_n hx hb dX11_outer_106 rfl (lv_at hl 1 rfl) ?_
      refine va_get (D := D) (ci := 11) (v := .ref (a 4)) (C := RX11) (T := TX11) (N := 47) hx hb hts hin_X11 hown hK hP 0 rfl rfl 4 (by decide) (hts (.fieldLink RX11 17 "ClashFreeModel" "keys" "[I") (List.mem_of_getElem? (i := 6) rfl)) (fun _ h9 => h9) rfl dX11_outer_107 ?_
      refine lv_iload hx hb dX11_outer_110 (lv_at hl 0 rfl) ?_
      refine va_iald hx hb hK hP 2 1 rfl rfl (vp_in_nI (by omega) (by decide)) dX11_outer_112 ?_
      refine lv_topi (fun v6 ev6 => ?_)
      obtain rfl : v6 = nI (K x) := ev6.trans (by rw [nI_clamp (by omega)]; exact (hKy.1 _ (by omega)).1)
      refine lv_i2l hx hb dX11_outer_113 rfl ?_
      refine lv_topl (fun v7 ev7 => ?_)
      obtain rfl : v7 = lN (K x) := ev7.trans (nI_l (Nat.lt_trans (hKy.1 _ (by omega)).2 (by decide)))
      refine lv_iload hx hb dX11_outer_114 (lv_at hl 5 rfl) ?_
      refine lv_i2l hx hb dX11_outer_116 rfl ?_
      refine lv_topl (fun v8 ev8 => ?_)
      obtain rfl : v8 = lN nn := ev8.trans (nI_l (by omega))
      have hPc := hP.sub (ws' := []) [] rfl
      have hKc := hK.sub (tys' := []) [] rfl
      have hFc := va_free0 hS hA
      refine va_calli (va_runS (As := [.long (lN ca), .long (lN cb), .long (lN (K x)), .long (lN nn)]) (rest := [.ref (a 16)]) ⟨hx, hb, hml, hown, hts⟩ (c_placeOf l D _ ca cb (K x) nn (by first | assumption | omega) (by first | assumption | omega) (by first | assumption | omega | exact hKl _ (by omega)) (by first | assumption | omega) (by first | assumption | omega)) (va_cwS 4 hts g_c_outerM_c_placeOf_133 rfl rfl rfl (by decide +kernel) ⟨(Nat.le_of_ble_eq_true rfl), (Nat.le_of_ble_eq_true rfl)⟩) (PcR_S hPc hKc) rfl rfl hl.1 rfl (lv_room (Nat.le_of_ble_eq_true rfl)) dX11_outer_117 ⟨(Nat.le_of_ble_eq_true rfl), (Nat.le_of_ble_eq_true rfl)⟩) hS (fun q _ h => hFc q h) hFc (fun r9 uu tt H locs htt hvm hw hB hz1 hk1 hS => ?_)
      have hP := va_keep hP hk1
      try dsimp only at hw
      clear hB hz1 hk1 hFc hPc hKc
      obtain rfl : r9 = nI ((ca * (K x) + cb) % 2147483647 % nn) := hw
      refine lv_dup2_11 hx hb dX11_outer_120 rfl rfl ?_
      refine va_iald hx hb hK hP 8 7 rfl rfl (vp_in_nI (by have := Nat.mod_lt ((ca * K x + cb) % 2147483647) (show 0 < nn by omega); omega) (by decide)) dX11_outer_121 ?_
      refine lv_topi (fun v10 ev10 => ?_)
      refine lv_iconst (v := 1) hx hb dX11_outer_122 (by decide) ?_
      refine lv_iadd hx hb dX11_outer_123 ?_
      refine lv_topi (fun v11 ev11 => ?_)
      refine va_iast hx hb hK hP hD hS 8 7 rfl rfl (vp_in_nI (by have := Nat.mod_lt ((ca * K x + cb) % 2147483647) (show 0 < nn by omega); omega) (by decide)) dX11_outer_124 (fun H locs hP hD hS => ?_)
      have hP : va_P D vwCl [(h0, .inr (11, gM a (upd i 0 0) g)), (a 3, .inl (cm 3, 85, .inr (.inl fn))), (a 4, .inl (cm 4, 800, .inl fk)), (a 6, .inl (cm 6, 800, .inl fb)), (a 8, .inl (cm 8, 10240, .inl ff)), (a 9, .inl (cm 9, 10240, .inl fh)), (a 10, .inl (cm 10, 10240, .inr (.inl fa))), (a 11, .inl (cm 11, 10240, .inr (.inl fs))), (a 16, .inl (cm 16, 2048, .inl (upd gp (Int32.toNatClampNeg (nI ((ca * (K x) + cb) % 2147483647 % nn))) v11)))] H := hP
      have hD : va_D A [(h0, .inr (11, gM a (upd i 0 0) g)), (a 3, .inl (cm 3, 85, .inr (.inl fn))), (a 4, .inl (cm 4, 800, .inl fk)), (a 6, .inl (cm 6, 800, .inl fb)), (a 8, .inl (cm 8, 10240, .inl ff)), (a 9, .inl (cm 9, 10240, .inl fh)), (a 10, .inl (cm 10, 10240, .inr (.inl fa))), (a 11, .inl (cm 11, 10240, .inr (.inl fs))), (a 16, .inl (cm 16, 2048, .inl (upd gp (Int32.toNatClampNeg (nI ((ca * (K x) + cb) % 2147483647 % nn))) v11)))] := hD
      generalize upd gp (Int32.toNatClampNeg (nI ((ca * (K x) + cb) % 2147483647 % nn))) v11 = g12 at hP hD
      refine lv_iinc (v := nI (160 * k + (x + 1))) (lv' := [(6, .int (nI (160 * k + (x + 1)))), (0, .ref h0), (1, .int (nI k)), (2, .int (nI ca)), (3, .int (nI cb)), (4, .int (nI nn)), (5, .int z5)]) hx hb dX11_outer_125 hl (k := 0) rfl (nI_1 _) (by decide) rfl (fun ls hl => ?_)
      refine lv_goto (tgt := 82) hx hb dX11_outer_128 (by decide) ?_
      exact ih (x + 1) g12 (by omega) (by omega) H locs ls (hP.sub [0, 1, 2, 3, 4, 5, 6, 7, 8] rfl) (hD.sub [0, 1, 2, 3, 4, 5, 6, 7, 8] (by decide) rfl) hS (lv_sub hl [0, 1, 2, 3, 4, 5, 6] rfl)
set_option maxHeartbeats 4000000 in
set_option maxRecDepth 100000 in
theorem lp_out3 (l : Launch) {p : Program} {e : Env} {s : State} {m : MethodId} {args : Array Value} {below : List Frame} {meth : Method} {c : Code} {Q : State → Prop} {A : Nat → Prop} (D : va_G) (h0 : Nat) (a : Nat → Nat) (cm : Nat → ClassId) (i : Nat → Int32) (g : Nat → Int64) (fn : Nat → Int64) (fk : Nat → Int32) (fb : Nat → Int32) (ff : Nat → Int32) (fh : Nat → Int32) (fa : Nat → Int64) (fs : Nat → Int64) (z5 : Int32) (k : Nat) (cn : Nat) (K : Nat → Nat) (ca : Nat) (cb : Nat) (nn : Nat) (hk : k < 4) (h1 : fn (17 * k + 1) = lN cn) (hcn : cn ≤ 160) (hKy : KyS k fk cn K) (hca : ca < 2147483647) (hcb : cb < 2147483647) (hm1 : 1 ≤ nn) (hm2 : nn ≤ 2048) (hx : p.tables.exec = Jvm.exec) (hb : c.code = cX11_outer) (hml : c.maxLocals = 11) (hown : s.vm.findClass RX11 = some m.cls) (hts : ∀ w ∈ wp_c_outerM, w.before args s = true) (hA : ∀ q, s.heap.size ≤ q → A q) (hK : va_K D vwCl [(cm 3, .long), (cm 4, .int), (cm 6, .int), (cm 8, .int), (cm 9, .int), (cm 10, .long), (cm 11, .long), (cm 16, .int)] s) (kx227 : ∀ (j : Nat), ∀ (no : Int32), ∀ (mo : Int32), ∀ (sm : Int64), ∀ (gp : Nat → Int32), (j ≤ nn) → ∀ (H : Heap) (locs : List Loc) (ls : Array Slot), va_P D vwCl [(h0, .inr (11, gM a (upd i 0 0) g)), (a 3, .inl (cm 3, 85, .inr (.inl fn))), (a 4, .inl (cm 4, 800, .inl fk)), (a 6, .inl (cm 6, 800, .inl fb)), (a 8, .inl (cm 8, 10240, .inl ff)), (a 9, .inl (cm 9, 10240, .inl fh)), (a 10, .inl (cm 10, 10240, .inr (.inl fa))), (a 11, .inl (cm 11, 10240, .inr (.inl fs))), (a 16, .inl (cm 16, 2048, .inl gp))] H → va_D A [(h0, .inr (11, gM a (upd i 0 0) g)), (a 3, .inl (cm 3, 85, .inr (.inl fn))), (a 4, .inl (cm 4, 800, .inl fk)), (a 6, .inl (cm 6, 800, .inl fb)), (a 8, .inl (cm 8, 10240, .inl ff)), (a 9, .inl (cm 9, 10240, .inl fh)), (a 10, .inl (cm 10, 10240, .inr (.inl fa))), (a 11, .inl (cm 11, 10240, .inr (.inl fs))), (a 16, .inl (cm 16, 2048, .inl gp))] → va_S A s.heap H locs → lv_has ls 11 [(9, .int no), (8, .int mo), (6, .long sm), (0, .ref h0), (5, .int z5)] → W p l e ({ frames := 6, cells := 0, slots := 0, locals := 160 }) s m args below meth c H locs 0 0 Q (F0 m 227 ls [])) : ∀ (N : Nat), ∀ (j : Nat), ∀ (no : Int32), ∀ (mo : Int32), ∀ (sm : Int64), ∀ (gp : Nat → Int32), (j ≤ nn) → nn - j < N → ∀ (H : Heap) (locs : List Loc) (ls : Array Slot), va_P D vwCl [(h0, .inr (11, gM a (upd i 0 0) g)), (a 3, .inl (cm 3, 85, .inr (.inl fn))), (a 4, .inl (cm 4, 800, .inl fk)), (a 6, .inl (cm 6, 800, .inl fb)), (a 8, .inl (cm 8, 10240, .inl ff)), (a 9, .inl (cm 9, 10240, .inl fh)), (a 10, .inl (cm 10, 10240, .inr (.inl fa))), (a 11, .inl (cm 11, 10240, .inr (.inl fs))), (a 16, .inl (cm 16, 2048, .inl gp))] H → va_D A [(h0, .inr (11, gM a (upd i 0 0) g)), (a 3, .inl (cm 3, 85, .inr (.inl fn))), (a 4, .inl (cm 4, 800, .inl fk)), (a 6, .inl (cm 6, 800, .inl fb)), (a 8, .inl (cm 8, 10240, .inl ff)), (a 9, .inl (cm 9, 10240, .inl fh)), (a 10, .inl (cm 10, 10240, .inr (.inl fa))), (a 11, .inl (cm 11, 10240, .inr (.inl fs))), (a 16, .inl (cm 16, 2048, .inl gp))] → va_S A s.heap H locs → lv_has ls 11 [(10, .int (nI j)), (9, .int no), (8, .int mo), (6, .long sm), (0, .ref h0), (1, .int (nI k)), (2, .int (nI ca)), (3, .int (nI cb)), (4, .int (nI nn)), (5, .int z5)] → W p l e ({ frames := 6, cells := 0, slots := 0, locals := 160 }) s m args below meth c H locs 0 0 Q (F0 m 143 ls []) := by
  have hin_X11 : ∀ w ∈ wsX110, w ∈ wp_c_outerM := fun _ h => (List.mem_cons_of_mem _ (List.mem_append_right _ (List.mem_append_right _ (List.mem_append_right _ (List.mem_append_right _ (List.mem_append_right _ (List.mem_append_right _ (List.mem_append_right _ (List.mem_append_left _ h)))))))))
  intro N
  induction N with
  | zero =>
    intro j no mo sm gp hj1 hm
    exact absurd hm (Nat.not_lt_zero _)
  | succ N ih =>
    intro j no mo sm gp hj1 hm H locs ls hP hD hS hl
    have hKl : ∀ z, z < cn → K z < 2147483648 := fun z a => Nat.lt_trans (hKy.1 z a).2 (by decide)
    refine lv_iload hx hb dX11_outer_143 (lv_at hl 0 rfl) ?_
    refine lv_iload hx hb dX11_outer_145 (lv_at hl 8 rfl) ?_
    refine lv_icmp_ge (tgt := 227) hx hb dX11_outer_147 (by decide) (fun hc1 => ?_) (fun hc1 => ?_)
    ·
      exact kx227 j no mo sm gp (hj1) H locs ls (hP.sub [0, 1, 2, 3, 4, 5, 6, 7, 8] rfl) (hD.sub [0, 1, 2, 3, 4, 5, 6, 7, 8] (by decide) rfl) hS (lv_sub hl [1, 2, 3, 4, 9] rfl)
    ·
      have hlt_j : j < nn := by
        rcases Nat.lt_or_ge j nn with z | z
        · exact z
        · exact absurd (nI_le z (by omega)) hc1
      refine lv_lload hx hb dX11_outer_150 (lv_at hl 3 rfl) ?_
      refine lv_aload_n hx hb dX11_outer_152 rfl (lv_at hl 4 rfl) ?_
      refine va_get (D := D) (ci := 11) (v := .ref (a 16)) (C := RX11) (T := TX11) (N := 47) hx hb hts hin_X11 hown hK hP 0 rfl rfl 16 (by decide) (hts (.fieldLink RX11 42 "ClashFreeModel" "paper" "[I") (List.mem_of_getElem? (i := 1) rfl)) (fun _ h9 => h9) rfl dX11_outer_153 ?_
      refine lv_iload hx hb dX11_outer_156 (lv_at hl 0 rfl) ?_
      refine va_iald hx hb hK hP 8 7 rfl rfl (vp_in_nI (by omega) (by decide)) dX11_outer_158 ?_
      refine lv_topi (fun v2 ev2 => ?_)
      refine lv_i2l hx hb dX11_outer_159 rfl ?_
      refine lv_aload_n hx hb dX11_outer_160 rfl (lv_at hl 4 rfl) ?_
      refine va_get (D := D) (ci := 11) (v := .ref (a 16)) (C := RX11) (T := TX11) (N := 47) hx hb hts hin_X11 hown hK hP 0 rfl rfl 16 (by decide) (hts (.fieldLink RX11 42 "ClashFreeModel" "paper" "[I") (List.mem_of_getElem? (i := 1) rfl)) (fun _ h9 => h9) rfl dX11_outer_161 ?_
      refine lv_iload hx hb dX11_outer_164 (lv_at hl 0 rfl) ?_
      refine va_iald hx hb hK hP 8 7 rfl rfl (vp_in_nI (by omega) (by decide)) dX11_outer_166 ?_
      refine lv_topi (fun v3 ev3 => ?_)
      refine lv_i2l hx hb dX11_outer_167 rfl ?_
      refine lv_lmul hx hb dX11_outer_168 ?_
      refine lv_topl (fun v4 ev4 => ?_)
      refine lv_ladd hx hb dX11_outer_169 ?_
      refine lv_topl (fun v5 ev5 => ?_)
      refine lv_lstore (lv' := [(6, .long v5), (10, .int (nI j)), (9, .int no), (8, .int mo), (0, .ref h0), (1, .int (nI k)), (2, .int (nI ca)), (3, .int (nI cb)), (4, .int (nI nn)), (5, .int z5)]) hx hb dX11_outer_170 hl (by decide) rfl (fun ls hl => ?_)
      refine lv_aload_n hx hb dX11_outer_172 rfl (lv_at hl 4 rfl) ?_
      refine va_get (D := D) (ci := 11) (v := .ref (a 16)) (C := RX11) (T := TX11) (N := 47) hx hb hts hin_X11 hown hK hP 0 rfl rfl 16 (by decide) (hts (.fieldLink RX11 42 "ClashFreeModel" "paper" "[I") (List.mem_of_getElem? (i := 1) rfl)) (fun _ h9 => h9) rfl dX11_outer_173 ?_
      refine lv_iload hx hb dX11_outer_176 (lv_at hl 1 rfl) ?_
      refine va_iald hx hb hK hP 8 7 rfl rfl (vp_in_nI (by omega) (by decide)) dX11_outer_178 ?_
      refine lv_topi (fun v6 ev6 => ?_)
      refine lv_iload hx hb dX11_outer_179 (lv_at hl 3 rfl) ?_
      refine lv_icmp_le (tgt := 194) hx hb dX11_outer_181 (by decide) (fun hc7 => ?_) (fun hc7 => ?_)
      ·
        refine lv_iload hx hb dX11_outer_194 (lv_at hl 3 rfl) ?_
        refine lv_istore (lv' := [(8, .int mo), (6, .long v5), (10, .int (nI j)), (9, .int no), (0, .ref h0), (1, .int (nI k)), (2, .int (nI ca)), (3, .int (nI cb)), (4, .int (nI nn)), (5, .int z5)]) hx hb dX11_outer_196 hl (by decide) rfl (fun ls hl => ?_)
        refine lv_iload hx hb dX11_outer_198 (lv_at hl 3 rfl) ?_
        refine lv_aload_n hx hb dX11_outer_200 rfl (lv_at hl 4 rfl) ?_
        refine va_get (D := D) (ci := 11) (v := .ref (a 16)) (C := RX11) (T := TX11) (N := 47) hx hb hts hin_X11 hown hK hP 0 rfl rfl 16 (by decide) (hts (.fieldLink RX11 42 "ClashFreeModel" "paper" "[I") (List.mem_of_getElem? (i := 1) rfl)) (fun _ h9 => h9) rfl dX11_outer_201 ?_
        refine lv_iload hx hb dX11_outer_204 (lv_at hl 2 rfl) ?_
        refine va_iald hx hb hK hP 8 7 rfl rfl (vp_in_nI (by omega) (by decide)) dX11_outer_206 ?_
        refine lv_topi (fun v8 ev8 => ?_)
        refine lv_if_ne (tgt := 214) hx hb dX11_outer_207 (by decide) (fun hc9 => ?_) (fun hc9 => ?_)
        ·
          refine lv_iconst (v := 0) hx hb dX11_outer_214 (by decide) ?_
          have hPc := hP.sub (ws' := []) [] rfl
          have hKc := hK.sub (tys' := []) [] rfl
          have hFc := va_free0 hS hA
          refine va_calli (va_runS (As := [.int 0]) (rest := [.int no]) ⟨hx, hb, hml, hown, hts⟩ (c_flag l D _ 0) (va_cwS 1 hts g_c_outerM_c_flag_198 rfl rfl rfl (by decide +kernel) ⟨(Nat.le_of_ble_eq_true rfl), (Nat.le_of_ble_eq_true rfl)⟩) (PcR_S hPc hKc) rfl rfl hl.1 rfl (lv_room (Nat.le_of_ble_eq_true rfl)) dX11_outer_215 ⟨(Nat.le_of_ble_eq_true rfl), (Nat.le_of_ble_eq_true rfl)⟩) hS (fun q _ h => hFc q h) hFc (fun r10 uu tt H locs htt hvm hw hB hz1 hk1 hS => ?_)
          have hP := va_keep hP hk1
          try dsimp only at hw
          clear hB hz1 hk1 hFc hPc hKc
          obtain rfl : r10 = 0 := hw.trans (by decide)
          refine lv_iadd hx hb dX11_outer_218 ?_
          refine lv_topi (fun v11 ev11 => ?_)
          refine lv_istore (lv' := [(9, .int v11), (8, .int mo), (6, .long v5), (10, .int (nI j)), (0, .ref h0), (1, .int (nI k)), (2, .int (nI ca)), (3, .int (nI cb)), (4, .int (nI nn)), (5, .int z5)]) hx hb dX11_outer_219 hl (by decide) rfl (fun ls hl => ?_)
          refine lv_iinc (v := nI (j + 1)) (lv' := [(10, .int (nI (j + 1))), (9, .int v11), (8, .int mo), (6, .long v5), (0, .ref h0), (1, .int (nI k)), (2, .int (nI ca)), (3, .int (nI cb)), (4, .int (nI nn)), (5, .int z5)]) hx hb dX11_outer_221 hl (k := 3) rfl (nI_1 j) (by decide) rfl (fun ls hl => ?_)
          refine lv_goto (tgt := 143) hx hb dX11_outer_224 (by decide) ?_
          exact ih (j + 1) v11 mo v5 gp (by omega) (by omega) H locs ls (hP.sub [0, 1, 2, 3, 4, 5, 6, 7, 8] rfl) (hD.sub [0, 1, 2, 3, 4, 5, 6, 7, 8] (by decide) rfl) hS (lv_sub hl [0, 1, 2, 3, 4, 5, 6, 7, 8, 9] rfl)
        ·
          refine lv_iconst (v := 1) hx hb dX11_outer_210 (by decide) ?_
          refine lv_goto (tgt := 215) hx hb dX11_outer_211 (by decide) ?_
          have hPc := hP.sub (ws' := []) [] rfl
          have hKc := hK.sub (tys' := []) [] rfl
          have hFc := va_free0 hS hA
          refine va_calli (va_runS (As := [.int 1]) (rest := [.int no]) ⟨hx, hb, hml, hown, hts⟩ (c_flag l D _ 1) (va_cwS 1 hts g_c_outerM_c_flag_198 rfl rfl rfl (by decide +kernel) ⟨(Nat.le_of_ble_eq_true rfl), (Nat.le_of_ble_eq_true rfl)⟩) (PcR_S hPc hKc) rfl rfl hl.1 rfl (lv_room (Nat.le_of_ble_eq_true rfl)) dX11_outer_215 ⟨(Nat.le_of_ble_eq_true rfl), (Nat.le_of_ble_eq_true rfl)⟩) hS (fun q _ h => hFc q h) hFc (fun r12 uu tt H locs htt hvm hw hB hz1 hk1 hS => ?_)
          have hP := va_keep hP hk1
          try dsimp only at hw
          clear hB hz1 hk1 hFc hPc hKc
          obtain rfl : r12 = 1 := hw.trans (by decide)
          refine lv_iadd hx hb dX11_outer_218 ?_
          refine lv_topi (fun v13 ev13 => ?_)
          refine lv_istore (lv' := [(9, .int v13), (8, .int mo), (6, .long v5), (10, .int (nI j)), (0, .ref h0), (1, .int (nI k)), (2, .int (nI ca)), (3, .int (nI cb)), (4, .int (nI nn)), (5, .int z5)]) hx hb dX11_outer_219 hl (by decide) rfl (fun ls hl => ?_)
          refine lv_iinc (v := nI (j + 1)) (lv' := [(10, .int (nI (j + 1))), (9, .int v13), (8, .int mo), (6, .long v5), (0, .ref h0), (1, .int (nI k)), (2, .int (nI ca)), (3, .int (nI cb)), (4, .int (nI nn)), (5, .int z5)]) hx hb dX11_outer_221 hl (k := 3) rfl (nI_1 j) (by decide) rfl (fun ls hl => ?_)
          refine lv_goto (tgt := 143) hx hb dX11_outer_224 (by decide) ?_
          exact ih (j + 1) v13 mo v5 gp (by omega) (by omega) H locs ls (hP.sub [0, 1, 2, 3, 4, 5, 6, 7, 8] rfl) (hD.sub [0, 1, 2, 3, 4, 5, 6, 7, 8] (by decide) rfl) hS (lv_sub hl [0, 1, 2, 3, 4, 5, 6, 7, 8, 9] rfl)
      ·
        refine lv_aload_n hx hb dX11_outer_184 rfl (lv_at hl 4 rfl) ?_
        refine va_get (D := D) (ci := 11) (v := .ref (a 16)) (C := RX11) (T := TX11) (N := 47) hx hb hts hin_X11 hown hK hP 0 rfl rfl 16 (by decide) (hts (.fieldLink RX11 42 "ClashFreeModel" "paper" "[I") (List.mem_of_getElem? (i := 1) rfl)) (fun _ h9 => h9) rfl dX11_outer_185 ?_
        refine lv_iload hx hb dX11_outer_188 (lv_at hl 1 rfl) ?_
        refine va_iald hx hb hK hP 8 7 rfl rfl (vp_in_nI (by omega) (by decide)) dX11_outer_190 ?_
        refine lv_topi (fun v14 ev14 => ?_)
        refine lv_goto (tgt := 196) hx hb dX11_outer_191 (by decide) ?_
        refine lv_istore (lv' := [(8, .int v14), (6, .long v5), (10, .int (nI j)), (9, .int no), (0, .ref h0), (1, .int (nI k)), (2, .int (nI ca)), (3, .int (nI cb)), (4, .int (nI nn)), (5, .int z5)]) hx hb dX11_outer_196 hl (by decide) rfl (fun ls hl => ?_)
        refine lv_iload hx hb dX11_outer_198 (lv_at hl 3 rfl) ?_
        refine lv_aload_n hx hb dX11_outer_200 rfl (lv_at hl 4 rfl) ?_
        refine va_get (D := D) (ci := 11) (v := .ref (a 16)) (C := RX11) (T := TX11) (N := 47) hx hb hts hin_X11 hown hK hP 0 rfl rfl 16 (by decide) (hts (.fieldLink RX11 42 "ClashFreeModel" "paper" "[I") (List.mem_of_getElem? (i := 1) rfl)) (fun _ h9 => h9) rfl dX11_outer_201 ?_
        refine lv_iload hx hb dX11_outer_204 (lv_at hl 2 rfl) ?_
        refine va_iald hx hb hK hP 8 7 rfl rfl (vp_in_nI (by omega) (by decide)) dX11_outer_206 ?_
        refine lv_topi (fun v15 ev15 => ?_)
        refine lv_if_ne (tgt := 214) hx hb dX11_outer_207 (by decide) (fun hc16 => ?_) (fun hc16 => ?_)
        ·
          refine lv_iconst (v := 0) hx hb dX11_outer_214 (by decide) ?_
          have hPc := hP.sub (ws' := []) [] rfl
          have hKc := hK.sub (tys' := []) [] rfl
          have hFc := va_free0 hS hA
          refine va_calli (va_runS (As := [.int 0]) (rest := [.int no]) ⟨hx, hb, hml, hown, hts⟩ (c_flag l D _ 0) (va_cwS 1 hts g_c_outerM_c_flag_198 rfl rfl rfl (by decide +kernel) ⟨(Nat.le_of_ble_eq_true rfl), (Nat.le_of_ble_eq_true rfl)⟩) (PcR_S hPc hKc) rfl rfl hl.1 rfl (lv_room (Nat.le_of_ble_eq_true rfl)) dX11_outer_215 ⟨(Nat.le_of_ble_eq_true rfl), (Nat.le_of_ble_eq_true rfl)⟩) hS (fun q _ h => hFc q h) hFc (fun r17 uu tt H locs htt hvm hw hB hz1 hk1 hS => ?_)
          have hP := va_keep hP hk1
          try dsimp only at hw
          clear hB hz1 hk1 hFc hPc hKc
          obtain rfl : r17 = 0 := hw.trans (by decide)
          refine lv_iadd hx hb dX11_outer_218 ?_
          refine lv_topi (fun v18 ev18 => ?_)
          refine lv_istore (lv' := [(9, .int v18), (8, .int v14), (6, .long v5), (10, .int (nI j)), (0, .ref h0), (1, .int (nI k)), (2, .int (nI ca)), (3, .int (nI cb)), (4, .int (nI nn)), (5, .int z5)]) hx hb dX11_outer_219 hl (by decide) rfl (fun ls hl => ?_)
          refine lv_iinc (v := nI (j + 1)) (lv' := [(10, .int (nI (j + 1))), (9, .int v18), (8, .int v14), (6, .long v5), (0, .ref h0), (1, .int (nI k)), (2, .int (nI ca)), (3, .int (nI cb)), (4, .int (nI nn)), (5, .int z5)]) hx hb dX11_outer_221 hl (k := 3) rfl (nI_1 j) (by decide) rfl (fun ls hl => ?_)
          refine lv_goto (tgt := 143) hx hb dX11_outer_224 (by decide) ?_
          exact ih (j + 1) v18 v14 v5 gp (by omega) (by omega) H locs ls (hP.sub [0, 1, 2, 3, 4, 5, 6, 7, 8] rfl) (hD.sub [0, 1, 2, 3, 4, 5, 6, 7, 8] (by decide) rfl) hS (lv_sub hl [0, 1, 2, 3, 4, 5, 6, 7, 8, 9] rfl)
        ·
          refine lv_iconst (v := 1) hx hb dX11_outer_210 (by decide) ?_
          refine lv_goto (tgt := 215) hx hb dX11_outer_211 (by decide) ?_
          have hPc := hP.sub (ws' := []) [] rfl
          have hKc := hK.sub (tys' := []) [] rfl
          have hFc := va_free0 hS hA
          refine va_calli (va_runS (As := [.int 1]) (rest := [.int no]) ⟨hx, hb, hml, hown, hts⟩ (c_flag l D _ 1) (va_cwS 1 hts g_c_outerM_c_flag_198 rfl rfl rfl (by decide +kernel) ⟨(Nat.le_of_ble_eq_true rfl), (Nat.le_of_ble_eq_true rfl)⟩) (PcR_S hPc hKc) rfl rfl hl.1 rfl (lv_room (Nat.le_of_ble_eq_true rfl)) dX11_outer_215 ⟨(Nat.le_of_ble_eq_true rfl), (Nat.le_of_ble_eq_true rfl)⟩) hS (fun q _ h => hFc q h) hFc (fun r19 uu tt H locs htt hvm hw hB hz1 hk1 hS => ?_)
          have hP := va_keep hP hk1
          try dsimp only at hw
          clear hB hz1 hk1 hFc hPc hKc
          obtain rfl : r19 = 1 := hw.trans (by decide)
          refine lv_iadd hx hb dX11_outer_218 ?_
          refine lv_topi (fun v20 ev20 => ?_)
          refine lv_istore (lv' := [(9, .int v20), (8, .int v14), (6, .long v5), (10, .int (nI j)), (0, .ref h0), (1, .int (nI k)), (2, .int (nI ca)), (3, .int (nI cb)), (4, .int (nI nn)), (5, .int z5)]) hx hb dX11_outer_219 hl (by decide) rfl (fun ls hl => ?_)
          refine lv_iinc (v := nI (j + 1)) (lv' := [(10, .int (nI (j + 1))), (9, .int v20), (8, .int v14), (6, .long v5), (0, .ref h0), (1, .int (nI k)), (2, .int (nI ca)), (3, .int (nI cb)), (4, .int (nI nn)), (5, .int z5)]) hx hb dX11_outer_221 hl (k := 3) rfl (nI_1 j) (by decide) rfl (fun ls hl => ?_)
          refine lv_goto (tgt := 143) hx hb dX11_outer_224 (by decide) ?_
          exact ih (j + 1) v20 v14 v5 gp (by omega) (by omega) H locs ls (hP.sub [0, 1, 2, 3, 4, 5, 6, 7, 8] rfl) (hD.sub [0, 1, 2, 3, 4, 5, 6, 7, 8] (by decide) rfl) hS (lv_sub hl [0, 1, 2, 3, 4, 5, 6, 7, 8, 9] rfl)
set_option maxHeartbeats 4000000 in
set_option maxRecDepth 100000 in
theorem c_outerM (l : Launch) (D : va_G) (sz : Nat) (h0 : Nat) (a : Nat → Nat) (cm : Nat → ClassId) (i : Nat → Int32) (g : Nat → Int64) (fn : Nat → Int64) (fk : Nat → Int32) (fb : Nat → Int32) (ff : Nat → Int32) (fh : Nat → Int32) (fa : Nat → Int64) (fs : Nat → Int64) (fp : Nat → Int32) (z1 : Int32) (z2 : Int32) (z3 : Int32) (z4 : Int32) (z5 : Int32) (hM : MInv fn fk fb ff fh fa fs) : Met l yX11_outer wp_c_outerM ({ frames := 6, cells := 0, slots := 0, locals := 160 }) (PcW D [.ref h0, .int z1, .int z2, .int z3, .int z4, .int z5] sz [(h0, .inr (11, gM a i g)), (a 3, .inl (cm 3, 85, .inr (.inl fn))), (a 4, .inl (cm 4, 800, .inl fk)), (a 6, .inl (cm 6, 800, .inl fb)), (a 8, .inl (cm 8, 10240, .inl ff)), (a 9, .inl (cm 9, 10240, .inl fh)), (a 10, .inl (cm 10, 10240, .inr (.inl fa))), (a 11, .inl (cm 11, 10240, .inr (.inl fs))), (a 16, .inl (cm 16, 2048, .inl fp))] [(cm 3, .long), (cm 4, .int), (cm 6, .int), (cm 8, .int), (cm 9, .int), (cm 10, .long), (cm 11, .long), (cm 16, .int)]) (va_Ql (fun (r : Int64) (u : (Nat → Int32) × (Int32)) => True) (fun (u : (Nat → Int32) × (Int32)) t => va_P D vwCl [(h0, .inr (11, gM a (upd i 0 u.2) g)), (a 3, .inl (cm 3, 85, .inr (.inl fn))), (a 4, .inl (cm 4, 800, .inl fk)), (a 6, .inl (cm 6, 800, .inl fb)), (a 8, .inl (cm 8, 10240, .inl ff)), (a 9, .inl (cm 9, 10240, .inl fh)), (a 10, .inl (cm 10, 10240, .inr (.inl fa))), (a 11, .inl (cm 11, 10240, .inr (.inl fs))), (a 16, .inl (cm 16, 2048, .inl u.1))] t.heap ∧ va_K D vwCl [(cm 3, .long), (cm 4, .int), (cm 6, .int), (cm 8, .int), (cm 9, .int), (cm 10, .long), (cm 11, .long), (cm 16, .int)] t ∧ va_D (va_A [(h0, .inr (11, gM a i g)), (a 3, .inl (cm 3, 85, .inr (.inl fn))), (a 4, .inl (cm 4, 800, .inl fk)), (a 6, .inl (cm 6, 800, .inl fb)), (a 8, .inl (cm 8, 10240, .inl ff)), (a 9, .inl (cm 9, 10240, .inl fh)), (a 10, .inl (cm 10, 10240, .inr (.inl fa))), (a 11, .inl (cm 11, 10240, .inr (.inl fs))), (a 16, .inl (cm 16, 2048, .inl fp))] sz) [(h0, .inr (11, gM a (upd i 0 u.2) g)), (a 3, .inl (cm 3, 85, .inr (.inl fn))), (a 4, .inl (cm 4, 800, .inl fk)), (a 6, .inl (cm 6, 800, .inl fb)), (a 8, .inl (cm 8, 10240, .inl ff)), (a 9, .inl (cm 9, 10240, .inl fh)), (a 10, .inl (cm 10, 10240, .inr (.inl fa))), (a 11, .inl (cm 11, 10240, .inr (.inl fs))), (a 16, .inl (cm 16, 2048, .inl u.1))]) (va_A [(h0, .inr (11, gM a i g)), (a 3, .inl (cm 3, 85, .inr (.inl fn))), (a 4, .inl (cm 4, 800, .inl fk)), (a 6, .inl (cm 6, 800, .inl fb)), (a 8, .inl (cm 8, 10240, .inl ff)), (a 9, .inl (cm 9, 10240, .inl fh)), (a 10, .inl (cm 10, 10240, .inr (.inl fa))), (a 11, .inl (cm 11, 10240, .inr (.inl fs))), (a 16, .inl (cm 16, 2048, .inl fp))] sz)) 0 0 (va_A [(h0, .inr (11, gM a i g)), (a 3, .inl (cm 3, 85, .inr (.inl fn))), (a 4, .inl (cm 4, 800, .inl fk)), (a 6, .inl (cm 6, 800, .inl fb)), (a 8, .inl (cm 8, 10240, .inl ff)), (a 9, .inl (cm 9, 10240, .inl fh)), (a 10, .inl (cm 10, 10240, .inr (.inl fa))), (a 11, .inl (cm 11, 10240, .inr (.inl fs))), (a 16, .inl (cm 16, 2048, .inl fp))] sz) := by
  refine Met.ofW (cc := cX11_outer) (maxL := 11) (ret := (some .long)) (by decide) rfl ?_
  intro p e s m args below meth c s₁ B hml hv
  obtain ⟨rfl, hsz, hP, hK, hD0⟩ := hv
  have hx := B.exec
  have hb := B.bytes
  have hr := B.returns
  have hts := atoms_spec (ws := wp_c_outerM) B.pre
  have hin_X11 : ∀ w ∈ wsX110, w ∈ wp_c_outerM := fun _ h => (List.mem_cons_of_mem _ (List.mem_append_right _ (List.mem_append_right _ (List.mem_append_right _ (List.mem_append_right _ (List.mem_append_right _ (List.mem_append_right _ (List.mem_append_right _ (List.mem_append_left _ h)))))))))
  have hown : s.vm.findClass RX11 = some m.cls := findClass_of_methodNamed B.named
  have hlocks := B.notSynchronized
  subst hsz
  have hD := hD0.self (sz := s.heap.size)
  generalize hAe : va_A [(h0, .inr (11, gM a i g)), (a 3, .inl (cm 3, 85, .inr (.inl fn))), (a 4, .inl (cm 4, 800, .inl fk)), (a 6, .inl (cm 6, 800, .inl fb)), (a 8, .inl (cm 8, 10240, .inl ff)), (a 9, .inl (cm 9, 10240, .inl fh)), (a 10, .inl (cm 10, 10240, .inr (.inl fa))), (a 11, .inl (cm 11, 10240, .inr (.inl fs))), (a 16, .inl (cm 16, 2048, .inl fp))] s.heap.size = A at hD ⊢
  have hA : ∀ q : Nat, s.heap.size ≤ q → A q := fun q h => by rw [← hAe]; exact Or.inr h
  have hS : va_S A s.heap s.heap [] := va_S.rf
  have hP : va_P D vwCl [(h0, .inr (11, gM a i g)), (a 3, .inl (cm 3, 85, .inr (.inl fn))), (a 4, .inl (cm 4, 800, .inl fk)), (a 6, .inl (cm 6, 800, .inl fb)), (a 8, .inl (cm 8, 10240, .inl ff)), (a 9, .inl (cm 9, 10240, .inl fh)), (a 10, .inl (cm 10, 10240, .inr (.inl fa))), (a 11, .inl (cm 11, 10240, .inr (.inl fs))), (a 16, .inl (cm 16, 2048, .inl fp))] s.heap := hP
  have hl := lv_entry ([.ref h0, .int z1, .int z2, .int z3, .int z4, .int z5]) (n := 11) (Nat.le_of_ble_eq_true rfl)
  rw [lg_entry_eq]
  generalize (lg_sl ([.ref h0, .int z1, .int z2, .int z3, .int z4, .int z5]) ++ List.replicate (11 - (lg_sl ([.ref h0, .int z1, .int z2, .int z3, .int z4, .int z5])).length) Slot.unset).toArray = ls at hl ⊢
  have hl : lv_has ls 11 [(0, .ref h0), (1, .int z1), (2, .int z2), (3, .int z3), (4, .int z4), (5, .int z5)] := hl
  refine lv_aload_n hx hb dX11_outer_0 rfl (lv_at hl 0 rfl) ?_
  refine lv_iconst (v := 0) hx hb dX11_outer_1 (by decide) ?_
  refine va_put (D := D) (ci := 11) (v := .int 0) (ty := .int) (C := RX11) (T := TX11) (N := 47) hx hb hts hin_X11 tyX11 tyX11_ok nmX11 hown hK hP hD hS 0 rfl rfl 0 (by decide) (hts (.fieldLink RX11 73 "ClashFreeModel" "thrown" "I") (List.mem_of_getElem? (i := 11) rfl)) (fun _ h9 => h9) rfl (by decide +kernel) rfl rfl (Nat.le_of_ble_eq_true rfl) dX11_outer_2 (fun H locs hP hD hS => ?_)
  have hP : va_P D vwCl [(h0, .inr (11, gM a (upd i 0 0) g)), (a 3, .inl (cm 3, 85, .inr (.inl fn))), (a 4, .inl (cm 4, 800, .inl fk)), (a 6, .inl (cm 6, 800, .inl fb)), (a 8, .inl (cm 8, 10240, .inl ff)), (a 9, .inl (cm 9, 10240, .inl fh)), (a 10, .inl (cm 10, 10240, .inr (.inl fa))), (a 11, .inl (cm 11, 10240, .inr (.inl fs))), (a 16, .inl (cm 16, 2048, .inl fp))] H := hP
  have hD : va_D A [(h0, .inr (11, gM a (upd i 0 0) g)), (a 3, .inl (cm 3, 85, .inr (.inl fn))), (a 4, .inl (cm 4, 800, .inl fk)), (a 6, .inl (cm 6, 800, .inl fb)), (a 8, .inl (cm 8, 10240, .inl ff)), (a 9, .inl (cm 9, 10240, .inl fh)), (a 10, .inl (cm 10, 10240, .inr (.inl fa))), (a 11, .inl (cm 11, 10240, .inr (.inl fs))), (a 16, .inl (cm 16, 2048, .inl fp))] := hD
  refine lv_aload_n hx hb dX11_outer_5 rfl (lv_at hl 0 rfl) ?_
  refine lv_iload_n hx hb dX11_outer_6 rfl (lv_at hl 1 rfl) ?_
  have hPc := hP.sub (ws' := [(h0, .inr (11, gM a (upd i 0 0) g)), (a 3, .inl (cm 3, 85, .inr (.inl fn)))]) [0, 1] rfl
  have hKc := hK.sub (tys' := [(cm 3, .long)]) [0] rfl
  have hFc := va_free0 hS hA
  refine va_calli (va_runV (As := [.int z1]) (rest := []) ⟨hx, hb, hml, hown, hts⟩ (c_isThere l D _ h0 a cm (upd i 0 0) g fn z1) (cwV 1 hts g_c_outerM_c_isThere_222 rfl rfl rfl (by decide +kernel) ⟨(Nat.le_of_ble_eq_true rfl), (Nat.le_of_ble_eq_true rfl)⟩) (PcR_V (q0 := 0) hPc hKc rfl rfl) rfl rfl hl.1 rfl (lv_room (Nat.le_of_ble_eq_true rfl)) dX11_outer_7 ⟨(Nat.le_of_ble_eq_true rfl), (Nat.le_of_ble_eq_true rfl)⟩) hS (fun q _ h => hFc q h) hFc (fun r1 uu tt H locs htt hvm hw hB hz1 hk1 hS => ?_)
  have hP := va_keep hP hk1
  try dsimp only at hw
  clear hB hz1 hk1 hFc hPc hKc
  rcases hw with ⟨rfl, hA_r1⟩ | ⟨rfl, hA_r1⟩
  ·
    obtain ⟨k, hk, rfl, ht⟩ := hA_r1
    obtain ⟨cn, nb, K, J, hT⟩ := hM.2.2 k hk ht
    have hth := (show there fn (nI k) from ⟨k, hk, rfl, ht⟩)
    obtain ⟨h1, hcn, h4, hn1, hn2, ⟨ka, kb, hka, hkb, h6, h7⟩, hKy, hBk, hHs, ⟨bn, ns, gr, h14, hbn, h15, hs1, hs2, h16, hgr⟩⟩ := id hT
    refine lv_if_eq (tgt := 47) hx hb dX11_outer_10 (by decide) (fun hc => absurd hc (by decide)) (fun hc => ?_)
    refine lv_iload_n hx hb dX11_outer_13 rfl (lv_at hl 2 rfl) ?_
    refine lv_iload_n hx hb dX11_outer_14 rfl (lv_at hl 3 rfl) ?_
    have hPc := hP.sub (ws' := []) [] rfl
    have hKc := hK.sub (tys' := []) [] rfl
    have hFc := va_free0 hS hA
    refine va_calli (va_runS (As := [.int z2, .int z3]) (rest := []) ⟨hx, hb, hml, hown, hts⟩ (c_isPair l D _ z2 z3) (va_cwS 2 hts g_c_outerM_c_isPair_252 rfl rfl rfl (by decide +kernel) ⟨(Nat.le_of_ble_eq_true rfl), (Nat.le_of_ble_eq_true rfl)⟩) (PcR_S hPc hKc) rfl rfl hl.1 rfl (lv_room (Nat.le_of_ble_eq_true rfl)) dX11_outer_15 ⟨(Nat.le_of_ble_eq_true rfl), (Nat.le_of_ble_eq_true rfl)⟩) hS (fun q _ h => hFc q h) hFc (fun r2 uu tt H locs htt hvm hw hB hz1 hk1 hS => ?_)
    have hP := va_keep hP hk1
    try dsimp only at hw
    clear hB hz1 hk1 hFc hPc hKc
    rcases hw with ⟨rfl, hA_r2⟩ | ⟨rfl, hA_r2⟩
    ·
      obtain ⟨ca, cb, hca, hcb, rfl, rfl⟩ := hA_r2
      refine lv_if_eq (tgt := 47) hx hb dX11_outer_18 (by decide) (fun hc => absurd hc (by decide)) (fun hc => ?_)
      refine lv_iload hx hb dX11_outer_21 (lv_at hl 4 rfl) ?_
      refine lv_i2l hx hb dX11_outer_23 rfl ?_
      refine lv_lconst (v := 1) hx hb dX11_outer_24 (by decide) ?_
      refine lv_ldc2 (v := 2048) hx hb hown (hts (.constantLong RX11 169 (2048)) (List.mem_of_getElem? (i := 17) rfl)) dX11_outer_25 ?_
      have hPc := hP.sub (ws' := []) [] rfl
      have hKc := hK.sub (tys' := []) [] rfl
      have hFc := va_free0 hS hA
      refine va_calli (va_runS (As := [.long (Int32.toInt64 z4), .long 1, .long 2048]) (rest := []) ⟨hx, hb, hml, hown, hts⟩ (c_isIn l D _ (Int32.toInt64 z4) 1 2048) (va_cwS 3 hts g_c_outerM_c_isIn_83 rfl rfl rfl (by decide +kernel) ⟨(Nat.le_of_ble_eq_true rfl), (Nat.le_of_ble_eq_true rfl)⟩) (PcR_S hPc hKc) rfl rfl hl.1 rfl (lv_room (Nat.le_of_ble_eq_true rfl)) dX11_outer_28 ⟨(Nat.le_of_ble_eq_true rfl), (Nat.le_of_ble_eq_true rfl)⟩) hS (fun q _ h => hFc q h) hFc (fun r3 uu tt H locs htt hvm hw hB hz1 hk1 hS => ?_)
      have hP := va_keep hP hk1
      try dsimp only at hw
      clear hB hz1 hk1 hFc hPc hKc
      rcases hw with ⟨rfl, hA_r3⟩ | ⟨rfl, hA_r3⟩
      ·
        obtain ⟨nn, hm1, hm2, rfl⟩ := in1_2048 hA_r3
        refine lv_if_eq (tgt := 47) hx hb dX11_outer_31 (by decide) (fun hc => absurd hc (by decide)) (fun hc => ?_)
        refine lv_iload hx hb dX11_outer_34 (lv_at hl 5 rfl) ?_
        refine lv_i2l hx hb dX11_outer_36 rfl ?_
        refine lv_lconst (v := 0) hx hb dX11_outer_37 (by decide) ?_
        refine lv_ldc2 (v := 3) hx hb hown (hts (.constantLong RX11 87 (3)) (List.mem_of_getElem? (i := 20) rfl)) dX11_outer_38 ?_
        have hPc := hP.sub (ws' := []) [] rfl
        have hKc := hK.sub (tys' := []) [] rfl
        have hFc := va_free0 hS hA
        refine va_calli (va_runS (As := [.long (Int32.toInt64 z5), .long 0, .long 3]) (rest := []) ⟨hx, hb, hml, hown, hts⟩ (c_isIn l D _ (Int32.toInt64 z5) 0 3) (va_cwS 3 hts g_c_outerM_c_isIn_83 rfl rfl rfl (by decide +kernel) ⟨(Nat.le_of_ble_eq_true rfl), (Nat.le_of_ble_eq_true rfl)⟩) (PcR_S hPc hKc) rfl rfl hl.1 rfl (lv_room (Nat.le_of_ble_eq_true rfl)) dX11_outer_41 ⟨(Nat.le_of_ble_eq_true rfl), (Nat.le_of_ble_eq_true rfl)⟩) hS (fun q _ h => hFc q h) hFc (fun r4 uu tt H locs htt hvm hw hB hz1 hk1 hS => ?_)
        have hP := va_keep hP hk1
        try dsimp only at hw
        clear hB hz1 hk1 hFc hPc hKc
        rcases hw with ⟨rfl, hA_r4⟩ | ⟨rfl, hA_r4⟩
        ·
          refine lv_if_ne (tgt := 51) hx hb dX11_outer_44 (by decide) (fun hc => ?_) (fun hc => absurd hc (by decide))
          refine lv_iconst (v := 0) hx hb dX11_outer_51 (by decide) ?_
          refine lv_istore (lv' := [(6, .int 0), (0, .ref h0), (1, .int (nI k)), (2, .int (nI ca)), (3, .int (nI cb)), (4, .int (nI nn)), (5, .int z5)]) hx hb dX11_outer_52 hl (by decide) rfl (fun ls hl => ?_)
          refine lp_out1 l D h0 a cm (upd i 0 0) g fn fk fb ff fh fa fs z5 k cn K ca cb nn (hk) (h1) (hcn) (hKy) (hca) (hcb) (hm1) (hm2) hx hb hml hown hts hA (hK.sub [0, 1, 2, 3, 4, 5, 6, 7] rfl) ?_ (nn + 1) 0 fp (Nat.zero_le _) (by omega) _ _ _ (hP.sub [0, 1, 2, 3, 4, 5, 6, 7, 8] rfl) (hD.sub [0, 1, 2, 3, 4, 5, 6, 7, 8] (by decide) rfl) hS (lv_sub hl [0, 1, 2, 3, 4, 5, 6] rfl)
          intro j_5 gp_6 hj1_7 H locs ls hP hD hS hl
          refine lv_sipush (v := 160) hx hb dX11_outer_75 (by decide) ?_
          refine lv_iload_n hx hb dX11_outer_78 rfl (lv_at hl 1 rfl) ?_
          refine lv_imul hx hb dX11_outer_79 ?_
          refine lv_topi (fun v8 ev8 => ?_)
          obtain rfl : v8 = nI (160 * k + 0) := ev8.trans (pk_mul 160 k)
          refine lv_istore (lv' := [(6, .int (nI (160 * k + 0))), (0, .ref h0), (1, .int (nI k)), (2, .int (nI ca)), (3, .int (nI cb)), (4, .int (nI nn)), (5, .int z5)]) hx hb dX11_outer_80 hl (by decide) rfl (fun ls hl => ?_)
          refine lp_out2 l D h0 a cm (upd (upd i 0 0) 0 0) g fn fk fb ff fh fa fs z5 k cn K ca cb nn (hk) (h1) (hcn) (hKy) (hca) (hcb) (hm1) (hm2) hx hb hml hown hts hA (hK.sub [0, 1, 2, 3, 4, 5, 6, 7] rfl) ?_ (cn + 1) 0 gp_6 (Nat.zero_le _) (by omega) _ _ _ (hP.sub [0, 1, 2, 3, 4, 5, 6, 7, 8] rfl) (hD.sub [0, 1, 2, 3, 4, 5, 6, 7, 8] (by decide) rfl) hS (lv_sub hl [0, 1, 2, 3, 4, 5, 6] rfl)
          intro x_9 gp_10 hx2_11 H locs ls hP hD hS hl
          refine lv_lconst (v := 0) hx hb dX11_outer_131 (by decide) ?_
          refine lv_lstore (lv' := [(6, .long 0), (0, .ref h0), (1, .int (nI k)), (2, .int (nI ca)), (3, .int (nI cb)), (4, .int (nI nn)), (5, .int z5)]) hx hb dX11_outer_132 hl (by decide) rfl (fun ls hl => ?_)
          refine lv_iconst (v := 0) hx hb dX11_outer_134 (by decide) ?_
          refine lv_istore (lv' := [(8, .int 0), (6, .long 0), (0, .ref h0), (1, .int (nI k)), (2, .int (nI ca)), (3, .int (nI cb)), (4, .int (nI nn)), (5, .int z5)]) hx hb dX11_outer_135 hl (by decide) rfl (fun ls hl => ?_)
          refine lv_iconst (v := 0) hx hb dX11_outer_137 (by decide) ?_
          refine lv_istore (lv' := [(9, .int 0), (8, .int 0), (6, .long 0), (0, .ref h0), (1, .int (nI k)), (2, .int (nI ca)), (3, .int (nI cb)), (4, .int (nI nn)), (5, .int z5)]) hx hb dX11_outer_138 hl (by decide) rfl (fun ls hl => ?_)
          refine lv_iconst (v := 0) hx hb dX11_outer_140 (by decide) ?_
          refine lv_istore (lv' := [(10, .int 0), (9, .int 0), (8, .int 0), (6, .long 0), (0, .ref h0), (1, .int (nI k)), (2, .int (nI ca)), (3, .int (nI cb)), (4, .int (nI nn)), (5, .int z5)]) hx hb dX11_outer_141 hl (by decide) rfl (fun ls hl => ?_)
          refine lp_out3 l D h0 a cm (upd (upd (upd i 0 0) 0 0) 0 0) g fn fk fb ff fh fa fs z5 k cn K ca cb nn (hk) (h1) (hcn) (hKy) (hca) (hcb) (hm1) (hm2) hx hb hml hown hts hA (hK.sub [0, 1, 2, 3, 4, 5, 6, 7] rfl) ?_ (nn + 1) 0 0 0 0 gp_10 (Nat.zero_le _) (by omega) _ _ _ (hP.sub [0, 1, 2, 3, 4, 5, 6, 7, 8] rfl) (hD.sub [0, 1, 2, 3, 4, 5, 6, 7, 8] (by decide) rfl) hS (lv_sub hl [0, 1, 2, 3, 4, 5, 6, 7, 8, 9] rfl)
          intro j_12 no_13 mo_14 sm_15 gp_16 hj1_17 H locs ls hP hD hS hl
          refine lv_iload hx hb dX11_outer_227 (lv_at hl 4 rfl) ?_
          refine lv_if_ne (tgt := 241) hx hb dX11_outer_229 (by decide) (fun hc18 => ?_) (fun hc18 => ?_)
          ·
            refine lv_iload hx hb dX11_outer_241 (lv_at hl 4 rfl) ?_
            refine lv_iconst (v := 1) hx hb dX11_outer_243 (by decide) ?_
            refine lv_icmp_ne (tgt := 252) hx hb dX11_outer_244 (by decide) (fun hc19 => ?_) (fun hc19 => ?_)
            ·
              refine lv_iload hx hb dX11_outer_252 (lv_at hl 4 rfl) ?_
              refine lv_iconst (v := 2) hx hb dX11_outer_254 (by decide) ?_
              refine lv_icmp_ne (tgt := 264) hx hb dX11_outer_255 (by decide) (fun hc20 => ?_) (fun hc20 => ?_)
              ·
                refine lv_iload hx hb dX11_outer_264 (lv_at hl 0 rfl) ?_
                refine lv_i2l hx hb dX11_outer_266 rfl ?_
                exact W.lret (v := Int32.toInt64 no_13) hx hb hr (fun t ht hW => ⟨⟨Int32.toInt64 no_13, (gp_16, 0), rfl, trivial, by rw [ht]; exact hP.sub [0, 1, 2, 3, 4, 5, 6, 7, 8] rfl, va_K.moved hW.alike (hK.sub [0, 1, 2, 3, 4, 5, 6, 7] rfl), hD.sub [0, 1, 2, 3, 4, 5, 6, 7, 8] (by decide) rfl⟩, hS.F ht⟩) hS.2.2 dX11_outer_267
              ·
                refine lv_iload hx hb dX11_outer_258 (lv_at hl 1 rfl) ?_
                refine lv_i2l hx hb dX11_outer_260 rfl ?_
                refine lv_goto (tgt := 267) hx hb dX11_outer_261 (by decide) ?_
                exact W.lret (v := Int32.toInt64 mo_14) hx hb hr (fun t ht hW => ⟨⟨Int32.toInt64 mo_14, (gp_16, 0), rfl, trivial, by rw [ht]; exact hP.sub [0, 1, 2, 3, 4, 5, 6, 7, 8] rfl, va_K.moved hW.alike (hK.sub [0, 1, 2, 3, 4, 5, 6, 7] rfl), hD.sub [0, 1, 2, 3, 4, 5, 6, 7, 8] (by decide) rfl⟩, hS.F ht⟩) hS.2.2 dX11_outer_267
            ·
              refine lv_lload hx hb dX11_outer_247 (lv_at hl 2 rfl) ?_
              refine lv_goto (tgt := 267) hx hb dX11_outer_249 (by decide) ?_
              exact W.lret (v := sm_15) hx hb hr (fun t ht hW => ⟨⟨sm_15, (gp_16, 0), rfl, trivial, by rw [ht]; exact hP.sub [0, 1, 2, 3, 4, 5, 6, 7, 8] rfl, va_K.moved hW.alike (hK.sub [0, 1, 2, 3, 4, 5, 6, 7] rfl), hD.sub [0, 1, 2, 3, 4, 5, 6, 7, 8] (by decide) rfl⟩, hS.F ht⟩) hS.2.2 dX11_outer_267
          ·
            refine lv_ldc2 (v := 4) hx hb hown (hts (.constantLong RX11 160 (4)) (List.mem_of_getElem? (i := 21) rfl)) dX11_outer_232 ?_
            refine lv_lload hx hb dX11_outer_235 (lv_at hl 2 rfl) ?_
            refine lv_lmul hx hb dX11_outer_237 ?_
            refine lv_topl (fun v21 ev21 => ?_)
            refine lv_goto (tgt := 267) hx hb dX11_outer_238 (by decide) ?_
            exact W.lret (v := v21) hx hb hr (fun t ht hW => ⟨⟨v21, (gp_16, 0), rfl, trivial, by rw [ht]; exact hP.sub [0, 1, 2, 3, 4, 5, 6, 7, 8] rfl, va_K.moved hW.alike (hK.sub [0, 1, 2, 3, 4, 5, 6, 7] rfl), hD.sub [0, 1, 2, 3, 4, 5, 6, 7, 8] (by decide) rfl⟩, hS.F ht⟩) hS.2.2 dX11_outer_267
        ·
          refine lv_if_ne (tgt := 51) hx hb dX11_outer_44 (by decide) (fun hc => absurd (by decide) hc) (fun hc => ?_)
          refine lv_ldc2 (v := (-1000000000000000)) hx hb hown (hts (.constantLong RX11 235 (-1000000000000000)) (List.mem_of_getElem? (i := 22) rfl)) dX11_outer_47 ?_
          exact W.lret (v := (-1000000000000000)) hx hb hr (fun t ht hW => ⟨⟨(-1000000000000000), (fp, 0), rfl, trivial, by rw [ht]; exact hP.sub [0, 1, 2, 3, 4, 5, 6, 7, 8] rfl, va_K.moved hW.alike (hK.sub [0, 1, 2, 3, 4, 5, 6, 7] rfl), hD.sub [0, 1, 2, 3, 4, 5, 6, 7, 8] (by decide) rfl⟩, hS.F ht⟩) hS.2.2 dX11_outer_50
      ·
        refine lv_if_eq (tgt := 47) hx hb dX11_outer_31 (by decide) (fun hc => ?_) (fun hc => absurd (by decide) hc)
        refine lv_ldc2 (v := (-1000000000000000)) hx hb hown (hts (.constantLong RX11 235 (-1000000000000000)) (List.mem_of_getElem? (i := 22) rfl)) dX11_outer_47 ?_
        exact W.lret (v := (-1000000000000000)) hx hb hr (fun t ht hW => ⟨⟨(-1000000000000000), (fp, 0), rfl, trivial, by rw [ht]; exact hP.sub [0, 1, 2, 3, 4, 5, 6, 7, 8] rfl, va_K.moved hW.alike (hK.sub [0, 1, 2, 3, 4, 5, 6, 7] rfl), hD.sub [0, 1, 2, 3, 4, 5, 6, 7, 8] (by decide) rfl⟩, hS.F ht⟩) hS.2.2 dX11_outer_50
    ·
      refine lv_if_eq (tgt := 47) hx hb dX11_outer_18 (by decide) (fun hc => ?_) (fun hc => absurd (by decide) hc)
      refine lv_ldc2 (v := (-1000000000000000)) hx hb hown (hts (.constantLong RX11 235 (-1000000000000000)) (List.mem_of_getElem? (i := 22) rfl)) dX11_outer_47 ?_
      exact W.lret (v := (-1000000000000000)) hx hb hr (fun t ht hW => ⟨⟨(-1000000000000000), (fp, 0), rfl, trivial, by rw [ht]; exact hP.sub [0, 1, 2, 3, 4, 5, 6, 7, 8] rfl, va_K.moved hW.alike (hK.sub [0, 1, 2, 3, 4, 5, 6, 7] rfl), hD.sub [0, 1, 2, 3, 4, 5, 6, 7, 8] (by decide) rfl⟩, hS.F ht⟩) hS.2.2 dX11_outer_50
  ·
    refine lv_if_eq (tgt := 47) hx hb dX11_outer_10 (by decide) (fun hc => ?_) (fun hc => absurd (by decide) hc)
    refine lv_ldc2 (v := (-1000000000000000)) hx hb hown (hts (.constantLong RX11 235 (-1000000000000000)) (List.mem_of_getElem? (i := 22) rfl)) dX11_outer_47 ?_
    exact W.lret (v := (-1000000000000000)) hx hb hr (fun t ht hW => ⟨⟨(-1000000000000000), (fp, 0), rfl, trivial, by rw [ht]; exact hP.sub [0, 1, 2, 3, 4, 5, 6, 7, 8] rfl, va_K.moved hW.alike (hK.sub [0, 1, 2, 3, 4, 5, 6, 7] rfl), hD.sub [0, 1, 2, 3, 4, 5, 6, 7, 8] (by decide) rfl⟩, hS.F ht⟩) hS.2.2 dX11_outer_50

