theorem dX11_does_0 : decode cX11_does 0 = .ok (.aload_n 0, 1) := by decide +kernel
theorem dX11_does_1 : decode cX11_does 1 = .ok (.dup, 1) := by decide +kernel
theorem dX11_does_2 : decode cX11_does 2 = .ok (.getfield 388, 3) := by decide +kernel
theorem dX11_does_5 : decode cX11_does 5 = .ok (.iconst 1, 1) := by decide +kernel
theorem dX11_does_6 : decode cX11_does 6 = .ok (.isub, 1) := by decide +kernel
theorem dX11_does_7 : decode cX11_does 7 = .ok (.putfield 388, 3) := by decide +kernel
theorem dX11_does_10 : decode cX11_does 10 = .ok (.aload_n 0, 1) := by decide +kernel
theorem dX11_does_11 : decode cX11_does 11 = .ok (.getfield 61, 3) := by decide +kernel
theorem dX11_does_14 : decode cX11_does 14 = .ok (.aload_n 0, 1) := by decide +kernel
theorem dX11_does_15 : decode cX11_does 15 = .ok (.getfield 388, 3) := by decide +kernel
theorem dX11_does_18 : decode cX11_does 18 = .ok (.iaload, 1) := by decide +kernel
theorem dX11_does_19 : decode cX11_does 19 = .ok (.istore_n 3, 1) := by decide +kernel
theorem dX11_does_20 : decode cX11_does 20 = .ok (.iload_n 3, 1) := by decide +kernel
theorem dX11_does_21 : decode cX11_does 21 = .ok (.istore 4, 2) := by decide +kernel
theorem dX11_does_23 : decode cX11_does 23 = .ok (.iload_n 2, 1) := by decide +kernel
theorem dX11_does_24 : decode cX11_does 24 = .ok (.ifCond .ne 24, 3) := by decide +kernel
theorem dX11_does_27 : decode cX11_does 27 = .ok (.aload_n 0, 1) := by decide +kernel
theorem dX11_does_28 : decode cX11_does 28 = .ok (.dup, 1) := by decide +kernel
theorem dX11_does_29 : decode cX11_does 29 = .ok (.getfield 388, 3) := by decide +kernel
theorem dX11_does_32 : decode cX11_does 32 = .ok (.iconst 1, 1) := by decide +kernel
theorem dX11_does_33 : decode cX11_does 33 = .ok (.isub, 1) := by decide +kernel
theorem dX11_does_34 : decode cX11_does 34 = .ok (.putfield 388, 3) := by decide +kernel
theorem dX11_does_37 : decode cX11_does 37 = .ok (.aload_n 0, 1) := by decide +kernel
theorem dX11_does_38 : decode cX11_does 38 = .ok (.getfield 61, 3) := by decide +kernel
theorem dX11_does_41 : decode cX11_does 41 = .ok (.aload_n 0, 1) := by decide +kernel
theorem dX11_does_42 : decode cX11_does 42 = .ok (.getfield 388, 3) := by decide +kernel
theorem dX11_does_45 : decode cX11_does 45 = .ok (.iaload, 1) := by decide +kernel
theorem dX11_does_46 : decode cX11_does 46 = .ok (.istore 4, 2) := by decide +kernel
theorem dX11_does_48 : decode cX11_does 48 = .ok (.iload_n 2, 1) := by decide +kernel
theorem dX11_does_49 : decode cX11_does 49 = .ok (.iconst 3, 1) := by decide +kernel
theorem dX11_does_50 : decode cX11_does 50 = .ok (.if_icmp .ne 11, 3) := by decide +kernel
theorem dX11_does_53 : decode cX11_does 53 = .ok (.aload_n 0, 1) := by decide +kernel
theorem dX11_does_54 : decode cX11_does 54 = .ok (.iload_n 3, 1) := by decide +kernel
theorem dX11_does_55 : decode cX11_does 55 = .ok (.putfield 394, 3) := by decide +kernel
theorem dX11_does_58 : decode cX11_does 58 = .ok (.goto 165, 3) := by decide +kernel
theorem dX11_does_61 : decode cX11_does 61 = .ok (.iload 4, 2) := by decide +kernel
theorem dX11_does_63 : decode cX11_does 63 = .ok (.invokestatic 226, 3) := by decide +kernel
theorem dX11_does_66 : decode cX11_does 66 = .ok (.ifCond .ne 26, 3) := by decide +kernel
theorem dX11_does_69 : decode cX11_does 69 = .ok (.aload_n 0, 1) := by decide +kernel
theorem dX11_does_70 : decode cX11_does 70 = .ok (.dup, 1) := by decide +kernel
theorem dX11_does_71 : decode cX11_does 71 = .ok (.getfield 407, 3) := by decide +kernel
theorem dX11_does_74 : decode cX11_does 74 = .ok (.iconst 1, 1) := by decide +kernel
theorem dX11_does_75 : decode cX11_does 75 = .ok (.iadd, 1) := by decide +kernel
theorem dX11_does_76 : decode cX11_does 76 = .ok (.putfield 407, 3) := by decide +kernel
theorem dX11_does_79 : decode cX11_does 79 = .ok (.iload_n 2, 1) := by decide +kernel
theorem dX11_does_80 : decode cX11_does 80 = .ok (.iconst 2, 1) := by decide +kernel
theorem dX11_does_81 : decode cX11_does 81 = .ok (.if_icmp .ne 142, 3) := by decide +kernel
theorem dX11_does_84 : decode cX11_does 84 = .ok (.aload_n 0, 1) := by decide +kernel
theorem dX11_does_85 : decode cX11_does 85 = .ok (.iconst (-1), 1) := by decide +kernel
theorem dX11_does_86 : decode cX11_does 86 = .ok (.putfield 394, 3) := by decide +kernel
theorem dX11_does_89 : decode cX11_does 89 = .ok (.goto 134, 3) := by decide +kernel
theorem dX11_does_92 : decode cX11_does 92 = .ok (.iload_n 2, 1) := by decide +kernel
theorem dX11_does_93 : decode cX11_does 93 = .ok (.iconst 2, 1) := by decide +kernel
theorem dX11_does_94 : decode cX11_does 94 = .ok (.if_icmp .ne 38, 3) := by decide +kernel
theorem dX11_does_97 : decode cX11_does 97 = .ok (.aload_n 0, 1) := by decide +kernel
theorem dX11_does_98 : decode cX11_does 98 = .ok (.iload_n 1, 1) := by decide +kernel
theorem dX11_does_99 : decode cX11_does 99 = .ok (.iload 4, 2) := by decide +kernel
theorem dX11_does_101 : decode cX11_does 101 = .ok (.invokevirtual 215, 3) := by decide +kernel
theorem dX11_does_104 : decode cX11_does 104 = .ok (.aload_n 0, 1) := by decide +kernel
theorem dX11_does_105 : decode cX11_does 105 = .ok (.aload_n 0, 1) := by decide +kernel
theorem dX11_does_106 : decode cX11_does 106 = .ok (.iload_n 1, 1) := by decide +kernel
theorem dX11_does_107 : decode cX11_does 107 = .ok (.iload 4, 2) := by decide +kernel
theorem dX11_does_109 : decode cX11_does 109 = .ok (.invokevirtual 202, 3) := by decide +kernel
theorem dX11_does_112 : decode cX11_does 112 = .ok (.ifCond .eq 13, 3) := by decide +kernel
theorem dX11_does_115 : decode cX11_does 115 = .ok (.aload_n 0, 1) := by decide +kernel
theorem dX11_does_116 : decode cX11_does 116 = .ok (.iload_n 1, 1) := by decide +kernel
theorem dX11_does_117 : decode cX11_does 117 = .ok (.iload 4, 2) := by decide +kernel
theorem dX11_does_119 : decode cX11_does 119 = .ok (.invokevirtual 277, 3) := by decide +kernel
theorem dX11_does_122 : decode cX11_does 122 = .ok (.goto 4, 3) := by decide +kernel
theorem dX11_does_125 : decode cX11_does 125 = .ok (.iconst (-1), 1) := by decide +kernel
theorem dX11_does_126 : decode cX11_does 126 = .ok (.putfield 394, 3) := by decide +kernel
theorem dX11_does_129 : decode cX11_does 129 = .ok (.goto 94, 3) := by decide +kernel
theorem dX11_does_132 : decode cX11_does 132 = .ok (.iload_n 2, 1) := by decide +kernel
theorem dX11_does_133 : decode cX11_does 133 = .ok (.iconst 1, 1) := by decide +kernel
theorem dX11_does_134 : decode cX11_does 134 = .ok (.if_icmp .ne 34, 3) := by decide +kernel
theorem dX11_does_137 : decode cX11_does 137 = .ok (.aload_n 0, 1) := by decide +kernel
theorem dX11_does_138 : decode cX11_does 138 = .ok (.dup, 1) := by decide +kernel
theorem dX11_does_139 : decode cX11_does 139 = .ok (.getfield 407, 3) := by decide +kernel
theorem dX11_does_142 : decode cX11_does 142 = .ok (.aload_n 0, 1) := by decide +kernel
theorem dX11_does_143 : decode cX11_does 143 = .ok (.iload_n 1, 1) := by decide +kernel
theorem dX11_does_144 : decode cX11_does 144 = .ok (.iload 4, 2) := by decide +kernel
theorem dX11_does_146 : decode cX11_does 146 = .ok (.invokevirtual 239, 3) := by decide +kernel
theorem dX11_does_149 : decode cX11_does 149 = .ok (.iconst (-1), 1) := by decide +kernel
theorem dX11_does_150 : decode cX11_does 150 = .ok (.if_icmp .ne 7, 3) := by decide +kernel
theorem dX11_does_153 : decode cX11_does 153 = .ok (.iconst 1, 1) := by decide +kernel
theorem dX11_does_154 : decode cX11_does 154 = .ok (.goto 4, 3) := by decide +kernel
theorem dX11_does_157 : decode cX11_does 157 = .ok (.iconst 0, 1) := by decide +kernel
theorem dX11_does_158 : decode cX11_does 158 = .ok (.invokestatic 198, 3) := by decide +kernel
theorem dX11_does_161 : decode cX11_does 161 = .ok (.iadd, 1) := by decide +kernel
theorem dX11_does_162 : decode cX11_does 162 = .ok (.putfield 407, 3) := by decide +kernel
theorem dX11_does_165 : decode cX11_does 165 = .ok (.goto 58, 3) := by decide +kernel
theorem dX11_does_168 : decode cX11_does 168 = .ok (.aload_n 0, 1) := by decide +kernel
theorem dX11_does_169 : decode cX11_does 169 = .ok (.iload_n 1, 1) := by decide +kernel
theorem dX11_does_170 : decode cX11_does 170 = .ok (.iload 4, 2) := by decide +kernel
theorem dX11_does_172 : decode cX11_does 172 = .ok (.invokevirtual 229, 3) := by decide +kernel
theorem dX11_does_175 : decode cX11_does 175 = .ok (.ifCond .eq 16, 3) := by decide +kernel
theorem dX11_does_178 : decode cX11_does 178 = .ok (.aload_n 0, 1) := by decide +kernel
theorem dX11_does_179 : decode cX11_does 179 = .ok (.dup, 1) := by decide +kernel
theorem dX11_does_180 : decode cX11_does 180 = .ok (.getfield 407, 3) := by decide +kernel
theorem dX11_does_183 : decode cX11_does 183 = .ok (.iconst 1, 1) := by decide +kernel
theorem dX11_does_184 : decode cX11_does 184 = .ok (.iadd, 1) := by decide +kernel
theorem dX11_does_185 : decode cX11_does 185 = .ok (.putfield 407, 3) := by decide +kernel
theorem dX11_does_188 : decode cX11_does 188 = .ok (.goto 35, 3) := by decide +kernel
theorem dX11_does_191 : decode cX11_does 191 = .ok (.aload_n 0, 1) := by decide +kernel
theorem dX11_does_192 : decode cX11_does 192 = .ok (.iload_n 1, 1) := by decide +kernel
theorem dX11_does_193 : decode cX11_does 193 = .ok (.iload 4, 2) := by decide +kernel
theorem dX11_does_195 : decode cX11_does 195 = .ok (.iload_n 3, 1) := by decide +kernel
theorem dX11_does_196 : decode cX11_does 196 = .ok (.invokevirtual 232, 3) := by decide +kernel
theorem dX11_does_199 : decode cX11_does 199 = .ok (.istore 5, 2) := by decide +kernel
theorem dX11_does_201 : decode cX11_does 201 = .ok (.aload_n 0, 1) := by decide +kernel
theorem dX11_does_202 : decode cX11_does 202 = .ok (.dup, 1) := by decide +kernel
theorem dX11_does_203 : decode cX11_does 203 = .ok (.getfield 407, 3) := by decide +kernel
theorem dX11_does_206 : decode cX11_does 206 = .ok (.iload 5, 2) := by decide +kernel
theorem dX11_does_208 : decode cX11_does 208 = .ok (.ifCond .ge 7, 3) := by decide +kernel
theorem dX11_does_211 : decode cX11_does 211 = .ok (.iconst 1, 1) := by decide +kernel
theorem dX11_does_212 : decode cX11_does 212 = .ok (.goto 4, 3) := by decide +kernel
theorem dX11_does_215 : decode cX11_does 215 = .ok (.iconst 0, 1) := by decide +kernel
theorem dX11_does_216 : decode cX11_does 216 = .ok (.invokestatic 198, 3) := by decide +kernel
theorem dX11_does_219 : decode cX11_does 219 = .ok (.iadd, 1) := by decide +kernel
theorem dX11_does_220 : decode cX11_does 220 = .ok (.putfield 407, 3) := by decide +kernel
theorem dX11_does_223 : decode cX11_does 223 = .ok (.return_, 1) := by decide +kernel
theorem cg2_ {f : Int32 → Int32 → Int32 × List (Nat × Int32)} {a b c d : Int32} (h1 : a = c) (h2 : b = d) : f a b = f c d := by rw [h1, h2]
def own_c_does : List Cond := [.fieldLink RX11 388 "ClashFreeModel" "workedMany" "I", .fieldLink RX11 61 "ClashFreeModel" "worked" "[I", .methodLink RX11 226 yX11_isKey, .static yX11_isKey, .initialized RX11, .methodLink RX11 229 yX11_isFull, .instanceMethod yX11_isFull, .selects RX11 yX11_isFull yX11_isFull, .fieldLink RX11 407 "ClashFreeModel" "refused" "I", .methodLink RX11 232 yX11_putsKey, .instanceMethod yX11_putsKey, .selects RX11 yX11_putsKey yX11_putsKey, .methodLink RX11 198 yX11_flag, .static yX11_flag, .methodLink RX11 239 yX11_drops, .instanceMethod yX11_drops, .selects RX11 yX11_drops yX11_drops, .methodLink RX11 215 yX11_readsFor, .instanceMethod yX11_readsFor, .selects RX11 yX11_readsFor yX11_readsFor, .methodLink RX11 202 yX11_hasKey, .instanceMethod yX11_hasKey, .selects RX11 yX11_hasKey yX11_hasKey, .methodLink RX11 277 yX11_valueOf, .instanceMethod yX11_valueOf, .selects RX11 yX11_valueOf yX11_valueOf, .fieldLink RX11 394 "ClashFreeModel" "latest" "I"]
def wp_c_does : List Cond := .code yX11_does cX11_does 6 none :: (own_c_does ++ (wp_c_isKey ++ (wp_c_isFull ++ (wp_c_putsKey ++ (wp_c_flag ++ (wp_c_drops ++ (wp_c_readsFor ++ (wp_c_hasKey ++ (wp_c_valueOf ++ (wsX110 ++ ([] : List Cond)))))))))))
set_option maxRecDepth 20000 in
theorem inown_c_does : ∀ w ∈ own_c_does, w ∈ lw_tbl := mem_places [1255, 1254, 1470, 1471, 115, 1473, 1475, 55, 1251, 1485, 1487, 58, 1502, 1503, 1522, 1524, 64, 1498, 1500, 61, 1477, 1479, 56, 1641, 1643, 71, 1252] (by decide +kernel)
set_option maxRecDepth 20000 in
theorem in_c_does : ∀ w ∈ wp_c_does, w ∈ lw_tbl := List.forall_mem_cons.mpr ⟨List.mem_of_getElem? (i := 1785) (by decide +kernel), List.forall_mem_append.mpr ⟨inown_c_does, List.forall_mem_append.mpr ⟨in_c_isKey, List.forall_mem_append.mpr ⟨in_c_isFull, List.forall_mem_append.mpr ⟨in_c_putsKey, List.forall_mem_append.mpr ⟨in_c_flag, List.forall_mem_append.mpr ⟨in_c_drops, List.forall_mem_append.mpr ⟨in_c_readsFor, List.forall_mem_append.mpr ⟨in_c_hasKey, List.forall_mem_append.mpr ⟨in_c_valueOf, List.forall_mem_append.mpr ⟨lwb_X11, fun _ h => absurd h List.not_mem_nil⟩⟩⟩⟩⟩⟩⟩⟩⟩⟩⟩
set_option maxRecDepth 20000 in
theorem good_c_does : wp_c_does.all goodWord = true := by decide +kernel
set_option maxRecDepth 20000 in
theorem g_c_does_c_isKey_226 : GoodIn wp_c_does (va_wsS RX11 226 yX11_isKey wp_c_isKey) := goodIn_sub (List.forall_mem_append.mpr ⟨List.forall_mem_cons.mpr ⟨(List.mem_of_getElem? (i := 3) rfl), List.forall_mem_cons.mpr ⟨(List.mem_of_getElem? (i := 4) rfl), List.forall_mem_cons.mpr ⟨(List.mem_of_getElem? (i := 5) rfl), fun _ h => absurd h List.not_mem_nil⟩⟩⟩, (fun _ h => (List.mem_cons_of_mem _ (List.mem_append_right _ (List.mem_append_left _ h))))⟩) (by decide +kernel)
set_option maxRecDepth 20000 in
theorem g_c_does_c_isFull_229 : GoodIn wp_c_does (wsV RX11 229 RX11 yX11_isFull wp_c_isFull) := goodIn_sub (List.forall_mem_append.mpr ⟨List.forall_mem_cons.mpr ⟨(List.mem_of_getElem? (i := 6) rfl), List.forall_mem_cons.mpr ⟨(List.mem_of_getElem? (i := 7) rfl), List.forall_mem_cons.mpr ⟨(List.mem_of_getElem? (i := 8) rfl), List.forall_mem_cons.mpr ⟨(List.mem_of_getElem? (i := 5) rfl), fun _ h => absurd h List.not_mem_nil⟩⟩⟩⟩, (fun _ h => (List.mem_cons_of_mem _ (List.mem_append_right _ (List.mem_append_right _ (List.mem_append_left _ h)))))⟩) (by decide +kernel)
set_option maxRecDepth 20000 in
theorem g_c_does_c_putsKey_232 : GoodIn wp_c_does (wsV RX11 232 RX11 yX11_putsKey wp_c_putsKey) := goodIn_sub (List.forall_mem_append.mpr ⟨List.forall_mem_cons.mpr ⟨(List.mem_of_getElem? (i := 10) rfl), List.forall_mem_cons.mpr ⟨(List.mem_of_getElem? (i := 11) rfl), List.forall_mem_cons.mpr ⟨(List.mem_of_getElem? (i := 12) rfl), List.forall_mem_cons.mpr ⟨(List.mem_of_getElem? (i := 5) rfl), fun _ h => absurd h List.not_mem_nil⟩⟩⟩⟩, (fun _ h => (List.mem_cons_of_mem _ (List.mem_append_right _ (List.mem_append_right _ (List.mem_append_right _ (List.mem_append_left _ h))))))⟩) (by decide +kernel)
set_option maxRecDepth 20000 in
theorem g_c_does_c_flag_198 : GoodIn wp_c_does (va_wsS RX11 198 yX11_flag wp_c_flag) := goodIn_sub (List.forall_mem_append.mpr ⟨List.forall_mem_cons.mpr ⟨(List.mem_of_getElem? (i := 13) rfl), List.forall_mem_cons.mpr ⟨(List.mem_of_getElem? (i := 14) rfl), List.forall_mem_cons.mpr ⟨(List.mem_of_getElem? (i := 5) rfl), fun _ h => absurd h List.not_mem_nil⟩⟩⟩, (fun _ h => (List.mem_cons_of_mem _ (List.mem_append_right _ (List.mem_append_right _ (List.mem_append_right _ (List.mem_append_right _ (List.mem_append_left _ h)))))))⟩) (by decide +kernel)
set_option maxRecDepth 20000 in
theorem g_c_does_c_drops_239 : GoodIn wp_c_does (wsV RX11 239 RX11 yX11_drops wp_c_drops) := goodIn_sub (List.forall_mem_append.mpr ⟨List.forall_mem_cons.mpr ⟨(List.mem_of_getElem? (i := 15) rfl), List.forall_mem_cons.mpr ⟨(List.mem_of_getElem? (i := 16) rfl), List.forall_mem_cons.mpr ⟨(List.mem_of_getElem? (i := 17) rfl), List.forall_mem_cons.mpr ⟨(List.mem_of_getElem? (i := 5) rfl), fun _ h => absurd h List.not_mem_nil⟩⟩⟩⟩, (fun _ h => (List.mem_cons_of_mem _ (List.mem_append_right _ (List.mem_append_right _ (List.mem_append_right _ (List.mem_append_right _ (List.mem_append_right _ (List.mem_append_left _ h))))))))⟩) (by decide +kernel)
set_option maxRecDepth 20000 in
theorem g_c_does_c_readsFor_215 : GoodIn wp_c_does (wsV RX11 215 RX11 yX11_readsFor wp_c_readsFor) := goodIn_sub (List.forall_mem_append.mpr ⟨List.forall_mem_cons.mpr ⟨(List.mem_of_getElem? (i := 18) rfl), List.forall_mem_cons.mpr ⟨(List.mem_of_getElem? (i := 19) rfl), List.forall_mem_cons.mpr ⟨(List.mem_of_getElem? (i := 20) rfl), List.forall_mem_cons.mpr ⟨(List.mem_of_getElem? (i := 5) rfl), fun _ h => absurd h List.not_mem_nil⟩⟩⟩⟩, (fun _ h => (List.mem_cons_of_mem _ (List.mem_append_right _ (List.mem_append_right _ (List.mem_append_right _ (List.mem_append_right _ (List.mem_append_right _ (List.mem_append_right _ (List.mem_append_left _ h)))))))))⟩) (by decide +kernel)
set_option maxRecDepth 20000 in
theorem g_c_does_c_hasKey_202 : GoodIn wp_c_does (wsV RX11 202 RX11 yX11_hasKey wp_c_hasKey) := goodIn_sub (List.forall_mem_append.mpr ⟨List.forall_mem_cons.mpr ⟨(List.mem_of_getElem? (i := 21) rfl), List.forall_mem_cons.mpr ⟨(List.mem_of_getElem? (i := 22) rfl), List.forall_mem_cons.mpr ⟨(List.mem_of_getElem? (i := 23) rfl), List.forall_mem_cons.mpr ⟨(List.mem_of_getElem? (i := 5) rfl), fun _ h => absurd h List.not_mem_nil⟩⟩⟩⟩, (fun _ h => (List.mem_cons_of_mem _ (List.mem_append_right _ (List.mem_append_right _ (List.mem_append_right _ (List.mem_append_right _ (List.mem_append_right _ (List.mem_append_right _ (List.mem_append_right _ (List.mem_append_left _ h))))))))))⟩) (by decide +kernel)
set_option maxRecDepth 20000 in
theorem g_c_does_c_valueOf_277 : GoodIn wp_c_does (wsV RX11 277 RX11 yX11_valueOf wp_c_valueOf) := goodIn_sub (List.forall_mem_append.mpr ⟨List.forall_mem_cons.mpr ⟨(List.mem_of_getElem? (i := 24) rfl), List.forall_mem_cons.mpr ⟨(List.mem_of_getElem? (i := 25) rfl), List.forall_mem_cons.mpr ⟨(List.mem_of_getElem? (i := 26) rfl), List.forall_mem_cons.mpr ⟨(List.mem_of_getElem? (i := 5) rfl), fun _ h => absurd h List.not_mem_nil⟩⟩⟩⟩, (fun _ h => (List.mem_cons_of_mem _ (List.mem_append_right _ (List.mem_append_right _ (List.mem_append_right _ (List.mem_append_right _ (List.mem_append_right _ (List.mem_append_right _ (List.mem_append_right _ (List.mem_append_right _ (List.mem_append_left _ h)))))))))))⟩) (by decide +kernel)
set_option maxHeartbeats 4000000 in
set_option maxRecDepth 100000 in
theorem c_does (l : Launch) (D : va_G) (sz : Nat) (h0 : Nat) (a : Nat → Nat) (cm : Nat → ClassId) (i : Nat → Int32) (g : Nat → Int64) (fn : Nat → Int64) (fk : Nat → Int32) (fv : Nat → Int32) (fb : Nat → Int32) (fr : Nat → Int32) (ff : Nat → Int32) (fh : Nat → Int32) (fa : Nat → Int64) (fs : Nat → Int64) (fw : Nat → Int32) (k : Nat) (x : Nat) (hn : Nat) (hk : k < 4) (hth : fn (17 * k + 0) = 1) (hM : MInv fn fk fb ff fh fa fs) (hwm : i 39 = nI hn) (hx3 : x ≤ 3) (hxn : (x = 0 ∧ hn = 2) ∨ (x ≠ 0 ∧ hn = 1)) : Met l yX11_does wp_c_does ({ frames := 10, cells := 0, slots := 0, locals := 254 }) (PcW D [.ref h0, .int (nI k), .int (nI x)] sz [(h0, .inr (11, gM a i g)), (a 3, .inl (cm 3, 85, .inr (.inl fn))), (a 4, .inl (cm 4, 800, .inl fk)), (a 5, .inl (cm 5, 800, .inl fv)), (a 6, .inl (cm 6, 800, .inl fb)), (a 7, .inl (cm 7, 800, .inl fr)), (a 8, .inl (cm 8, 10240, .inl ff)), (a 9, .inl (cm 9, 10240, .inl fh)), (a 10, .inl (cm 10, 10240, .inr (.inl fa))), (a 11, .inl (cm 11, 10240, .inr (.inl fs))), (a 38, .inl (cm 38, 700, .inl fw))] [(cm 3, .long), (cm 4, .int), (cm 5, .int), (cm 6, .int), (cm 7, .int), (cm 8, .int), (cm 9, .int), (cm 10, .long), (cm 11, .long), (cm 38, .int)]) (va_Qv (fun (u : (Nat → Int64) × (Nat → Int32) × (Nat → Int32) × (Nat → Int32) × (Nat → Int32) × (Nat → Int32) × (Nat → Int32) × (Nat → Int64) × (Nat → Int64) × (Int64) × (Int64) × (Int64) × (Int32) × (Int32) × (Int32) × (Int32)) => u.2.2.2.2.2.2.2.2.2.2.2.2.2.2.2 = 0 ∧ ((MInv u.1 u.2.1 u.2.2.2.1 u.2.2.2.2.2.1 u.2.2.2.2.2.2.1 u.2.2.2.2.2.2.2.1 u.2.2.2.2.2.2.2.2.1) ∧ SameT fn u.1) ∧ u.1 (17 * k + 0) = 1 ∧ u.2.2.2.2.2.2.2.2.2.2.2.2.2.2.1 = (dsF x fw (i 36) (lsR fn fk fv k)).1 ∧ lsR u.1 u.2.1 u.2.2.1 = updS (lsR fn fk fv) k (dsF x fw (i 36) (lsR fn fk fv k)).2) (fun (u : (Nat → Int64) × (Nat → Int32) × (Nat → Int32) × (Nat → Int32) × (Nat → Int32) × (Nat → Int32) × (Nat → Int32) × (Nat → Int64) × (Nat → Int64) × (Int64) × (Int64) × (Int64) × (Int32) × (Int32) × (Int32) × (Int32)) t => va_P D vwCl [(h0, .inr (11, gM a (upd (upd (upd (upd i 15 u.2.2.2.2.2.2.2.2.2.2.2.2.1) 35 u.2.2.2.2.2.2.2.2.2.2.2.2.2.1) 36 u.2.2.2.2.2.2.2.2.2.2.2.2.2.2.1) 39 u.2.2.2.2.2.2.2.2.2.2.2.2.2.2.2) (vp_updL (vp_updL (vp_updL (fun _ => 0) 12 u.2.2.2.2.2.2.2.2.2.1) 13 u.2.2.2.2.2.2.2.2.2.2.1) 14 u.2.2.2.2.2.2.2.2.2.2.2.1))), (a 3, .inl (cm 3, 85, .inr (.inl u.1))), (a 4, .inl (cm 4, 800, .inl u.2.1)), (a 5, .inl (cm 5, 800, .inl u.2.2.1)), (a 6, .inl (cm 6, 800, .inl u.2.2.2.1)), (a 7, .inl (cm 7, 800, .inl u.2.2.2.2.1)), (a 8, .inl (cm 8, 10240, .inl u.2.2.2.2.2.1)), (a 9, .inl (cm 9, 10240, .inl u.2.2.2.2.2.2.1)), (a 10, .inl (cm 10, 10240, .inr (.inl u.2.2.2.2.2.2.2.1))), (a 11, .inl (cm 11, 10240, .inr (.inl u.2.2.2.2.2.2.2.2.1))), (a 38, .inl (cm 38, 700, .inl fw))] t.heap ∧ va_K D vwCl [(cm 3, .long), (cm 4, .int), (cm 5, .int), (cm 6, .int), (cm 7, .int), (cm 8, .int), (cm 9, .int), (cm 10, .long), (cm 11, .long), (cm 38, .int)] t ∧ va_D (va_A [(h0, .inr (11, gM a i g)), (a 3, .inl (cm 3, 85, .inr (.inl fn))), (a 4, .inl (cm 4, 800, .inl fk)), (a 5, .inl (cm 5, 800, .inl fv)), (a 6, .inl (cm 6, 800, .inl fb)), (a 7, .inl (cm 7, 800, .inl fr)), (a 8, .inl (cm 8, 10240, .inl ff)), (a 9, .inl (cm 9, 10240, .inl fh)), (a 10, .inl (cm 10, 10240, .inr (.inl fa))), (a 11, .inl (cm 11, 10240, .inr (.inl fs))), (a 38, .inl (cm 38, 700, .inl fw))] sz) [(h0, .inr (11, gM a (upd (upd (upd (upd i 15 u.2.2.2.2.2.2.2.2.2.2.2.2.1) 35 u.2.2.2.2.2.2.2.2.2.2.2.2.2.1) 36 u.2.2.2.2.2.2.2.2.2.2.2.2.2.2.1) 39 u.2.2.2.2.2.2.2.2.2.2.2.2.2.2.2) (vp_updL (vp_updL (vp_updL (fun _ => 0) 12 u.2.2.2.2.2.2.2.2.2.1) 13 u.2.2.2.2.2.2.2.2.2.2.1) 14 u.2.2.2.2.2.2.2.2.2.2.2.1))), (a 3, .inl (cm 3, 85, .inr (.inl u.1))), (a 4, .inl (cm 4, 800, .inl u.2.1)), (a 5, .inl (cm 5, 800, .inl u.2.2.1)), (a 6, .inl (cm 6, 800, .inl u.2.2.2.1)), (a 7, .inl (cm 7, 800, .inl u.2.2.2.2.1)), (a 8, .inl (cm 8, 10240, .inl u.2.2.2.2.2.1)), (a 9, .inl (cm 9, 10240, .inl u.2.2.2.2.2.2.1)), (a 10, .inl (cm 10, 10240, .inr (.inl u.2.2.2.2.2.2.2.1))), (a 11, .inl (cm 11, 10240, .inr (.inl u.2.2.2.2.2.2.2.2.1))), (a 38, .inl (cm 38, 700, .inl fw))]) (va_A [(h0, .inr (11, gM a i g)), (a 3, .inl (cm 3, 85, .inr (.inl fn))), (a 4, .inl (cm 4, 800, .inl fk)), (a 5, .inl (cm 5, 800, .inl fv)), (a 6, .inl (cm 6, 800, .inl fb)), (a 7, .inl (cm 7, 800, .inl fr)), (a 8, .inl (cm 8, 10240, .inl ff)), (a 9, .inl (cm 9, 10240, .inl fh)), (a 10, .inl (cm 10, 10240, .inr (.inl fa))), (a 11, .inl (cm 11, 10240, .inr (.inl fs))), (a 38, .inl (cm 38, 700, .inl fw))] sz)) 0 0 (va_A [(h0, .inr (11, gM a i g)), (a 3, .inl (cm 3, 85, .inr (.inl fn))), (a 4, .inl (cm 4, 800, .inl fk)), (a 5, .inl (cm 5, 800, .inl fv)), (a 6, .inl (cm 6, 800, .inl fb)), (a 7, .inl (cm 7, 800, .inl fr)), (a 8, .inl (cm 8, 10240, .inl ff)), (a 9, .inl (cm 9, 10240, .inl fh)), (a 10, .inl (cm 10, 10240, .inr (.inl fa))), (a 11, .inl (cm 11, 10240, .inr (.inl fs))), (a 38, .inl (cm 38, 700, .inl fw))] sz) := by
  refine Met.ofW (cc := cX11_does) (maxL := 6) (ret := none) (by decide) rfl ?_
  intro p e s m args below meth c s₁ B hml hv
  obtain ⟨rfl, hsz, hP, hK, hD0⟩ := hv
  have hx := B.exec
  have hb := B.bytes
  have hr := B.returns
  have hts := atoms_spec (ws := wp_c_does) B.pre
  have hin_X11 : ∀ w ∈ wsX110, w ∈ wp_c_does := fun _ h => (List.mem_cons_of_mem _ (List.mem_append_right _ (List.mem_append_right _ (List.mem_append_right _ (List.mem_append_right _ (List.mem_append_right _ (List.mem_append_right _ (List.mem_append_right _ (List.mem_append_right _ (List.mem_append_right _ (List.mem_append_left _ h)))))))))))
  have hown : s.vm.findClass RX11 = some m.cls := findClass_of_methodNamed B.named
  have hlocks := B.notSynchronized
  subst hsz
  have hD := hD0.self (sz := s.heap.size)
  generalize hAe : va_A [(h0, .inr (11, gM a i g)), (a 3, .inl (cm 3, 85, .inr (.inl fn))), (a 4, .inl (cm 4, 800, .inl fk)), (a 5, .inl (cm 5, 800, .inl fv)), (a 6, .inl (cm 6, 800, .inl fb)), (a 7, .inl (cm 7, 800, .inl fr)), (a 8, .inl (cm 8, 10240, .inl ff)), (a 9, .inl (cm 9, 10240, .inl fh)), (a 10, .inl (cm 10, 10240, .inr (.inl fa))), (a 11, .inl (cm 11, 10240, .inr (.inl fs))), (a 38, .inl (cm 38, 700, .inl fw))] s.heap.size = A at hD ⊢
  have hA : ∀ q : Nat, s.heap.size ≤ q → A q := fun q h => by rw [← hAe]; exact Or.inr h
  have hS : va_S A s.heap s.heap [] := va_S.rf
  have hP : va_P D vwCl [(h0, .inr (11, gM a i g)), (a 3, .inl (cm 3, 85, .inr (.inl fn))), (a 4, .inl (cm 4, 800, .inl fk)), (a 5, .inl (cm 5, 800, .inl fv)), (a 6, .inl (cm 6, 800, .inl fb)), (a 7, .inl (cm 7, 800, .inl fr)), (a 8, .inl (cm 8, 10240, .inl ff)), (a 9, .inl (cm 9, 10240, .inl fh)), (a 10, .inl (cm 10, 10240, .inr (.inl fa))), (a 11, .inl (cm 11, 10240, .inr (.inl fs))), (a 38, .inl (cm 38, 700, .inl fw))] s.heap := hP
  have hl := lv_entry ([.ref h0, .int (nI k), .int (nI x)]) (n := 6) (Nat.le_of_ble_eq_true rfl)
  rw [lg_entry_eq]
  generalize (lg_sl ([.ref h0, .int (nI k), .int (nI x)]) ++ List.replicate (6 - (lg_sl ([.ref h0, .int (nI k), .int (nI x)])).length) Slot.unset).toArray = ls at hl ⊢
  have hl : lv_has ls 6 [(0, .ref h0), (1, .int (nI k)), (2, .int (nI x))] := hl
  have hfa := hM.1
  have hfs := hM.2.1
  obtain ⟨cn, nb, K, J, hT⟩ := hM.2.2 k hk hth
  rcases (show x = 0 ∨ x = 1 ∨ x = 2 ∨ x = 3 by omega) with rfl | rfl | rfl | rfl
  ·
    obtain rfl : hn = 2 := by omega
    have hl : lv_has ls 6 [(0, .ref h0), (1, .int (nI k)), (2, .int 0)] := hl
    refine lv_aload_n hx hb dX11_does_0 rfl (lv_at hl 0 rfl) ?_
    refine lv_dup hx hb dX11_does_1 rfl ?_
    refine va_get (D := D) (ci := 11) (v := .int (i 39)) (C := RX11) (T := TX11) (N := 47) hx hb hts hin_X11 hown hK hP 0 rfl rfl 39 (by decide) (hts (.fieldLink RX11 388 "ClashFreeModel" "workedMany" "I") (List.mem_of_getElem? (i := 1) rfl)) (fun _ h9 => h9) rfl dX11_does_2 ?_
    refine lv_topi (fun v1 ev1 => ?_)
    obtain rfl : v1 = 2 := ev1.trans (hwm)
    refine lv_iconst (v := 1) hx hb dX11_does_5 (by decide) ?_
    refine lv_isub hx hb dX11_does_6 ?_
    refine lv_topi (fun v2 ev2 => ?_)
    obtain rfl : v2 = 1 := ev2.trans (by decide)
    refine va_put (D := D) (ci := 11) (v := .int 1) (ty := .int) (C := RX11) (T := TX11) (N := 47) hx hb hts hin_X11 tyX11 tyX11_ok nmX11 hown hK hP hD hS 0 rfl rfl 39 (by decide) (hts (.fieldLink RX11 388 "ClashFreeModel" "workedMany" "I") (List.mem_of_getElem? (i := 1) rfl)) (fun _ h9 => h9) rfl (by decide +kernel) rfl rfl (Nat.le_of_ble_eq_true rfl) dX11_does_7 (fun H locs hP hD hS => ?_)
    have hP : va_P D vwCl [(h0, .inr (11, gM a (upd i 39 1) g)), (a 3, .inl (cm 3, 85, .inr (.inl fn))), (a 4, .inl (cm 4, 800, .inl fk)), (a 5, .inl (cm 5, 800, .inl fv)), (a 6, .inl (cm 6, 800, .inl fb)), (a 7, .inl (cm 7, 800, .inl fr)), (a 8, .inl (cm 8, 10240, .inl ff)), (a 9, .inl (cm 9, 10240, .inl fh)), (a 10, .inl (cm 10, 10240, .inr (.inl fa))), (a 11, .inl (cm 11, 10240, .inr (.inl fs))), (a 38, .inl (cm 38, 700, .inl fw))] H := hP
    have hD : va_D A [(h0, .inr (11, gM a (upd i 39 1) g)), (a 3, .inl (cm 3, 85, .inr (.inl fn))), (a 4, .inl (cm 4, 800, .inl fk)), (a 5, .inl (cm 5, 800, .inl fv)), (a 6, .inl (cm 6, 800, .inl fb)), (a 7, .inl (cm 7, 800, .inl fr)), (a 8, .inl (cm 8, 10240, .inl ff)), (a 9, .inl (cm 9, 10240, .inl fh)), (a 10, .inl (cm 10, 10240, .inr (.inl fa))), (a 11, .inl (cm 11, 10240, .inr (.inl fs))), (a 38, .inl (cm 38, 700, .inl fw))] := hD
    refine lv_aload_n hx hb dX11_does_10 rfl (lv_at hl 0 rfl) ?_
    refine va_get (D := D) (ci := 11) (v := .ref (a 38)) (C := RX11) (T := TX11) (N := 47) hx hb hts hin_X11 hown hK hP 0 rfl rfl 38 (by decide) (hts (.fieldLink RX11 61 "ClashFreeModel" "worked" "[I") (List.mem_of_getElem? (i := 2) rfl)) (fun _ h9 => h9) rfl dX11_does_11 ?_
    refine lv_aload_n hx hb dX11_does_14 rfl (lv_at hl 0 rfl) ?_
    refine va_get (D := D) (ci := 11) (v := .int 1) (C := RX11) (T := TX11) (N := 47) hx hb hts hin_X11 hown hK hP 0 rfl rfl 39 (by decide) (hts (.fieldLink RX11 388 "ClashFreeModel" "workedMany" "I") (List.mem_of_getElem? (i := 1) rfl)) (fun _ h9 => h9) rfl dX11_does_15 ?_
    refine va_iald hx hb hK hP 10 9 rfl rfl (show ¬ ((1 : Int32) < 0 ∨ 700 ≤ Int32.toNatClampNeg 1) by decide) dX11_does_18 ?_
    refine lv_topi (fun v3 ev3 => ?_)
    refine lv_istore_n (lv' := [(3, .int v3), (0, .ref h0), (1, .int (nI k)), (2, .int 0)]) hx hb dX11_does_19 rfl hl (by decide) rfl (fun ls hl => ?_)
    refine lv_iload_n hx hb dX11_does_20 rfl (lv_at hl 0 rfl) ?_
    refine lv_istore (lv' := [(4, .int v3), (3, .int v3), (0, .ref h0), (1, .int (nI k)), (2, .int 0)]) hx hb dX11_does_21 hl (by decide) rfl (fun ls hl => ?_)
    refine lv_iload_n hx hb dX11_does_23 rfl (lv_at hl 4 rfl) ?_
    refine lv_if_ne (tgt := 48) hx hb dX11_does_24 (by decide) (fun hc => absurd (by decide) hc) (fun hc => ?_)
    refine lv_aload_n hx hb dX11_does_27 rfl (lv_at hl 2 rfl) ?_
    refine lv_dup hx hb dX11_does_28 rfl ?_
    refine va_get (D := D) (ci := 11) (v := .int 1) (C := RX11) (T := TX11) (N := 47) hx hb hts hin_X11 hown hK hP 0 rfl rfl 39 (by decide) (hts (.fieldLink RX11 388 "ClashFreeModel" "workedMany" "I") (List.mem_of_getElem? (i := 1) rfl)) (fun _ h9 => h9) rfl dX11_does_29 ?_
    refine lv_iconst (v := 1) hx hb dX11_does_32 (by decide) ?_
    refine lv_isub hx hb dX11_does_33 ?_
    refine lv_topi (fun v4 ev4 => ?_)
    obtain rfl : v4 = 0 := ev4.trans (by decide)
    refine va_put (D := D) (ci := 11) (v := .int 0) (ty := .int) (C := RX11) (T := TX11) (N := 47) hx hb hts hin_X11 tyX11 tyX11_ok nmX11 hown hK hP hD hS 0 rfl rfl 39 (by decide) (hts (.fieldLink RX11 388 "ClashFreeModel" "workedMany" "I") (List.mem_of_getElem? (i := 1) rfl)) (fun _ h9 => h9) rfl (by decide +kernel) rfl rfl (Nat.le_of_ble_eq_true rfl) dX11_does_34 (fun H locs hP hD hS => ?_)
    have hP : va_P D vwCl [(h0, .inr (11, gM a (upd i 39 0) g)), (a 3, .inl (cm 3, 85, .inr (.inl fn))), (a 4, .inl (cm 4, 800, .inl fk)), (a 5, .inl (cm 5, 800, .inl fv)), (a 6, .inl (cm 6, 800, .inl fb)), (a 7, .inl (cm 7, 800, .inl fr)), (a 8, .inl (cm 8, 10240, .inl ff)), (a 9, .inl (cm 9, 10240, .inl fh)), (a 10, .inl (cm 10, 10240, .inr (.inl fa))), (a 11, .inl (cm 11, 10240, .inr (.inl fs))), (a 38, .inl (cm 38, 700, .inl fw))] H := hP
    have hD : va_D A [(h0, .inr (11, gM a (upd i 39 0) g)), (a 3, .inl (cm 3, 85, .inr (.inl fn))), (a 4, .inl (cm 4, 800, .inl fk)), (a 5, .inl (cm 5, 800, .inl fv)), (a 6, .inl (cm 6, 800, .inl fb)), (a 7, .inl (cm 7, 800, .inl fr)), (a 8, .inl (cm 8, 10240, .inl ff)), (a 9, .inl (cm 9, 10240, .inl fh)), (a 10, .inl (cm 10, 10240, .inr (.inl fa))), (a 11, .inl (cm 11, 10240, .inr (.inl fs))), (a 38, .inl (cm 38, 700, .inl fw))] := hD
    refine lv_aload_n hx hb dX11_does_37 rfl (lv_at hl 2 rfl) ?_
    refine va_get (D := D) (ci := 11) (v := .ref (a 38)) (C := RX11) (T := TX11) (N := 47) hx hb hts hin_X11 hown hK hP 0 rfl rfl 38 (by decide) (hts (.fieldLink RX11 61 "ClashFreeModel" "worked" "[I") (List.mem_of_getElem? (i := 2) rfl)) (fun _ h9 => h9) rfl dX11_does_38 ?_
    refine lv_aload_n hx hb dX11_does_41 rfl (lv_at hl 2 rfl) ?_
    refine va_get (D := D) (ci := 11) (v := .int 0) (C := RX11) (T := TX11) (N := 47) hx hb hts hin_X11 hown hK hP 0 rfl rfl 39 (by decide) (hts (.fieldLink RX11 388 "ClashFreeModel" "workedMany" "I") (List.mem_of_getElem? (i := 1) rfl)) (fun _ h9 => h9) rfl dX11_does_42 ?_
    refine va_iald hx hb hK hP 10 9 rfl rfl (show ¬ ((0 : Int32) < 0 ∨ 700 ≤ Int32.toNatClampNeg 0) by decide) dX11_does_45 ?_
    refine lv_topi (fun v5 ev5 => ?_)
    refine lv_istore (lv' := [(4, .int v5), (3, .int v3), (0, .ref h0), (1, .int (nI k)), (2, .int 0)]) hx hb dX11_does_46 hl (by decide) rfl (fun ls hl => ?_)
    refine lv_iload_n hx hb dX11_does_48 rfl (lv_at hl 4 rfl) ?_
    refine lv_iconst (v := 3) hx hb dX11_does_49 (by decide) ?_
    refine lv_icmp_ne (tgt := 61) hx hb dX11_does_50 (by decide) (fun hc => ?_) (fun hc => absurd hc (by decide))
    refine lv_iload hx hb dX11_does_61 (lv_at hl 0 rfl) ?_
    have hPc := hP.sub (ws' := []) [] rfl
    have hKc := hK.sub (tys' := []) [] rfl
    have hFc := va_free0 hS hA
    refine va_calli (va_runS (As := [.int v5]) (rest := []) ⟨hx, hb, hml, hown, hts⟩ (c_isKey l D _ v5) (va_cwS 1 hts g_c_does_c_isKey_226 rfl rfl rfl (by decide +kernel) ⟨(Nat.le_of_ble_eq_true rfl), (Nat.le_of_ble_eq_true rfl)⟩) (PcR_S hPc hKc) rfl rfl hl.1 rfl (lv_room (Nat.le_of_ble_eq_true rfl)) dX11_does_63 ⟨(Nat.le_of_ble_eq_true rfl), (Nat.le_of_ble_eq_true rfl)⟩) hS (fun q _ h => hFc q h) hFc (fun r6 uu tt H locs htt hvm hw hB hz1 hk1 hS => ?_)
    have hP := va_keep hP hk1
    try dsimp only at hw
    clear hB hz1 hk1 hFc hPc hKc
    rcases hw with ⟨rfl, hA_r6⟩ | ⟨rfl, hA_r6⟩
    ·
      obtain ⟨kx, hkx, rfl⟩ := hA_r6
      obtain ⟨h1, hcn, h4, hn1, hn2, ⟨ka, kb, hka, hkb, h6, h7⟩, hKy, hBk, hHs, ⟨bn, ns, gr, h14, hbn, h15, hs1, hs2, h16, hgr⟩⟩ := id hT
      refine lv_if_ne (tgt := 92) hx hb dX11_does_66 (by decide) (fun hc => ?_) (fun hc => absurd hc (by decide))
      refine lv_iload_n hx hb dX11_does_92 rfl (lv_at hl 4 rfl) ?_
      refine lv_iconst (v := 2) hx hb dX11_does_93 (by decide) ?_
      refine lv_icmp_ne (tgt := 132) hx hb dX11_does_94 (by decide) (fun hc => ?_) (fun hc => absurd hc (by decide))
      refine lv_iload_n hx hb dX11_does_132 rfl (lv_at hl 4 rfl) ?_
      refine lv_iconst (v := 1) hx hb dX11_does_133 (by decide) ?_
      refine lv_icmp_ne (tgt := 168) hx hb dX11_does_134 (by decide) (fun hc => ?_) (fun hc => absurd hc (by decide))
      refine lv_aload_n hx hb dX11_does_168 rfl (lv_at hl 2 rfl) ?_
      refine lv_iload_n hx hb dX11_does_169 rfl (lv_at hl 3 rfl) ?_
      refine lv_iload hx hb dX11_does_170 (lv_at hl 0 rfl) ?_
      have hPc := hP.sub (ws' := [(h0, .inr (11, gM a (upd i 39 0) g)), (a 3, .inl (cm 3, 85, .inr (.inl fn))), (a 4, .inl (cm 4, 800, .inl fk)), (a 6, .inl (cm 6, 800, .inl fb)), (a 8, .inl (cm 8, 10240, .inl ff)), (a 9, .inl (cm 9, 10240, .inl fh))]) [0, 1, 2, 4, 6, 7] rfl
      have hKc := hK.sub (tys' := [(cm 3, .long), (cm 4, .int), (cm 6, .int), (cm 8, .int), (cm 9, .int)]) [0, 1, 3, 5, 6] rfl
      have hFc := va_free0 hS hA
      refine va_calli (va_runV (As := [.int (nI k), .int (nI kx)]) (rest := []) ⟨hx, hb, hml, hown, hts⟩ (c_isFull l D _ h0 a cm (upd i 39 0) g fn fk fb ff fh k cn nb K J kx (by first | assumption | omega) hT (by first | assumption | omega)) (cwV 2 hts g_c_does_c_isFull_229 rfl rfl rfl (by decide +kernel) ⟨(Nat.le_of_ble_eq_true rfl), (Nat.le_of_ble_eq_true rfl)⟩) (PcR_V (q0 := 0) hPc hKc rfl rfl) rfl rfl hl.1 rfl (lv_room (Nat.le_of_ble_eq_true rfl)) dX11_does_172 ⟨(Nat.le_of_ble_eq_true rfl), (Nat.le_of_ble_eq_true rfl)⟩) hS (fun q _ h => hFc q h) hFc (fun r7 uu tt H locs htt hvm hw hB hz1 hk1 hS => ?_)
      have hP := va_keep hP hk1
      try dsimp only at hw
      clear hB hz1 hk1 hFc hPc hKc
      rcases hw with ⟨rfl, hA_r7⟩ | ⟨rfl, hA_r7⟩
      ·
        refine lv_if_eq (tgt := 191) hx hb dX11_does_175 (by decide) (fun hc => absurd hc (by decide)) (fun hc => ?_)
        refine lv_aload_n hx hb dX11_does_178 rfl (lv_at hl 2 rfl) ?_
        refine lv_dup hx hb dX11_does_179 rfl ?_
        refine va_get (D := D) (ci := 11) (v := .int (i 35)) (C := RX11) (T := TX11) (N := 47) hx hb hts hin_X11 hown hK hP 0 rfl rfl 35 (by decide) (hts (.fieldLink RX11 407 "ClashFreeModel" "refused" "I") (List.mem_of_getElem? (i := 9) rfl)) (fun _ h9 => h9) rfl dX11_does_180 ?_
        refine lv_iconst (v := 1) hx hb dX11_does_183 (by decide) ?_
        refine lv_iadd hx hb dX11_does_184 ?_
        refine lv_topi (fun v8 ev8 => ?_)
        refine va_put (D := D) (ci := 11) (v := .int v8) (ty := .int) (C := RX11) (T := TX11) (N := 47) hx hb hts hin_X11 tyX11 tyX11_ok nmX11 hown hK hP hD hS 0 rfl rfl 35 (by decide) (hts (.fieldLink RX11 407 "ClashFreeModel" "refused" "I") (List.mem_of_getElem? (i := 9) rfl)) (fun _ h9 => h9) rfl (by decide +kernel) rfl rfl (Nat.le_of_ble_eq_true rfl) dX11_does_185 (fun H locs hP hD hS => ?_)
        have hP : va_P D vwCl [(h0, .inr (11, gM a (upd (upd i 35 v8) 39 0) g)), (a 3, .inl (cm 3, 85, .inr (.inl fn))), (a 4, .inl (cm 4, 800, .inl fk)), (a 5, .inl (cm 5, 800, .inl fv)), (a 6, .inl (cm 6, 800, .inl fb)), (a 7, .inl (cm 7, 800, .inl fr)), (a 8, .inl (cm 8, 10240, .inl ff)), (a 9, .inl (cm 9, 10240, .inl fh)), (a 10, .inl (cm 10, 10240, .inr (.inl fa))), (a 11, .inl (cm 11, 10240, .inr (.inl fs))), (a 38, .inl (cm 38, 700, .inl fw))] H := hP
        have hD : va_D A [(h0, .inr (11, gM a (upd (upd i 35 v8) 39 0) g)), (a 3, .inl (cm 3, 85, .inr (.inl fn))), (a 4, .inl (cm 4, 800, .inl fk)), (a 5, .inl (cm 5, 800, .inl fv)), (a 6, .inl (cm 6, 800, .inl fb)), (a 7, .inl (cm 7, 800, .inl fr)), (a 8, .inl (cm 8, 10240, .inl ff)), (a 9, .inl (cm 9, 10240, .inl fh)), (a 10, .inl (cm 10, 10240, .inr (.inl fa))), (a 11, .inl (cm 11, 10240, .inr (.inl fs))), (a 38, .inl (cm 38, 700, .inl fw))] := hD
        refine lv_goto (tgt := 223) hx hb dX11_does_188 (by decide) ?_
        have hA : dsF 0 fw (i 36) ((lsR fn fk fv) k) = (i 36, (lsR fn fk fv) k) := (cg2_ (f := fun a b => actF 3 a b (i 36) ((lsR fn fk fv) k)) ev5.symm ev3.symm).trans (act_full hkx rfl (ful_T hk hT fv hA_r7))
        exact W.vret hx hb hr (fun t ht hW => ⟨⟨(fn, fk, fv, fb, fr, ff, fh, fa, fs, (g 12), (g 13), (g 14), (i 15), v8, (i 36), 0), rfl, (by (try dsimp only); exact ⟨rfl, ⟨hM, SameT.rfl⟩, hth, (congrArg Prod.fst hA).symm, ((updS_id _ _).symm).trans (congrArg (updS (lsR fn fk fv) k) (congrArg Prod.snd hA).symm)⟩), by rw [ht]; exact hP.sub [0, 1, 2, 3, 4, 5, 6, 7, 8, 9, 10] rfl, va_K.moved hW.alike (hK.sub [0, 1, 2, 3, 4, 5, 6, 7, 8, 9] rfl), hD.sub [0, 1, 2, 3, 4, 5, 6, 7, 8, 9, 10] (by decide) rfl⟩, hS.F ht⟩) hS.2.2 dX11_does_223
      ·
        refine lv_if_eq (tgt := 191) hx hb dX11_does_175 (by decide) (fun hc => ?_) (fun hc => absurd (by decide) hc)
        refine lv_aload_n hx hb dX11_does_191 rfl (lv_at hl 2 rfl) ?_
        refine lv_iload_n hx hb dX11_does_192 rfl (lv_at hl 3 rfl) ?_
        refine lv_iload hx hb dX11_does_193 (lv_at hl 0 rfl) ?_
        refine lv_iload_n hx hb dX11_does_195 rfl (lv_at hl 1 rfl) ?_
        have hPc := hP.sub (ws' := [(h0, .inr (11, gM a (upd i 39 0) g)), (a 3, .inl (cm 3, 85, .inr (.inl fn))), (a 4, .inl (cm 4, 800, .inl fk)), (a 5, .inl (cm 5, 800, .inl fv)), (a 6, .inl (cm 6, 800, .inl fb)), (a 7, .inl (cm 7, 800, .inl fr)), (a 8, .inl (cm 8, 10240, .inl ff)), (a 9, .inl (cm 9, 10240, .inl fh)), (a 10, .inl (cm 10, 10240, .inr (.inl fa))), (a 11, .inl (cm 11, 10240, .inr (.inl fs)))]) [0, 1, 2, 3, 4, 5, 6, 7, 8, 9] rfl
        have hKc := hK.sub (tys' := [(cm 3, .long), (cm 4, .int), (cm 5, .int), (cm 6, .int), (cm 7, .int), (cm 8, .int), (cm 9, .int), (cm 10, .long), (cm 11, .long)]) [0, 1, 2, 3, 4, 5, 6, 7, 8] rfl
        have hDc := hD.sub (ws' := [(h0, .inr (11, gM a (upd i 39 0) g)), (a 3, .inl (cm 3, 85, .inr (.inl fn))), (a 4, .inl (cm 4, 800, .inl fk)), (a 5, .inl (cm 5, 800, .inl fv)), (a 6, .inl (cm 6, 800, .inl fb)), (a 7, .inl (cm 7, 800, .inl fr)), (a 8, .inl (cm 8, 10240, .inl ff)), (a 9, .inl (cm 9, 10240, .inl fh)), (a 10, .inl (cm 10, 10240, .inr (.inl fa))), (a 11, .inl (cm 11, 10240, .inr (.inl fs)))]) [0, 1, 2, 3, 4, 5, 6, 7, 8, 9] (by decide) rfl
        have hFc := va_free (wc := [(h0, .inr (11, gM a (upd i 39 0) g)), (a 3, .inl (cm 3, 85, .inr (.inl fn))), (a 4, .inl (cm 4, 800, .inl fk)), (a 5, .inl (cm 5, 800, .inl fv)), (a 6, .inl (cm 6, 800, .inl fb)), (a 7, .inl (cm 7, 800, .inl fr)), (a 8, .inl (cm 8, 10240, .inl ff)), (a 9, .inl (cm 9, 10240, .inl fh)), (a 10, .inl (cm 10, 10240, .inr (.inl fa))), (a 11, .inl (cm 11, 10240, .inr (.inl fs)))]) hD hS hA [0, 1, 2, 3, 4, 5, 6, 7, 8, 9] rfl
        refine va_calli (va_runV (As := [.int (nI k), .int (nI kx), .int v3]) (rest := []) ⟨hx, hb, hml, hown, hts⟩ (c_putsKey l D _ h0 a cm (upd i 39 0) g fn fk fv fb fr ff fh fa fs k cn nb K J kx v3 (by first | assumption | omega) hT (by first | assumption | omega) (by first | assumption | omega) (by first | assumption | omega) (by first | assumption | omega)) (cwV 3 hts g_c_does_c_putsKey_232 rfl rfl rfl (by decide +kernel) ⟨(Nat.le_of_ble_eq_true rfl), (Nat.le_of_ble_eq_true rfl)⟩) (PcW_V (q0 := 0) hPc hKc hDc rfl rfl) rfl rfl hl.1 rfl (lv_room (Nat.le_of_ble_eq_true rfl)) dX11_does_196 ⟨(Nat.le_of_ble_eq_true rfl), (Nat.le_of_ble_eq_true rfl)⟩) hS (fun q _ h => hFc q h) hFc (fun r9 uu tt H locs htt hvm hw hB hz1 hk1 hS => ?_)
        obtain ⟨w10, w11, w12, w13, w14, w15, w16, w17, w18, w19, w20, w21, w22⟩ := uu
        obtain ⟨hP1, hK1, hD1⟩ := hB
        rw [htt] at hP1
        have hK1 := va_K.moved hvm.symm hK1
        have hP1 : va_P D vwCl [(h0, .inr (11, gM a (upd (upd i 15 w22) 39 0) (vp_updL (vp_updL (vp_updL (fun _ => 0) 12 w19) 13 w20) 14 w21))), (a 3, .inl (cm 3, 85, .inr (.inl w10))), (a 4, .inl (cm 4, 800, .inl w11)), (a 5, .inl (cm 5, 800, .inl w12)), (a 6, .inl (cm 6, 800, .inl w13)), (a 7, .inl (cm 7, 800, .inl w14)), (a 8, .inl (cm 8, 10240, .inl w15)), (a 9, .inl (cm 9, 10240, .inl w16)), (a 10, .inl (cm 10, 10240, .inr (.inl w17))), (a 11, .inl (cm 11, 10240, .inr (.inl w18)))] H := hP1
        obtain ⟨hP, hD⟩ := va_join (wr := [(a 38, .inl (cm 38, 700, .inl fw))]) (w1 := [(h0, .inr (11, gM a (upd (upd i 15 w22) 39 0) (vp_updL (vp_updL (vp_updL (fun _ => 0) 12 w19) 13 w20) 14 w21))), (a 3, .inl (cm 3, 85, .inr (.inl w10))), (a 4, .inl (cm 4, 800, .inl w11)), (a 5, .inl (cm 5, 800, .inl w12)), (a 6, .inl (cm 6, 800, .inl w13)), (a 7, .inl (cm 7, 800, .inl w14)), (a 8, .inl (cm 8, 10240, .inl w15)), (a 9, .inl (cm 9, 10240, .inl w16)), (a 10, .inl (cm 10, 10240, .inr (.inl w17))), (a 11, .inl (cm 11, 10240, .inr (.inl w18)))]) hP hD [0, 1, 2, 3, 4, 5, 6, 7, 8, 9] [10] rfl rfl (by decide) (by decide) hk1 hFc hP1 hD1
        have hP : va_P D vwCl [(a 38, .inl (cm 38, 700, .inl fw)), (h0, .inr (11, gM a (upd (upd i 15 w22) 39 0) (vp_updL (vp_updL (vp_updL (fun _ => 0) 12 w19) 13 w20) 14 w21))), (a 3, .inl (cm 3, 85, .inr (.inl w10))), (a 4, .inl (cm 4, 800, .inl w11)), (a 5, .inl (cm 5, 800, .inl w12)), (a 6, .inl (cm 6, 800, .inl w13)), (a 7, .inl (cm 7, 800, .inl w14)), (a 8, .inl (cm 8, 10240, .inl w15)), (a 9, .inl (cm 9, 10240, .inl w16)), (a 10, .inl (cm 10, 10240, .inr (.inl w17))), (a 11, .inl (cm 11, 10240, .inr (.inl w18)))] H := hP
        have hD : va_D A [(a 38, .inl (cm 38, 700, .inl fw)), (h0, .inr (11, gM a (upd (upd i 15 w22) 39 0) (vp_updL (vp_updL (vp_updL (fun _ => 0) 12 w19) 13 w20) 14 w21))), (a 3, .inl (cm 3, 85, .inr (.inl w10))), (a 4, .inl (cm 4, 800, .inl w11)), (a 5, .inl (cm 5, 800, .inl w12)), (a 6, .inl (cm 6, 800, .inl w13)), (a 7, .inl (cm 7, 800, .inl w14)), (a 8, .inl (cm 8, 10240, .inl w15)), (a 9, .inl (cm 9, 10240, .inl w16)), (a 10, .inl (cm 10, 10240, .inr (.inl w17))), (a 11, .inl (cm 11, 10240, .inr (.inl w18)))] := hD
        try dsimp only at hw
        clear hz1 hk1 hFc hPc hKc hDc
        obtain ⟨⟨hk_23_c, hk_23_n, hk_23_K, hk_23_J, hk_23_T⟩, hk_23_a, hk_23_s, hk_23_r, hk_23_0, hk_23_4, hk_23_6, hk_23_8, hk_23_9, hk_23_L, hk_23_q⟩ := hw
        refine lv_istore (lv' := [(5, .int r9), (4, .int (nI kx)), (3, .int v3), (0, .ref h0), (1, .int (nI k)), (2, .int 0)]) hx hb dX11_does_199 hl (by decide) rfl (fun ls hl => ?_)
        refine lv_aload_n hx hb dX11_does_201 rfl (lv_at hl 3 rfl) ?_
        refine lv_dup hx hb dX11_does_202 rfl ?_
        refine va_get (D := D) (ci := 11) (v := .int (i 35)) (C := RX11) (T := TX11) (N := 47) hx hb hts hin_X11 hown hK hP 1 rfl rfl 35 (by decide) (hts (.fieldLink RX11 407 "ClashFreeModel" "refused" "I") (List.mem_of_getElem? (i := 9) rfl)) (fun _ h9 => h9) rfl dX11_does_203 ?_
        refine lv_iload hx hb dX11_does_206 (lv_at hl 0 rfl) ?_
        refine lv_if_ge (tgt := 215) hx hb dX11_does_208 (by decide) (fun hc24 => ?_) (fun hc24 => ?_)
        ·
          refine lv_iconst (v := 0) hx hb dX11_does_215 (by decide) ?_
          have hPc := hP.sub (ws' := []) [] rfl
          have hKc := hK.sub (tys' := []) [] rfl
          have hFc := va_free0 hS hA
          refine va_calli (va_runS (As := [.int 0]) (rest := [.int (i 35), .ref h0]) ⟨hx, hb, hml, hown, hts⟩ (c_flag l D _ 0) (va_cwS 1 hts g_c_does_c_flag_198 rfl rfl rfl (by decide +kernel) ⟨(Nat.le_of_ble_eq_true rfl), (Nat.le_of_ble_eq_true rfl)⟩) (PcR_S hPc hKc) rfl rfl hl.1 rfl (lv_room (Nat.le_of_ble_eq_true rfl)) dX11_does_216 ⟨(Nat.le_of_ble_eq_true rfl), (Nat.le_of_ble_eq_true rfl)⟩) hS (fun q _ h => hFc q h) hFc (fun r25 uu tt H locs htt hvm hw hB hz1 hk1 hS => ?_)
          have hP := va_keep hP hk1
          try dsimp only at hw
          clear hB hz1 hk1 hFc hPc hKc
          obtain rfl : r25 = 0 := hw.trans (by decide)
          refine lv_iadd hx hb dX11_does_219 ?_
          refine lv_topi (fun v26 ev26 => ?_)
          refine va_put (D := D) (ci := 11) (v := .int v26) (ty := .int) (C := RX11) (T := TX11) (N := 47) hx hb hts hin_X11 tyX11 tyX11_ok nmX11 hown hK hP hD hS 1 rfl rfl 35 (by decide) (hts (.fieldLink RX11 407 "ClashFreeModel" "refused" "I") (List.mem_of_getElem? (i := 9) rfl)) (fun _ h9 => h9) rfl (by decide +kernel) rfl rfl (Nat.le_of_ble_eq_true rfl) dX11_does_220 (fun H locs hP hD hS => ?_)
          have hP : va_P D vwCl [(a 38, .inl (cm 38, 700, .inl fw)), (h0, .inr (11, gM a (upd (upd (upd i 15 w22) 35 v26) 39 0) (vp_updL (vp_updL (vp_updL (fun _ => 0) 12 w19) 13 w20) 14 w21))), (a 3, .inl (cm 3, 85, .inr (.inl w10))), (a 4, .inl (cm 4, 800, .inl w11)), (a 5, .inl (cm 5, 800, .inl w12)), (a 6, .inl (cm 6, 800, .inl w13)), (a 7, .inl (cm 7, 800, .inl w14)), (a 8, .inl (cm 8, 10240, .inl w15)), (a 9, .inl (cm 9, 10240, .inl w16)), (a 10, .inl (cm 10, 10240, .inr (.inl w17))), (a 11, .inl (cm 11, 10240, .inr (.inl w18)))] H := hP
          have hD : va_D A [(a 38, .inl (cm 38, 700, .inl fw)), (h0, .inr (11, gM a (upd (upd (upd i 15 w22) 35 v26) 39 0) (vp_updL (vp_updL (vp_updL (fun _ => 0) 12 w19) 13 w20) 14 w21))), (a 3, .inl (cm 3, 85, .inr (.inl w10))), (a 4, .inl (cm 4, 800, .inl w11)), (a 5, .inl (cm 5, 800, .inl w12)), (a 6, .inl (cm 6, 800, .inl w13)), (a 7, .inl (cm 7, 800, .inl w14)), (a 8, .inl (cm 8, 10240, .inl w15)), (a 9, .inl (cm 9, 10240, .inl w16)), (a 10, .inl (cm 10, 10240, .inr (.inl w17))), (a 11, .inl (cm 11, 10240, .inr (.inl w18)))] := hD
          have hA : dsF 0 fw (i 36) ((lsR fn fk fv) k) = (i 36, putL ((lsR fn fk fv) k) kx v3) := (cg2_ (f := fun a b => actF 3 a b (i 36) ((lsR fn fk fv) k)) ev5.symm ev3.symm).trans (act_put hkx rfl (nful_T hk hT fv hA_r7))
          exact W.vret hx hb hr (fun t ht hW => ⟨⟨(w10, w11, w12, w13, w14, w15, w16, w17, w18, w19, w20, w21, w22, v26, (i 36), 0), rfl, (by (try dsimp only); exact ⟨rfl, ⟨hM.upd (k := k) hk_23_a hk_23_s hk_23_r hk_23_4 hk_23_6 hk_23_8 hk_23_9 (fun _ => ⟨_, _, _, _, hk_23_T⟩), SameT.of (k := k) hk_23_r hk_23_0⟩, hk_23_0.trans hth, (congrArg Prod.fst hA).symm, (hk_23_L).trans (congrArg (updS (lsR fn fk fv) k) (congrArg Prod.snd hA).symm)⟩), by rw [ht]; exact hP.sub [1, 2, 3, 4, 5, 6, 7, 8, 9, 10, 0] rfl, va_K.moved hW.alike (hK.sub [0, 1, 2, 3, 4, 5, 6, 7, 8, 9] rfl), hD.sub [1, 2, 3, 4, 5, 6, 7, 8, 9, 10, 0] (by decide) rfl⟩, hS.F ht⟩) hS.2.2 dX11_does_223
        ·
          refine lv_iconst (v := 1) hx hb dX11_does_211 (by decide) ?_
          refine lv_goto (tgt := 216) hx hb dX11_does_212 (by decide) ?_
          have hPc := hP.sub (ws' := []) [] rfl
          have hKc := hK.sub (tys' := []) [] rfl
          have hFc := va_free0 hS hA
          refine va_calli (va_runS (As := [.int 1]) (rest := [.int (i 35), .ref h0]) ⟨hx, hb, hml, hown, hts⟩ (c_flag l D _ 1) (va_cwS 1 hts g_c_does_c_flag_198 rfl rfl rfl (by decide +kernel) ⟨(Nat.le_of_ble_eq_true rfl), (Nat.le_of_ble_eq_true rfl)⟩) (PcR_S hPc hKc) rfl rfl hl.1 rfl (lv_room (Nat.le_of_ble_eq_true rfl)) dX11_does_216 ⟨(Nat.le_of_ble_eq_true rfl), (Nat.le_of_ble_eq_true rfl)⟩) hS (fun q _ h => hFc q h) hFc (fun r27 uu tt H locs htt hvm hw hB hz1 hk1 hS => ?_)
          have hP := va_keep hP hk1
          try dsimp only at hw
          clear hB hz1 hk1 hFc hPc hKc
          obtain rfl : r27 = 1 := hw.trans (by decide)
          refine lv_iadd hx hb dX11_does_219 ?_
          refine lv_topi (fun v28 ev28 => ?_)
          refine va_put (D := D) (ci := 11) (v := .int v28) (ty := .int) (C := RX11) (T := TX11) (N := 47) hx hb hts hin_X11 tyX11 tyX11_ok nmX11 hown hK hP hD hS 1 rfl rfl 35 (by decide) (hts (.fieldLink RX11 407 "ClashFreeModel" "refused" "I") (List.mem_of_getElem? (i := 9) rfl)) (fun _ h9 => h9) rfl (by decide +kernel) rfl rfl (Nat.le_of_ble_eq_true rfl) dX11_does_220 (fun H locs hP hD hS => ?_)
          have hP : va_P D vwCl [(a 38, .inl (cm 38, 700, .inl fw)), (h0, .inr (11, gM a (upd (upd (upd i 15 w22) 35 v28) 39 0) (vp_updL (vp_updL (vp_updL (fun _ => 0) 12 w19) 13 w20) 14 w21))), (a 3, .inl (cm 3, 85, .inr (.inl w10))), (a 4, .inl (cm 4, 800, .inl w11)), (a 5, .inl (cm 5, 800, .inl w12)), (a 6, .inl (cm 6, 800, .inl w13)), (a 7, .inl (cm 7, 800, .inl w14)), (a 8, .inl (cm 8, 10240, .inl w15)), (a 9, .inl (cm 9, 10240, .inl w16)), (a 10, .inl (cm 10, 10240, .inr (.inl w17))), (a 11, .inl (cm 11, 10240, .inr (.inl w18)))] H := hP
          have hD : va_D A [(a 38, .inl (cm 38, 700, .inl fw)), (h0, .inr (11, gM a (upd (upd (upd i 15 w22) 35 v28) 39 0) (vp_updL (vp_updL (vp_updL (fun _ => 0) 12 w19) 13 w20) 14 w21))), (a 3, .inl (cm 3, 85, .inr (.inl w10))), (a 4, .inl (cm 4, 800, .inl w11)), (a 5, .inl (cm 5, 800, .inl w12)), (a 6, .inl (cm 6, 800, .inl w13)), (a 7, .inl (cm 7, 800, .inl w14)), (a 8, .inl (cm 8, 10240, .inl w15)), (a 9, .inl (cm 9, 10240, .inl w16)), (a 10, .inl (cm 10, 10240, .inr (.inl w17))), (a 11, .inl (cm 11, 10240, .inr (.inl w18)))] := hD
          have hA : dsF 0 fw (i 36) ((lsR fn fk fv) k) = (i 36, putL ((lsR fn fk fv) k) kx v3) := (cg2_ (f := fun a b => actF 3 a b (i 36) ((lsR fn fk fv) k)) ev5.symm ev3.symm).trans (act_put hkx rfl (nful_T hk hT fv hA_r7))
          exact W.vret hx hb hr (fun t ht hW => ⟨⟨(w10, w11, w12, w13, w14, w15, w16, w17, w18, w19, w20, w21, w22, v28, (i 36), 0), rfl, (by (try dsimp only); exact ⟨rfl, ⟨hM.upd (k := k) hk_23_a hk_23_s hk_23_r hk_23_4 hk_23_6 hk_23_8 hk_23_9 (fun _ => ⟨_, _, _, _, hk_23_T⟩), SameT.of (k := k) hk_23_r hk_23_0⟩, hk_23_0.trans hth, (congrArg Prod.fst hA).symm, (hk_23_L).trans (congrArg (updS (lsR fn fk fv) k) (congrArg Prod.snd hA).symm)⟩), by rw [ht]; exact hP.sub [1, 2, 3, 4, 5, 6, 7, 8, 9, 10, 0] rfl, va_K.moved hW.alike (hK.sub [0, 1, 2, 3, 4, 5, 6, 7, 8, 9] rfl), hD.sub [1, 2, 3, 4, 5, 6, 7, 8, 9, 10, 0] (by decide) rfl⟩, hS.F ht⟩) hS.2.2 dX11_does_223
    ·
      refine lv_if_ne (tgt := 92) hx hb dX11_does_66 (by decide) (fun hc => absurd (by decide) hc) (fun hc => ?_)
      refine lv_aload_n hx hb dX11_does_69 rfl (lv_at hl 2 rfl) ?_
      refine lv_dup hx hb dX11_does_70 rfl ?_
      refine va_get (D := D) (ci := 11) (v := .int (i 35)) (C := RX11) (T := TX11) (N := 47) hx hb hts hin_X11 hown hK hP 0 rfl rfl 35 (by decide) (hts (.fieldLink RX11 407 "ClashFreeModel" "refused" "I") (List.mem_of_getElem? (i := 9) rfl)) (fun _ h9 => h9) rfl dX11_does_71 ?_
      refine lv_iconst (v := 1) hx hb dX11_does_74 (by decide) ?_
      refine lv_iadd hx hb dX11_does_75 ?_
      refine lv_topi (fun v29 ev29 => ?_)
      refine va_put (D := D) (ci := 11) (v := .int v29) (ty := .int) (C := RX11) (T := TX11) (N := 47) hx hb hts hin_X11 tyX11 tyX11_ok nmX11 hown hK hP hD hS 0 rfl rfl 35 (by decide) (hts (.fieldLink RX11 407 "ClashFreeModel" "refused" "I") (List.mem_of_getElem? (i := 9) rfl)) (fun _ h9 => h9) rfl (by decide +kernel) rfl rfl (Nat.le_of_ble_eq_true rfl) dX11_does_76 (fun H locs hP hD hS => ?_)
      have hP : va_P D vwCl [(h0, .inr (11, gM a (upd (upd i 35 v29) 39 0) g)), (a 3, .inl (cm 3, 85, .inr (.inl fn))), (a 4, .inl (cm 4, 800, .inl fk)), (a 5, .inl (cm 5, 800, .inl fv)), (a 6, .inl (cm 6, 800, .inl fb)), (a 7, .inl (cm 7, 800, .inl fr)), (a 8, .inl (cm 8, 10240, .inl ff)), (a 9, .inl (cm 9, 10240, .inl fh)), (a 10, .inl (cm 10, 10240, .inr (.inl fa))), (a 11, .inl (cm 11, 10240, .inr (.inl fs))), (a 38, .inl (cm 38, 700, .inl fw))] H := hP
      have hD : va_D A [(h0, .inr (11, gM a (upd (upd i 35 v29) 39 0) g)), (a 3, .inl (cm 3, 85, .inr (.inl fn))), (a 4, .inl (cm 4, 800, .inl fk)), (a 5, .inl (cm 5, 800, .inl fv)), (a 6, .inl (cm 6, 800, .inl fb)), (a 7, .inl (cm 7, 800, .inl fr)), (a 8, .inl (cm 8, 10240, .inl ff)), (a 9, .inl (cm 9, 10240, .inl fh)), (a 10, .inl (cm 10, 10240, .inr (.inl fa))), (a 11, .inl (cm 11, 10240, .inr (.inl fs))), (a 38, .inl (cm 38, 700, .inl fw))] := hD
      refine lv_iload_n hx hb dX11_does_79 rfl (lv_at hl 4 rfl) ?_
      refine lv_iconst (v := 2) hx hb dX11_does_80 (by decide) ?_
      refine lv_icmp_ne (tgt := 223) hx hb dX11_does_81 (by decide) (fun hc => ?_) (fun hc => absurd hc (by decide))
      have hA : dsF 0 fw (i 36) ((lsR fn fk fv) k) = (i 36, (lsR fn fk fv) k) := (cg2_ (f := fun a b => actF 3 a b (i 36) ((lsR fn fk fv) k)) ev5.symm ev3.symm).trans (act_nk (Or.inl rfl) hA_r6 rfl)
      exact W.vret hx hb hr (fun t ht hW => ⟨⟨(fn, fk, fv, fb, fr, ff, fh, fa, fs, (g 12), (g 13), (g 14), (i 15), v29, (i 36), 0), rfl, (by (try dsimp only); exact ⟨rfl, ⟨hM, SameT.rfl⟩, hth, (congrArg Prod.fst hA).symm, ((updS_id _ _).symm).trans (congrArg (updS (lsR fn fk fv) k) (congrArg Prod.snd hA).symm)⟩), by rw [ht]; exact hP.sub [0, 1, 2, 3, 4, 5, 6, 7, 8, 9, 10] rfl, va_K.moved hW.alike (hK.sub [0, 1, 2, 3, 4, 5, 6, 7, 8, 9] rfl), hD.sub [0, 1, 2, 3, 4, 5, 6, 7, 8, 9, 10] (by decide) rfl⟩, hS.F ht⟩) hS.2.2 dX11_does_223
  ·
    obtain rfl : hn = 1 := by omega
    have hl : lv_has ls 6 [(0, .ref h0), (1, .int (nI k)), (2, .int 1)] := hl
    refine lv_aload_n hx hb dX11_does_0 rfl (lv_at hl 0 rfl) ?_
    refine lv_dup hx hb dX11_does_1 rfl ?_
    refine va_get (D := D) (ci := 11) (v := .int (i 39)) (C := RX11) (T := TX11) (N := 47) hx hb hts hin_X11 hown hK hP 0 rfl rfl 39 (by decide) (hts (.fieldLink RX11 388 "ClashFreeModel" "workedMany" "I") (List.mem_of_getElem? (i := 1) rfl)) (fun _ h9 => h9) rfl dX11_does_2 ?_
    refine lv_topi (fun v30 ev30 => ?_)
    obtain rfl : v30 = 1 := ev30.trans (hwm)
    refine lv_iconst (v := 1) hx hb dX11_does_5 (by decide) ?_
    refine lv_isub hx hb dX11_does_6 ?_
    refine lv_topi (fun v31 ev31 => ?_)
    obtain rfl : v31 = 0 := ev31.trans (by decide)
    refine va_put (D := D) (ci := 11) (v := .int 0) (ty := .int) (C := RX11) (T := TX11) (N := 47) hx hb hts hin_X11 tyX11 tyX11_ok nmX11 hown hK hP hD hS 0 rfl rfl 39 (by decide) (hts (.fieldLink RX11 388 "ClashFreeModel" "workedMany" "I") (List.mem_of_getElem? (i := 1) rfl)) (fun _ h9 => h9) rfl (by decide +kernel) rfl rfl (Nat.le_of_ble_eq_true rfl) dX11_does_7 (fun H locs hP hD hS => ?_)
    have hP : va_P D vwCl [(h0, .inr (11, gM a (upd i 39 0) g)), (a 3, .inl (cm 3, 85, .inr (.inl fn))), (a 4, .inl (cm 4, 800, .inl fk)), (a 5, .inl (cm 5, 800, .inl fv)), (a 6, .inl (cm 6, 800, .inl fb)), (a 7, .inl (cm 7, 800, .inl fr)), (a 8, .inl (cm 8, 10240, .inl ff)), (a 9, .inl (cm 9, 10240, .inl fh)), (a 10, .inl (cm 10, 10240, .inr (.inl fa))), (a 11, .inl (cm 11, 10240, .inr (.inl fs))), (a 38, .inl (cm 38, 700, .inl fw))] H := hP
    have hD : va_D A [(h0, .inr (11, gM a (upd i 39 0) g)), (a 3, .inl (cm 3, 85, .inr (.inl fn))), (a 4, .inl (cm 4, 800, .inl fk)), (a 5, .inl (cm 5, 800, .inl fv)), (a 6, .inl (cm 6, 800, .inl fb)), (a 7, .inl (cm 7, 800, .inl fr)), (a 8, .inl (cm 8, 10240, .inl ff)), (a 9, .inl (cm 9, 10240, .inl fh)), (a 10, .inl (cm 10, 10240, .inr (.inl fa))), (a 11, .inl (cm 11, 10240, .inr (.inl fs))), (a 38, .inl (cm 38, 700, .inl fw))] := hD
    refine lv_aload_n hx hb dX11_does_10 rfl (lv_at hl 0 rfl) ?_
    refine va_get (D := D) (ci := 11) (v := .ref (a 38)) (C := RX11) (T := TX11) (N := 47) hx hb hts hin_X11 hown hK hP 0 rfl rfl 38 (by decide) (hts (.fieldLink RX11 61 "ClashFreeModel" "worked" "[I") (List.mem_of_getElem? (i := 2) rfl)) (fun _ h9 => h9) rfl dX11_does_11 ?_
    refine lv_aload_n hx hb dX11_does_14 rfl (lv_at hl 0 rfl) ?_
    refine va_get (D := D) (ci := 11) (v := .int 0) (C := RX11) (T := TX11) (N := 47) hx hb hts hin_X11 hown hK hP 0 rfl rfl 39 (by decide) (hts (.fieldLink RX11 388 "ClashFreeModel" "workedMany" "I") (List.mem_of_getElem? (i := 1) rfl)) (fun _ h9 => h9) rfl dX11_does_15 ?_
    refine va_iald hx hb hK hP 10 9 rfl rfl (show ¬ ((0 : Int32) < 0 ∨ 700 ≤ Int32.toNatClampNeg 0) by decide) dX11_does_18 ?_
    refine lv_topi (fun v32 ev32 => ?_)
    refine lv_istore_n (lv' := [(3, .int v32), (0, .ref h0), (1, .int (nI k)), (2, .int 1)]) hx hb dX11_does_19 rfl hl (by decide) rfl (fun ls hl => ?_)
    refine lv_iload_n hx hb dX11_does_20 rfl (lv_at hl 0 rfl) ?_
    refine lv_istore (lv' := [(4, .int v32), (3, .int v32), (0, .ref h0), (1, .int (nI k)), (2, .int 1)]) hx hb dX11_does_21 hl (by decide) rfl (fun ls hl => ?_)
    refine lv_iload_n hx hb dX11_does_23 rfl (lv_at hl 4 rfl) ?_
    refine lv_if_ne (tgt := 48) hx hb dX11_does_24 (by decide) (fun hc => ?_) (fun hc => absurd hc (by decide))
    refine lv_iload_n hx hb dX11_does_48 rfl (lv_at hl 4 rfl) ?_
    refine lv_iconst (v := 3) hx hb dX11_does_49 (by decide) ?_
    refine lv_icmp_ne (tgt := 61) hx hb dX11_does_50 (by decide) (fun hc => ?_) (fun hc => absurd hc (by decide))
    refine lv_iload hx hb dX11_does_61 (lv_at hl 0 rfl) ?_
    have hPc := hP.sub (ws' := []) [] rfl
    have hKc := hK.sub (tys' := []) [] rfl
    have hFc := va_free0 hS hA
    refine va_calli (va_runS (As := [.int v32]) (rest := []) ⟨hx, hb, hml, hown, hts⟩ (c_isKey l D _ v32) (va_cwS 1 hts g_c_does_c_isKey_226 rfl rfl rfl (by decide +kernel) ⟨(Nat.le_of_ble_eq_true rfl), (Nat.le_of_ble_eq_true rfl)⟩) (PcR_S hPc hKc) rfl rfl hl.1 rfl (lv_room (Nat.le_of_ble_eq_true rfl)) dX11_does_63 ⟨(Nat.le_of_ble_eq_true rfl), (Nat.le_of_ble_eq_true rfl)⟩) hS (fun q _ h => hFc q h) hFc (fun r33 uu tt H locs htt hvm hw hB hz1 hk1 hS => ?_)
    have hP := va_keep hP hk1
    try dsimp only at hw
    clear hB hz1 hk1 hFc hPc hKc
    rcases hw with ⟨rfl, hA_r33⟩ | ⟨rfl, hA_r33⟩
    ·
      obtain ⟨kx, hkx, rfl⟩ := hA_r33
      obtain ⟨h1, hcn, h4, hn1, hn2, ⟨ka, kb, hka, hkb, h6, h7⟩, hKy, hBk, hHs, ⟨bn, ns, gr, h14, hbn, h15, hs1, hs2, h16, hgr⟩⟩ := id hT
      refine lv_if_ne (tgt := 92) hx hb dX11_does_66 (by decide) (fun hc => ?_) (fun hc => absurd hc (by decide))
      refine lv_iload_n hx hb dX11_does_92 rfl (lv_at hl 4 rfl) ?_
      refine lv_iconst (v := 2) hx hb dX11_does_93 (by decide) ?_
      refine lv_icmp_ne (tgt := 132) hx hb dX11_does_94 (by decide) (fun hc => ?_) (fun hc => absurd hc (by decide))
      refine lv_iload_n hx hb dX11_does_132 rfl (lv_at hl 4 rfl) ?_
      refine lv_iconst (v := 1) hx hb dX11_does_133 (by decide) ?_
      refine lv_icmp_ne (tgt := 168) hx hb dX11_does_134 (by decide) (fun hc => absurd (by decide) hc) (fun hc => ?_)
      refine lv_aload_n hx hb dX11_does_137 rfl (lv_at hl 2 rfl) ?_
      refine lv_dup hx hb dX11_does_138 rfl ?_
      refine va_get (D := D) (ci := 11) (v := .int (i 35)) (C := RX11) (T := TX11) (N := 47) hx hb hts hin_X11 hown hK hP 0 rfl rfl 35 (by decide) (hts (.fieldLink RX11 407 "ClashFreeModel" "refused" "I") (List.mem_of_getElem? (i := 9) rfl)) (fun _ h9 => h9) rfl dX11_does_139 ?_
      refine lv_aload_n hx hb dX11_does_142 rfl (lv_at hl 2 rfl) ?_
      refine lv_iload_n hx hb dX11_does_143 rfl (lv_at hl 3 rfl) ?_
      refine lv_iload hx hb dX11_does_144 (lv_at hl 0 rfl) ?_
      have hPc := hP.sub (ws' := [(h0, .inr (11, gM a (upd i 39 0) g)), (a 3, .inl (cm 3, 85, .inr (.inl fn))), (a 4, .inl (cm 4, 800, .inl fk)), (a 5, .inl (cm 5, 800, .inl fv)), (a 6, .inl (cm 6, 800, .inl fb)), (a 7, .inl (cm 7, 800, .inl fr)), (a 8, .inl (cm 8, 10240, .inl ff)), (a 9, .inl (cm 9, 10240, .inl fh)), (a 10, .inl (cm 10, 10240, .inr (.inl fa))), (a 11, .inl (cm 11, 10240, .inr (.inl fs)))]) [0, 1, 2, 3, 4, 5, 6, 7, 8, 9] rfl
      have hKc := hK.sub (tys' := [(cm 3, .long), (cm 4, .int), (cm 5, .int), (cm 6, .int), (cm 7, .int), (cm 8, .int), (cm 9, .int), (cm 10, .long), (cm 11, .long)]) [0, 1, 2, 3, 4, 5, 6, 7, 8] rfl
      have hDc := hD.sub (ws' := [(h0, .inr (11, gM a (upd i 39 0) g)), (a 3, .inl (cm 3, 85, .inr (.inl fn))), (a 4, .inl (cm 4, 800, .inl fk)), (a 5, .inl (cm 5, 800, .inl fv)), (a 6, .inl (cm 6, 800, .inl fb)), (a 7, .inl (cm 7, 800, .inl fr)), (a 8, .inl (cm 8, 10240, .inl ff)), (a 9, .inl (cm 9, 10240, .inl fh)), (a 10, .inl (cm 10, 10240, .inr (.inl fa))), (a 11, .inl (cm 11, 10240, .inr (.inl fs)))]) [0, 1, 2, 3, 4, 5, 6, 7, 8, 9] (by decide) rfl
      have hFc := va_free (wc := [(h0, .inr (11, gM a (upd i 39 0) g)), (a 3, .inl (cm 3, 85, .inr (.inl fn))), (a 4, .inl (cm 4, 800, .inl fk)), (a 5, .inl (cm 5, 800, .inl fv)), (a 6, .inl (cm 6, 800, .inl fb)), (a 7, .inl (cm 7, 800, .inl fr)), (a 8, .inl (cm 8, 10240, .inl ff)), (a 9, .inl (cm 9, 10240, .inl fh)), (a 10, .inl (cm 10, 10240, .inr (.inl fa))), (a 11, .inl (cm 11, 10240, .inr (.inl fs)))]) hD hS hA [0, 1, 2, 3, 4, 5, 6, 7, 8, 9] rfl
      refine va_calli (va_runV (As := [.int (nI k), .int (nI kx)]) (rest := [.int (i 35), .ref h0]) ⟨hx, hb, hml, hown, hts⟩ (c_drops l D _ h0 a cm (upd i 39 0) g fn fk fv fb fr ff fh fa fs k cn nb K J kx (by first | assumption | omega) hT (by first | assumption | omega) (by first | assumption | omega) (by first | assumption | omega)) (cwV 2 hts g_c_does_c_drops_239 rfl rfl rfl (by decide +kernel) ⟨(Nat.le_of_ble_eq_true rfl), (Nat.le_of_ble_eq_true rfl)⟩) (PcW_V (q0 := 0) hPc hKc hDc rfl rfl) rfl rfl hl.1 rfl (lv_room (Nat.le_of_ble_eq_true rfl)) dX11_does_146 ⟨(Nat.le_of_ble_eq_true rfl), (Nat.le_of_ble_eq_true rfl)⟩) hS (fun q _ h => hFc q h) hFc (fun r34 uu tt H locs htt hvm hw hB hz1 hk1 hS => ?_)
      obtain ⟨w35, w36, w37, w38, w39, w40, w41, w42, w43, w44, w45, w46, w47⟩ := uu
      obtain ⟨hP1, hK1, hD1⟩ := hB
      rw [htt] at hP1
      have hK1 := va_K.moved hvm.symm hK1
      have hP1 : va_P D vwCl [(h0, .inr (11, gM a (upd (upd i 15 w47) 39 0) (vp_updL (vp_updL (vp_updL (fun _ => 0) 12 w44) 13 w45) 14 w46))), (a 3, .inl (cm 3, 85, .inr (.inl w35))), (a 4, .inl (cm 4, 800, .inl w36)), (a 5, .inl (cm 5, 800, .inl w37)), (a 6, .inl (cm 6, 800, .inl w38)), (a 7, .inl (cm 7, 800, .inl w39)), (a 8, .inl (cm 8, 10240, .inl w40)), (a 9, .inl (cm 9, 10240, .inl w41)), (a 10, .inl (cm 10, 10240, .inr (.inl w42))), (a 11, .inl (cm 11, 10240, .inr (.inl w43)))] H := hP1
      obtain ⟨hP, hD⟩ := va_join (wr := [(a 38, .inl (cm 38, 700, .inl fw))]) (w1 := [(h0, .inr (11, gM a (upd (upd i 15 w47) 39 0) (vp_updL (vp_updL (vp_updL (fun _ => 0) 12 w44) 13 w45) 14 w46))), (a 3, .inl (cm 3, 85, .inr (.inl w35))), (a 4, .inl (cm 4, 800, .inl w36)), (a 5, .inl (cm 5, 800, .inl w37)), (a 6, .inl (cm 6, 800, .inl w38)), (a 7, .inl (cm 7, 800, .inl w39)), (a 8, .inl (cm 8, 10240, .inl w40)), (a 9, .inl (cm 9, 10240, .inl w41)), (a 10, .inl (cm 10, 10240, .inr (.inl w42))), (a 11, .inl (cm 11, 10240, .inr (.inl w43)))]) hP hD [0, 1, 2, 3, 4, 5, 6, 7, 8, 9] [10] rfl rfl (by decide) (by decide) hk1 hFc hP1 hD1
      have hP : va_P D vwCl [(a 38, .inl (cm 38, 700, .inl fw)), (h0, .inr (11, gM a (upd (upd i 15 w47) 39 0) (vp_updL (vp_updL (vp_updL (fun _ => 0) 12 w44) 13 w45) 14 w46))), (a 3, .inl (cm 3, 85, .inr (.inl w35))), (a 4, .inl (cm 4, 800, .inl w36)), (a 5, .inl (cm 5, 800, .inl w37)), (a 6, .inl (cm 6, 800, .inl w38)), (a 7, .inl (cm 7, 800, .inl w39)), (a 8, .inl (cm 8, 10240, .inl w40)), (a 9, .inl (cm 9, 10240, .inl w41)), (a 10, .inl (cm 10, 10240, .inr (.inl w42))), (a 11, .inl (cm 11, 10240, .inr (.inl w43)))] H := hP
      have hD : va_D A [(a 38, .inl (cm 38, 700, .inl fw)), (h0, .inr (11, gM a (upd (upd i 15 w47) 39 0) (vp_updL (vp_updL (vp_updL (fun _ => 0) 12 w44) 13 w45) 14 w46))), (a 3, .inl (cm 3, 85, .inr (.inl w35))), (a 4, .inl (cm 4, 800, .inl w36)), (a 5, .inl (cm 5, 800, .inl w37)), (a 6, .inl (cm 6, 800, .inl w38)), (a 7, .inl (cm 7, 800, .inl w39)), (a 8, .inl (cm 8, 10240, .inl w40)), (a 9, .inl (cm 9, 10240, .inl w41)), (a 10, .inl (cm 10, 10240, .inr (.inl w42))), (a 11, .inl (cm 11, 10240, .inr (.inl w43)))] := hD
      try dsimp only at hw
      clear hz1 hk1 hFc hPc hKc hDc
      obtain ⟨⟨hk_48_c, hk_48_n, hk_48_K, hk_48_J, hk_48_T, hk_48_le, hk_48_hit⟩, hk_48_a, hk_48_s, hk_48_r, hk_48_0, hk_48_4, hk_48_6, hk_48_8, hk_48_9, hk_48_L, hk_48_q⟩ := hw
      refine lv_iconst (v := (-1)) hx hb dX11_does_149 (by decide) ?_
      refine lv_icmp_ne (tgt := 157) hx hb dX11_does_150 (by decide) (fun hc49 => ?_) (fun hc49 => ?_)
      ·
        refine lv_iconst (v := 0) hx hb dX11_does_157 (by decide) ?_
        have hPc := hP.sub (ws' := []) [] rfl
        have hKc := hK.sub (tys' := []) [] rfl
        have hFc := va_free0 hS hA
        refine va_calli (va_runS (As := [.int 0]) (rest := [.int (i 35), .ref h0]) ⟨hx, hb, hml, hown, hts⟩ (c_flag l D _ 0) (va_cwS 1 hts g_c_does_c_flag_198 rfl rfl rfl (by decide +kernel) ⟨(Nat.le_of_ble_eq_true rfl), (Nat.le_of_ble_eq_true rfl)⟩) (PcR_S hPc hKc) rfl rfl hl.1 rfl (lv_room (Nat.le_of_ble_eq_true rfl)) dX11_does_158 ⟨(Nat.le_of_ble_eq_true rfl), (Nat.le_of_ble_eq_true rfl)⟩) hS (fun q _ h => hFc q h) hFc (fun r50 uu tt H locs htt hvm hw hB hz1 hk1 hS => ?_)
        have hP := va_keep hP hk1
        try dsimp only at hw
        clear hB hz1 hk1 hFc hPc hKc
        obtain rfl : r50 = 0 := hw.trans (by decide)
        refine lv_iadd hx hb dX11_does_161 ?_
        refine lv_topi (fun v51 ev51 => ?_)
        refine va_put (D := D) (ci := 11) (v := .int v51) (ty := .int) (C := RX11) (T := TX11) (N := 47) hx hb hts hin_X11 tyX11 tyX11_ok nmX11 hown hK hP hD hS 1 rfl rfl 35 (by decide) (hts (.fieldLink RX11 407 "ClashFreeModel" "refused" "I") (List.mem_of_getElem? (i := 9) rfl)) (fun _ h9 => h9) rfl (by decide +kernel) rfl rfl (Nat.le_of_ble_eq_true rfl) dX11_does_162 (fun H locs hP hD hS => ?_)
        have hP : va_P D vwCl [(a 38, .inl (cm 38, 700, .inl fw)), (h0, .inr (11, gM a (upd (upd (upd i 15 w47) 35 v51) 39 0) (vp_updL (vp_updL (vp_updL (fun _ => 0) 12 w44) 13 w45) 14 w46))), (a 3, .inl (cm 3, 85, .inr (.inl w35))), (a 4, .inl (cm 4, 800, .inl w36)), (a 5, .inl (cm 5, 800, .inl w37)), (a 6, .inl (cm 6, 800, .inl w38)), (a 7, .inl (cm 7, 800, .inl w39)), (a 8, .inl (cm 8, 10240, .inl w40)), (a 9, .inl (cm 9, 10240, .inl w41)), (a 10, .inl (cm 10, 10240, .inr (.inl w42))), (a 11, .inl (cm 11, 10240, .inr (.inl w43)))] H := hP
        have hD : va_D A [(a 38, .inl (cm 38, 700, .inl fw)), (h0, .inr (11, gM a (upd (upd (upd i 15 w47) 35 v51) 39 0) (vp_updL (vp_updL (vp_updL (fun _ => 0) 12 w44) 13 w45) 14 w46))), (a 3, .inl (cm 3, 85, .inr (.inl w35))), (a 4, .inl (cm 4, 800, .inl w36)), (a 5, .inl (cm 5, 800, .inl w37)), (a 6, .inl (cm 6, 800, .inl w38)), (a 7, .inl (cm 7, 800, .inl w39)), (a 8, .inl (cm 8, 10240, .inl w40)), (a 9, .inl (cm 9, 10240, .inl w41)), (a 10, .inl (cm 10, 10240, .inr (.inl w42))), (a 11, .inl (cm 11, 10240, .inr (.inl w43)))] := hD
        refine lv_goto (tgt := 223) hx hb dX11_does_165 (by decide) ?_
        have hA : dsF 1 fw (i 36) ((lsR fn fk fv) k) = (i 36, dropL ((lsR fn fk fv) k) kx) := (congrArg (fun a => actF 5 a 0 (i 36) ((lsR fn fk fv) k)) ev32.symm).trans (act_drop hkx rfl)
        exact W.vret hx hb hr (fun t ht hW => ⟨⟨(w35, w36, w37, w38, w39, w40, w41, w42, w43, w44, w45, w46, w47, v51, (i 36), 0), rfl, (by (try dsimp only); exact ⟨rfl, ⟨hM.upd (k := k) hk_48_a hk_48_s hk_48_r hk_48_4 hk_48_6 hk_48_8 hk_48_9 (fun _ => ⟨_, _, _, _, hk_48_T⟩), SameT.of (k := k) hk_48_r hk_48_0⟩, hk_48_0.trans hth, (congrArg Prod.fst hA).symm, (hk_48_L).trans (congrArg (updS (lsR fn fk fv) k) (congrArg Prod.snd hA).symm)⟩), by rw [ht]; exact hP.sub [1, 2, 3, 4, 5, 6, 7, 8, 9, 10, 0] rfl, va_K.moved hW.alike (hK.sub [0, 1, 2, 3, 4, 5, 6, 7, 8, 9] rfl), hD.sub [1, 2, 3, 4, 5, 6, 7, 8, 9, 10, 0] (by decide) rfl⟩, hS.F ht⟩) hS.2.2 dX11_does_223
      ·
        refine lv_iconst (v := 1) hx hb dX11_does_153 (by decide) ?_
        refine lv_goto (tgt := 158) hx hb dX11_does_154 (by decide) ?_
        have hPc := hP.sub (ws' := []) [] rfl
        have hKc := hK.sub (tys' := []) [] rfl
        have hFc := va_free0 hS hA
        refine va_calli (va_runS (As := [.int 1]) (rest := [.int (i 35), .ref h0]) ⟨hx, hb, hml, hown, hts⟩ (c_flag l D _ 1) (va_cwS 1 hts g_c_does_c_flag_198 rfl rfl rfl (by decide +kernel) ⟨(Nat.le_of_ble_eq_true rfl), (Nat.le_of_ble_eq_true rfl)⟩) (PcR_S hPc hKc) rfl rfl hl.1 rfl (lv_room (Nat.le_of_ble_eq_true rfl)) dX11_does_158 ⟨(Nat.le_of_ble_eq_true rfl), (Nat.le_of_ble_eq_true rfl)⟩) hS (fun q _ h => hFc q h) hFc (fun r52 uu tt H locs htt hvm hw hB hz1 hk1 hS => ?_)
        have hP := va_keep hP hk1
        try dsimp only at hw
        clear hB hz1 hk1 hFc hPc hKc
        obtain rfl : r52 = 1 := hw.trans (by decide)
        refine lv_iadd hx hb dX11_does_161 ?_
        refine lv_topi (fun v53 ev53 => ?_)
        refine va_put (D := D) (ci := 11) (v := .int v53) (ty := .int) (C := RX11) (T := TX11) (N := 47) hx hb hts hin_X11 tyX11 tyX11_ok nmX11 hown hK hP hD hS 1 rfl rfl 35 (by decide) (hts (.fieldLink RX11 407 "ClashFreeModel" "refused" "I") (List.mem_of_getElem? (i := 9) rfl)) (fun _ h9 => h9) rfl (by decide +kernel) rfl rfl (Nat.le_of_ble_eq_true rfl) dX11_does_162 (fun H locs hP hD hS => ?_)
        have hP : va_P D vwCl [(a 38, .inl (cm 38, 700, .inl fw)), (h0, .inr (11, gM a (upd (upd (upd i 15 w47) 35 v53) 39 0) (vp_updL (vp_updL (vp_updL (fun _ => 0) 12 w44) 13 w45) 14 w46))), (a 3, .inl (cm 3, 85, .inr (.inl w35))), (a 4, .inl (cm 4, 800, .inl w36)), (a 5, .inl (cm 5, 800, .inl w37)), (a 6, .inl (cm 6, 800, .inl w38)), (a 7, .inl (cm 7, 800, .inl w39)), (a 8, .inl (cm 8, 10240, .inl w40)), (a 9, .inl (cm 9, 10240, .inl w41)), (a 10, .inl (cm 10, 10240, .inr (.inl w42))), (a 11, .inl (cm 11, 10240, .inr (.inl w43)))] H := hP
        have hD : va_D A [(a 38, .inl (cm 38, 700, .inl fw)), (h0, .inr (11, gM a (upd (upd (upd i 15 w47) 35 v53) 39 0) (vp_updL (vp_updL (vp_updL (fun _ => 0) 12 w44) 13 w45) 14 w46))), (a 3, .inl (cm 3, 85, .inr (.inl w35))), (a 4, .inl (cm 4, 800, .inl w36)), (a 5, .inl (cm 5, 800, .inl w37)), (a 6, .inl (cm 6, 800, .inl w38)), (a 7, .inl (cm 7, 800, .inl w39)), (a 8, .inl (cm 8, 10240, .inl w40)), (a 9, .inl (cm 9, 10240, .inl w41)), (a 10, .inl (cm 10, 10240, .inr (.inl w42))), (a 11, .inl (cm 11, 10240, .inr (.inl w43)))] := hD
        refine lv_goto (tgt := 223) hx hb dX11_does_165 (by decide) ?_
        have hA : dsF 1 fw (i 36) ((lsR fn fk fv) k) = (i 36, dropL ((lsR fn fk fv) k) kx) := (congrArg (fun a => actF 5 a 0 (i 36) ((lsR fn fk fv) k)) ev32.symm).trans (act_drop hkx rfl)
        exact W.vret hx hb hr (fun t ht hW => ⟨⟨(w35, w36, w37, w38, w39, w40, w41, w42, w43, w44, w45, w46, w47, v53, (i 36), 0), rfl, (by (try dsimp only); exact ⟨rfl, ⟨hM.upd (k := k) hk_48_a hk_48_s hk_48_r hk_48_4 hk_48_6 hk_48_8 hk_48_9 (fun _ => ⟨_, _, _, _, hk_48_T⟩), SameT.of (k := k) hk_48_r hk_48_0⟩, hk_48_0.trans hth, (congrArg Prod.fst hA).symm, (hk_48_L).trans (congrArg (updS (lsR fn fk fv) k) (congrArg Prod.snd hA).symm)⟩), by rw [ht]; exact hP.sub [1, 2, 3, 4, 5, 6, 7, 8, 9, 10, 0] rfl, va_K.moved hW.alike (hK.sub [0, 1, 2, 3, 4, 5, 6, 7, 8, 9] rfl), hD.sub [1, 2, 3, 4, 5, 6, 7, 8, 9, 10, 0] (by decide) rfl⟩, hS.F ht⟩) hS.2.2 dX11_does_223
    ·
      refine lv_if_ne (tgt := 92) hx hb dX11_does_66 (by decide) (fun hc => absurd (by decide) hc) (fun hc => ?_)
      refine lv_aload_n hx hb dX11_does_69 rfl (lv_at hl 2 rfl) ?_
      refine lv_dup hx hb dX11_does_70 rfl ?_
      refine va_get (D := D) (ci := 11) (v := .int (i 35)) (C := RX11) (T := TX11) (N := 47) hx hb hts hin_X11 hown hK hP 0 rfl rfl 35 (by decide) (hts (.fieldLink RX11 407 "ClashFreeModel" "refused" "I") (List.mem_of_getElem? (i := 9) rfl)) (fun _ h9 => h9) rfl dX11_does_71 ?_
      refine lv_iconst (v := 1) hx hb dX11_does_74 (by decide) ?_
      refine lv_iadd hx hb dX11_does_75 ?_
      refine lv_topi (fun v54 ev54 => ?_)
      refine va_put (D := D) (ci := 11) (v := .int v54) (ty := .int) (C := RX11) (T := TX11) (N := 47) hx hb hts hin_X11 tyX11 tyX11_ok nmX11 hown hK hP hD hS 0 rfl rfl 35 (by decide) (hts (.fieldLink RX11 407 "ClashFreeModel" "refused" "I") (List.mem_of_getElem? (i := 9) rfl)) (fun _ h9 => h9) rfl (by decide +kernel) rfl rfl (Nat.le_of_ble_eq_true rfl) dX11_does_76 (fun H locs hP hD hS => ?_)
      have hP : va_P D vwCl [(h0, .inr (11, gM a (upd (upd i 35 v54) 39 0) g)), (a 3, .inl (cm 3, 85, .inr (.inl fn))), (a 4, .inl (cm 4, 800, .inl fk)), (a 5, .inl (cm 5, 800, .inl fv)), (a 6, .inl (cm 6, 800, .inl fb)), (a 7, .inl (cm 7, 800, .inl fr)), (a 8, .inl (cm 8, 10240, .inl ff)), (a 9, .inl (cm 9, 10240, .inl fh)), (a 10, .inl (cm 10, 10240, .inr (.inl fa))), (a 11, .inl (cm 11, 10240, .inr (.inl fs))), (a 38, .inl (cm 38, 700, .inl fw))] H := hP
      have hD : va_D A [(h0, .inr (11, gM a (upd (upd i 35 v54) 39 0) g)), (a 3, .inl (cm 3, 85, .inr (.inl fn))), (a 4, .inl (cm 4, 800, .inl fk)), (a 5, .inl (cm 5, 800, .inl fv)), (a 6, .inl (cm 6, 800, .inl fb)), (a 7, .inl (cm 7, 800, .inl fr)), (a 8, .inl (cm 8, 10240, .inl ff)), (a 9, .inl (cm 9, 10240, .inl fh)), (a 10, .inl (cm 10, 10240, .inr (.inl fa))), (a 11, .inl (cm 11, 10240, .inr (.inl fs))), (a 38, .inl (cm 38, 700, .inl fw))] := hD
      refine lv_iload_n hx hb dX11_does_79 rfl (lv_at hl 4 rfl) ?_
      refine lv_iconst (v := 2) hx hb dX11_does_80 (by decide) ?_
      refine lv_icmp_ne (tgt := 223) hx hb dX11_does_81 (by decide) (fun hc => ?_) (fun hc => absurd hc (by decide))
      have hA : dsF 1 fw (i 36) ((lsR fn fk fv) k) = (i 36, (lsR fn fk fv) k) := (congrArg (fun a => actF 5 a 0 (i 36) ((lsR fn fk fv) k)) ev32.symm).trans (act_nk (Or.inr rfl) hA_r33 rfl)
      exact W.vret hx hb hr (fun t ht hW => ⟨⟨(fn, fk, fv, fb, fr, ff, fh, fa, fs, (g 12), (g 13), (g 14), (i 15), v54, (i 36), 0), rfl, (by (try dsimp only); exact ⟨rfl, ⟨hM, SameT.rfl⟩, hth, (congrArg Prod.fst hA).symm, ((updS_id _ _).symm).trans (congrArg (updS (lsR fn fk fv) k) (congrArg Prod.snd hA).symm)⟩), by rw [ht]; exact hP.sub [0, 1, 2, 3, 4, 5, 6, 7, 8, 9, 10] rfl, va_K.moved hW.alike (hK.sub [0, 1, 2, 3, 4, 5, 6, 7, 8, 9] rfl), hD.sub [0, 1, 2, 3, 4, 5, 6, 7, 8, 9, 10] (by decide) rfl⟩, hS.F ht⟩) hS.2.2 dX11_does_223
  ·
    obtain rfl : hn = 1 := by omega
    have hl : lv_has ls 6 [(0, .ref h0), (1, .int (nI k)), (2, .int 2)] := hl
    refine lv_aload_n hx hb dX11_does_0 rfl (lv_at hl 0 rfl) ?_
    refine lv_dup hx hb dX11_does_1 rfl ?_
    refine va_get (D := D) (ci := 11) (v := .int (i 39)) (C := RX11) (T := TX11) (N := 47) hx hb hts hin_X11 hown hK hP 0 rfl rfl 39 (by decide) (hts (.fieldLink RX11 388 "ClashFreeModel" "workedMany" "I") (List.mem_of_getElem? (i := 1) rfl)) (fun _ h9 => h9) rfl dX11_does_2 ?_
    refine lv_topi (fun v55 ev55 => ?_)
    obtain rfl : v55 = 1 := ev55.trans (hwm)
    refine lv_iconst (v := 1) hx hb dX11_does_5 (by decide) ?_
    refine lv_isub hx hb dX11_does_6 ?_
    refine lv_topi (fun v56 ev56 => ?_)
    obtain rfl : v56 = 0 := ev56.trans (by decide)
    refine va_put (D := D) (ci := 11) (v := .int 0) (ty := .int) (C := RX11) (T := TX11) (N := 47) hx hb hts hin_X11 tyX11 tyX11_ok nmX11 hown hK hP hD hS 0 rfl rfl 39 (by decide) (hts (.fieldLink RX11 388 "ClashFreeModel" "workedMany" "I") (List.mem_of_getElem? (i := 1) rfl)) (fun _ h9 => h9) rfl (by decide +kernel) rfl rfl (Nat.le_of_ble_eq_true rfl) dX11_does_7 (fun H locs hP hD hS => ?_)
    have hP : va_P D vwCl [(h0, .inr (11, gM a (upd i 39 0) g)), (a 3, .inl (cm 3, 85, .inr (.inl fn))), (a 4, .inl (cm 4, 800, .inl fk)), (a 5, .inl (cm 5, 800, .inl fv)), (a 6, .inl (cm 6, 800, .inl fb)), (a 7, .inl (cm 7, 800, .inl fr)), (a 8, .inl (cm 8, 10240, .inl ff)), (a 9, .inl (cm 9, 10240, .inl fh)), (a 10, .inl (cm 10, 10240, .inr (.inl fa))), (a 11, .inl (cm 11, 10240, .inr (.inl fs))), (a 38, .inl (cm 38, 700, .inl fw))] H := hP
    have hD : va_D A [(h0, .inr (11, gM a (upd i 39 0) g)), (a 3, .inl (cm 3, 85, .inr (.inl fn))), (a 4, .inl (cm 4, 800, .inl fk)), (a 5, .inl (cm 5, 800, .inl fv)), (a 6, .inl (cm 6, 800, .inl fb)), (a 7, .inl (cm 7, 800, .inl fr)), (a 8, .inl (cm 8, 10240, .inl ff)), (a 9, .inl (cm 9, 10240, .inl fh)), (a 10, .inl (cm 10, 10240, .inr (.inl fa))), (a 11, .inl (cm 11, 10240, .inr (.inl fs))), (a 38, .inl (cm 38, 700, .inl fw))] := hD
    refine lv_aload_n hx hb dX11_does_10 rfl (lv_at hl 0 rfl) ?_
    refine va_get (D := D) (ci := 11) (v := .ref (a 38)) (C := RX11) (T := TX11) (N := 47) hx hb hts hin_X11 hown hK hP 0 rfl rfl 38 (by decide) (hts (.fieldLink RX11 61 "ClashFreeModel" "worked" "[I") (List.mem_of_getElem? (i := 2) rfl)) (fun _ h9 => h9) rfl dX11_does_11 ?_
    refine lv_aload_n hx hb dX11_does_14 rfl (lv_at hl 0 rfl) ?_
    refine va_get (D := D) (ci := 11) (v := .int 0) (C := RX11) (T := TX11) (N := 47) hx hb hts hin_X11 hown hK hP 0 rfl rfl 39 (by decide) (hts (.fieldLink RX11 388 "ClashFreeModel" "workedMany" "I") (List.mem_of_getElem? (i := 1) rfl)) (fun _ h9 => h9) rfl dX11_does_15 ?_
    refine va_iald hx hb hK hP 10 9 rfl rfl (show ¬ ((0 : Int32) < 0 ∨ 700 ≤ Int32.toNatClampNeg 0) by decide) dX11_does_18 ?_
    refine lv_topi (fun v57 ev57 => ?_)
    refine lv_istore_n (lv' := [(3, .int v57), (0, .ref h0), (1, .int (nI k)), (2, .int 2)]) hx hb dX11_does_19 rfl hl (by decide) rfl (fun ls hl => ?_)
    refine lv_iload_n hx hb dX11_does_20 rfl (lv_at hl 0 rfl) ?_
    refine lv_istore (lv' := [(4, .int v57), (3, .int v57), (0, .ref h0), (1, .int (nI k)), (2, .int 2)]) hx hb dX11_does_21 hl (by decide) rfl (fun ls hl => ?_)
    refine lv_iload_n hx hb dX11_does_23 rfl (lv_at hl 4 rfl) ?_
    refine lv_if_ne (tgt := 48) hx hb dX11_does_24 (by decide) (fun hc => ?_) (fun hc => absurd hc (by decide))
    refine lv_iload_n hx hb dX11_does_48 rfl (lv_at hl 4 rfl) ?_
    refine lv_iconst (v := 3) hx hb dX11_does_49 (by decide) ?_
    refine lv_icmp_ne (tgt := 61) hx hb dX11_does_50 (by decide) (fun hc => ?_) (fun hc => absurd hc (by decide))
    refine lv_iload hx hb dX11_does_61 (lv_at hl 0 rfl) ?_
    have hPc := hP.sub (ws' := []) [] rfl
    have hKc := hK.sub (tys' := []) [] rfl
    have hFc := va_free0 hS hA
    refine va_calli (va_runS (As := [.int v57]) (rest := []) ⟨hx, hb, hml, hown, hts⟩ (c_isKey l D _ v57) (va_cwS 1 hts g_c_does_c_isKey_226 rfl rfl rfl (by decide +kernel) ⟨(Nat.le_of_ble_eq_true rfl), (Nat.le_of_ble_eq_true rfl)⟩) (PcR_S hPc hKc) rfl rfl hl.1 rfl (lv_room (Nat.le_of_ble_eq_true rfl)) dX11_does_63 ⟨(Nat.le_of_ble_eq_true rfl), (Nat.le_of_ble_eq_true rfl)⟩) hS (fun q _ h => hFc q h) hFc (fun r58 uu tt H locs htt hvm hw hB hz1 hk1 hS => ?_)
    have hP := va_keep hP hk1
    try dsimp only at hw
    clear hB hz1 hk1 hFc hPc hKc
    rcases hw with ⟨rfl, hA_r58⟩ | ⟨rfl, hA_r58⟩
    ·
      obtain ⟨kx, hkx, rfl⟩ := hA_r58
      obtain ⟨h1, hcn, h4, hn1, hn2, ⟨ka, kb, hka, hkb, h6, h7⟩, hKy, hBk, hHs, ⟨bn, ns, gr, h14, hbn, h15, hs1, hs2, h16, hgr⟩⟩ := id hT
      refine lv_if_ne (tgt := 92) hx hb dX11_does_66 (by decide) (fun hc => ?_) (fun hc => absurd hc (by decide))
      refine lv_iload_n hx hb dX11_does_92 rfl (lv_at hl 4 rfl) ?_
      refine lv_iconst (v := 2) hx hb dX11_does_93 (by decide) ?_
      refine lv_icmp_ne (tgt := 132) hx hb dX11_does_94 (by decide) (fun hc => absurd (by decide) hc) (fun hc => ?_)
      refine lv_aload_n hx hb dX11_does_97 rfl (lv_at hl 2 rfl) ?_
      refine lv_iload_n hx hb dX11_does_98 rfl (lv_at hl 3 rfl) ?_
      refine lv_iload hx hb dX11_does_99 (lv_at hl 0 rfl) ?_
      have hPc := hP.sub (ws' := [(h0, .inr (11, gM a (upd i 39 0) g)), (a 3, .inl (cm 3, 85, .inr (.inl fn))), (a 4, .inl (cm 4, 800, .inl fk)), (a 6, .inl (cm 6, 800, .inl fb)), (a 8, .inl (cm 8, 10240, .inl ff)), (a 9, .inl (cm 9, 10240, .inl fh))]) [0, 1, 2, 4, 6, 7] rfl
      have hKc := hK.sub (tys' := [(cm 3, .long), (cm 4, .int), (cm 6, .int), (cm 8, .int), (cm 9, .int)]) [0, 1, 3, 5, 6] rfl
      have hDc := hD.sub (ws' := [(h0, .inr (11, gM a (upd i 39 0) g)), (a 3, .inl (cm 3, 85, .inr (.inl fn))), (a 4, .inl (cm 4, 800, .inl fk)), (a 6, .inl (cm 6, 800, .inl fb)), (a 8, .inl (cm 8, 10240, .inl ff)), (a 9, .inl (cm 9, 10240, .inl fh))]) [0, 1, 2, 4, 6, 7] (by decide) rfl
      have hFc := va_free (wc := [(h0, .inr (11, gM a (upd i 39 0) g)), (a 3, .inl (cm 3, 85, .inr (.inl fn))), (a 4, .inl (cm 4, 800, .inl fk)), (a 6, .inl (cm 6, 800, .inl fb)), (a 8, .inl (cm 8, 10240, .inl ff)), (a 9, .inl (cm 9, 10240, .inl fh))]) hD hS hA [0, 1, 2, 4, 6, 7] rfl
      refine va_callv (va_runV (As := [.int (nI k), .int (nI kx)]) (rest := []) ⟨hx, hb, hml, hown, hts⟩ (c_readsFor l D _ h0 a cm (upd i 39 0) g fn fk fb ff fh k cn nb K J kx (by first | assumption | omega) hT (by first | assumption | omega)) (cwV 2 hts g_c_does_c_readsFor_215 rfl rfl rfl (by decide +kernel) ⟨(Nat.le_of_ble_eq_true rfl), (Nat.le_of_ble_eq_true rfl)⟩) (PcW_V (q0 := 0) hPc hKc hDc rfl rfl) rfl rfl hl.1 rfl (lv_room (Nat.le_of_ble_eq_true rfl)) dX11_does_101 ⟨(Nat.le_of_ble_eq_true rfl), (Nat.le_of_ble_eq_true rfl)⟩) hS (fun q _ h => hFc q h) hFc (fun uu tt H locs htt hvm hw hB hz1 hk1 hS => ?_)
      obtain ⟨w60, rfl⟩ : ∃ z, z = uu := ⟨_, rfl⟩
      obtain ⟨hP1, hK1, hD1⟩ := hB
      rw [htt] at hP1
      have hK1 := va_K.moved hvm.symm hK1
      have hP1 : va_P D vwCl [(h0, .inr (11, gM a (upd i 39 0) g)), (a 3, .inl (cm 3, 85, .inr (.inl w60))), (a 4, .inl (cm 4, 800, .inl fk)), (a 6, .inl (cm 6, 800, .inl fb)), (a 8, .inl (cm 8, 10240, .inl ff)), (a 9, .inl (cm 9, 10240, .inl fh))] H := hP1
      obtain ⟨hP, hD⟩ := va_join (wr := [(a 5, .inl (cm 5, 800, .inl fv)), (a 7, .inl (cm 7, 800, .inl fr)), (a 10, .inl (cm 10, 10240, .inr (.inl fa))), (a 11, .inl (cm 11, 10240, .inr (.inl fs))), (a 38, .inl (cm 38, 700, .inl fw))]) (w1 := [(h0, .inr (11, gM a (upd i 39 0) g)), (a 3, .inl (cm 3, 85, .inr (.inl w60))), (a 4, .inl (cm 4, 800, .inl fk)), (a 6, .inl (cm 6, 800, .inl fb)), (a 8, .inl (cm 8, 10240, .inl ff)), (a 9, .inl (cm 9, 10240, .inl fh))]) hP hD [0, 1, 2, 4, 6, 7] [3, 5, 8, 9, 10] rfl rfl (by decide) (by decide) hk1 hFc hP1 hD1
      have hP : va_P D vwCl [(a 5, .inl (cm 5, 800, .inl fv)), (a 7, .inl (cm 7, 800, .inl fr)), (a 10, .inl (cm 10, 10240, .inr (.inl fa))), (a 11, .inl (cm 11, 10240, .inr (.inl fs))), (a 38, .inl (cm 38, 700, .inl fw)), (h0, .inr (11, gM a (upd i 39 0) g)), (a 3, .inl (cm 3, 85, .inr (.inl w60))), (a 4, .inl (cm 4, 800, .inl fk)), (a 6, .inl (cm 6, 800, .inl fb)), (a 8, .inl (cm 8, 10240, .inl ff)), (a 9, .inl (cm 9, 10240, .inl fh))] H := hP
      have hD : va_D A [(a 5, .inl (cm 5, 800, .inl fv)), (a 7, .inl (cm 7, 800, .inl fr)), (a 10, .inl (cm 10, 10240, .inr (.inl fa))), (a 11, .inl (cm 11, 10240, .inr (.inl fs))), (a 38, .inl (cm 38, 700, .inl fw)), (h0, .inr (11, gM a (upd i 39 0) g)), (a 3, .inl (cm 3, 85, .inr (.inl w60))), (a 4, .inl (cm 4, 800, .inl fk)), (a 6, .inl (cm 6, 800, .inl fb)), (a 8, .inl (cm 8, 10240, .inl ff)), (a 9, .inl (cm 9, 10240, .inl fh))] := hD
      try dsimp only at hw
      clear hz1 hk1 hFc hPc hKc hDc
      have hR61 := hw
      refine lv_aload_n hx hb dX11_does_104 rfl (lv_at hl 2 rfl) ?_
      refine lv_aload_n hx hb dX11_does_105 rfl (lv_at hl 2 rfl) ?_
      refine lv_iload_n hx hb dX11_does_106 rfl (lv_at hl 3 rfl) ?_
      refine lv_iload hx hb dX11_does_107 (lv_at hl 0 rfl) ?_
      have hPc := hP.sub (ws' := [(h0, .inr (11, gM a (upd i 39 0) g)), (a 3, .inl (cm 3, 85, .inr (.inl w60))), (a 4, .inl (cm 4, 800, .inl fk))]) [5, 6, 7] rfl
      have hKc := hK.sub (tys' := [(cm 3, .long), (cm 4, .int)]) [0, 1] rfl
      have hFc := va_free0 hS hA
      refine va_calli (va_runV (As := [.int (nI k), .int (nI kx)]) (rest := [.ref h0]) ⟨hx, hb, hml, hown, hts⟩ (c_hasKey l D _ h0 a cm (upd i 39 0) g w60 fk k cn K kx (by first | assumption | omega) ((hR61 _ (by omega)).trans h1) (by first | assumption | omega) hKy (by first | assumption | omega)) (cwV 2 hts g_c_does_c_hasKey_202 rfl rfl rfl (by decide +kernel) ⟨(Nat.le_of_ble_eq_true rfl), (Nat.le_of_ble_eq_true rfl)⟩) (PcR_V (q0 := 0) hPc hKc rfl rfl) rfl rfl hl.1 rfl (lv_room (Nat.le_of_ble_eq_true rfl)) dX11_does_109 ⟨(Nat.le_of_ble_eq_true rfl), (Nat.le_of_ble_eq_true rfl)⟩) hS (fun q _ h => hFc q h) hFc (fun r62 uu tt H locs htt hvm hw hB hz1 hk1 hS => ?_)
      have hP := va_keep hP hk1
      try dsimp only at hw
      clear hB hz1 hk1 hFc hPc hKc
      rcases hw with ⟨rfl, hA_r62⟩ | ⟨rfl, hA_r62⟩
      ·
        refine lv_if_eq (tgt := 125) hx hb dX11_does_112 (by decide) (fun hc => absurd hc (by decide)) (fun hc => ?_)
        refine lv_aload_n hx hb dX11_does_115 rfl (lv_at hl 2 rfl) ?_
        refine lv_iload_n hx hb dX11_does_116 rfl (lv_at hl 3 rfl) ?_
        refine lv_iload hx hb dX11_does_117 (lv_at hl 0 rfl) ?_
        have hPc := hP.sub (ws' := [(h0, .inr (11, gM a (upd i 39 0) g)), (a 3, .inl (cm 3, 85, .inr (.inl w60))), (a 4, .inl (cm 4, 800, .inl fk)), (a 5, .inl (cm 5, 800, .inl fv))]) [5, 6, 7, 0] rfl
        have hKc := hK.sub (tys' := [(cm 3, .long), (cm 4, .int), (cm 5, .int)]) [0, 1, 2] rfl
        have hFc := va_free0 hS hA
        refine va_calli (va_runV (As := [.int (nI k), .int (nI kx)]) (rest := [.ref h0]) ⟨hx, hb, hml, hown, hts⟩ (c_valueOf l D _ h0 a cm (upd i 39 0) g w60 fk fv k cn K kx (by first | assumption | omega) ((hR61 _ (by omega)).trans h1) (by first | assumption | omega) hKy (by first | assumption | omega)) (cwV 2 hts g_c_does_c_valueOf_277 rfl rfl rfl (by decide +kernel) ⟨(Nat.le_of_ble_eq_true rfl), (Nat.le_of_ble_eq_true rfl)⟩) (PcR_V (q0 := 0) hPc hKc rfl rfl) rfl rfl hl.1 rfl (lv_room (Nat.le_of_ble_eq_true rfl)) dX11_does_119 ⟨(Nat.le_of_ble_eq_true rfl), (Nat.le_of_ble_eq_true rfl)⟩) hS (fun q _ h => hFc q h) hFc (fun r63 uu tt H locs htt hvm hw hB hz1 hk1 hS => ?_)
        have hP := va_keep hP hk1
        try dsimp only at hw
        clear hB hz1 hk1 hFc hPc hKc
        have hvo64 := hw
        refine lv_goto (tgt := 126) hx hb dX11_does_122 (by decide) ?_
        refine va_put (D := D) (ci := 11) (v := .int r63) (ty := .int) (C := RX11) (T := TX11) (N := 47) hx hb hts hin_X11 tyX11 tyX11_ok nmX11 hown hK hP hD hS 5 rfl rfl 36 (by decide) (hts (.fieldLink RX11 394 "ClashFreeModel" "latest" "I") (List.mem_of_getElem? (i := 27) rfl)) (fun _ h9 => h9) rfl (by decide +kernel) rfl rfl (Nat.le_of_ble_eq_true rfl) dX11_does_126 (fun H locs hP hD hS => ?_)
        have hP : va_P D vwCl [(a 5, .inl (cm 5, 800, .inl fv)), (a 7, .inl (cm 7, 800, .inl fr)), (a 10, .inl (cm 10, 10240, .inr (.inl fa))), (a 11, .inl (cm 11, 10240, .inr (.inl fs))), (a 38, .inl (cm 38, 700, .inl fw)), (h0, .inr (11, gM a (upd (upd i 36 r63) 39 0) g)), (a 3, .inl (cm 3, 85, .inr (.inl w60))), (a 4, .inl (cm 4, 800, .inl fk)), (a 6, .inl (cm 6, 800, .inl fb)), (a 8, .inl (cm 8, 10240, .inl ff)), (a 9, .inl (cm 9, 10240, .inl fh))] H := hP
        have hD : va_D A [(a 5, .inl (cm 5, 800, .inl fv)), (a 7, .inl (cm 7, 800, .inl fr)), (a 10, .inl (cm 10, 10240, .inr (.inl fa))), (a 11, .inl (cm 11, 10240, .inr (.inl fs))), (a 38, .inl (cm 38, 700, .inl fw)), (h0, .inr (11, gM a (upd (upd i 36 r63) 39 0) g)), (a 3, .inl (cm 3, 85, .inr (.inl w60))), (a 4, .inl (cm 4, 800, .inl fk)), (a 6, .inl (cm 6, 800, .inl fb)), (a 8, .inl (cm 8, 10240, .inl ff)), (a 9, .inl (cm 9, 10240, .inl fh))] := hD
        refine lv_goto (tgt := 223) hx hb dX11_does_129 (by decide) ?_
        have hA : dsF 2 fw (i 36) ((lsR fn fk fv) k) = (r63, (lsR fn fk fv) k) := (congrArg (fun a => actF 6 a 0 (i 36) ((lsR fn fk fv) k)) ev57.symm).trans ((act_get rfl).trans (by rw [if_pos (isK_KB.mp ⟨kx, hkx, rfl⟩), toK_nI hkx]; exact congrArg (fun q => (q, (lsR fn fk fv) k)) (by obtain ⟨q9, h9, e9⟩ := hA_r62; rw [look_T hk hT fv h9 e9, hvo64 q9 h9 e9]; rfl)))
        exact W.vret hx hb hr (fun t ht hW => ⟨⟨(w60, fk, fv, fb, fr, ff, fh, fa, fs, (g 12), (g 13), (g 14), (i 15), (i 35), r63, 0), rfl, (by (try dsimp only); exact ⟨rfl, ⟨hM.upd (k := k) hfa hfs (fun x e => hR61 x (by omega)) (fun _ _ => rfl) (fun _ _ => rfl) (fun _ _ => rfl) (fun _ _ => rfl) (fun _ => ⟨_, _, _, _, hT.row (hR61 _ (by omega)) (hR61 _ (by omega)) (hR61 _ (by omega)) (hR61 _ (by omega)) (hR61 _ (by omega)) (hR61 _ (by omega)) (hR61 _ (by omega))⟩), fun j hj => hR61 _ (by omega)⟩, (hR61 _ (by omega)).trans hth, (congrArg Prod.fst hA).symm, ((lsR_n (fun j hj => hR61 _ (by omega))).trans (updS_id _ _).symm).trans (congrArg (updS (lsR fn fk fv) k) (congrArg Prod.snd hA).symm)⟩), by rw [ht]; exact hP.sub [5, 6, 7, 0, 8, 1, 9, 10, 2, 3, 4] rfl, va_K.moved hW.alike (hK.sub [0, 1, 2, 3, 4, 5, 6, 7, 8, 9] rfl), hD.sub [5, 6, 7, 0, 8, 1, 9, 10, 2, 3, 4] (by decide) rfl⟩, hS.F ht⟩) hS.2.2 dX11_does_223
      ·
        refine lv_if_eq (tgt := 125) hx hb dX11_does_112 (by decide) (fun hc => ?_) (fun hc => absurd (by decide) hc)
        refine lv_iconst (v := (-1)) hx hb dX11_does_125 (by decide) ?_
        refine va_put (D := D) (ci := 11) (v := .int (-1)) (ty := .int) (C := RX11) (T := TX11) (N := 47) hx hb hts hin_X11 tyX11 tyX11_ok nmX11 hown hK hP hD hS 5 rfl rfl 36 (by decide) (hts (.fieldLink RX11 394 "ClashFreeModel" "latest" "I") (List.mem_of_getElem? (i := 27) rfl)) (fun _ h9 => h9) rfl (by decide +kernel) rfl rfl (Nat.le_of_ble_eq_true rfl) dX11_does_126 (fun H locs hP hD hS => ?_)
        have hP : va_P D vwCl [(a 5, .inl (cm 5, 800, .inl fv)), (a 7, .inl (cm 7, 800, .inl fr)), (a 10, .inl (cm 10, 10240, .inr (.inl fa))), (a 11, .inl (cm 11, 10240, .inr (.inl fs))), (a 38, .inl (cm 38, 700, .inl fw)), (h0, .inr (11, gM a (upd (upd i 36 (-1)) 39 0) g)), (a 3, .inl (cm 3, 85, .inr (.inl w60))), (a 4, .inl (cm 4, 800, .inl fk)), (a 6, .inl (cm 6, 800, .inl fb)), (a 8, .inl (cm 8, 10240, .inl ff)), (a 9, .inl (cm 9, 10240, .inl fh))] H := hP
        have hD : va_D A [(a 5, .inl (cm 5, 800, .inl fv)), (a 7, .inl (cm 7, 800, .inl fr)), (a 10, .inl (cm 10, 10240, .inr (.inl fa))), (a 11, .inl (cm 11, 10240, .inr (.inl fs))), (a 38, .inl (cm 38, 700, .inl fw)), (h0, .inr (11, gM a (upd (upd i 36 (-1)) 39 0) g)), (a 3, .inl (cm 3, 85, .inr (.inl w60))), (a 4, .inl (cm 4, 800, .inl fk)), (a 6, .inl (cm 6, 800, .inl fb)), (a 8, .inl (cm 8, 10240, .inl ff)), (a 9, .inl (cm 9, 10240, .inl fh))] := hD
        refine lv_goto (tgt := 223) hx hb dX11_does_129 (by decide) ?_
        have hA : dsF 2 fw (i 36) ((lsR fn fk fv) k) = ((-1), (lsR fn fk fv) k) := (congrArg (fun a => actF 6 a 0 (i 36) ((lsR fn fk fv) k)) ev57.symm).trans ((act_get rfl).trans (by rw [if_pos (isK_KB.mp ⟨kx, hkx, rfl⟩), toK_nI hkx]; exact congrArg (fun q => (q, (lsR fn fk fv) k)) (by rw [nook_T hk hT fv hA_r62]; rfl)))
        exact W.vret hx hb hr (fun t ht hW => ⟨⟨(w60, fk, fv, fb, fr, ff, fh, fa, fs, (g 12), (g 13), (g 14), (i 15), (i 35), (-1), 0), rfl, (by (try dsimp only); exact ⟨rfl, ⟨hM.upd (k := k) hfa hfs (fun x e => hR61 x (by omega)) (fun _ _ => rfl) (fun _ _ => rfl) (fun _ _ => rfl) (fun _ _ => rfl) (fun _ => ⟨_, _, _, _, hT.row (hR61 _ (by omega)) (hR61 _ (by omega)) (hR61 _ (by omega)) (hR61 _ (by omega)) (hR61 _ (by omega)) (hR61 _ (by omega)) (hR61 _ (by omega))⟩), fun j hj => hR61 _ (by omega)⟩, (hR61 _ (by omega)).trans hth, (congrArg Prod.fst hA).symm, ((lsR_n (fun j hj => hR61 _ (by omega))).trans (updS_id _ _).symm).trans (congrArg (updS (lsR fn fk fv) k) (congrArg Prod.snd hA).symm)⟩), by rw [ht]; exact hP.sub [5, 6, 7, 0, 8, 1, 9, 10, 2, 3, 4] rfl, va_K.moved hW.alike (hK.sub [0, 1, 2, 3, 4, 5, 6, 7, 8, 9] rfl), hD.sub [5, 6, 7, 0, 8, 1, 9, 10, 2, 3, 4] (by decide) rfl⟩, hS.F ht⟩) hS.2.2 dX11_does_223
    ·
      refine lv_if_ne (tgt := 92) hx hb dX11_does_66 (by decide) (fun hc => absurd (by decide) hc) (fun hc => ?_)
      refine lv_aload_n hx hb dX11_does_69 rfl (lv_at hl 2 rfl) ?_
      refine lv_dup hx hb dX11_does_70 rfl ?_
      refine va_get (D := D) (ci := 11) (v := .int (i 35)) (C := RX11) (T := TX11) (N := 47) hx hb hts hin_X11 hown hK hP 0 rfl rfl 35 (by decide) (hts (.fieldLink RX11 407 "ClashFreeModel" "refused" "I") (List.mem_of_getElem? (i := 9) rfl)) (fun _ h9 => h9) rfl dX11_does_71 ?_
      refine lv_iconst (v := 1) hx hb dX11_does_74 (by decide) ?_
      refine lv_iadd hx hb dX11_does_75 ?_
      refine lv_topi (fun v65 ev65 => ?_)
      refine va_put (D := D) (ci := 11) (v := .int v65) (ty := .int) (C := RX11) (T := TX11) (N := 47) hx hb hts hin_X11 tyX11 tyX11_ok nmX11 hown hK hP hD hS 0 rfl rfl 35 (by decide) (hts (.fieldLink RX11 407 "ClashFreeModel" "refused" "I") (List.mem_of_getElem? (i := 9) rfl)) (fun _ h9 => h9) rfl (by decide +kernel) rfl rfl (Nat.le_of_ble_eq_true rfl) dX11_does_76 (fun H locs hP hD hS => ?_)
      have hP : va_P D vwCl [(h0, .inr (11, gM a (upd (upd i 35 v65) 39 0) g)), (a 3, .inl (cm 3, 85, .inr (.inl fn))), (a 4, .inl (cm 4, 800, .inl fk)), (a 5, .inl (cm 5, 800, .inl fv)), (a 6, .inl (cm 6, 800, .inl fb)), (a 7, .inl (cm 7, 800, .inl fr)), (a 8, .inl (cm 8, 10240, .inl ff)), (a 9, .inl (cm 9, 10240, .inl fh)), (a 10, .inl (cm 10, 10240, .inr (.inl fa))), (a 11, .inl (cm 11, 10240, .inr (.inl fs))), (a 38, .inl (cm 38, 700, .inl fw))] H := hP
      have hD : va_D A [(h0, .inr (11, gM a (upd (upd i 35 v65) 39 0) g)), (a 3, .inl (cm 3, 85, .inr (.inl fn))), (a 4, .inl (cm 4, 800, .inl fk)), (a 5, .inl (cm 5, 800, .inl fv)), (a 6, .inl (cm 6, 800, .inl fb)), (a 7, .inl (cm 7, 800, .inl fr)), (a 8, .inl (cm 8, 10240, .inl ff)), (a 9, .inl (cm 9, 10240, .inl fh)), (a 10, .inl (cm 10, 10240, .inr (.inl fa))), (a 11, .inl (cm 11, 10240, .inr (.inl fs))), (a 38, .inl (cm 38, 700, .inl fw))] := hD
      refine lv_iload_n hx hb dX11_does_79 rfl (lv_at hl 4 rfl) ?_
      refine lv_iconst (v := 2) hx hb dX11_does_80 (by decide) ?_
      refine lv_icmp_ne (tgt := 223) hx hb dX11_does_81 (by decide) (fun hc => absurd (by decide) hc) (fun hc => ?_)
      refine lv_aload_n hx hb dX11_does_84 rfl (lv_at hl 2 rfl) ?_
      refine lv_iconst (v := (-1)) hx hb dX11_does_85 (by decide) ?_
      refine va_put (D := D) (ci := 11) (v := .int (-1)) (ty := .int) (C := RX11) (T := TX11) (N := 47) hx hb hts hin_X11 tyX11 tyX11_ok nmX11 hown hK hP hD hS 0 rfl rfl 36 (by decide) (hts (.fieldLink RX11 394 "ClashFreeModel" "latest" "I") (List.mem_of_getElem? (i := 27) rfl)) (fun _ h9 => h9) rfl (by decide +kernel) rfl rfl (Nat.le_of_ble_eq_true rfl) dX11_does_86 (fun H locs hP hD hS => ?_)
      have hP : va_P D vwCl [(h0, .inr (11, gM a (upd (upd (upd i 35 v65) 36 (-1)) 39 0) g)), (a 3, .inl (cm 3, 85, .inr (.inl fn))), (a 4, .inl (cm 4, 800, .inl fk)), (a 5, .inl (cm 5, 800, .inl fv)), (a 6, .inl (cm 6, 800, .inl fb)), (a 7, .inl (cm 7, 800, .inl fr)), (a 8, .inl (cm 8, 10240, .inl ff)), (a 9, .inl (cm 9, 10240, .inl fh)), (a 10, .inl (cm 10, 10240, .inr (.inl fa))), (a 11, .inl (cm 11, 10240, .inr (.inl fs))), (a 38, .inl (cm 38, 700, .inl fw))] H := hP
      have hD : va_D A [(h0, .inr (11, gM a (upd (upd (upd i 35 v65) 36 (-1)) 39 0) g)), (a 3, .inl (cm 3, 85, .inr (.inl fn))), (a 4, .inl (cm 4, 800, .inl fk)), (a 5, .inl (cm 5, 800, .inl fv)), (a 6, .inl (cm 6, 800, .inl fb)), (a 7, .inl (cm 7, 800, .inl fr)), (a 8, .inl (cm 8, 10240, .inl ff)), (a 9, .inl (cm 9, 10240, .inl fh)), (a 10, .inl (cm 10, 10240, .inr (.inl fa))), (a 11, .inl (cm 11, 10240, .inr (.inl fs))), (a 38, .inl (cm 38, 700, .inl fw))] := hD
      refine lv_goto (tgt := 223) hx hb dX11_does_89 (by decide) ?_
      have hA : dsF 2 fw (i 36) ((lsR fn fk fv) k) = ((-1), (lsR fn fk fv) k) := (congrArg (fun a => actF 6 a 0 (i 36) ((lsR fn fk fv) k)) ev57.symm).trans ((act_get rfl).trans (by rw [if_neg (fun q => hA_r58 (isK_KB.mpr q))]))
      exact W.vret hx hb hr (fun t ht hW => ⟨⟨(fn, fk, fv, fb, fr, ff, fh, fa, fs, (g 12), (g 13), (g 14), (i 15), v65, (-1), 0), rfl, (by (try dsimp only); exact ⟨rfl, ⟨hM, SameT.rfl⟩, hth, (congrArg Prod.fst hA).symm, ((updS_id _ _).symm).trans (congrArg (updS (lsR fn fk fv) k) (congrArg Prod.snd hA).symm)⟩), by rw [ht]; exact hP.sub [0, 1, 2, 3, 4, 5, 6, 7, 8, 9, 10] rfl, va_K.moved hW.alike (hK.sub [0, 1, 2, 3, 4, 5, 6, 7, 8, 9] rfl), hD.sub [0, 1, 2, 3, 4, 5, 6, 7, 8, 9, 10] (by decide) rfl⟩, hS.F ht⟩) hS.2.2 dX11_does_223
  ·
    obtain rfl : hn = 1 := by omega
    have hl : lv_has ls 6 [(0, .ref h0), (1, .int (nI k)), (2, .int 3)] := hl
    refine lv_aload_n hx hb dX11_does_0 rfl (lv_at hl 0 rfl) ?_
    refine lv_dup hx hb dX11_does_1 rfl ?_
    refine va_get (D := D) (ci := 11) (v := .int (i 39)) (C := RX11) (T := TX11) (N := 47) hx hb hts hin_X11 hown hK hP 0 rfl rfl 39 (by decide) (hts (.fieldLink RX11 388 "ClashFreeModel" "workedMany" "I") (List.mem_of_getElem? (i := 1) rfl)) (fun _ h9 => h9) rfl dX11_does_2 ?_
    refine lv_topi (fun v66 ev66 => ?_)
    obtain rfl : v66 = 1 := ev66.trans (hwm)
    refine lv_iconst (v := 1) hx hb dX11_does_5 (by decide) ?_
    refine lv_isub hx hb dX11_does_6 ?_
    refine lv_topi (fun v67 ev67 => ?_)
    obtain rfl : v67 = 0 := ev67.trans (by decide)
    refine va_put (D := D) (ci := 11) (v := .int 0) (ty := .int) (C := RX11) (T := TX11) (N := 47) hx hb hts hin_X11 tyX11 tyX11_ok nmX11 hown hK hP hD hS 0 rfl rfl 39 (by decide) (hts (.fieldLink RX11 388 "ClashFreeModel" "workedMany" "I") (List.mem_of_getElem? (i := 1) rfl)) (fun _ h9 => h9) rfl (by decide +kernel) rfl rfl (Nat.le_of_ble_eq_true rfl) dX11_does_7 (fun H locs hP hD hS => ?_)
    have hP : va_P D vwCl [(h0, .inr (11, gM a (upd i 39 0) g)), (a 3, .inl (cm 3, 85, .inr (.inl fn))), (a 4, .inl (cm 4, 800, .inl fk)), (a 5, .inl (cm 5, 800, .inl fv)), (a 6, .inl (cm 6, 800, .inl fb)), (a 7, .inl (cm 7, 800, .inl fr)), (a 8, .inl (cm 8, 10240, .inl ff)), (a 9, .inl (cm 9, 10240, .inl fh)), (a 10, .inl (cm 10, 10240, .inr (.inl fa))), (a 11, .inl (cm 11, 10240, .inr (.inl fs))), (a 38, .inl (cm 38, 700, .inl fw))] H := hP
    have hD : va_D A [(h0, .inr (11, gM a (upd i 39 0) g)), (a 3, .inl (cm 3, 85, .inr (.inl fn))), (a 4, .inl (cm 4, 800, .inl fk)), (a 5, .inl (cm 5, 800, .inl fv)), (a 6, .inl (cm 6, 800, .inl fb)), (a 7, .inl (cm 7, 800, .inl fr)), (a 8, .inl (cm 8, 10240, .inl ff)), (a 9, .inl (cm 9, 10240, .inl fh)), (a 10, .inl (cm 10, 10240, .inr (.inl fa))), (a 11, .inl (cm 11, 10240, .inr (.inl fs))), (a 38, .inl (cm 38, 700, .inl fw))] := hD
    refine lv_aload_n hx hb dX11_does_10 rfl (lv_at hl 0 rfl) ?_
    refine va_get (D := D) (ci := 11) (v := .ref (a 38)) (C := RX11) (T := TX11) (N := 47) hx hb hts hin_X11 hown hK hP 0 rfl rfl 38 (by decide) (hts (.fieldLink RX11 61 "ClashFreeModel" "worked" "[I") (List.mem_of_getElem? (i := 2) rfl)) (fun _ h9 => h9) rfl dX11_does_11 ?_
    refine lv_aload_n hx hb dX11_does_14 rfl (lv_at hl 0 rfl) ?_
    refine va_get (D := D) (ci := 11) (v := .int 0) (C := RX11) (T := TX11) (N := 47) hx hb hts hin_X11 hown hK hP 0 rfl rfl 39 (by decide) (hts (.fieldLink RX11 388 "ClashFreeModel" "workedMany" "I") (List.mem_of_getElem? (i := 1) rfl)) (fun _ h9 => h9) rfl dX11_does_15 ?_
    refine va_iald hx hb hK hP 10 9 rfl rfl (show ¬ ((0 : Int32) < 0 ∨ 700 ≤ Int32.toNatClampNeg 0) by decide) dX11_does_18 ?_
    refine lv_topi (fun v68 ev68 => ?_)
    refine lv_istore_n (lv' := [(3, .int v68), (0, .ref h0), (1, .int (nI k)), (2, .int 3)]) hx hb dX11_does_19 rfl hl (by decide) rfl (fun ls hl => ?_)
    refine lv_iload_n hx hb dX11_does_20 rfl (lv_at hl 0 rfl) ?_
    refine lv_istore (lv' := [(4, .int v68), (3, .int v68), (0, .ref h0), (1, .int (nI k)), (2, .int 3)]) hx hb dX11_does_21 hl (by decide) rfl (fun ls hl => ?_)
    refine lv_iload_n hx hb dX11_does_23 rfl (lv_at hl 4 rfl) ?_
    refine lv_if_ne (tgt := 48) hx hb dX11_does_24 (by decide) (fun hc => ?_) (fun hc => absurd hc (by decide))
    refine lv_iload_n hx hb dX11_does_48 rfl (lv_at hl 4 rfl) ?_
    refine lv_iconst (v := 3) hx hb dX11_does_49 (by decide) ?_
    refine lv_icmp_ne (tgt := 61) hx hb dX11_does_50 (by decide) (fun hc => absurd (by decide) hc) (fun hc => ?_)
    refine lv_aload_n hx hb dX11_does_53 rfl (lv_at hl 2 rfl) ?_
    refine lv_iload_n hx hb dX11_does_54 rfl (lv_at hl 1 rfl) ?_
    refine va_put (D := D) (ci := 11) (v := .int v68) (ty := .int) (C := RX11) (T := TX11) (N := 47) hx hb hts hin_X11 tyX11 tyX11_ok nmX11 hown hK hP hD hS 0 rfl rfl 36 (by decide) (hts (.fieldLink RX11 394 "ClashFreeModel" "latest" "I") (List.mem_of_getElem? (i := 27) rfl)) (fun _ h9 => h9) rfl (by decide +kernel) rfl rfl (Nat.le_of_ble_eq_true rfl) dX11_does_55 (fun H locs hP hD hS => ?_)
    have hP : va_P D vwCl [(h0, .inr (11, gM a (upd (upd i 36 v68) 39 0) g)), (a 3, .inl (cm 3, 85, .inr (.inl fn))), (a 4, .inl (cm 4, 800, .inl fk)), (a 5, .inl (cm 5, 800, .inl fv)), (a 6, .inl (cm 6, 800, .inl fb)), (a 7, .inl (cm 7, 800, .inl fr)), (a 8, .inl (cm 8, 10240, .inl ff)), (a 9, .inl (cm 9, 10240, .inl fh)), (a 10, .inl (cm 10, 10240, .inr (.inl fa))), (a 11, .inl (cm 11, 10240, .inr (.inl fs))), (a 38, .inl (cm 38, 700, .inl fw))] H := hP
    have hD : va_D A [(h0, .inr (11, gM a (upd (upd i 36 v68) 39 0) g)), (a 3, .inl (cm 3, 85, .inr (.inl fn))), (a 4, .inl (cm 4, 800, .inl fk)), (a 5, .inl (cm 5, 800, .inl fv)), (a 6, .inl (cm 6, 800, .inl fb)), (a 7, .inl (cm 7, 800, .inl fr)), (a 8, .inl (cm 8, 10240, .inl ff)), (a 9, .inl (cm 9, 10240, .inl fh)), (a 10, .inl (cm 10, 10240, .inr (.inl fa))), (a 11, .inl (cm 11, 10240, .inr (.inl fs))), (a 38, .inl (cm 38, 700, .inl fw))] := hD
    refine lv_goto (tgt := 223) hx hb dX11_does_58 (by decide) ?_
    have hA : dsF 3 fw (i 36) ((lsR fn fk fv) k) = (v68, (lsR fn fk fv) k) := (congrArg (fun a => actF 7 a 0 (i 36) ((lsR fn fk fv) k)) ev68.symm).trans act_let
    exact W.vret hx hb hr (fun t ht hW => ⟨⟨(fn, fk, fv, fb, fr, ff, fh, fa, fs, (g 12), (g 13), (g 14), (i 15), (i 35), v68, 0), rfl, (by (try dsimp only); exact ⟨rfl, ⟨hM, SameT.rfl⟩, hth, (congrArg Prod.fst hA).symm, ((updS_id _ _).symm).trans (congrArg (updS (lsR fn fk fv) k) (congrArg Prod.snd hA).symm)⟩), by rw [ht]; exact hP.sub [0, 1, 2, 3, 4, 5, 6, 7, 8, 9, 10] rfl, va_K.moved hW.alike (hK.sub [0, 1, 2, 3, 4, 5, 6, 7, 8, 9] rfl), hD.sub [0, 1, 2, 3, 4, 5, 6, 7, 8, 9, 10] (by decide) rfl⟩, hS.F ht⟩) hS.2.2 dX11_does_223

