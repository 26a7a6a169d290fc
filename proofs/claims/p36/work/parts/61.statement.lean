theorem dX11_statement_0 : decode cX11_statement 0 = .ok (.aload_n 0, 1) := by decide +kernel
theorem dX11_statement_1 : decode cX11_statement 1 = .ok (.invokevirtual 306, 3) := by decide +kernel
theorem dX11_statement_4 : decode cX11_statement 4 = .ok (.istore_n 1, 1) := by decide +kernel
theorem dX11_statement_5 : decode cX11_statement 5 = .ok (.aload_n 0, 1) := by decide +kernel
theorem dX11_statement_6 : decode cX11_statement 6 = .ok (.sipush 17076, 3) := by decide +kernel
theorem dX11_statement_9 : decode cX11_statement 9 = .ok (.invokevirtual 329, 3) := by decide +kernel
theorem dX11_statement_12 : decode cX11_statement 12 = .ok (.ifCond .eq 33, 3) := by decide +kernel
theorem dX11_statement_15 : decode cX11_statement 15 = .ok (.aload_n 0, 1) := by decide +kernel
theorem dX11_statement_16 : decode cX11_statement 16 = .ok (.invokevirtual 366, 3) := by decide +kernel
theorem dX11_statement_19 : decode cX11_statement 19 = .ok (.aload_n 0, 1) := by decide +kernel
theorem dX11_statement_20 : decode cX11_statement 20 = .ok (.bipush 51, 2) := by decide +kernel
theorem dX11_statement_22 : decode cX11_statement 22 = .ok (.invokevirtual 369, 3) := by decide +kernel
theorem dX11_statement_25 : decode cX11_statement 25 = .ok (.aload_n 0, 1) := by decide +kernel
theorem dX11_statement_26 : decode cX11_statement 26 = .ok (.invokevirtual 313, 3) := by decide +kernel
theorem dX11_statement_29 : decode cX11_statement 29 = .ok (.ifCond .eq 7, 3) := by decide +kernel
theorem dX11_statement_32 : decode cX11_statement 32 = .ok (.aload_n 0, 1) := by decide +kernel
theorem dX11_statement_33 : decode cX11_statement 33 = .ok (.invokevirtual 366, 3) := by decide +kernel
theorem dX11_statement_36 : decode cX11_statement 36 = .ok (.aload_n 0, 1) := by decide +kernel
theorem dX11_statement_37 : decode cX11_statement 37 = .ok (.iconst 0, 1) := by decide +kernel
theorem dX11_statement_38 : decode cX11_statement 38 = .ok (.iconst 0, 1) := by decide +kernel
theorem dX11_statement_39 : decode cX11_statement 39 = .ok (.invokevirtual 344, 3) := by decide +kernel
theorem dX11_statement_42 : decode cX11_statement 42 = .ok (.goto 157, 3) := by decide +kernel
theorem dX11_statement_45 : decode cX11_statement 45 = .ok (.aload_n 0, 1) := by decide +kernel
theorem dX11_statement_46 : decode cX11_statement 46 = .ok (.ldc_w 372, 3) := by decide +kernel
theorem dX11_statement_49 : decode cX11_statement 49 = .ok (.invokevirtual 329, 3) := by decide +kernel
theorem dX11_statement_52 : decode cX11_statement 52 = .ok (.ifCond .eq 16, 3) := by decide +kernel
theorem dX11_statement_55 : decode cX11_statement 55 = .ok (.aload_n 0, 1) := by decide +kernel
theorem dX11_statement_56 : decode cX11_statement 56 = .ok (.invokevirtual 366, 3) := by decide +kernel
theorem dX11_statement_59 : decode cX11_statement 59 = .ok (.aload_n 0, 1) := by decide +kernel
theorem dX11_statement_60 : decode cX11_statement 60 = .ok (.iconst 1, 1) := by decide +kernel
theorem dX11_statement_61 : decode cX11_statement 61 = .ok (.iconst 0, 1) := by decide +kernel
theorem dX11_statement_62 : decode cX11_statement 62 = .ok (.invokevirtual 344, 3) := by decide +kernel
theorem dX11_statement_65 : decode cX11_statement 65 = .ok (.goto 134, 3) := by decide +kernel
theorem dX11_statement_68 : decode cX11_statement 68 = .ok (.aload_n 0, 1) := by decide +kernel
theorem dX11_statement_69 : decode cX11_statement 69 = .ok (.sipush 7348, 3) := by decide +kernel
theorem dX11_statement_72 : decode cX11_statement 72 = .ok (.invokevirtual 329, 3) := by decide +kernel
theorem dX11_statement_75 : decode cX11_statement 75 = .ok (.ifCond .eq 16, 3) := by decide +kernel
theorem dX11_statement_78 : decode cX11_statement 78 = .ok (.aload_n 0, 1) := by decide +kernel
theorem dX11_statement_79 : decode cX11_statement 79 = .ok (.invokevirtual 366, 3) := by decide +kernel
theorem dX11_statement_82 : decode cX11_statement 82 = .ok (.aload_n 0, 1) := by decide +kernel
theorem dX11_statement_83 : decode cX11_statement 83 = .ok (.iconst 2, 1) := by decide +kernel
theorem dX11_statement_84 : decode cX11_statement 84 = .ok (.iconst 0, 1) := by decide +kernel
theorem dX11_statement_85 : decode cX11_statement 85 = .ok (.invokevirtual 344, 3) := by decide +kernel
theorem dX11_statement_88 : decode cX11_statement 88 = .ok (.goto 111, 3) := by decide +kernel
theorem dX11_statement_91 : decode cX11_statement 91 = .ok (.aload_n 0, 1) := by decide +kernel
theorem dX11_statement_92 : decode cX11_statement 92 = .ok (.sipush 12468, 3) := by decide +kernel
theorem dX11_statement_95 : decode cX11_statement 95 = .ok (.invokevirtual 329, 3) := by decide +kernel
theorem dX11_statement_98 : decode cX11_statement 98 = .ok (.ifCond .eq 16, 3) := by decide +kernel
theorem dX11_statement_101 : decode cX11_statement 101 = .ok (.aload_n 0, 1) := by decide +kernel
theorem dX11_statement_102 : decode cX11_statement 102 = .ok (.invokevirtual 366, 3) := by decide +kernel
theorem dX11_statement_105 : decode cX11_statement 105 = .ok (.aload_n 0, 1) := by decide +kernel
theorem dX11_statement_106 : decode cX11_statement 106 = .ok (.iconst 3, 1) := by decide +kernel
theorem dX11_statement_107 : decode cX11_statement 107 = .ok (.iconst 0, 1) := by decide +kernel
theorem dX11_statement_108 : decode cX11_statement 108 = .ok (.invokevirtual 344, 3) := by decide +kernel
theorem dX11_statement_111 : decode cX11_statement 111 = .ok (.goto 88, 3) := by decide +kernel
theorem dX11_statement_114 : decode cX11_statement 114 = .ok (.aload_n 0, 1) := by decide +kernel
theorem dX11_statement_115 : decode cX11_statement 115 = .ok (.sipush 6642, 3) := by decide +kernel
theorem dX11_statement_118 : decode cX11_statement 118 = .ok (.invokevirtual 329, 3) := by decide +kernel
theorem dX11_statement_121 : decode cX11_statement 121 = .ok (.ifCond .eq 32, 3) := by decide +kernel
theorem dX11_statement_124 : decode cX11_statement 124 = .ok (.aload_n 0, 1) := by decide +kernel
theorem dX11_statement_125 : decode cX11_statement 125 = .ok (.getfield 286, 3) := by decide +kernel
theorem dX11_statement_128 : decode cX11_statement 128 = .ok (.iconst 5, 1) := by decide +kernel
theorem dX11_statement_129 : decode cX11_statement 129 = .ok (.if_icmp .ne 9, 3) := by decide +kernel
theorem dX11_statement_132 : decode cX11_statement 132 = .ok (.aload_n 0, 1) := by decide +kernel
theorem dX11_statement_133 : decode cX11_statement 133 = .ok (.iconst 3, 1) := by decide +kernel
theorem dX11_statement_134 : decode cX11_statement 134 = .ok (.iload_n 1, 1) := by decide +kernel
theorem dX11_statement_135 : decode cX11_statement 135 = .ok (.invokevirtual 310, 3) := by decide +kernel
theorem dX11_statement_138 : decode cX11_statement 138 = .ok (.aload_n 0, 1) := by decide +kernel
theorem dX11_statement_139 : decode cX11_statement 139 = .ok (.sipush 200, 3) := by decide +kernel
theorem dX11_statement_142 : decode cX11_statement 142 = .ok (.invokevirtual 348, 3) := by decide +kernel
theorem dX11_statement_145 : decode cX11_statement 145 = .ok (.istore_n 2, 1) := by decide +kernel
theorem dX11_statement_146 : decode cX11_statement 146 = .ok (.aload_n 0, 1) := by decide +kernel
theorem dX11_statement_147 : decode cX11_statement 147 = .ok (.iconst 4, 1) := by decide +kernel
theorem dX11_statement_148 : decode cX11_statement 148 = .ok (.iload_n 2, 1) := by decide +kernel
theorem dX11_statement_149 : decode cX11_statement 149 = .ok (.invokevirtual 373, 3) := by decide +kernel
theorem dX11_statement_152 : decode cX11_statement 152 = .ok (.return_, 1) := by decide +kernel
theorem dX11_statement_153 : decode cX11_statement 153 = .ok (.aload_n 0, 1) := by decide +kernel
theorem dX11_statement_154 : decode cX11_statement 154 = .ok (.sipush 294, 3) := by decide +kernel
theorem dX11_statement_157 : decode cX11_statement 157 = .ok (.invokevirtual 329, 3) := by decide +kernel
theorem dX11_statement_160 : decode cX11_statement 160 = .ok (.ifCond .eq 35, 3) := by decide +kernel
theorem dX11_statement_163 : decode cX11_statement 163 = .ok (.aload_n 0, 1) := by decide +kernel
theorem dX11_statement_164 : decode cX11_statement 164 = .ok (.getfield 286, 3) := by decide +kernel
theorem dX11_statement_167 : decode cX11_statement 167 = .ok (.iconst 5, 1) := by decide +kernel
theorem dX11_statement_168 : decode cX11_statement 168 = .ok (.if_icmp .ne 9, 3) := by decide +kernel
theorem dX11_statement_171 : decode cX11_statement 171 = .ok (.aload_n 0, 1) := by decide +kernel
theorem dX11_statement_172 : decode cX11_statement 172 = .ok (.iconst 3, 1) := by decide +kernel
theorem dX11_statement_173 : decode cX11_statement 173 = .ok (.iload_n 1, 1) := by decide +kernel
theorem dX11_statement_174 : decode cX11_statement 174 = .ok (.invokevirtual 310, 3) := by decide +kernel
theorem dX11_statement_177 : decode cX11_statement 177 = .ok (.aload_n 0, 1) := by decide +kernel
theorem dX11_statement_178 : decode cX11_statement 178 = .ok (.invokevirtual 313, 3) := by decide +kernel
theorem dX11_statement_181 : decode cX11_statement 181 = .ok (.ifCond .eq 7, 3) := by decide +kernel
theorem dX11_statement_184 : decode cX11_statement 184 = .ok (.aload_n 0, 1) := by decide +kernel
theorem dX11_statement_185 : decode cX11_statement 185 = .ok (.invokevirtual 366, 3) := by decide +kernel
theorem dX11_statement_188 : decode cX11_statement 188 = .ok (.aload_n 0, 1) := by decide +kernel
theorem dX11_statement_189 : decode cX11_statement 189 = .ok (.iconst 5, 1) := by decide +kernel
theorem dX11_statement_190 : decode cX11_statement 190 = .ok (.iconst 0, 1) := by decide +kernel
theorem dX11_statement_191 : decode cX11_statement 191 = .ok (.invokevirtual 373, 3) := by decide +kernel
theorem dX11_statement_194 : decode cX11_statement 194 = .ok (.return_, 1) := by decide +kernel
theorem dX11_statement_195 : decode cX11_statement 195 = .ok (.aload_n 0, 1) := by decide +kernel
theorem dX11_statement_196 : decode cX11_statement 196 = .ok (.invokevirtual 320, 3) := by decide +kernel
theorem dX11_statement_199 : decode cX11_statement 199 = .ok (.aload_n 0, 1) := by decide +kernel
theorem dX11_statement_200 : decode cX11_statement 200 = .ok (.bipush 59, 2) := by decide +kernel
theorem dX11_statement_202 : decode cX11_statement 202 = .ok (.invokevirtual 363, 3) := by decide +kernel
theorem dX11_statement_205 : decode cX11_statement 205 = .ok (.return_, 1) := by decide +kernel
def own_c_statement : List Cond := [.methodLink RX11 306 yX11_next, .instanceMethod yX11_next, .selects RX11 yX11_next yX11_next, .initialized RX11, .methodLink RX11 329 yX11_takesWord, .instanceMethod yX11_takesWord, .selects RX11 yX11_takesWord yX11_takesWord, .methodLink RX11 366 yX11_sum, .instanceMethod yX11_sum, .selects RX11 yX11_sum yX11_sum, .methodLink RX11 369 yX11_asks, .instanceMethod yX11_asks, .selects RX11 yX11_asks yX11_asks, .methodLink RX11 313 yX11_isFine, .instanceMethod yX11_isFine, .selects RX11 yX11_isFine yX11_isFine, .methodLink RX11 344 yX11_emits, .instanceMethod yX11_emits, .selects RX11 yX11_emits yX11_emits, .methodLink RX11 363 yX11_needsSign, .instanceMethod yX11_needsSign, .selects RX11 yX11_needsSign yX11_needsSign, .constant RX11 372 (150000), .fieldLink RX11 286 "ClashFreeModel" "blocks" "I", .methodLink RX11 348 yX11_number, .instanceMethod yX11_number, .selects RX11 yX11_number yX11_number, .methodLink RX11 373 yX11_opens, .instanceMethod yX11_opens, .selects RX11 yX11_opens yX11_opens, .methodLink RX11 310 yX11_fail, .instanceMethod yX11_fail, .selects RX11 yX11_fail yX11_fail, .methodLink RX11 320 yX11_unlike, .instanceMethod yX11_unlike, .selects RX11 yX11_unlike yX11_unlike]
def wp_c_statement : List Cond := .code yX11_statement cX11_statement 3 none :: (own_c_statement ++ (wp_c_next ++ (wp_c_takesWord ++ (wp_c_sum ++ (wp_c_asks ++ (wp_c_isFine ++ (wp_c_emits ++ (wp_c_needsSign ++ (wp_c_number ++ (wp_c_opens ++ (wp_c_fail ++ (wp_c_unlike ++ (wsX110 ++ ([] : List Cond))))))))))))))
set_option maxRecDepth 20000 in
theorem inown_c_statement : ∀ w ∈ own_c_statement, w ∈ lw_tbl := mem_places [1673, 1675, 75, 115, 1701, 1703, 82, 1711, 1713, 84, 1742, 1744, 91, 1669, 1671, 74, 1685, 1687, 78, 1689, 1691, 79, 1746, 1243, 1720, 1722, 86, 1747, 1749, 92, 1665, 1667, 73, 1693, 1695, 80] (by decide +kernel)
set_option maxRecDepth 20000 in
theorem in_c_statement : ∀ w ∈ wp_c_statement, w ∈ lw_tbl := List.forall_mem_cons.mpr ⟨List.mem_of_getElem? (i := 1700) (by decide +kernel), List.forall_mem_append.mpr ⟨inown_c_statement, List.forall_mem_append.mpr ⟨in_c_next, List.forall_mem_append.mpr ⟨in_c_takesWord, List.forall_mem_append.mpr ⟨in_c_sum, List.forall_mem_append.mpr ⟨in_c_asks, List.forall_mem_append.mpr ⟨in_c_isFine, List.forall_mem_append.mpr ⟨in_c_emits, List.forall_mem_append.mpr ⟨in_c_needsSign, List.forall_mem_append.mpr ⟨in_c_number, List.forall_mem_append.mpr ⟨in_c_opens, List.forall_mem_append.mpr ⟨in_c_fail, List.forall_mem_append.mpr ⟨in_c_unlike, List.forall_mem_append.mpr ⟨lwb_X11, fun _ h => absurd h List.not_mem_nil⟩⟩⟩⟩⟩⟩⟩⟩⟩⟩⟩⟩⟩⟩
set_option maxRecDepth 20000 in
theorem good_c_statement : wp_c_statement.all goodWord = true := by decide +kernel
set_option maxRecDepth 20000 in
theorem g_c_statement_c_next_306 : GoodIn wp_c_statement (wsV RX11 306 RX11 yX11_next wp_c_next) := goodIn_sub (List.forall_mem_append.mpr ⟨List.forall_mem_cons.mpr ⟨(List.mem_of_getElem? (i := 1) rfl), List.forall_mem_cons.mpr ⟨(List.mem_of_getElem? (i := 2) rfl), List.forall_mem_cons.mpr ⟨(List.mem_of_getElem? (i := 3) rfl), List.forall_mem_cons.mpr ⟨(List.mem_of_getElem? (i := 4) rfl), fun _ h => absurd h List.not_mem_nil⟩⟩⟩⟩, (fun _ h => (List.mem_cons_of_mem _ (List.mem_append_right _ (List.mem_append_left _ h))))⟩) (by decide +kernel)
set_option maxRecDepth 20000 in
theorem g_c_statement_c_takesWord_329 : GoodIn wp_c_statement (wsV RX11 329 RX11 yX11_takesWord wp_c_takesWord) := goodIn_sub (List.forall_mem_append.mpr ⟨List.forall_mem_cons.mpr ⟨(List.mem_of_getElem? (i := 5) rfl), List.forall_mem_cons.mpr ⟨(List.mem_of_getElem? (i := 6) rfl), List.forall_mem_cons.mpr ⟨(List.mem_of_getElem? (i := 7) rfl), List.forall_mem_cons.mpr ⟨(List.mem_of_getElem? (i := 4) rfl), fun _ h => absurd h List.not_mem_nil⟩⟩⟩⟩, (fun _ h => (List.mem_cons_of_mem _ (List.mem_append_right _ (List.mem_append_right _ (List.mem_append_left _ h)))))⟩) (by decide +kernel)
set_option maxRecDepth 20000 in
theorem g_c_statement_c_sum_366 : GoodIn wp_c_statement (wsV RX11 366 RX11 yX11_sum wp_c_sum) := goodIn_sub (List.forall_mem_append.mpr ⟨List.forall_mem_cons.mpr ⟨(List.mem_of_getElem? (i := 8) rfl), List.forall_mem_cons.mpr ⟨(List.mem_of_getElem? (i := 9) rfl), List.forall_mem_cons.mpr ⟨(List.mem_of_getElem? (i := 10) rfl), List.forall_mem_cons.mpr ⟨(List.mem_of_getElem? (i := 4) rfl), fun _ h => absurd h List.not_mem_nil⟩⟩⟩⟩, (fun _ h => (List.mem_cons_of_mem _ (List.mem_append_right _ (List.mem_append_right _ (List.mem_append_right _ (List.mem_append_left _ h))))))⟩) (by decide +kernel)
set_option maxRecDepth 20000 in
theorem g_c_statement_c_asks_369 : GoodIn wp_c_statement (wsV RX11 369 RX11 yX11_asks wp_c_asks) := goodIn_sub (List.forall_mem_append.mpr ⟨List.forall_mem_cons.mpr ⟨(List.mem_of_getElem? (i := 11) rfl), List.forall_mem_cons.mpr ⟨(List.mem_of_getElem? (i := 12) rfl), List.forall_mem_cons.mpr ⟨(List.mem_of_getElem? (i := 13) rfl), List.forall_mem_cons.mpr ⟨(List.mem_of_getElem? (i := 4) rfl), fun _ h => absurd h List.not_mem_nil⟩⟩⟩⟩, (fun _ h => (List.mem_cons_of_mem _ (List.mem_append_right _ (List.mem_append_right _ (List.mem_append_right _ (List.mem_append_right _ (List.mem_append_left _ h)))))))⟩) (by decide +kernel)
set_option maxRecDepth 20000 in
theorem g_c_statement_c_isFine_313 : GoodIn wp_c_statement (wsV RX11 313 RX11 yX11_isFine wp_c_isFine) := goodIn_sub (List.forall_mem_append.mpr ⟨List.forall_mem_cons.mpr ⟨(List.mem_of_getElem? (i := 14) rfl), List.forall_mem_cons.mpr ⟨(List.mem_of_getElem? (i := 15) rfl), List.forall_mem_cons.mpr ⟨(List.mem_of_getElem? (i := 16) rfl), List.forall_mem_cons.mpr ⟨(List.mem_of_getElem? (i := 4) rfl), fun _ h => absurd h List.not_mem_nil⟩⟩⟩⟩, (fun _ h => (List.mem_cons_of_mem _ (List.mem_append_right _ (List.mem_append_right _ (List.mem_append_right _ (List.mem_append_right _ (List.mem_append_right _ (List.mem_append_left _ h))))))))⟩) (by decide +kernel)
set_option maxRecDepth 20000 in
theorem g_c_statement_c_emits_344 : GoodIn wp_c_statement (wsV RX11 344 RX11 yX11_emits wp_c_emits) := goodIn_sub (List.forall_mem_append.mpr ⟨List.forall_mem_cons.mpr ⟨(List.mem_of_getElem? (i := 17) rfl), List.forall_mem_cons.mpr ⟨(List.mem_of_getElem? (i := 18) rfl), List.forall_mem_cons.mpr ⟨(List.mem_of_getElem? (i := 19) rfl), List.forall_mem_cons.mpr ⟨(List.mem_of_getElem? (i := 4) rfl), fun _ h => absurd h List.not_mem_nil⟩⟩⟩⟩, (fun _ h => (List.mem_cons_of_mem _ (List.mem_append_right _ (List.mem_append_right _ (List.mem_append_right _ (List.mem_append_right _ (List.mem_append_right _ (List.mem_append_right _ (List.mem_append_left _ h)))))))))⟩) (by decide +kernel)
set_option maxRecDepth 20000 in
theorem g_c_statement_c_needsSign_363 : GoodIn wp_c_statement (wsV RX11 363 RX11 yX11_needsSign wp_c_needsSign) := goodIn_sub (List.forall_mem_append.mpr ⟨List.forall_mem_cons.mpr ⟨(List.mem_of_getElem? (i := 20) rfl), List.forall_mem_cons.mpr ⟨(List.mem_of_getElem? (i := 21) rfl), List.forall_mem_cons.mpr ⟨(List.mem_of_getElem? (i := 22) rfl), List.forall_mem_cons.mpr ⟨(List.mem_of_getElem? (i := 4) rfl), fun _ h => absurd h List.not_mem_nil⟩⟩⟩⟩, (fun _ h => (List.mem_cons_of_mem _ (List.mem_append_right _ (List.mem_append_right _ (List.mem_append_right _ (List.mem_append_right _ (List.mem_append_right _ (List.mem_append_right _ (List.mem_append_right _ (List.mem_append_left _ h))))))))))⟩) (by decide +kernel)
set_option maxRecDepth 20000 in
theorem g_c_statement_c_number_348 : GoodIn wp_c_statement (wsV RX11 348 RX11 yX11_number wp_c_number) := goodIn_sub (List.forall_mem_append.mpr ⟨List.forall_mem_cons.mpr ⟨(List.mem_of_getElem? (i := 25) rfl), List.forall_mem_cons.mpr ⟨(List.mem_of_getElem? (i := 26) rfl), List.forall_mem_cons.mpr ⟨(List.mem_of_getElem? (i := 27) rfl), List.forall_mem_cons.mpr ⟨(List.mem_of_getElem? (i := 4) rfl), fun _ h => absurd h List.not_mem_nil⟩⟩⟩⟩, (fun _ h => (List.mem_cons_of_mem _ (List.mem_append_right _ (List.mem_append_right _ (List.mem_append_right _ (List.mem_append_right _ (List.mem_append_right _ (List.mem_append_right _ (List.mem_append_right _ (List.mem_append_right _ (List.mem_append_left _ h)))))))))))⟩) (by decide +kernel)
set_option maxRecDepth 20000 in
theorem g_c_statement_c_opens_373 : GoodIn wp_c_statement (wsV RX11 373 RX11 yX11_opens wp_c_opens) := goodIn_sub (List.forall_mem_append.mpr ⟨List.forall_mem_cons.mpr ⟨(List.mem_of_getElem? (i := 28) rfl), List.forall_mem_cons.mpr ⟨(List.mem_of_getElem? (i := 29) rfl), List.forall_mem_cons.mpr ⟨(List.mem_of_getElem? (i := 30) rfl), List.forall_mem_cons.mpr ⟨(List.mem_of_getElem? (i := 4) rfl), fun _ h => absurd h List.not_mem_nil⟩⟩⟩⟩, (fun _ h => (List.mem_cons_of_mem _ (List.mem_append_right _ (List.mem_append_right _ (List.mem_append_right _ (List.mem_append_right _ (List.mem_append_right _ (List.mem_append_right _ (List.mem_append_right _ (List.mem_append_right _ (List.mem_append_right _ (List.mem_append_left _ h))))))))))))⟩) (by decide +kernel)
set_option maxRecDepth 20000 in
theorem g_c_statement_c_fail_310 : GoodIn wp_c_statement (wsV RX11 310 RX11 yX11_fail wp_c_fail) := goodIn_sub (List.forall_mem_append.mpr ⟨List.forall_mem_cons.mpr ⟨(List.mem_of_getElem? (i := 31) rfl), List.forall_mem_cons.mpr ⟨(List.mem_of_getElem? (i := 32) rfl), List.forall_mem_cons.mpr ⟨(List.mem_of_getElem? (i := 33) rfl), List.forall_mem_cons.mpr ⟨(List.mem_of_getElem? (i := 4) rfl), fun _ h => absurd h List.not_mem_nil⟩⟩⟩⟩, (fun _ h => (List.mem_cons_of_mem _ (List.mem_append_right _ (List.mem_append_right _ (List.mem_append_right _ (List.mem_append_right _ (List.mem_append_right _ (List.mem_append_right _ (List.mem_append_right _ (List.mem_append_right _ (List.mem_append_right _ (List.mem_append_right _ (List.mem_append_left _ h)))))))))))))⟩) (by decide +kernel)
set_option maxRecDepth 20000 in
theorem g_c_statement_c_unlike_320 : GoodIn wp_c_statement (wsV RX11 320 RX11 yX11_unlike wp_c_unlike) := goodIn_sub (List.forall_mem_append.mpr ⟨List.forall_mem_cons.mpr ⟨(List.mem_of_getElem? (i := 34) rfl), List.forall_mem_cons.mpr ⟨(List.mem_of_getElem? (i := 35) rfl), List.forall_mem_cons.mpr ⟨(List.mem_of_getElem? (i := 36) rfl), List.forall_mem_cons.mpr ⟨(List.mem_of_getElem? (i := 4) rfl), fun _ h => absurd h List.not_mem_nil⟩⟩⟩⟩, (fun _ h => (List.mem_cons_of_mem _ (List.mem_append_right _ (List.mem_append_right _ (List.mem_append_right _ (List.mem_append_right _ (List.mem_append_right _ (List.mem_append_right _ (List.mem_append_right _ (List.mem_append_right _ (List.mem_append_right _ (List.mem_append_right _ (List.mem_append_right _ (List.mem_append_left _ h))))))))))))))⟩) (by decide +kernel)
set_option maxHeartbeats 4000000 in
set_option maxRecDepth 100000 in
theorem c_statement (l : Launch) (D : va_G) (sz : Nat) (h0 : Nat) (a : Nat → Nat) (cm : Nat → ClassId) (i : Nat → Int32) (g : Nat → Int64) (fT : Nat → Int32) (fc : Nat → Int32) (fo : Nat → Int32) (fl : Nat → Int32) (cd : Nat) (zs : Nat) (ta : Nat) (en : Int32) (bd : Int32) (bp : Int32) (bq : Int32) (bk : Nat) (pl : Nat) (br : Int32) (hb0 : bd = 0) (hz6 : zs ≤ 600) (hta : ta ≤ zs) (hcp : cd ≤ ta) (hb5 : bk ≤ 5) (hW : PSt fc fo cd bk 0) : Met l yX11_statement wp_c_statement ({ frames := 7, cells := 0, slots := 0, locals := 212 }) (PcW D [.ref h0] sz [(h0, .inr (11, gP a i g (nI cd) (nI zs) (nI ta) en bd bp bq (nI bk) (nI pl) br)), (a 1, .inl (cm 1, 1400, .inl fT)), (a 19, .inl (cm 19, 2000, .inl fc)), (a 28, .inl (cm 28, 6, .inl fo)), (a 29, .inl (cm 29, 700, .inl fl))] [(cm 1, .byte), (cm 19, .int), (cm 28, .int), (cm 29, .int)]) (va_Qv (fun (u : (Nat → Int32) × (Nat → Int32) × (Nat → Int32) × (Nat) × (Nat) × (Int32) × (Int32) × (Int32) × (Int32) × (Nat) × (Nat) × (Int32)) => u.2.2.2.1 ≤ u.2.2.2.2.1 ∧ u.2.2.2.2.1 ≤ zs ∧ u.2.2.2.2.2.2.2.2.2.1 ≤ 5 ∧ (u.2.2.2.2.2.2.1 = 0 → ta + 1 ≤ u.2.2.2.2.1 ∧ PSt u.1 u.2.1 u.2.2.2.1 u.2.2.2.2.2.2.2.2.2.1 0)) (fun (u : (Nat → Int32) × (Nat → Int32) × (Nat → Int32) × (Nat) × (Nat) × (Int32) × (Int32) × (Int32) × (Int32) × (Nat) × (Nat) × (Int32)) t => va_P D vwCl [(h0, .inr (11, gP a i g (nI u.2.2.2.1) (nI zs) (nI u.2.2.2.2.1) u.2.2.2.2.2.1 u.2.2.2.2.2.2.1 u.2.2.2.2.2.2.2.1 u.2.2.2.2.2.2.2.2.1 (nI u.2.2.2.2.2.2.2.2.2.1) (nI u.2.2.2.2.2.2.2.2.2.2.1) u.2.2.2.2.2.2.2.2.2.2.2)), (a 1, .inl (cm 1, 1400, .inl fT)), (a 19, .inl (cm 19, 2000, .inl u.1)), (a 28, .inl (cm 28, 6, .inl u.2.1)), (a 29, .inl (cm 29, 700, .inl u.2.2.1))] t.heap ∧ va_K D vwCl [(cm 1, .byte), (cm 19, .int), (cm 28, .int), (cm 29, .int)] t ∧ va_D (va_A [(h0, .inr (11, gP a i g (nI cd) (nI zs) (nI ta) en bd bp bq (nI bk) (nI pl) br)), (a 1, .inl (cm 1, 1400, .inl fT)), (a 19, .inl (cm 19, 2000, .inl fc)), (a 28, .inl (cm 28, 6, .inl fo)), (a 29, .inl (cm 29, 700, .inl fl))] sz) [(h0, .inr (11, gP a i g (nI u.2.2.2.1) (nI zs) (nI u.2.2.2.2.1) u.2.2.2.2.2.1 u.2.2.2.2.2.2.1 u.2.2.2.2.2.2.2.1 u.2.2.2.2.2.2.2.2.1 (nI u.2.2.2.2.2.2.2.2.2.1) (nI u.2.2.2.2.2.2.2.2.2.2.1) u.2.2.2.2.2.2.2.2.2.2.2)), (a 1, .inl (cm 1, 1400, .inl fT)), (a 19, .inl (cm 19, 2000, .inl u.1)), (a 28, .inl (cm 28, 6, .inl u.2.1)), (a 29, .inl (cm 29, 700, .inl u.2.2.1))]) (va_A [(h0, .inr (11, gP a i g (nI cd) (nI zs) (nI ta) en bd bp bq (nI bk) (nI pl) br)), (a 1, .inl (cm 1, 1400, .inl fT)), (a 19, .inl (cm 19, 2000, .inl fc)), (a 28, .inl (cm 28, 6, .inl fo)), (a 29, .inl (cm 29, 700, .inl fl))] sz)) 0 0 (va_A [(h0, .inr (11, gP a i g (nI cd) (nI zs) (nI ta) en bd bp bq (nI bk) (nI pl) br)), (a 1, .inl (cm 1, 1400, .inl fT)), (a 19, .inl (cm 19, 2000, .inl fc)), (a 28, .inl (cm 28, 6, .inl fo)), (a 29, .inl (cm 29, 700, .inl fl))] sz) := by
  refine Met.ofW (cc := cX11_statement) (maxL := 3) (ret := none) (by decide) rfl ?_
  intro p e s m args below meth c s₁ B hml hv
  obtain ⟨rfl, hsz, hP, hK, hD0⟩ := hv
  have hx := B.exec
  have hb := B.bytes
  have hr := B.returns
  have hts := atoms_spec (ws := wp_c_statement) B.pre
  have hin_X11 : ∀ w ∈ wsX110, w ∈ wp_c_statement := fun _ h => (List.mem_cons_of_mem _ (List.mem_append_right _ (List.mem_append_right _ (List.mem_append_right _ (List.mem_append_right _ (List.mem_append_right _ (List.mem_append_right _ (List.mem_append_right _ (List.mem_append_right _ (List.mem_append_right _ (List.mem_append_right _ (List.mem_append_right _ (List.mem_append_right _ (List.mem_append_left _ h))))))))))))))
  have hown : s.vm.findClass RX11 = some m.cls := findClass_of_methodNamed B.named
  have hlocks := B.notSynchronized
  subst hsz
  have hD := hD0.self (sz := s.heap.size)
  generalize hAe : va_A [(h0, .inr (11, gP a i g (nI cd) (nI zs) (nI ta) en bd bp bq (nI bk) (nI pl) br)), (a 1, .inl (cm 1, 1400, .inl fT)), (a 19, .inl (cm 19, 2000, .inl fc)), (a 28, .inl (cm 28, 6, .inl fo)), (a 29, .inl (cm 29, 700, .inl fl))] s.heap.size = A at hD ⊢
  have hA : ∀ q : Nat, s.heap.size ≤ q → A q := fun q h => by rw [← hAe]; exact Or.inr h
  have hS : va_S A s.heap s.heap [] := va_S.rf
  have hP : va_P D vwCl [(h0, .inr (11, gP a i g (nI cd) (nI zs) (nI ta) en bd bp bq (nI bk) (nI pl) br)), (a 1, .inl (cm 1, 1400, .inl fT)), (a 19, .inl (cm 19, 2000, .inl fc)), (a 28, .inl (cm 28, 6, .inl fo)), (a 29, .inl (cm 29, 700, .inl fl))] s.heap := hP
  have hl := lv_entry ([.ref h0]) (n := 3) (Nat.le_of_ble_eq_true rfl)
  rw [lg_entry_eq]
  generalize (lg_sl ([.ref h0]) ++ List.replicate (3 - (lg_sl ([.ref h0])).length) Slot.unset).toArray = ls at hl ⊢
  have hl : lv_has ls 3 [(0, .ref h0)] := hl
  have hzs : zs ≤ 1400 := by omega
  have hWf : bd = 0 → PSt fc fo cd bk 0 := fun _ => hW
  refine lv_aload_n hx hb dX11_statement_0 rfl (lv_at hl 0 rfl) ?_
  have hPc := hP.sub (ws' := [(h0, .inr (11, gP a i g (nI cd) (nI zs) (nI ta) en bd bp bq (nI bk) (nI pl) br)), (a 1, .inl (cm 1, 1400, .inl fT))]) [0, 1] rfl
  have hKc := hK.sub (tys' := [(cm 1, .byte)]) [0] rfl
  have hDc := hD.sub (ws' := [(h0, .inr (11, gP a i g (nI cd) (nI zs) (nI ta) en bd bp bq (nI bk) (nI pl) br)), (a 1, .inl (cm 1, 1400, .inl fT))]) [0, 1] (by decide) rfl
  have hFc := va_free (wc := [(h0, .inr (11, gP a i g (nI cd) (nI zs) (nI ta) en bd bp bq (nI bk) (nI pl) br)), (a 1, .inl (cm 1, 1400, .inl fT))]) hD hS hA [0, 1] rfl
  refine va_calli (va_runV (As := []) (rest := []) ⟨hx, hb, hml, hown, hts⟩ (c_next l D _ h0 a cm i g fT cd zs ta en bd bp bq bk pl br (by first | assumption | omega) (by first | assumption | omega)) (cwV 0 hts g_c_statement_c_next_306 rfl rfl rfl (by decide +kernel) ⟨(Nat.le_of_ble_eq_true rfl), (Nat.le_of_ble_eq_true rfl)⟩) (PcW_V (q0 := 0) hPc hKc hDc rfl rfl) rfl rfl hl.1 rfl (lv_room (Nat.le_of_ble_eq_true rfl)) dX11_statement_1 ⟨(Nat.le_of_ble_eq_true rfl), (Nat.le_of_ble_eq_true rfl)⟩) hS (fun q _ h => hFc q h) hFc (fun r1 uu tt H locs htt hvm hw hB hz1 hk1 hS => ?_)
  obtain ⟨w2, rfl⟩ : ∃ z, z = uu := ⟨_, rfl⟩
  obtain ⟨hP1, hK1, hD1⟩ := hB
  rw [htt] at hP1
  have hK1 := va_K.moved hvm.symm hK1
  have hP1 : va_P D vwCl [(h0, .inr (11, gP a i g (nI cd) (nI zs) (nI w2) en bd bp bq (nI bk) (nI pl) br)), (a 1, .inl (cm 1, 1400, .inl fT))] H := hP1
  obtain ⟨hP, hD⟩ := va_join (wr := [(a 19, .inl (cm 19, 2000, .inl fc)), (a 28, .inl (cm 28, 6, .inl fo)), (a 29, .inl (cm 29, 700, .inl fl))]) (w1 := [(h0, .inr (11, gP a i g (nI cd) (nI zs) (nI w2) en bd bp bq (nI bk) (nI pl) br)), (a 1, .inl (cm 1, 1400, .inl fT))]) hP hD [0, 1] [2, 3, 4] rfl rfl (by decide) (by decide) hk1 hFc hP1 hD1
  have hP : va_P D vwCl [(a 19, .inl (cm 19, 2000, .inl fc)), (a 28, .inl (cm 28, 6, .inl fo)), (a 29, .inl (cm 29, 700, .inl fl)), (h0, .inr (11, gP a i g (nI cd) (nI zs) (nI w2) en bd bp bq (nI bk) (nI pl) br)), (a 1, .inl (cm 1, 1400, .inl fT))] H := hP
  have hD : va_D A [(a 19, .inl (cm 19, 2000, .inl fc)), (a 28, .inl (cm 28, 6, .inl fo)), (a 29, .inl (cm 29, 700, .inl fl)), (h0, .inr (11, gP a i g (nI cd) (nI zs) (nI w2) en bd bp bq (nI bk) (nI pl) br)), (a 1, .inl (cm 1, 1400, .inl fT))] := hD
  try dsimp only at hw
  clear hz1 hk1 hFc hPc hKc hDc
  obtain ⟨rfl, hn3_1, hn3_2⟩ := hw
  refine lv_istore_n (lv' := [(1, .int (nI w2)), (0, .ref h0)]) hx hb dX11_statement_4 rfl hl (by decide) rfl (fun ls hl => ?_)
  refine lv_aload_n hx hb dX11_statement_5 rfl (lv_at hl 1 rfl) ?_
  refine lv_sipush (v := 17076) hx hb dX11_statement_6 (by decide) ?_
  have hPc := hP.sub (ws' := [(h0, .inr (11, gP a i g (nI cd) (nI zs) (nI w2) en bd bp bq (nI bk) (nI pl) br)), (a 1, .inl (cm 1, 1400, .inl fT))]) [3, 4] rfl
  have hKc := hK.sub (tys' := [(cm 1, .byte)]) [0] rfl
  have hDc := hD.sub (ws' := [(h0, .inr (11, gP a i g (nI cd) (nI zs) (nI w2) en bd bp bq (nI bk) (nI pl) br)), (a 1, .inl (cm 1, 1400, .inl fT))]) [3, 4] (by decide) rfl
  have hFc := va_free (wc := [(h0, .inr (11, gP a i g (nI cd) (nI zs) (nI w2) en bd bp bq (nI bk) (nI pl) br)), (a 1, .inl (cm 1, 1400, .inl fT))]) hD hS hA [3, 4] rfl
  refine va_calli (va_runV (As := [.int 17076]) (rest := []) ⟨hx, hb, hml, hown, hts⟩ (c_takesWord l D _ h0 a cm i g fT cd zs w2 en bd bp bq bk pl br 17076 (by first | assumption | omega) (by first | assumption | omega)) (cwV 1 hts g_c_statement_c_takesWord_329 rfl rfl rfl (by decide +kernel) ⟨(Nat.le_of_ble_eq_true rfl), (Nat.le_of_ble_eq_true rfl)⟩) (PcW_V (q0 := 0) hPc hKc hDc rfl rfl) rfl rfl hl.1 rfl (lv_room (Nat.le_of_ble_eq_true rfl)) dX11_statement_9 ⟨(Nat.le_of_ble_eq_true rfl), (Nat.le_of_ble_eq_true rfl)⟩) hS (fun q _ h => hFc q h) hFc (fun r4 uu tt H locs htt hvm hw hB hz1 hk1 hS => ?_)
  obtain ⟨w5, w6⟩ := uu
  obtain ⟨hP1, hK1, hD1⟩ := hB
  rw [htt] at hP1
  have hK1 := va_K.moved hvm.symm hK1
  have hP1 : va_P D vwCl [(h0, .inr (11, gP a i g (nI cd) (nI zs) (nI w5) w6 bd bp bq (nI bk) (nI pl) br)), (a 1, .inl (cm 1, 1400, .inl fT))] H := hP1
  obtain ⟨hP, hD⟩ := va_join (wr := [(a 19, .inl (cm 19, 2000, .inl fc)), (a 28, .inl (cm 28, 6, .inl fo)), (a 29, .inl (cm 29, 700, .inl fl))]) (w1 := [(h0, .inr (11, gP a i g (nI cd) (nI zs) (nI w5) w6 bd bp bq (nI bk) (nI pl) br)), (a 1, .inl (cm 1, 1400, .inl fT))]) hP hD [3, 4] [0, 1, 2] rfl rfl (by decide) (by decide) hk1 hFc hP1 hD1
  have hP : va_P D vwCl [(a 19, .inl (cm 19, 2000, .inl fc)), (a 28, .inl (cm 28, 6, .inl fo)), (a 29, .inl (cm 29, 700, .inl fl)), (h0, .inr (11, gP a i g (nI cd) (nI zs) (nI w5) w6 bd bp bq (nI bk) (nI pl) br)), (a 1, .inl (cm 1, 1400, .inl fT))] H := hP
  have hD : va_D A [(a 19, .inl (cm 19, 2000, .inl fc)), (a 28, .inl (cm 28, 6, .inl fo)), (a 29, .inl (cm 29, 700, .inl fl)), (h0, .inr (11, gP a i g (nI cd) (nI zs) (nI w5) w6 bd bp bq (nI bk) (nI pl) br)), (a 1, .inl (cm 1, 1400, .inl fT))] := hD
  try dsimp only at hw
  clear hz1 hk1 hFc hPc hKc hDc
  rcases hw with ⟨rfl, hA_r4⟩ | ⟨rfl, hA_r4⟩
  ·
    refine lv_if_eq (tgt := 45) hx hb dX11_statement_12 (by decide) (fun hc => absurd hc (by decide)) (fun hc => ?_)
    refine lv_aload_n hx hb dX11_statement_15 rfl (lv_at hl 1 rfl) ?_
    have hPc := hP.sub (ws' := [(h0, .inr (11, gP a i g (nI cd) (nI zs) (nI w5) w6 bd bp bq (nI bk) (nI pl) br)), (a 1, .inl (cm 1, 1400, .inl fT)), (a 19, .inl (cm 19, 2000, .inl fc)), (a 29, .inl (cm 29, 700, .inl fl))]) [3, 4, 0, 2] rfl
    have hKc := hK.sub (tys' := [(cm 1, .byte), (cm 19, .int), (cm 29, .int)]) [0, 1, 3] rfl
    have hDc := hD.sub (ws' := [(h0, .inr (11, gP a i g (nI cd) (nI zs) (nI w5) w6 bd bp bq (nI bk) (nI pl) br)), (a 1, .inl (cm 1, 1400, .inl fT)), (a 19, .inl (cm 19, 2000, .inl fc)), (a 29, .inl (cm 29, 700, .inl fl))]) [3, 4, 0, 2] (by decide) rfl
    have hFc := va_free (wc := [(h0, .inr (11, gP a i g (nI cd) (nI zs) (nI w5) w6 bd bp bq (nI bk) (nI pl) br)), (a 1, .inl (cm 1, 1400, .inl fT)), (a 19, .inl (cm 19, 2000, .inl fc)), (a 29, .inl (cm 29, 700, .inl fl))]) hD hS hA [3, 4, 0, 2] rfl
    refine va_callv (va_runV (As := []) (rest := []) ⟨hx, hb, hml, hown, hts⟩ (c_sum l D _ h0 a cm i g fT fc fl cd zs w5 w6 bd bp bq bk pl br fo 0 1 (by omega) (by omega) (by omega) hWf) (cwV 0 hts g_c_statement_c_sum_366 rfl rfl rfl (by decide +kernel) ⟨(Nat.le_of_ble_eq_true rfl), (Nat.le_of_ble_eq_true rfl)⟩) (PcW_V (q0 := 0) hPc hKc hDc rfl rfl) rfl rfl hl.1 rfl (lv_room (Nat.le_of_ble_eq_true rfl)) dX11_statement_16 ⟨(Nat.le_of_ble_eq_true rfl), (Nat.le_of_ble_eq_true rfl)⟩) hS (fun q _ h => hFc q h) hFc (fun uu tt H locs htt hvm hw hB hz1 hk1 hS => ?_)
    obtain ⟨w8, w9, w10, w11, w12, w13, w14, w15, w16, w17⟩ := uu
    obtain ⟨hP1, hK1, hD1⟩ := hB
    rw [htt] at hP1
    have hK1 := va_K.moved hvm.symm hK1
    have hP1 : va_P D vwCl [(h0, .inr (11, gP a i g (nI w10) (nI zs) (nI w11) w12 w13 w14 w15 (nI bk) (nI w16) w17)), (a 1, .inl (cm 1, 1400, .inl fT)), (a 19, .inl (cm 19, 2000, .inl w8)), (a 29, .inl (cm 29, 700, .inl w9))] H := hP1
    obtain ⟨hP, hD⟩ := va_join (wr := [(a 28, .inl (cm 28, 6, .inl fo))]) (w1 := [(h0, .inr (11, gP a i g (nI w10) (nI zs) (nI w11) w12 w13 w14 w15 (nI bk) (nI w16) w17)), (a 1, .inl (cm 1, 1400, .inl fT)), (a 19, .inl (cm 19, 2000, .inl w8)), (a 29, .inl (cm 29, 700, .inl w9))]) hP hD [3, 4, 0, 2] [1] rfl rfl (by decide) (by decide) hk1 hFc hP1 hD1
    have hP : va_P D vwCl [(a 28, .inl (cm 28, 6, .inl fo)), (h0, .inr (11, gP a i g (nI w10) (nI zs) (nI w11) w12 w13 w14 w15 (nI bk) (nI w16) w17)), (a 1, .inl (cm 1, 1400, .inl fT)), (a 19, .inl (cm 19, 2000, .inl w8)), (a 29, .inl (cm 29, 700, .inl w9))] H := hP
    have hD : va_D A [(a 28, .inl (cm 28, 6, .inl fo)), (h0, .inr (11, gP a i g (nI w10) (nI zs) (nI w11) w12 w13 w14 w15 (nI bk) (nI w16) w17)), (a 1, .inl (cm 1, 1400, .inl fT)), (a 19, .inl (cm 19, 2000, .inl w8)), (a 29, .inl (cm 29, 700, .inl w9))] := hD
    try dsimp only at hw
    clear hz1 hk1 hFc hPc hKc hDc
    obtain ⟨hs18_1, hs18_2, hs18_3, hs18_b⟩ := hw
    have hs18_W := fun z => (hs18_b z).2
    refine lv_aload_n hx hb dX11_statement_19 rfl (lv_at hl 1 rfl) ?_
    refine lv_bipush (v := 51) hx hb dX11_statement_20 (by decide) ?_
    have hPc := hP.sub (ws' := [(h0, .inr (11, gP a i g (nI w10) (nI zs) (nI w11) w12 w13 w14 w15 (nI bk) (nI w16) w17)), (a 1, .inl (cm 1, 1400, .inl fT))]) [1, 2] rfl
    have hKc := hK.sub (tys' := [(cm 1, .byte)]) [0] rfl
    have hDc := hD.sub (ws' := [(h0, .inr (11, gP a i g (nI w10) (nI zs) (nI w11) w12 w13 w14 w15 (nI bk) (nI w16) w17)), (a 1, .inl (cm 1, 1400, .inl fT))]) [1, 2] (by decide) rfl
    have hFc := va_free (wc := [(h0, .inr (11, gP a i g (nI w10) (nI zs) (nI w11) w12 w13 w14 w15 (nI bk) (nI w16) w17)), (a 1, .inl (cm 1, 1400, .inl fT))]) hD hS hA [1, 2] rfl
    refine va_callv (va_runV (As := [.int 51]) (rest := []) ⟨hx, hb, hml, hown, hts⟩ (c_asks l D _ h0 a cm i g fT w10 zs w11 w12 w13 w14 w15 bk w16 w17 51 (by first | assumption | omega) (by first | assumption | omega)) (cwV 1 hts g_c_statement_c_asks_369 rfl rfl rfl (by decide +kernel) ⟨(Nat.le_of_ble_eq_true rfl), (Nat.le_of_ble_eq_true rfl)⟩) (PcW_V (q0 := 0) hPc hKc hDc rfl rfl) rfl rfl hl.1 rfl (lv_room (Nat.le_of_ble_eq_true rfl)) dX11_statement_22 ⟨(Nat.le_of_ble_eq_true rfl), (Nat.le_of_ble_eq_true rfl)⟩) hS (fun q _ h => hFc q h) hFc (fun uu tt H locs htt hvm hw hB hz1 hk1 hS => ?_)
    obtain ⟨w20, w21, w22, w23, w24⟩ := uu
    obtain ⟨hP1, hK1, hD1⟩ := hB
    rw [htt] at hP1
    have hK1 := va_K.moved hvm.symm hK1
    have hP1 : va_P D vwCl [(h0, .inr (11, gP a i g (nI w10) (nI zs) (nI w20) w21 w22 w23 w24 (nI bk) (nI w16) w17)), (a 1, .inl (cm 1, 1400, .inl fT))] H := hP1
    obtain ⟨hP, hD⟩ := va_join (wr := [(a 28, .inl (cm 28, 6, .inl fo)), (a 19, .inl (cm 19, 2000, .inl w8)), (a 29, .inl (cm 29, 700, .inl w9))]) (w1 := [(h0, .inr (11, gP a i g (nI w10) (nI zs) (nI w20) w21 w22 w23 w24 (nI bk) (nI w16) w17)), (a 1, .inl (cm 1, 1400, .inl fT))]) hP hD [1, 2] [0, 3, 4] rfl rfl (by decide) (by decide) hk1 hFc hP1 hD1
    have hP : va_P D vwCl [(a 28, .inl (cm 28, 6, .inl fo)), (a 19, .inl (cm 19, 2000, .inl w8)), (a 29, .inl (cm 29, 700, .inl w9)), (h0, .inr (11, gP a i g (nI w10) (nI zs) (nI w20) w21 w22 w23 w24 (nI bk) (nI w16) w17)), (a 1, .inl (cm 1, 1400, .inl fT))] H := hP
    have hD : va_D A [(a 28, .inl (cm 28, 6, .inl fo)), (a 19, .inl (cm 19, 2000, .inl w8)), (a 29, .inl (cm 29, 700, .inl w9)), (h0, .inr (11, gP a i g (nI w10) (nI zs) (nI w20) w21 w22 w23 w24 (nI bk) (nI w16) w17)), (a 1, .inl (cm 1, 1400, .inl fT))] := hD
    try dsimp only at hw
    clear hz1 hk1 hFc hPc hKc hDc
    obtain ⟨hb25_1, hb25_2, hb25_b⟩ := hw
    refine lv_aload_n hx hb dX11_statement_25 rfl (lv_at hl 1 rfl) ?_
    have hPc := hP.sub (ws' := [(h0, .inr (11, gP a i g (nI w10) (nI zs) (nI w20) w21 w22 w23 w24 (nI bk) (nI w16) w17))]) [3] rfl
    have hKc := hK.sub (tys' := []) [] rfl
    have hFc := va_free0 hS hA
    refine va_calli (va_runV (As := []) (rest := []) ⟨hx, hb, hml, hown, hts⟩ (c_isFine l D _ h0 a cm i g w10 zs w20 w21 w22 w23 w24 bk w16 w17) (cwV 0 hts g_c_statement_c_isFine_313 rfl rfl rfl (by decide +kernel) ⟨(Nat.le_of_ble_eq_true rfl), (Nat.le_of_ble_eq_true rfl)⟩) (PcR_V (q0 := 0) hPc hKc rfl rfl) rfl rfl hl.1 rfl (lv_room (Nat.le_of_ble_eq_true rfl)) dX11_statement_26 ⟨(Nat.le_of_ble_eq_true rfl), (Nat.le_of_ble_eq_true rfl)⟩) hS (fun q _ h => hFc q h) hFc (fun r26 uu tt H locs htt hvm hw hB hz1 hk1 hS => ?_)
    have hP := va_keep hP hk1
    try dsimp only at hw
    clear hB hz1 hk1 hFc hPc hKc
    rcases hw with ⟨rfl, hA_r26⟩ | ⟨rfl, hA_r26⟩
    ·
      refine lv_if_eq (tgt := 36) hx hb dX11_statement_29 (by decide) (fun hc => absurd hc (by decide)) (fun hc => ?_)
      refine lv_aload_n hx hb dX11_statement_32 rfl (lv_at hl 1 rfl) ?_
      have hW1 : w22 = 0 → PSt w8 fo w10 bk 1 := fun z => (hs18_b (hb25_b z)).2
      have hPc := hP.sub (ws' := [(h0, .inr (11, gP a i g (nI w10) (nI zs) (nI w20) w21 w22 w23 w24 (nI bk) (nI w16) w17)), (a 1, .inl (cm 1, 1400, .inl fT)), (a 19, .inl (cm 19, 2000, .inl w8)), (a 29, .inl (cm 29, 700, .inl w9))]) [3, 4, 1, 2] rfl
      have hKc := hK.sub (tys' := [(cm 1, .byte), (cm 19, .int), (cm 29, .int)]) [0, 1, 3] rfl
      have hDc := hD.sub (ws' := [(h0, .inr (11, gP a i g (nI w10) (nI zs) (nI w20) w21 w22 w23 w24 (nI bk) (nI w16) w17)), (a 1, .inl (cm 1, 1400, .inl fT)), (a 19, .inl (cm 19, 2000, .inl w8)), (a 29, .inl (cm 29, 700, .inl w9))]) [3, 4, 1, 2] (by decide) rfl
      have hFc := va_free (wc := [(h0, .inr (11, gP a i g (nI w10) (nI zs) (nI w20) w21 w22 w23 w24 (nI bk) (nI w16) w17)), (a 1, .inl (cm 1, 1400, .inl fT)), (a 19, .inl (cm 19, 2000, .inl w8)), (a 29, .inl (cm 29, 700, .inl w9))]) hD hS hA [3, 4, 1, 2] rfl
      refine va_callv (va_runV (As := []) (rest := []) ⟨hx, hb, hml, hown, hts⟩ (c_sum l D _ h0 a cm i g fT w8 w9 w10 zs w20 w21 w22 w23 w24 bk w16 w17 fo 1 1 (by omega) (by omega) (by omega) hW1) (cwV 0 hts g_c_statement_c_sum_366 rfl rfl rfl (by decide +kernel) ⟨(Nat.le_of_ble_eq_true rfl), (Nat.le_of_ble_eq_true rfl)⟩) (PcW_V (q0 := 0) hPc hKc hDc rfl rfl) rfl rfl hl.1 rfl (lv_room (Nat.le_of_ble_eq_true rfl)) dX11_statement_33 ⟨(Nat.le_of_ble_eq_true rfl), (Nat.le_of_ble_eq_true rfl)⟩) hS (fun q _ h => hFc q h) hFc (fun uu tt H locs htt hvm hw hB hz1 hk1 hS => ?_)
      obtain ⟨w28, w29, w30, w31, w32, w33, w34, w35, w36, w37⟩ := uu
      obtain ⟨hP1, hK1, hD1⟩ := hB
      rw [htt] at hP1
      have hK1 := va_K.moved hvm.symm hK1
      have hP1 : va_P D vwCl [(h0, .inr (11, gP a i g (nI w30) (nI zs) (nI w31) w32 w33 w34 w35 (nI bk) (nI w36) w37)), (a 1, .inl (cm 1, 1400, .inl fT)), (a 19, .inl (cm 19, 2000, .inl w28)), (a 29, .inl (cm 29, 700, .inl w29))] H := hP1
      obtain ⟨hP, hD⟩ := va_join (wr := [(a 28, .inl (cm 28, 6, .inl fo))]) (w1 := [(h0, .inr (11, gP a i g (nI w30) (nI zs) (nI w31) w32 w33 w34 w35 (nI bk) (nI w36) w37)), (a 1, .inl (cm 1, 1400, .inl fT)), (a 19, .inl (cm 19, 2000, .inl w28)), (a 29, .inl (cm 29, 700, .inl w29))]) hP hD [3, 4, 1, 2] [0] rfl rfl (by decide) (by decide) hk1 hFc hP1 hD1
      have hP : va_P D vwCl [(a 28, .inl (cm 28, 6, .inl fo)), (h0, .inr (11, gP a i g (nI w30) (nI zs) (nI w31) w32 w33 w34 w35 (nI bk) (nI w36) w37)), (a 1, .inl (cm 1, 1400, .inl fT)), (a 19, .inl (cm 19, 2000, .inl w28)), (a 29, .inl (cm 29, 700, .inl w29))] H := hP
      have hD : va_D A [(a 28, .inl (cm 28, 6, .inl fo)), (h0, .inr (11, gP a i g (nI w30) (nI zs) (nI w31) w32 w33 w34 w35 (nI bk) (nI w36) w37)), (a 1, .inl (cm 1, 1400, .inl fT)), (a 19, .inl (cm 19, 2000, .inl w28)), (a 29, .inl (cm 29, 700, .inl w29))] := hD
      try dsimp only at hw
      clear hz1 hk1 hFc hPc hKc hDc
      obtain ⟨hs38_1, hs38_2, hs38_3, hs38_b⟩ := hw
      have hs38_W := fun z => (hs38_b z).2
      refine lv_aload_n hx hb dX11_statement_36 rfl (lv_at hl 1 rfl) ?_
      refine lv_iconst (v := 0) hx hb dX11_statement_37 (by decide) ?_
      refine lv_iconst (v := 0) hx hb dX11_statement_38 (by decide) ?_
      have hPc := hP.sub (ws' := [(h0, .inr (11, gP a i g (nI w30) (nI zs) (nI w31) w32 w33 w34 w35 (nI bk) (nI w36) w37)), (a 19, .inl (cm 19, 2000, .inl w28))]) [1, 3] rfl
      have hKc := hK.sub (tys' := [(cm 19, .int)]) [1] rfl
      have hDc := hD.sub (ws' := [(h0, .inr (11, gP a i g (nI w30) (nI zs) (nI w31) w32 w33 w34 w35 (nI bk) (nI w36) w37)), (a 19, .inl (cm 19, 2000, .inl w28))]) [1, 3] (by decide) rfl
      have hFc := va_free (wc := [(h0, .inr (11, gP a i g (nI w30) (nI zs) (nI w31) w32 w33 w34 w35 (nI bk) (nI w36) w37)), (a 19, .inl (cm 19, 2000, .inl w28))]) hD hS hA [1, 3] rfl
      refine va_callv (va_runV (As := [.int 0, .int 0]) (rest := []) ⟨hx, hb, hml, hown, hts⟩ (c_emits l D _ h0 a cm i g w28 w30 zs w31 w32 w33 w34 w35 bk w36 w37 0 0 (by first | assumption | omega)) (cwV 2 hts g_c_statement_c_emits_344 rfl rfl rfl (by decide +kernel) ⟨(Nat.le_of_ble_eq_true rfl), (Nat.le_of_ble_eq_true rfl)⟩) (PcW_V (q0 := 0) hPc hKc hDc rfl rfl) rfl rfl hl.1 rfl (lv_room (Nat.le_of_ble_eq_true rfl)) dX11_statement_39 ⟨(Nat.le_of_ble_eq_true rfl), (Nat.le_of_ble_eq_true rfl)⟩) hS (fun q _ h => hFc q h) hFc (fun uu tt H locs htt hvm hw hB hz1 hk1 hS => ?_)
      obtain ⟨w40, w41⟩ := uu
      obtain ⟨hP1, hK1, hD1⟩ := hB
      rw [htt] at hP1
      have hK1 := va_K.moved hvm.symm hK1
      have hP1 : va_P D vwCl [(h0, .inr (11, gP a i g (nI w41) (nI zs) (nI w31) w32 w33 w34 w35 (nI bk) (nI w36) w37)), (a 19, .inl (cm 19, 2000, .inl w40))] H := hP1
      obtain ⟨hP, hD⟩ := va_join (wr := [(a 28, .inl (cm 28, 6, .inl fo)), (a 1, .inl (cm 1, 1400, .inl fT)), (a 29, .inl (cm 29, 700, .inl w29))]) (w1 := [(h0, .inr (11, gP a i g (nI w41) (nI zs) (nI w31) w32 w33 w34 w35 (nI bk) (nI w36) w37)), (a 19, .inl (cm 19, 2000, .inl w40))]) hP hD [1, 3] [0, 2, 4] rfl rfl (by decide) (by decide) hk1 hFc hP1 hD1
      have hP : va_P D vwCl [(a 28, .inl (cm 28, 6, .inl fo)), (a 1, .inl (cm 1, 1400, .inl fT)), (a 29, .inl (cm 29, 700, .inl w29)), (h0, .inr (11, gP a i g (nI w41) (nI zs) (nI w31) w32 w33 w34 w35 (nI bk) (nI w36) w37)), (a 19, .inl (cm 19, 2000, .inl w40))] H := hP
      have hD : va_D A [(a 28, .inl (cm 28, 6, .inl fo)), (a 1, .inl (cm 1, 1400, .inl fT)), (a 29, .inl (cm 29, 700, .inl w29)), (h0, .inr (11, gP a i g (nI w41) (nI zs) (nI w31) w32 w33 w34 w35 (nI bk) (nI w36) w37)), (a 19, .inl (cm 19, 2000, .inl w40))] := hD
      try dsimp only at hw
      clear hz1 hk1 hFc hPc hKc hDc
      obtain ⟨rfl, rfl⟩ := hw
      have hP : va_P D vwCl [(a 28, .inl (cm 28, 6, .inl fo)), (a 1, .inl (cm 1, 1400, .inl fT)), (a 29, .inl (cm 29, 700, .inl w29)), (h0, .inr (11, gP a i g (nI (w30 + 1)) (nI zs) (nI w31) w32 w33 w34 w35 (nI bk) (nI w36) w37)), (a 19, .inl (cm 19, 2000, .inl (upd (upd w28 (2 * w30) 0) (2 * w30 + 1) 0)))] H := hP
      have hD : va_D A [(a 28, .inl (cm 28, 6, .inl fo)), (a 1, .inl (cm 1, 1400, .inl fT)), (a 29, .inl (cm 29, 700, .inl w29)), (h0, .inr (11, gP a i g (nI (w30 + 1)) (nI zs) (nI w31) w32 w33 w34 w35 (nI bk) (nI w36) w37)), (a 19, .inl (cm 19, 2000, .inl (upd (upd w28 (2 * w30) 0) (2 * w30 + 1) 0)))] := hD
      refine lv_goto (tgt := 199) hx hb dX11_statement_42 (by decide) ?_
      refine lv_aload_n hx hb dX11_statement_199 rfl (lv_at hl 1 rfl) ?_
      refine lv_bipush (v := 59) hx hb dX11_statement_200 (by decide) ?_
      have hPc := hP.sub (ws' := [(h0, .inr (11, gP a i g (nI (w30 + 1)) (nI zs) (nI w31) w32 w33 w34 w35 (nI bk) (nI w36) w37)), (a 1, .inl (cm 1, 1400, .inl fT))]) [3, 1] rfl
      have hKc := hK.sub (tys' := [(cm 1, .byte)]) [0] rfl
      have hDc := hD.sub (ws' := [(h0, .inr (11, gP a i g (nI (w30 + 1)) (nI zs) (nI w31) w32 w33 w34 w35 (nI bk) (nI w36) w37)), (a 1, .inl (cm 1, 1400, .inl fT))]) [3, 1] (by decide) rfl
      have hFc := va_free (wc := [(h0, .inr (11, gP a i g (nI (w30 + 1)) (nI zs) (nI w31) w32 w33 w34 w35 (nI bk) (nI w36) w37)), (a 1, .inl (cm 1, 1400, .inl fT))]) hD hS hA [3, 1] rfl
      refine va_callv (va_runV (As := [.int 59]) (rest := []) ⟨hx, hb, hml, hown, hts⟩ (c_needsSign l D _ h0 a cm i g fT (w30 + 1) zs w31 w32 w33 w34 w35 bk w36 w37 59 (by first | assumption | omega) (by first | assumption | omega)) (cwV 1 hts g_c_statement_c_needsSign_363 rfl rfl rfl (by decide +kernel) ⟨(Nat.le_of_ble_eq_true rfl), (Nat.le_of_ble_eq_true rfl)⟩) (PcW_V (q0 := 0) hPc hKc hDc rfl rfl) rfl rfl hl.1 rfl (lv_room (Nat.le_of_ble_eq_true rfl)) dX11_statement_202 ⟨(Nat.le_of_ble_eq_true rfl), (Nat.le_of_ble_eq_true rfl)⟩) hS (fun q _ h => hFc q h) hFc (fun uu tt H locs htt hvm hw hB hz1 hk1 hS => ?_)
      obtain ⟨w43, w44, w45, w46⟩ := uu
      obtain ⟨hP1, hK1, hD1⟩ := hB
      rw [htt] at hP1
      have hK1 := va_K.moved hvm.symm hK1
      have hP1 : va_P D vwCl [(h0, .inr (11, gP a i g (nI (w30 + 1)) (nI zs) (nI w43) w32 w44 w45 w46 (nI bk) (nI w36) w37)), (a 1, .inl (cm 1, 1400, .inl fT))] H := hP1
      obtain ⟨hP, hD⟩ := va_join (wr := [(a 28, .inl (cm 28, 6, .inl fo)), (a 29, .inl (cm 29, 700, .inl w29)), (a 19, .inl (cm 19, 2000, .inl (upd (upd w28 (2 * w30) 0) (2 * w30 + 1) 0)))]) (w1 := [(h0, .inr (11, gP a i g (nI (w30 + 1)) (nI zs) (nI w43) w32 w44 w45 w46 (nI bk) (nI w36) w37)), (a 1, .inl (cm 1, 1400, .inl fT))]) hP hD [3, 1] [0, 2, 4] rfl rfl (by decide) (by decide) hk1 hFc hP1 hD1
      have hP : va_P D vwCl [(a 28, .inl (cm 28, 6, .inl fo)), (a 29, .inl (cm 29, 700, .inl w29)), (a 19, .inl (cm 19, 2000, .inl (upd (upd w28 (2 * w30) 0) (2 * w30 + 1) 0))), (h0, .inr (11, gP a i g (nI (w30 + 1)) (nI zs) (nI w43) w32 w44 w45 w46 (nI bk) (nI w36) w37)), (a 1, .inl (cm 1, 1400, .inl fT))] H := hP
      have hD : va_D A [(a 28, .inl (cm 28, 6, .inl fo)), (a 29, .inl (cm 29, 700, .inl w29)), (a 19, .inl (cm 19, 2000, .inl (upd (upd w28 (2 * w30) 0) (2 * w30 + 1) 0))), (h0, .inr (11, gP a i g (nI (w30 + 1)) (nI zs) (nI w43) w32 w44 w45 w46 (nI bk) (nI w36) w37)), (a 1, .inl (cm 1, 1400, .inl fT))] := hD
      try dsimp only at hw
      clear hz1 hk1 hFc hPc hKc hDc
      obtain ⟨hb47_1, hb47_2, hb47_b⟩ := hw
      exact W.vret hx hb hr (fun t ht hW => ⟨⟨((upd (upd w28 (2 * w30) 0) (2 * w30 + 1) 0), fo, w29, (w30 + 1), w43, w32, w44, w45, w46, bk, w36, w37), rfl, (by (try dsimp only); exact ⟨by omega, by omega, hb5, fun z => ⟨by omega, PSt_app (x := 0) (hs38_W (hb47_b z).1) (Or.inr (Or.inr ⟨by omega, by omega, rfl⟩))⟩⟩), by rw [ht]; exact hP.sub [3, 4, 2, 0, 1] rfl, va_K.moved hW.alike (hK.sub [0, 1, 2, 3] rfl), hD.sub [3, 4, 2, 0, 1] (by decide) rfl⟩, hS.F ht⟩) hS.2.2 dX11_statement_205
    ·
      refine lv_if_eq (tgt := 36) hx hb dX11_statement_29 (by decide) (fun hc => ?_) (fun hc => absurd (by decide) hc)
      refine lv_aload_n hx hb dX11_statement_36 rfl (lv_at hl 1 rfl) ?_
      refine lv_iconst (v := 0) hx hb dX11_statement_37 (by decide) ?_
      refine lv_iconst (v := 0) hx hb dX11_statement_38 (by decide) ?_
      have hPc := hP.sub (ws' := [(h0, .inr (11, gP a i g (nI w10) (nI zs) (nI w20) w21 w22 w23 w24 (nI bk) (nI w16) w17)), (a 19, .inl (cm 19, 2000, .inl w8))]) [3, 1] rfl
      have hKc := hK.sub (tys' := [(cm 19, .int)]) [1] rfl
      have hDc := hD.sub (ws' := [(h0, .inr (11, gP a i g (nI w10) (nI zs) (nI w20) w21 w22 w23 w24 (nI bk) (nI w16) w17)), (a 19, .inl (cm 19, 2000, .inl w8))]) [3, 1] (by decide) rfl
      have hFc := va_free (wc := [(h0, .inr (11, gP a i g (nI w10) (nI zs) (nI w20) w21 w22 w23 w24 (nI bk) (nI w16) w17)), (a 19, .inl (cm 19, 2000, .inl w8))]) hD hS hA [3, 1] rfl
      refine va_callv (va_runV (As := [.int 0, .int 0]) (rest := []) ⟨hx, hb, hml, hown, hts⟩ (c_emits l D _ h0 a cm i g w8 w10 zs w20 w21 w22 w23 w24 bk w16 w17 0 0 (by first | assumption | omega)) (cwV 2 hts g_c_statement_c_emits_344 rfl rfl rfl (by decide +kernel) ⟨(Nat.le_of_ble_eq_true rfl), (Nat.le_of_ble_eq_true rfl)⟩) (PcW_V (q0 := 0) hPc hKc hDc rfl rfl) rfl rfl hl.1 rfl (lv_room (Nat.le_of_ble_eq_true rfl)) dX11_statement_39 ⟨(Nat.le_of_ble_eq_true rfl), (Nat.le_of_ble_eq_true rfl)⟩) hS (fun q _ h => hFc q h) hFc (fun uu tt H locs htt hvm hw hB hz1 hk1 hS => ?_)
      obtain ⟨w49, w50⟩ := uu
      obtain ⟨hP1, hK1, hD1⟩ := hB
      rw [htt] at hP1
      have hK1 := va_K.moved hvm.symm hK1
      have hP1 : va_P D vwCl [(h0, .inr (11, gP a i g (nI w50) (nI zs) (nI w20) w21 w22 w23 w24 (nI bk) (nI w16) w17)), (a 19, .inl (cm 19, 2000, .inl w49))] H := hP1
      obtain ⟨hP, hD⟩ := va_join (wr := [(a 28, .inl (cm 28, 6, .inl fo)), (a 29, .inl (cm 29, 700, .inl w9)), (a 1, .inl (cm 1, 1400, .inl fT))]) (w1 := [(h0, .inr (11, gP a i g (nI w50) (nI zs) (nI w20) w21 w22 w23 w24 (nI bk) (nI w16) w17)), (a 19, .inl (cm 19, 2000, .inl w49))]) hP hD [3, 1] [0, 2, 4] rfl rfl (by decide) (by decide) hk1 hFc hP1 hD1
      have hP : va_P D vwCl [(a 28, .inl (cm 28, 6, .inl fo)), (a 29, .inl (cm 29, 700, .inl w9)), (a 1, .inl (cm 1, 1400, .inl fT)), (h0, .inr (11, gP a i g (nI w50) (nI zs) (nI w20) w21 w22 w23 w24 (nI bk) (nI w16) w17)), (a 19, .inl (cm 19, 2000, .inl w49))] H := hP
      have hD : va_D A [(a 28, .inl (cm 28, 6, .inl fo)), (a 29, .inl (cm 29, 700, .inl w9)), (a 1, .inl (cm 1, 1400, .inl fT)), (h0, .inr (11, gP a i g (nI w50) (nI zs) (nI w20) w21 w22 w23 w24 (nI bk) (nI w16) w17)), (a 19, .inl (cm 19, 2000, .inl w49))] := hD
      try dsimp only at hw
      clear hz1 hk1 hFc hPc hKc hDc
      obtain ⟨rfl, rfl⟩ := hw
      have hP : va_P D vwCl [(a 28, .inl (cm 28, 6, .inl fo)), (a 29, .inl (cm 29, 700, .inl w9)), (a 1, .inl (cm 1, 1400, .inl fT)), (h0, .inr (11, gP a i g (nI (w10 + 1)) (nI zs) (nI w20) w21 w22 w23 w24 (nI bk) (nI w16) w17)), (a 19, .inl (cm 19, 2000, .inl (upd (upd w8 (2 * w10) 0) (2 * w10 + 1) 0)))] H := hP
      have hD : va_D A [(a 28, .inl (cm 28, 6, .inl fo)), (a 29, .inl (cm 29, 700, .inl w9)), (a 1, .inl (cm 1, 1400, .inl fT)), (h0, .inr (11, gP a i g (nI (w10 + 1)) (nI zs) (nI w20) w21 w22 w23 w24 (nI bk) (nI w16) w17)), (a 19, .inl (cm 19, 2000, .inl (upd (upd w8 (2 * w10) 0) (2 * w10 + 1) 0)))] := hD
      refine lv_goto (tgt := 199) hx hb dX11_statement_42 (by decide) ?_
      refine lv_aload_n hx hb dX11_statement_199 rfl (lv_at hl 1 rfl) ?_
      refine lv_bipush (v := 59) hx hb dX11_statement_200 (by decide) ?_
      have hPc := hP.sub (ws' := [(h0, .inr (11, gP a i g (nI (w10 + 1)) (nI zs) (nI w20) w21 w22 w23 w24 (nI bk) (nI w16) w17)), (a 1, .inl (cm 1, 1400, .inl fT))]) [3, 2] rfl
      have hKc := hK.sub (tys' := [(cm 1, .byte)]) [0] rfl
      have hDc := hD.sub (ws' := [(h0, .inr (11, gP a i g (nI (w10 + 1)) (nI zs) (nI w20) w21 w22 w23 w24 (nI bk) (nI w16) w17)), (a 1, .inl (cm 1, 1400, .inl fT))]) [3, 2] (by decide) rfl
      have hFc := va_free (wc := [(h0, .inr (11, gP a i g (nI (w10 + 1)) (nI zs) (nI w20) w21 w22 w23 w24 (nI bk) (nI w16) w17)), (a 1, .inl (cm 1, 1400, .inl fT))]) hD hS hA [3, 2] rfl
      refine va_callv (va_runV (As := [.int 59]) (rest := []) ⟨hx, hb, hml, hown, hts⟩ (c_needsSign l D _ h0 a cm i g fT (w10 + 1) zs w20 w21 w22 w23 w24 bk w16 w17 59 (by first | assumption | omega) (by first | assumption | omega)) (cwV 1 hts g_c_statement_c_needsSign_363 rfl rfl rfl (by decide +kernel) ⟨(Nat.le_of_ble_eq_true rfl), (Nat.le_of_ble_eq_true rfl)⟩) (PcW_V (q0 := 0) hPc hKc hDc rfl rfl) rfl rfl hl.1 rfl (lv_room (Nat.le_of_ble_eq_true rfl)) dX11_statement_202 ⟨(Nat.le_of_ble_eq_true rfl), (Nat.le_of_ble_eq_true rfl)⟩) hS (fun q _ h => hFc q h) hFc (fun uu tt H locs htt hvm hw hB hz1 hk1 hS => ?_)
      obtain ⟨w52, w53, w54, w55⟩ := uu
      obtain ⟨hP1, hK1, hD1⟩ := hB
      rw [htt] at hP1
      have hK1 := va_K.moved hvm.symm hK1
      have hP1 : va_P D vwCl [(h0, .inr (11, gP a i g (nI (w10 + 1)) (nI zs) (nI w52) w21 w53 w54 w55 (nI bk) (nI w16) w17)), (a 1, .inl (cm 1, 1400, .inl fT))] H := hP1
      obtain ⟨hP, hD⟩ := va_join (wr := [(a 28, .inl (cm 28, 6, .inl fo)), (a 29, .inl (cm 29, 700, .inl w9)), (a 19, .inl (cm 19, 2000, .inl (upd (upd w8 (2 * w10) 0) (2 * w10 + 1) 0)))]) (w1 := [(h0, .inr (11, gP a i g (nI (w10 + 1)) (nI zs) (nI w52) w21 w53 w54 w55 (nI bk) (nI w16) w17)), (a 1, .inl (cm 1, 1400, .inl fT))]) hP hD [3, 2] [0, 1, 4] rfl rfl (by decide) (by decide) hk1 hFc hP1 hD1
      have hP : va_P D vwCl [(a 28, .inl (cm 28, 6, .inl fo)), (a 29, .inl (cm 29, 700, .inl w9)), (a 19, .inl (cm 19, 2000, .inl (upd (upd w8 (2 * w10) 0) (2 * w10 + 1) 0))), (h0, .inr (11, gP a i g (nI (w10 + 1)) (nI zs) (nI w52) w21 w53 w54 w55 (nI bk) (nI w16) w17)), (a 1, .inl (cm 1, 1400, .inl fT))] H := hP
      have hD : va_D A [(a 28, .inl (cm 28, 6, .inl fo)), (a 29, .inl (cm 29, 700, .inl w9)), (a 19, .inl (cm 19, 2000, .inl (upd (upd w8 (2 * w10) 0) (2 * w10 + 1) 0))), (h0, .inr (11, gP a i g (nI (w10 + 1)) (nI zs) (nI w52) w21 w53 w54 w55 (nI bk) (nI w16) w17)), (a 1, .inl (cm 1, 1400, .inl fT))] := hD
      try dsimp only at hw
      clear hz1 hk1 hFc hPc hKc hDc
      obtain ⟨hb56_1, hb56_2, hb56_b⟩ := hw
      exact W.vret hx hb hr (fun t ht hW => ⟨⟨((upd (upd w8 (2 * w10) 0) (2 * w10 + 1) 0), fo, w9, (w10 + 1), w52, w21, w53, w54, w55, bk, w16, w17), rfl, (by (try dsimp only); exact ⟨by omega, by omega, hb5, fun z => absurd (hb56_b z).1 hA_r26⟩), by rw [ht]; exact hP.sub [3, 4, 2, 0, 1] rfl, va_K.moved hW.alike (hK.sub [0, 1, 2, 3] rfl), hD.sub [3, 4, 2, 0, 1] (by decide) rfl⟩, hS.F ht⟩) hS.2.2 dX11_statement_205
  ·
    refine lv_if_eq (tgt := 45) hx hb dX11_statement_12 (by decide) (fun hc => ?_) (fun hc => absurd (by decide) hc)
    refine lv_aload_n hx hb dX11_statement_45 rfl (lv_at hl 1 rfl) ?_
    refine lv_ldcw (v := 150000) hx hb hown (hts (.constant RX11 372 (150000)) (List.mem_of_getElem? (i := 23) rfl)) dX11_statement_46 ?_
    have hPc := hP.sub (ws' := [(h0, .inr (11, gP a i g (nI cd) (nI zs) (nI w5) w6 bd bp bq (nI bk) (nI pl) br)), (a 1, .inl (cm 1, 1400, .inl fT))]) [3, 4] rfl
    have hKc := hK.sub (tys' := [(cm 1, .byte)]) [0] rfl
    have hDc := hD.sub (ws' := [(h0, .inr (11, gP a i g (nI cd) (nI zs) (nI w5) w6 bd bp bq (nI bk) (nI pl) br)), (a 1, .inl (cm 1, 1400, .inl fT))]) [3, 4] (by decide) rfl
    have hFc := va_free (wc := [(h0, .inr (11, gP a i g (nI cd) (nI zs) (nI w5) w6 bd bp bq (nI bk) (nI pl) br)), (a 1, .inl (cm 1, 1400, .inl fT))]) hD hS hA [3, 4] rfl
    refine va_calli (va_runV (As := [.int 150000]) (rest := []) ⟨hx, hb, hml, hown, hts⟩ (c_takesWord l D _ h0 a cm i g fT cd zs w5 w6 bd bp bq bk pl br 150000 (by first | assumption | omega) (by first | assumption | omega)) (cwV 1 hts g_c_statement_c_takesWord_329 rfl rfl rfl (by decide +kernel) ⟨(Nat.le_of_ble_eq_true rfl), (Nat.le_of_ble_eq_true rfl)⟩) (PcW_V (q0 := 0) hPc hKc hDc rfl rfl) rfl rfl hl.1 rfl (lv_room (Nat.le_of_ble_eq_true rfl)) dX11_statement_49 ⟨(Nat.le_of_ble_eq_true rfl), (Nat.le_of_ble_eq_true rfl)⟩) hS (fun q _ h => hFc q h) hFc (fun r57 uu tt H locs htt hvm hw hB hz1 hk1 hS => ?_)
    obtain ⟨w58, w59⟩ := uu
    obtain ⟨hP1, hK1, hD1⟩ := hB
    rw [htt] at hP1
    have hK1 := va_K.moved hvm.symm hK1
    have hP1 : va_P D vwCl [(h0, .inr (11, gP a i g (nI cd) (nI zs) (nI w58) w59 bd bp bq (nI bk) (nI pl) br)), (a 1, .inl (cm 1, 1400, .inl fT))] H := hP1
    obtain ⟨hP, hD⟩ := va_join (wr := [(a 19, .inl (cm 19, 2000, .inl fc)), (a 28, .inl (cm 28, 6, .inl fo)), (a 29, .inl (cm 29, 700, .inl fl))]) (w1 := [(h0, .inr (11, gP a i g (nI cd) (nI zs) (nI w58) w59 bd bp bq (nI bk) (nI pl) br)), (a 1, .inl (cm 1, 1400, .inl fT))]) hP hD [3, 4] [0, 1, 2] rfl rfl (by decide) (by decide) hk1 hFc hP1 hD1
    have hP : va_P D vwCl [(a 19, .inl (cm 19, 2000, .inl fc)), (a 28, .inl (cm 28, 6, .inl fo)), (a 29, .inl (cm 29, 700, .inl fl)), (h0, .inr (11, gP a i g (nI cd) (nI zs) (nI w58) w59 bd bp bq (nI bk) (nI pl) br)), (a 1, .inl (cm 1, 1400, .inl fT))] H := hP
    have hD : va_D A [(a 19, .inl (cm 19, 2000, .inl fc)), (a 28, .inl (cm 28, 6, .inl fo)), (a 29, .inl (cm 29, 700, .inl fl)), (h0, .inr (11, gP a i g (nI cd) (nI zs) (nI w58) w59 bd bp bq (nI bk) (nI pl) br)), (a 1, .inl (cm 1, 1400, .inl fT))] := hD
    try dsimp only at hw
    clear hz1 hk1 hFc hPc hKc hDc
    rcases hw with ⟨rfl, hA_r57⟩ | ⟨rfl, hA_r57⟩
    ·
      refine lv_if_eq (tgt := 68) hx hb dX11_statement_52 (by decide) (fun hc => absurd hc (by decide)) (fun hc => ?_)
      refine lv_aload_n hx hb dX11_statement_55 rfl (lv_at hl 1 rfl) ?_
      have hPc := hP.sub (ws' := [(h0, .inr (11, gP a i g (nI cd) (nI zs) (nI w58) w59 bd bp bq (nI bk) (nI pl) br)), (a 1, .inl (cm 1, 1400, .inl fT)), (a 19, .inl (cm 19, 2000, .inl fc)), (a 29, .inl (cm 29, 700, .inl fl))]) [3, 4, 0, 2] rfl
      have hKc := hK.sub (tys' := [(cm 1, .byte), (cm 19, .int), (cm 29, .int)]) [0, 1, 3] rfl
      have hDc := hD.sub (ws' := [(h0, .inr (11, gP a i g (nI cd) (nI zs) (nI w58) w59 bd bp bq (nI bk) (nI pl) br)), (a 1, .inl (cm 1, 1400, .inl fT)), (a 19, .inl (cm 19, 2000, .inl fc)), (a 29, .inl (cm 29, 700, .inl fl))]) [3, 4, 0, 2] (by decide) rfl
      have hFc := va_free (wc := [(h0, .inr (11, gP a i g (nI cd) (nI zs) (nI w58) w59 bd bp bq (nI bk) (nI pl) br)), (a 1, .inl (cm 1, 1400, .inl fT)), (a 19, .inl (cm 19, 2000, .inl fc)), (a 29, .inl (cm 29, 700, .inl fl))]) hD hS hA [3, 4, 0, 2] rfl
      refine va_callv (va_runV (As := []) (rest := []) ⟨hx, hb, hml, hown, hts⟩ (c_sum l D _ h0 a cm i g fT fc fl cd zs w58 w59 bd bp bq bk pl br fo 0 1 (by omega) (by omega) (by omega) hWf) (cwV 0 hts g_c_statement_c_sum_366 rfl rfl rfl (by decide +kernel) ⟨(Nat.le_of_ble_eq_true rfl), (Nat.le_of_ble_eq_true rfl)⟩) (PcW_V (q0 := 0) hPc hKc hDc rfl rfl) rfl rfl hl.1 rfl (lv_room (Nat.le_of_ble_eq_true rfl)) dX11_statement_56 ⟨(Nat.le_of_ble_eq_true rfl), (Nat.le_of_ble_eq_true rfl)⟩) hS (fun q _ h => hFc q h) hFc (fun uu tt H locs htt hvm hw hB hz1 hk1 hS => ?_)
      obtain ⟨w61, w62, w63, w64, w65, w66, w67, w68, w69, w70⟩ := uu
      obtain ⟨hP1, hK1, hD1⟩ := hB
      rw [htt] at hP1
      have hK1 := va_K.moved hvm.symm hK1
      have hP1 : va_P D vwCl [(h0, .inr (11, gP a i g (nI w63) (nI zs) (nI w64) w65 w66 w67 w68 (nI bk) (nI w69) w70)), (a 1, .inl (cm 1, 1400, .inl fT)), (a 19, .inl (cm 19, 2000, .inl w61)), (a 29, .inl (cm 29, 700, .inl w62))] H := hP1
      obtain ⟨hP, hD⟩ := va_join (wr := [(a 28, .inl (cm 28, 6, .inl fo))]) (w1 := [(h0, .inr (11, gP a i g (nI w63) (nI zs) (nI w64) w65 w66 w67 w68 (nI bk) (nI w69) w70)), (a 1, .inl (cm 1, 1400, .inl fT)), (a 19, .inl (cm 19, 2000, .inl w61)), (a 29, .inl (cm 29, 700, .inl w62))]) hP hD [3, 4, 0, 2] [1] rfl rfl (by decide) (by decide) hk1 hFc hP1 hD1
      have hP : va_P D vwCl [(a 28, .inl (cm 28, 6, .inl fo)), (h0, .inr (11, gP a i g (nI w63) (nI zs) (nI w64) w65 w66 w67 w68 (nI bk) (nI w69) w70)), (a 1, .inl (cm 1, 1400, .inl fT)), (a 19, .inl (cm 19, 2000, .inl w61)), (a 29, .inl (cm 29, 700, .inl w62))] H := hP
      have hD : va_D A [(a 28, .inl (cm 28, 6, .inl fo)), (h0, .inr (11, gP a i g (nI w63) (nI zs) (nI w64) w65 w66 w67 w68 (nI bk) (nI w69) w70)), (a 1, .inl (cm 1, 1400, .inl fT)), (a 19, .inl (cm 19, 2000, .inl w61)), (a 29, .inl (cm 29, 700, .inl w62))] := hD
      try dsimp only at hw
      clear hz1 hk1 hFc hPc hKc hDc
      obtain ⟨hs71_1, hs71_2, hs71_3, hs71_b⟩ := hw
      have hs71_W := fun z => (hs71_b z).2
      refine lv_aload_n hx hb dX11_statement_59 rfl (lv_at hl 1 rfl) ?_
      refine lv_iconst (v := 1) hx hb dX11_statement_60 (by decide) ?_
      refine lv_iconst (v := 0) hx hb dX11_statement_61 (by decide) ?_
      have hPc := hP.sub (ws' := [(h0, .inr (11, gP a i g (nI w63) (nI zs) (nI w64) w65 w66 w67 w68 (nI bk) (nI w69) w70)), (a 19, .inl (cm 19, 2000, .inl w61))]) [1, 3] rfl
      have hKc := hK.sub (tys' := [(cm 19, .int)]) [1] rfl
      have hDc := hD.sub (ws' := [(h0, .inr (11, gP a i g (nI w63) (nI zs) (nI w64) w65 w66 w67 w68 (nI bk) (nI w69) w70)), (a 19, .inl (cm 19, 2000, .inl w61))]) [1, 3] (by decide) rfl
      have hFc := va_free (wc := [(h0, .inr (11, gP a i g (nI w63) (nI zs) (nI w64) w65 w66 w67 w68 (nI bk) (nI w69) w70)), (a 19, .inl (cm 19, 2000, .inl w61))]) hD hS hA [1, 3] rfl
      refine va_callv (va_runV (As := [.int 1, .int 0]) (rest := []) ⟨hx, hb, hml, hown, hts⟩ (c_emits l D _ h0 a cm i g w61 w63 zs w64 w65 w66 w67 w68 bk w69 w70 1 0 (by first | assumption | omega)) (cwV 2 hts g_c_statement_c_emits_344 rfl rfl rfl (by decide +kernel) ⟨(Nat.le_of_ble_eq_true rfl), (Nat.le_of_ble_eq_true rfl)⟩) (PcW_V (q0 := 0) hPc hKc hDc rfl rfl) rfl rfl hl.1 rfl (lv_room (Nat.le_of_ble_eq_true rfl)) dX11_statement_62 ⟨(Nat.le_of_ble_eq_true rfl), (Nat.le_of_ble_eq_true rfl)⟩) hS (fun q _ h => hFc q h) hFc (fun uu tt H locs htt hvm hw hB hz1 hk1 hS => ?_)
      obtain ⟨w73, w74⟩ := uu
      obtain ⟨hP1, hK1, hD1⟩ := hB
      rw [htt] at hP1
      have hK1 := va_K.moved hvm.symm hK1
      have hP1 : va_P D vwCl [(h0, .inr (11, gP a i g (nI w74) (nI zs) (nI w64) w65 w66 w67 w68 (nI bk) (nI w69) w70)), (a 19, .inl (cm 19, 2000, .inl w73))] H := hP1
      obtain ⟨hP, hD⟩ := va_join (wr := [(a 28, .inl (cm 28, 6, .inl fo)), (a 1, .inl (cm 1, 1400, .inl fT)), (a 29, .inl (cm 29, 700, .inl w62))]) (w1 := [(h0, .inr (11, gP a i g (nI w74) (nI zs) (nI w64) w65 w66 w67 w68 (nI bk) (nI w69) w70)), (a 19, .inl (cm 19, 2000, .inl w73))]) hP hD [1, 3] [0, 2, 4] rfl rfl (by decide) (by decide) hk1 hFc hP1 hD1
      have hP : va_P D vwCl [(a 28, .inl (cm 28, 6, .inl fo)), (a 1, .inl (cm 1, 1400, .inl fT)), (a 29, .inl (cm 29, 700, .inl w62)), (h0, .inr (11, gP a i g (nI w74) (nI zs) (nI w64) w65 w66 w67 w68 (nI bk) (nI w69) w70)), (a 19, .inl (cm 19, 2000, .inl w73))] H := hP
      have hD : va_D A [(a 28, .inl (cm 28, 6, .inl fo)), (a 1, .inl (cm 1, 1400, .inl fT)), (a 29, .inl (cm 29, 700, .inl w62)), (h0, .inr (11, gP a i g (nI w74) (nI zs) (nI w64) w65 w66 w67 w68 (nI bk) (nI w69) w70)), (a 19, .inl (cm 19, 2000, .inl w73))] := hD
      try dsimp only at hw
      clear hz1 hk1 hFc hPc hKc hDc
      obtain ⟨rfl, rfl⟩ := hw
      have hP : va_P D vwCl [(a 28, .inl (cm 28, 6, .inl fo)), (a 1, .inl (cm 1, 1400, .inl fT)), (a 29, .inl (cm 29, 700, .inl w62)), (h0, .inr (11, gP a i g (nI (w63 + 1)) (nI zs) (nI w64) w65 w66 w67 w68 (nI bk) (nI w69) w70)), (a 19, .inl (cm 19, 2000, .inl (upd (upd w61 (2 * w63) 1) (2 * w63 + 1) 0)))] H := hP
      have hD : va_D A [(a 28, .inl (cm 28, 6, .inl fo)), (a 1, .inl (cm 1, 1400, .inl fT)), (a 29, .inl (cm 29, 700, .inl w62)), (h0, .inr (11, gP a i g (nI (w63 + 1)) (nI zs) (nI w64) w65 w66 w67 w68 (nI bk) (nI w69) w70)), (a 19, .inl (cm 19, 2000, .inl (upd (upd w61 (2 * w63) 1) (2 * w63 + 1) 0)))] := hD
      refine lv_goto (tgt := 199) hx hb dX11_statement_65 (by decide) ?_
      refine lv_aload_n hx hb dX11_statement_199 rfl (lv_at hl 1 rfl) ?_
      refine lv_bipush (v := 59) hx hb dX11_statement_200 (by decide) ?_
      have hPc := hP.sub (ws' := [(h0, .inr (11, gP a i g (nI (w63 + 1)) (nI zs) (nI w64) w65 w66 w67 w68 (nI bk) (nI w69) w70)), (a 1, .inl (cm 1, 1400, .inl fT))]) [3, 1] rfl
      have hKc := hK.sub (tys' := [(cm 1, .byte)]) [0] rfl
      have hDc := hD.sub (ws' := [(h0, .inr (11, gP a i g (nI (w63 + 1)) (nI zs) (nI w64) w65 w66 w67 w68 (nI bk) (nI w69) w70)), (a 1, .inl (cm 1, 1400, .inl fT))]) [3, 1] (by decide) rfl
      have hFc := va_free (wc := [(h0, .inr (11, gP a i g (nI (w63 + 1)) (nI zs) (nI w64) w65 w66 w67 w68 (nI bk) (nI w69) w70)), (a 1, .inl (cm 1, 1400, .inl fT))]) hD hS hA [3, 1] rfl
      refine va_callv (va_runV (As := [.int 59]) (rest := []) ⟨hx, hb, hml, hown, hts⟩ (c_needsSign l D _ h0 a cm i g fT (w63 + 1) zs w64 w65 w66 w67 w68 bk w69 w70 59 (by first | assumption | omega) (by first | assumption | omega)) (cwV 1 hts g_c_statement_c_needsSign_363 rfl rfl rfl (by decide +kernel) ⟨(Nat.le_of_ble_eq_true rfl), (Nat.le_of_ble_eq_true rfl)⟩) (PcW_V (q0 := 0) hPc hKc hDc rfl rfl) rfl rfl hl.1 rfl (lv_room (Nat.le_of_ble_eq_true rfl)) dX11_statement_202 ⟨(Nat.le_of_ble_eq_true rfl), (Nat.le_of_ble_eq_true rfl)⟩) hS (fun q _ h => hFc q h) hFc (fun uu tt H locs htt hvm hw hB hz1 hk1 hS => ?_)
      obtain ⟨w76, w77, w78, w79⟩ := uu
      obtain ⟨hP1, hK1, hD1⟩ := hB
      rw [htt] at hP1
      have hK1 := va_K.moved hvm.symm hK1
      have hP1 : va_P D vwCl [(h0, .inr (11, gP a i g (nI (w63 + 1)) (nI zs) (nI w76) w65 w77 w78 w79 (nI bk) (nI w69) w70)), (a 1, .inl (cm 1, 1400, .inl fT))] H := hP1
      obtain ⟨hP, hD⟩ := va_join (wr := [(a 28, .inl (cm 28, 6, .inl fo)), (a 29, .inl (cm 29, 700, .inl w62)), (a 19, .inl (cm 19, 2000, .inl (upd (upd w61 (2 * w63) 1) (2 * w63 + 1) 0)))]) (w1 := [(h0, .inr (11, gP a i g (nI (w63 + 1)) (nI zs) (nI w76) w65 w77 w78 w79 (nI bk) (nI w69) w70)), (a 1, .inl (cm 1, 1400, .inl fT))]) hP hD [3, 1] [0, 2, 4] rfl rfl (by decide) (by decide) hk1 hFc hP1 hD1
      have hP : va_P D vwCl [(a 28, .inl (cm 28, 6, .inl fo)), (a 29, .inl (cm 29, 700, .inl w62)), (a 19, .inl (cm 19, 2000, .inl (upd (upd w61 (2 * w63) 1) (2 * w63 + 1) 0))), (h0, .inr (11, gP a i g (nI (w63 + 1)) (nI zs) (nI w76) w65 w77 w78 w79 (nI bk) (nI w69) w70)), (a 1, .inl (cm 1, 1400, .inl fT))] H := hP
      have hD : va_D A [(a 28, .inl (cm 28, 6, .inl fo)), (a 29, .inl (cm 29, 700, .inl w62)), (a 19, .inl (cm 19, 2000, .inl (upd (upd w61 (2 * w63) 1) (2 * w63 + 1) 0))), (h0, .inr (11, gP a i g (nI (w63 + 1)) (nI zs) (nI w76) w65 w77 w78 w79 (nI bk) (nI w69) w70)), (a 1, .inl (cm 1, 1400, .inl fT))] := hD
      try dsimp only at hw
      clear hz1 hk1 hFc hPc hKc hDc
      obtain ⟨hb80_1, hb80_2, hb80_b⟩ := hw
      exact W.vret hx hb hr (fun t ht hW => ⟨⟨((upd (upd w61 (2 * w63) 1) (2 * w63 + 1) 0), fo, w62, (w63 + 1), w76, w65, w77, w78, w79, bk, w69, w70), rfl, (by (try dsimp only); exact ⟨by omega, by omega, hb5, fun z => ⟨by omega, PSt_app (x := 1) (hs71_W (hb80_b z).1) (Or.inr (Or.inr ⟨by omega, by omega, rfl⟩))⟩⟩), by rw [ht]; exact hP.sub [3, 4, 2, 0, 1] rfl, va_K.moved hW.alike (hK.sub [0, 1, 2, 3] rfl), hD.sub [3, 4, 2, 0, 1] (by decide) rfl⟩, hS.F ht⟩) hS.2.2 dX11_statement_205
    ·
      refine lv_if_eq (tgt := 68) hx hb dX11_statement_52 (by decide) (fun hc => ?_) (fun hc => absurd (by decide) hc)
      refine lv_aload_n hx hb dX11_statement_68 rfl (lv_at hl 1 rfl) ?_
      refine lv_sipush (v := 7348) hx hb dX11_statement_69 (by decide) ?_
      have hPc := hP.sub (ws' := [(h0, .inr (11, gP a i g (nI cd) (nI zs) (nI w58) w59 bd bp bq (nI bk) (nI pl) br)), (a 1, .inl (cm 1, 1400, .inl fT))]) [3, 4] rfl
      have hKc := hK.sub (tys' := [(cm 1, .byte)]) [0] rfl
      have hDc := hD.sub (ws' := [(h0, .inr (11, gP a i g (nI cd) (nI zs) (nI w58) w59 bd bp bq (nI bk) (nI pl) br)), (a 1, .inl (cm 1, 1400, .inl fT))]) [3, 4] (by decide) rfl
      have hFc := va_free (wc := [(h0, .inr (11, gP a i g (nI cd) (nI zs) (nI w58) w59 bd bp bq (nI bk) (nI pl) br)), (a 1, .inl (cm 1, 1400, .inl fT))]) hD hS hA [3, 4] rfl
      refine va_calli (va_runV (As := [.int 7348]) (rest := []) ⟨hx, hb, hml, hown, hts⟩ (c_takesWord l D _ h0 a cm i g fT cd zs w58 w59 bd bp bq bk pl br 7348 (by first | assumption | omega) (by first | assumption | omega)) (cwV 1 hts g_c_statement_c_takesWord_329 rfl rfl rfl (by decide +kernel) ⟨(Nat.le_of_ble_eq_true rfl), (Nat.le_of_ble_eq_true rfl)⟩) (PcW_V (q0 := 0) hPc hKc hDc rfl rfl) rfl rfl hl.1 rfl (lv_room (Nat.le_of_ble_eq_true rfl)) dX11_statement_72 ⟨(Nat.le_of_ble_eq_true rfl), (Nat.le_of_ble_eq_true rfl)⟩) hS (fun q _ h => hFc q h) hFc (fun r81 uu tt H locs htt hvm hw hB hz1 hk1 hS => ?_)
      obtain ⟨w82, w83⟩ := uu
      obtain ⟨hP1, hK1, hD1⟩ := hB
      rw [htt] at hP1
      have hK1 := va_K.moved hvm.symm hK1
      have hP1 : va_P D vwCl [(h0, .inr (11, gP a i g (nI cd) (nI zs) (nI w82) w83 bd bp bq (nI bk) (nI pl) br)), (a 1, .inl (cm 1, 1400, .inl fT))] H := hP1
      obtain ⟨hP, hD⟩ := va_join (wr := [(a 19, .inl (cm 19, 2000, .inl fc)), (a 28, .inl (cm 28, 6, .inl fo)), (a 29, .inl (cm 29, 700, .inl fl))]) (w1 := [(h0, .inr (11, gP a i g (nI cd) (nI zs) (nI w82) w83 bd bp bq (nI bk) (nI pl) br)), (a 1, .inl (cm 1, 1400, .inl fT))]) hP hD [3, 4] [0, 1, 2] rfl rfl (by decide) (by decide) hk1 hFc hP1 hD1
      have hP : va_P D vwCl [(a 19, .inl (cm 19, 2000, .inl fc)), (a 28, .inl (cm 28, 6, .inl fo)), (a 29, .inl (cm 29, 700, .inl fl)), (h0, .inr (11, gP a i g (nI cd) (nI zs) (nI w82) w83 bd bp bq (nI bk) (nI pl) br)), (a 1, .inl (cm 1, 1400, .inl fT))] H := hP
      have hD : va_D A [(a 19, .inl (cm 19, 2000, .inl fc)), (a 28, .inl (cm 28, 6, .inl fo)), (a 29, .inl (cm 29, 700, .inl fl)), (h0, .inr (11, gP a i g (nI cd) (nI zs) (nI w82) w83 bd bp bq (nI bk) (nI pl) br)), (a 1, .inl (cm 1, 1400, .inl fT))] := hD
      try dsimp only at hw
      clear hz1 hk1 hFc hPc hKc hDc
      rcases hw with ⟨rfl, hA_r81⟩ | ⟨rfl, hA_r81⟩
      ·
        refine lv_if_eq (tgt := 91) hx hb dX11_statement_75 (by decide) (fun hc => absurd hc (by decide)) (fun hc => ?_)
        refine lv_aload_n hx hb dX11_statement_78 rfl (lv_at hl 1 rfl) ?_
        have hPc := hP.sub (ws' := [(h0, .inr (11, gP a i g (nI cd) (nI zs) (nI w82) w83 bd bp bq (nI bk) (nI pl) br)), (a 1, .inl (cm 1, 1400, .inl fT)), (a 19, .inl (cm 19, 2000, .inl fc)), (a 29, .inl (cm 29, 700, .inl fl))]) [3, 4, 0, 2] rfl
        have hKc := hK.sub (tys' := [(cm 1, .byte), (cm 19, .int), (cm 29, .int)]) [0, 1, 3] rfl
        have hDc := hD.sub (ws' := [(h0, .inr (11, gP a i g (nI cd) (nI zs) (nI w82) w83 bd bp bq (nI bk) (nI pl) br)), (a 1, .inl (cm 1, 1400, .inl fT)), (a 19, .inl (cm 19, 2000, .inl fc)), (a 29, .inl (cm 29, 700, .inl fl))]) [3, 4, 0, 2] (by decide) rfl
        have hFc := va_free (wc := [(h0, .inr (11, gP a i g (nI cd) (nI zs) (nI w82) w83 bd bp bq (nI bk) (nI pl) br)), (a 1, .inl (cm 1, 1400, .inl fT)), (a 19, .inl (cm 19, 2000, .inl fc)), (a 29, .inl (cm 29, 700, .inl fl))]) hD hS hA [3, 4, 0, 2] rfl
        refine va_callv (va_runV (As := []) (rest := []) ⟨hx, hb, hml, hown, hts⟩ (c_sum l D _ h0 a cm i g fT fc fl cd zs w82 w83 bd bp bq bk pl br fo 0 1 (by omega) (by omega) (by omega) hWf) (cwV 0 hts g_c_statement_c_sum_366 rfl rfl rfl (by decide +kernel) ⟨(Nat.le_of_ble_eq_true rfl), (Nat.le_of_ble_eq_true rfl)⟩) (PcW_V (q0 := 0) hPc hKc hDc rfl rfl) rfl rfl hl.1 rfl (lv_room (Nat.le_of_ble_eq_true rfl)) dX11_statement_79 ⟨(Nat.le_of_ble_eq_true rfl), (Nat.le_of_ble_eq_true rfl)⟩) hS (fun q _ h => hFc q h) hFc (fun uu tt H locs htt hvm hw hB hz1 hk1 hS => ?_)
        obtain ⟨w85, w86, w87, w88, w89, w90, w91, w92, w93, w94⟩ := uu
        obtain ⟨hP1, hK1, hD1⟩ := hB
        rw [htt] at hP1
        have hK1 := va_K.moved hvm.symm hK1
        have hP1 : va_P D vwCl [(h0, .inr (11, gP a i g (nI w87) (nI zs) (nI w88) w89 w90 w91 w92 (nI bk) (nI w93) w94)), (a 1, .inl (cm 1, 1400, .inl fT)), (a 19, .inl (cm 19, 2000, .inl w85)), (a 29, .inl (cm 29, 700, .inl w86))] H := hP1
        obtain ⟨hP, hD⟩ := va_join (wr := [(a 28, .inl (cm 28, 6, .inl fo))]) (w1 := [(h0, .inr (11, gP a i g (nI w87) (nI zs) (nI w88) w89 w90 w91 w92 (nI bk) (nI w93) w94)), (a 1, .inl (cm 1, 1400, .inl fT)), (a 19, .inl (cm 19, 2000, .inl w85)), (a 29, .inl (cm 29, 700, .inl w86))]) hP hD [3, 4, 0, 2] [1] rfl rfl (by decide) (by decide) hk1 hFc hP1 hD1
        have hP : va_P D vwCl [(a 28, .inl (cm 28, 6, .inl fo)), (h0, .inr (11, gP a i g (nI w87) (nI zs) (nI w88) w89 w90 w91 w92 (nI bk) (nI w93) w94)), (a 1, .inl (cm 1, 1400, .inl fT)), (a 19, .inl (cm 19, 2000, .inl w85)), (a 29, .inl (cm 29, 700, .inl w86))] H := hP
        have hD : va_D A [(a 28, .inl (cm 28, 6, .inl fo)), (h0, .inr (11, gP a i g (nI w87) (nI zs) (nI w88) w89 w90 w91 w92 (nI bk) (nI w93) w94)), (a 1, .inl (cm 1, 1400, .inl fT)), (a 19, .inl (cm 19, 2000, .inl w85)), (a 29, .inl (cm 29, 700, .inl w86))] := hD
        try dsimp only at hw
        clear hz1 hk1 hFc hPc hKc hDc
        obtain ⟨hs95_1, hs95_2, hs95_3, hs95_b⟩ := hw
        have hs95_W := fun z => (hs95_b z).2
        refine lv_aload_n hx hb dX11_statement_82 rfl (lv_at hl 1 rfl) ?_
        refine lv_iconst (v := 2) hx hb dX11_statement_83 (by decide) ?_
        refine lv_iconst (v := 0) hx hb dX11_statement_84 (by decide) ?_
        have hPc := hP.sub (ws' := [(h0, .inr (11, gP a i g (nI w87) (nI zs) (nI w88) w89 w90 w91 w92 (nI bk) (nI w93) w94)), (a 19, .inl (cm 19, 2000, .inl w85))]) [1, 3] rfl
        have hKc := hK.sub (tys' := [(cm 19, .int)]) [1] rfl
        have hDc := hD.sub (ws' := [(h0, .inr (11, gP a i g (nI w87) (nI zs) (nI w88) w89 w90 w91 w92 (nI bk) (nI w93) w94)), (a 19, .inl (cm 19, 2000, .inl w85))]) [1, 3] (by decide) rfl
        have hFc := va_free (wc := [(h0, .inr (11, gP a i g (nI w87) (nI zs) (nI w88) w89 w90 w91 w92 (nI bk) (nI w93) w94)), (a 19, .inl (cm 19, 2000, .inl w85))]) hD hS hA [1, 3] rfl
        refine va_callv (va_runV (As := [.int 2, .int 0]) (rest := []) ⟨hx, hb, hml, hown, hts⟩ (c_emits l D _ h0 a cm i g w85 w87 zs w88 w89 w90 w91 w92 bk w93 w94 2 0 (by first | assumption | omega)) (cwV 2 hts g_c_statement_c_emits_344 rfl rfl rfl (by decide +kernel) ⟨(Nat.le_of_ble_eq_true rfl), (Nat.le_of_ble_eq_true rfl)⟩) (PcW_V (q0 := 0) hPc hKc hDc rfl rfl) rfl rfl hl.1 rfl (lv_room (Nat.le_of_ble_eq_true rfl)) dX11_statement_85 ⟨(Nat.le_of_ble_eq_true rfl), (Nat.le_of_ble_eq_true rfl)⟩) hS (fun q _ h => hFc q h) hFc (fun uu tt H locs htt hvm hw hB hz1 hk1 hS => ?_)
        obtain ⟨w97, w98⟩ := uu
        obtain ⟨hP1, hK1, hD1⟩ := hB
        rw [htt] at hP1
        have hK1 := va_K.moved hvm.symm hK1
        have hP1 : va_P D vwCl [(h0, .inr (11, gP a i g (nI w98) (nI zs) (nI w88) w89 w90 w91 w92 (nI bk) (nI w93) w94)), (a 19, .inl (cm 19, 2000, .inl w97))] H := hP1
        obtain ⟨hP, hD⟩ := va_join (wr := [(a 28, .inl (cm 28, 6, .inl fo)), (a 1, .inl (cm 1, 1400, .inl fT)), (a 29, .inl (cm 29, 700, .inl w86))]) (w1 := [(h0, .inr (11, gP a i g (nI w98) (nI zs) (nI w88) w89 w90 w91 w92 (nI bk) (nI w93) w94)), (a 19, .inl (cm 19, 2000, .inl w97))]) hP hD [1, 3] [0, 2, 4] rfl rfl (by decide) (by decide) hk1 hFc hP1 hD1
        have hP : va_P D vwCl [(a 28, .inl (cm 28, 6, .inl fo)), (a 1, .inl (cm 1, 1400, .inl fT)), (a 29, .inl (cm 29, 700, .inl w86)), (h0, .inr (11, gP a i g (nI w98) (nI zs) (nI w88) w89 w90 w91 w92 (nI bk) (nI w93) w94)), (a 19, .inl (cm 19, 2000, .inl w97))] H := hP
        have hD : va_D A [(a 28, .inl (cm 28, 6, .inl fo)), (a 1, .inl (cm 1, 1400, .inl fT)), (a 29, .inl (cm 29, 700, .inl w86)), (h0, .inr (11, gP a i g (nI w98) (nI zs) (nI w88) w89 w90 w91 w92 (nI bk) (nI w93) w94)), (a 19, .inl (cm 19, 2000, .inl w97))] := hD
        try dsimp only at hw
        clear hz1 hk1 hFc hPc hKc hDc
        obtain ⟨rfl, rfl⟩ := hw
        have hP : va_P D vwCl [(a 28, .inl (cm 28, 6, .inl fo)), (a 1, .inl (cm 1, 1400, .inl fT)), (a 29, .inl (cm 29, 700, .inl w86)), (h0, .inr (11, gP a i g (nI (w87 + 1)) (nI zs) (nI w88) w89 w90 w91 w92 (nI bk) (nI w93) w94)), (a 19, .inl (cm 19, 2000, .inl (upd (upd w85 (2 * w87) 2) (2 * w87 + 1) 0)))] H := hP
        have hD : va_D A [(a 28, .inl (cm 28, 6, .inl fo)), (a 1, .inl (cm 1, 1400, .inl fT)), (a 29, .inl (cm 29, 700, .inl w86)), (h0, .inr (11, gP a i g (nI (w87 + 1)) (nI zs) (nI w88) w89 w90 w91 w92 (nI bk) (nI w93) w94)), (a 19, .inl (cm 19, 2000, .inl (upd (upd w85 (2 * w87) 2) (2 * w87 + 1) 0)))] := hD
        refine lv_goto (tgt := 199) hx hb dX11_statement_88 (by decide) ?_
        refine lv_aload_n hx hb dX11_statement_199 rfl (lv_at hl 1 rfl) ?_
        refine lv_bipush (v := 59) hx hb dX11_statement_200 (by decide) ?_
        have hPc := hP.sub (ws' := [(h0, .inr (11, gP a i g (nI (w87 + 1)) (nI zs) (nI w88) w89 w90 w91 w92 (nI bk) (nI w93) w94)), (a 1, .inl (cm 1, 1400, .inl fT))]) [3, 1] rfl
        have hKc := hK.sub (tys' := [(cm 1, .byte)]) [0] rfl
        have hDc := hD.sub (ws' := [(h0, .inr (11, gP a i g (nI (w87 + 1)) (nI zs) (nI w88) w89 w90 w91 w92 (nI bk) (nI w93) w94)), (a 1, .inl (cm 1, 1400, .inl fT))]) [3, 1] (by decide) rfl
        have hFc := va_free (wc := [(h0, .inr (11, gP a i g (nI (w87 + 1)) (nI zs) (nI w88) w89 w90 w91 w92 (nI bk) (nI w93) w94)), (a 1, .inl (cm 1, 1400, .inl fT))]) hD hS hA [3, 1] rfl
        refine va_callv (va_runV (As := [.int 59]) (rest := []) ⟨hx, hb, hml, hown, hts⟩ (c_needsSign l D _ h0 a cm i g fT (w87 + 1) zs w88 w89 w90 w91 w92 bk w93 w94 59 (by first | assumption | omega) (by first | assumption | omega)) (cwV 1 hts g_c_statement_c_needsSign_363 rfl rfl rfl (by decide +kernel) ⟨(Nat.le_of_ble_eq_true rfl), (Nat.le_of_ble_eq_true rfl)⟩) (PcW_V (q0 := 0) hPc hKc hDc rfl rfl) rfl rfl hl.1 rfl (lv_room (Nat.le_of_ble_eq_true rfl)) dX11_statement_202 ⟨(Nat.le_of_ble_eq_true rfl), (Nat.le_of_ble_eq_true rfl)⟩) hS (fun q _ h => hFc q h) hFc (fun uu tt H locs htt hvm hw hB hz1 hk1 hS => ?_)
        obtain ⟨w100, w101, w102, w103⟩ := uu
        obtain ⟨hP1, hK1, hD1⟩ := hB
        rw [htt] at hP1
        have hK1 := va_K.moved hvm.symm hK1
        have hP1 : va_P D vwCl [(h0, .inr (11, gP a i g (nI (w87 + 1)) (nI zs) (nI w100) w89 w101 w102 w103 (nI bk) (nI w93) w94)), (a 1, .inl (cm 1, 1400, .inl fT))] H := hP1
        obtain ⟨hP, hD⟩ := va_join (wr := [(a 28, .inl (cm 28, 6, .inl fo)), (a 29, .inl (cm 29, 700, .inl w86)), (a 19, .inl (cm 19, 2000, .inl (upd (upd w85 (2 * w87) 2) (2 * w87 + 1) 0)))]) (w1 := [(h0, .inr (11, gP a i g (nI (w87 + 1)) (nI zs) (nI w100) w89 w101 w102 w103 (nI bk) (nI w93) w94)), (a 1, .inl (cm 1, 1400, .inl fT))]) hP hD [3, 1] [0, 2, 4] rfl rfl (by decide) (by decide) hk1 hFc hP1 hD1
        have hP : va_P D vwCl [(a 28, .inl (cm 28, 6, .inl fo)), (a 29, .inl (cm 29, 700, .inl w86)), (a 19, .inl (cm 19, 2000, .inl (upd (upd w85 (2 * w87) 2) (2 * w87 + 1) 0))), (h0, .inr (11, gP a i g (nI (w87 + 1)) (nI zs) (nI w100) w89 w101 w102 w103 (nI bk) (nI w93) w94)), (a 1, .inl (cm 1, 1400, .inl fT))] H := hP
        have hD : va_D A [(a 28, .inl (cm 28, 6, .inl fo)), (a 29, .inl (cm 29, 700, .inl w86)), (a 19, .inl (cm 19, 2000, .inl (upd (upd w85 (2 * w87) 2) (2 * w87 + 1) 0))), (h0, .inr (11, gP a i g (nI (w87 + 1)) (nI zs) (nI w100) w89 w101 w102 w103 (nI bk) (nI w93) w94)), (a 1, .inl (cm 1, 1400, .inl fT))] := hD
        try dsimp only at hw
        clear hz1 hk1 hFc hPc hKc hDc
        obtain ⟨hb104_1, hb104_2, hb104_b⟩ := hw
        exact W.vret hx hb hr (fun t ht hW => ⟨⟨((upd (upd w85 (2 * w87) 2) (2 * w87 + 1) 0), fo, w86, (w87 + 1), w100, w89, w101, w102, w103, bk, w93, w94), rfl, (by (try dsimp only); exact ⟨by omega, by omega, hb5, fun z => ⟨by omega, PSt_app (x := 2) (hs95_W (hb104_b z).1) (Or.inr (Or.inr ⟨by omega, by omega, rfl⟩))⟩⟩), by rw [ht]; exact hP.sub [3, 4, 2, 0, 1] rfl, va_K.moved hW.alike (hK.sub [0, 1, 2, 3] rfl), hD.sub [3, 4, 2, 0, 1] (by decide) rfl⟩, hS.F ht⟩) hS.2.2 dX11_statement_205
      ·
        refine lv_if_eq (tgt := 91) hx hb dX11_statement_75 (by decide) (fun hc => ?_) (fun hc => absurd (by decide) hc)
        refine lv_aload_n hx hb dX11_statement_91 rfl (lv_at hl 1 rfl) ?_
        refine lv_sipush (v := 12468) hx hb dX11_statement_92 (by decide) ?_
        have hPc := hP.sub (ws' := [(h0, .inr (11, gP a i g (nI cd) (nI zs) (nI w82) w83 bd bp bq (nI bk) (nI pl) br)), (a 1, .inl (cm 1, 1400, .inl fT))]) [3, 4] rfl
        have hKc := hK.sub (tys' := [(cm 1, .byte)]) [0] rfl
        have hDc := hD.sub (ws' := [(h0, .inr (11, gP a i g (nI cd) (nI zs) (nI w82) w83 bd bp bq (nI bk) (nI pl) br)), (a 1, .inl (cm 1, 1400, .inl fT))]) [3, 4] (by decide) rfl
        have hFc := va_free (wc := [(h0, .inr (11, gP a i g (nI cd) (nI zs) (nI w82) w83 bd bp bq (nI bk) (nI pl) br)), (a 1, .inl (cm 1, 1400, .inl fT))]) hD hS hA [3, 4] rfl
        refine va_calli (va_runV (As := [.int 12468]) (rest := []) ⟨hx, hb, hml, hown, hts⟩ (c_takesWord l D _ h0 a cm i g fT cd zs w82 w83 bd bp bq bk pl br 12468 (by first | assumption | omega) (by first | assumption | omega)) (cwV 1 hts g_c_statement_c_takesWord_329 rfl rfl rfl (by decide +kernel) ⟨(Nat.le_of_ble_eq_true rfl), (Nat.le_of_ble_eq_true rfl)⟩) (PcW_V (q0 := 0) hPc hKc hDc rfl rfl) rfl rfl hl.1 rfl (lv_room (Nat.le_of_ble_eq_true rfl)) dX11_statement_95 ⟨(Nat.le_of_ble_eq_true rfl), (Nat.le_of_ble_eq_true rfl)⟩) hS (fun q _ h => hFc q h) hFc (fun r105 uu tt H locs htt hvm hw hB hz1 hk1 hS => ?_)
        obtain ⟨w106, w107⟩ := uu
        obtain ⟨hP1, hK1, hD1⟩ := hB
        rw [htt] at hP1
        have hK1 := va_K.moved hvm.symm hK1
        have hP1 : va_P D vwCl [(h0, .inr (11, gP a i g (nI cd) (nI zs) (nI w106) w107 bd bp bq (nI bk) (nI pl) br)), (a 1, .inl (cm 1, 1400, .inl fT))] H := hP1
        obtain ⟨hP, hD⟩ := va_join (wr := [(a 19, .inl (cm 19, 2000, .inl fc)), (a 28, .inl (cm 28, 6, .inl fo)), (a 29, .inl (cm 29, 700, .inl fl))]) (w1 := [(h0, .inr (11, gP a i g (nI cd) (nI zs) (nI w106) w107 bd bp bq (nI bk) (nI pl) br)), (a 1, .inl (cm 1, 1400, .inl fT))]) hP hD [3, 4] [0, 1, 2] rfl rfl (by decide) (by decide) hk1 hFc hP1 hD1
        have hP : va_P D vwCl [(a 19, .inl (cm 19, 2000, .inl fc)), (a 28, .inl (cm 28, 6, .inl fo)), (a 29, .inl (cm 29, 700, .inl fl)), (h0, .inr (11, gP a i g (nI cd) (nI zs) (nI w106) w107 bd bp bq (nI bk) (nI pl) br)), (a 1, .inl (cm 1, 1400, .inl fT))] H := hP
        have hD : va_D A [(a 19, .inl (cm 19, 2000, .inl fc)), (a 28, .inl (cm 28, 6, .inl fo)), (a 29, .inl (cm 29, 700, .inl fl)), (h0, .inr (11, gP a i g (nI cd) (nI zs) (nI w106) w107 bd bp bq (nI bk) (nI pl) br)), (a 1, .inl (cm 1, 1400, .inl fT))] := hD
        try dsimp only at hw
        clear hz1 hk1 hFc hPc hKc hDc
        rcases hw with ⟨rfl, hA_r105⟩ | ⟨rfl, hA_r105⟩
        ·
          refine lv_if_eq (tgt := 114) hx hb dX11_statement_98 (by decide) (fun hc => absurd hc (by decide)) (fun hc => ?_)
          refine lv_aload_n hx hb dX11_statement_101 rfl (lv_at hl 1 rfl) ?_
          have hPc := hP.sub (ws' := [(h0, .inr (11, gP a i g (nI cd) (nI zs) (nI w106) w107 bd bp bq (nI bk) (nI pl) br)), (a 1, .inl (cm 1, 1400, .inl fT)), (a 19, .inl (cm 19, 2000, .inl fc)), (a 29, .inl (cm 29, 700, .inl fl))]) [3, 4, 0, 2] rfl
          have hKc := hK.sub (tys' := [(cm 1, .byte), (cm 19, .int), (cm 29, .int)]) [0, 1, 3] rfl
          have hDc := hD.sub (ws' := [(h0, .inr (11, gP a i g (nI cd) (nI zs) (nI w106) w107 bd bp bq (nI bk) (nI pl) br)), (a 1, .inl (cm 1, 1400, .inl fT)), (a 19, .inl (cm 19, 2000, .inl fc)), (a 29, .inl (cm 29, 700, .inl fl))]) [3, 4, 0, 2] (by decide) rfl
          have hFc := va_free (wc := [(h0, .inr (11, gP a i g (nI cd) (nI zs) (nI w106) w107 bd bp bq (nI bk) (nI pl) br)), (a 1, .inl (cm 1, 1400, .inl fT)), (a 19, .inl (cm 19, 2000, .inl fc)), (a 29, .inl (cm 29, 700, .inl fl))]) hD hS hA [3, 4, 0, 2] rfl
          refine va_callv (va_runV (As := []) (rest := []) ⟨hx, hb, hml, hown, hts⟩ (c_sum l D _ h0 a cm i g fT fc fl cd zs w106 w107 bd bp bq bk pl br fo 0 1 (by omega) (by omega) (by omega) hWf) (cwV 0 hts g_c_statement_c_sum_366 rfl rfl rfl (by decide +kernel) ⟨(Nat.le_of_ble_eq_true rfl), (Nat.le_of_ble_eq_true rfl)⟩) (PcW_V (q0 := 0) hPc hKc hDc rfl rfl) rfl rfl hl.1 rfl (lv_room (Nat.le_of_ble_eq_true rfl)) dX11_statement_102 ⟨(Nat.le_of_ble_eq_true rfl), (Nat.le_of_ble_eq_true rfl)⟩) hS (fun q _ h => hFc q h) hFc (fun uu tt H locs htt hvm hw hB hz1 hk1 hS => ?_)
          obtain ⟨w109, w110, w111, w112, w113, w114, w115, w116, w117, w118⟩ := uu
          obtain ⟨hP1, hK1, hD1⟩ := hB
          rw [htt] at hP1
          have hK1 := va_K.moved hvm.symm hK1
          have hP1 : va_P D vwCl [(h0, .inr (11, gP a i g (nI w111) (nI zs) (nI w112) w113 w114 w115 w116 (nI bk) (nI w117) w118)), (a 1, .inl (cm 1, 1400, .inl fT)), (a 19, .inl (cm 19, 2000, .inl w109)), (a 29, .inl (cm 29, 700, .inl w110))] H := hP1
          obtain ⟨hP, hD⟩ := va_join (wr := [(a 28, .inl (cm 28, 6, .inl fo))]) (w1 := [(h0, .inr (11, gP a i g (nI w111) (nI zs) (nI w112) w113 w114 w115 w116 (nI bk) (nI w117) w118)), (a 1, .inl (cm 1, 1400, .inl fT)), (a 19, .inl (cm 19, 2000, .inl w109)), (a 29, .inl (cm 29, 700, .inl w110))]) hP hD [3, 4, 0, 2] [1] rfl rfl (by decide) (by decide) hk1 hFc hP1 hD1
          have hP : va_P D vwCl [(a 28, .inl (cm 28, 6, .inl fo)), (h0, .inr (11, gP a i g (nI w111) (nI zs) (nI w112) w113 w114 w115 w116 (nI bk) (nI w117) w118)), (a 1, .inl (cm 1, 1400, .inl fT)), (a 19, .inl (cm 19, 2000, .inl w109)), (a 29, .inl (cm 29, 700, .inl w110))] H := hP
          have hD : va_D A [(a 28, .inl (cm 28, 6, .inl fo)), (h0, .inr (11, gP a i g (nI w111) (nI zs) (nI w112) w113 w114 w115 w116 (nI bk) (nI w117) w118)), (a 1, .inl (cm 1, 1400, .inl fT)), (a 19, .inl (cm 19, 2000, .inl w109)), (a 29, .inl (cm 29, 700, .inl w110))] := hD
          try dsimp only at hw
          clear hz1 hk1 hFc hPc hKc hDc
          obtain ⟨hs119_1, hs119_2, hs119_3, hs119_b⟩ := hw
          have hs119_W := fun z => (hs119_b z).2
          refine lv_aload_n hx hb dX11_statement_105 rfl (lv_at hl 1 rfl) ?_
          refine lv_iconst (v := 3) hx hb dX11_statement_106 (by decide) ?_
          refine lv_iconst (v := 0) hx hb dX11_statement_107 (by decide) ?_
          have hPc := hP.sub (ws' := [(h0, .inr (11, gP a i g (nI w111) (nI zs) (nI w112) w113 w114 w115 w116 (nI bk) (nI w117) w118)), (a 19, .inl (cm 19, 2000, .inl w109))]) [1, 3] rfl
          have hKc := hK.sub (tys' := [(cm 19, .int)]) [1] rfl
          have hDc := hD.sub (ws' := [(h0, .inr (11, gP a i g (nI w111) (nI zs) (nI w112) w113 w114 w115 w116 (nI bk) (nI w117) w118)), (a 19, .inl (cm 19, 2000, .inl w109))]) [1, 3] (by decide) rfl
          have hFc := va_free (wc := [(h0, .inr (11, gP a i g (nI w111) (nI zs) (nI w112) w113 w114 w115 w116 (nI bk) (nI w117) w118)), (a 19, .inl (cm 19, 2000, .inl w109))]) hD hS hA [1, 3] rfl
          refine va_callv (va_runV (As := [.int 3, .int 0]) (rest := []) ⟨hx, hb, hml, hown, hts⟩ (c_emits l D _ h0 a cm i g w109 w111 zs w112 w113 w114 w115 w116 bk w117 w118 3 0 (by first | assumption | omega)) (cwV 2 hts g_c_statement_c_emits_344 rfl rfl rfl (by decide +kernel) ⟨(Nat.le_of_ble_eq_true rfl), (Nat.le_of_ble_eq_true rfl)⟩) (PcW_V (q0 := 0) hPc hKc hDc rfl rfl) rfl rfl hl.1 rfl (lv_room (Nat.le_of_ble_eq_true rfl)) dX11_statement_108 ⟨(Nat.le_of_ble_eq_true rfl), (Nat.le_of_ble_eq_true rfl)⟩) hS (fun q _ h => hFc q h) hFc (fun uu tt H locs htt hvm hw hB hz1 hk1 hS => ?_)
          obtain ⟨w121, w122⟩ := uu
          obtain ⟨hP1, hK1, hD1⟩ := hB
          rw [htt] at hP1
          have hK1 := va_K.moved hvm.symm hK1
          have hP1 : va_P D vwCl [(h0, .inr (11, gP a i g (nI w122) (nI zs) (nI w112) w113 w114 w115 w116 (nI bk) (nI w117) w118)), (a 19, .inl (cm 19, 2000, .inl w121))] H := hP1
          obtain ⟨hP, hD⟩ := va_join (wr := [(a 28, .inl (cm 28, 6, .inl fo)), (a 1, .inl (cm 1, 1400, .inl fT)), (a 29, .inl (cm 29, 700, .inl w110))]) (w1 := [(h0, .inr (11, gP a i g (nI w122) (nI zs) (nI w112) w113 w114 w115 w116 (nI bk) (nI w117) w118)), (a 19, .inl (cm 19, 2000, .inl w121))]) hP hD [1, 3] [0, 2, 4] rfl rfl (by decide) (by decide) hk1 hFc hP1 hD1
          have hP : va_P D vwCl [(a 28, .inl (cm 28, 6, .inl fo)), (a 1, .inl (cm 1, 1400, .inl fT)), (a 29, .inl (cm 29, 700, .inl w110)), (h0, .inr (11, gP a i g (nI w122) (nI zs) (nI w112) w113 w114 w115 w116 (nI bk) (nI w117) w118)), (a 19, .inl (cm 19, 2000, .inl w121))] H := hP
          have hD : va_D A [(a 28, .inl (cm 28, 6, .inl fo)), (a 1, .inl (cm 1, 1400, .inl fT)), (a 29, .inl (cm 29, 700, .inl w110)), (h0, .inr (11, gP a i g (nI w122) (nI zs) (nI w112) w113 w114 w115 w116 (nI bk) (nI w117) w118)), (a 19, .inl (cm 19, 2000, .inl w121))] := hD
          try dsimp only at hw
          clear hz1 hk1 hFc hPc hKc hDc
          obtain ⟨rfl, rfl⟩ := hw
          have hP : va_P D vwCl [(a 28, .inl (cm 28, 6, .inl fo)), (a 1, .inl (cm 1, 1400, .inl fT)), (a 29, .inl (cm 29, 700, .inl w110)), (h0, .inr (11, gP a i g (nI (w111 + 1)) (nI zs) (nI w112) w113 w114 w115 w116 (nI bk) (nI w117) w118)), (a 19, .inl (cm 19, 2000, .inl (upd (upd w109 (2 * w111) 3) (2 * w111 + 1) 0)))] H := hP
          have hD : va_D A [(a 28, .inl (cm 28, 6, .inl fo)), (a 1, .inl (cm 1, 1400, .inl fT)), (a 29, .inl (cm 29, 700, .inl w110)), (h0, .inr (11, gP a i g (nI (w111 + 1)) (nI zs) (nI w112) w113 w114 w115 w116 (nI bk) (nI w117) w118)), (a 19, .inl (cm 19, 2000, .inl (upd (upd w109 (2 * w111) 3) (2 * w111 + 1) 0)))] := hD
          refine lv_goto (tgt := 199) hx hb dX11_statement_111 (by decide) ?_
          refine lv_aload_n hx hb dX11_statement_199 rfl (lv_at hl 1 rfl) ?_
          refine lv_bipush (v := 59) hx hb dX11_statement_200 (by decide) ?_
          have hPc := hP.sub (ws' := [(h0, .inr (11, gP a i g (nI (w111 + 1)) (nI zs) (nI w112) w113 w114 w115 w116 (nI bk) (nI w117) w118)), (a 1, .inl (cm 1, 1400, .inl fT))]) [3, 1] rfl
          have hKc := hK.sub (tys' := [(cm 1, .byte)]) [0] rfl
          have hDc := hD.sub (ws' := [(h0, .inr (11, gP a i g (nI (w111 + 1)) (nI zs) (nI w112) w113 w114 w115 w116 (nI bk) (nI w117) w118)), (a 1, .inl (cm 1, 1400, .inl fT))]) [3, 1] (by decide) rfl
          have hFc := va_free (wc := [(h0, .inr (11, gP a i g (nI (w111 + 1)) (nI zs) (nI w112) w113 w114 w115 w116 (nI bk) (nI w117) w118)), (a 1, .inl (cm 1, 1400, .inl fT))]) hD hS hA [3, 1] rfl
          refine va_callv (va_runV (As := [.int 59]) (rest := []) ⟨hx, hb, hml, hown, hts⟩ (c_needsSign l D _ h0 a cm i g fT (w111 + 1) zs w112 w113 w114 w115 w116 bk w117 w118 59 (by first | assumption | omega) (by first | assumption | omega)) (cwV 1 hts g_c_statement_c_needsSign_363 rfl rfl rfl (by decide +kernel) ⟨(Nat.le_of_ble_eq_true rfl), (Nat.le_of_ble_eq_true rfl)⟩) (PcW_V (q0 := 0) hPc hKc hDc rfl rfl) rfl rfl hl.1 rfl (lv_room (Nat.le_of_ble_eq_true rfl)) dX11_statement_202 ⟨(Nat.le_of_ble_eq_true rfl), (Nat.le_of_ble_eq_true rfl)⟩) hS (fun q _ h => hFc q h) hFc (fun uu tt H locs htt hvm hw hB hz1 hk1 hS => ?_)
          obtain ⟨w124, w125, w126, w127⟩ := uu
          obtain ⟨hP1, hK1, hD1⟩ := hB
          rw [htt] at hP1
          have hK1 := va_K.moved hvm.symm hK1
          have hP1 : va_P D vwCl [(h0, .inr (11, gP a i g (nI (w111 + 1)) (nI zs) (nI w124) w113 w125 w126 w127 (nI bk) (nI w117) w118)), (a 1, .inl (cm 1, 1400, .inl fT))] H := hP1
          obtain ⟨hP, hD⟩ := va_join (wr := [(a 28, .inl (cm 28, 6, .inl fo)), (a 29, .inl (cm 29, 700, .inl w110)), (a 19, .inl (cm 19, 2000, .inl (upd (upd w109 (2 * w111) 3) (2 * w111 + 1) 0)))]) (w1 := [(h0, .inr (11, gP a i g (nI (w111 + 1)) (nI zs) (nI w124) w113 w125 w126 w127 (nI bk) (nI w117) w118)), (a 1, .inl (cm 1, 1400, .inl fT))]) hP hD [3, 1] [0, 2, 4] rfl rfl (by decide) (by decide) hk1 hFc hP1 hD1
          have hP : va_P D vwCl [(a 28, .inl (cm 28, 6, .inl fo)), (a 29, .inl (cm 29, 700, .inl w110)), (a 19, .inl (cm 19, 2000, .inl (upd (upd w109 (2 * w111) 3) (2 * w111 + 1) 0))), (h0, .inr (11, gP a i g (nI (w111 + 1)) (nI zs) (nI w124) w113 w125 w126 w127 (nI bk) (nI w117) w118)), (a 1, .inl (cm 1, 1400, .inl fT))] H := hP
          have hD : va_D A [(a 28, .inl (cm 28, 6, .inl fo)), (a 29, .inl (cm 29, 700, .inl w110)), (a 19, .inl (cm 19, 2000, .inl (upd (upd w109 (2 * w111) 3) (2 * w111 + 1) 0))), (h0, .inr (11, gP a i g (nI (w111 + 1)) (nI zs) (nI w124) w113 w125 w126 w127 (nI bk) (nI w117) w118)), (a 1, .inl (cm 1, 1400, .inl fT))] := hD
          try dsimp only at hw
          clear hz1 hk1 hFc hPc hKc hDc
          obtain ⟨hb128_1, hb128_2, hb128_b⟩ := hw
          exact W.vret hx hb hr (fun t ht hW => ⟨⟨((upd (upd w109 (2 * w111) 3) (2 * w111 + 1) 0), fo, w110, (w111 + 1), w124, w113, w125, w126, w127, bk, w117, w118), rfl, (by (try dsimp only); exact ⟨by omega, by omega, hb5, fun z => ⟨by omega, PSt_app (x := 3) (hs119_W (hb128_b z).1) (Or.inr (Or.inr ⟨by omega, by omega, rfl⟩))⟩⟩), by rw [ht]; exact hP.sub [3, 4, 2, 0, 1] rfl, va_K.moved hW.alike (hK.sub [0, 1, 2, 3] rfl), hD.sub [3, 4, 2, 0, 1] (by decide) rfl⟩, hS.F ht⟩) hS.2.2 dX11_statement_205
        ·
          refine lv_if_eq (tgt := 114) hx hb dX11_statement_98 (by decide) (fun hc => ?_) (fun hc => absurd (by decide) hc)
          refine lv_aload_n hx hb dX11_statement_114 rfl (lv_at hl 1 rfl) ?_
          refine lv_sipush (v := 6642) hx hb dX11_statement_115 (by decide) ?_
          have hPc := hP.sub (ws' := [(h0, .inr (11, gP a i g (nI cd) (nI zs) (nI w106) w107 bd bp bq (nI bk) (nI pl) br)), (a 1, .inl (cm 1, 1400, .inl fT))]) [3, 4] rfl
          have hKc := hK.sub (tys' := [(cm 1, .byte)]) [0] rfl
          have hDc := hD.sub (ws' := [(h0, .inr (11, gP a i g (nI cd) (nI zs) (nI w106) w107 bd bp bq (nI bk) (nI pl) br)), (a 1, .inl (cm 1, 1400, .inl fT))]) [3, 4] (by decide) rfl
          have hFc := va_free (wc := [(h0, .inr (11, gP a i g (nI cd) (nI zs) (nI w106) w107 bd bp bq (nI bk) (nI pl) br)), (a 1, .inl (cm 1, 1400, .inl fT))]) hD hS hA [3, 4] rfl
          refine va_calli (va_runV (As := [.int 6642]) (rest := []) ⟨hx, hb, hml, hown, hts⟩ (c_takesWord l D _ h0 a cm i g fT cd zs w106 w107 bd bp bq bk pl br 6642 (by first | assumption | omega) (by first | assumption | omega)) (cwV 1 hts g_c_statement_c_takesWord_329 rfl rfl rfl (by decide +kernel) ⟨(Nat.le_of_ble_eq_true rfl), (Nat.le_of_ble_eq_true rfl)⟩) (PcW_V (q0 := 0) hPc hKc hDc rfl rfl) rfl rfl hl.1 rfl (lv_room (Nat.le_of_ble_eq_true rfl)) dX11_statement_118 ⟨(Nat.le_of_ble_eq_true rfl), (Nat.le_of_ble_eq_true rfl)⟩) hS (fun q _ h => hFc q h) hFc (fun r129 uu tt H locs htt hvm hw hB hz1 hk1 hS => ?_)
          obtain ⟨w130, w131⟩ := uu
          obtain ⟨hP1, hK1, hD1⟩ := hB
          rw [htt] at hP1
          have hK1 := va_K.moved hvm.symm hK1
          have hP1 : va_P D vwCl [(h0, .inr (11, gP a i g (nI cd) (nI zs) (nI w130) w131 bd bp bq (nI bk) (nI pl) br)), (a 1, .inl (cm 1, 1400, .inl fT))] H := hP1
          obtain ⟨hP, hD⟩ := va_join (wr := [(a 19, .inl (cm 19, 2000, .inl fc)), (a 28, .inl (cm 28, 6, .inl fo)), (a 29, .inl (cm 29, 700, .inl fl))]) (w1 := [(h0, .inr (11, gP a i g (nI cd) (nI zs) (nI w130) w131 bd bp bq (nI bk) (nI pl) br)), (a 1, .inl (cm 1, 1400, .inl fT))]) hP hD [3, 4] [0, 1, 2] rfl rfl (by decide) (by decide) hk1 hFc hP1 hD1
          have hP : va_P D vwCl [(a 19, .inl (cm 19, 2000, .inl fc)), (a 28, .inl (cm 28, 6, .inl fo)), (a 29, .inl (cm 29, 700, .inl fl)), (h0, .inr (11, gP a i g (nI cd) (nI zs) (nI w130) w131 bd bp bq (nI bk) (nI pl) br)), (a 1, .inl (cm 1, 1400, .inl fT))] H := hP
          have hD : va_D A [(a 19, .inl (cm 19, 2000, .inl fc)), (a 28, .inl (cm 28, 6, .inl fo)), (a 29, .inl (cm 29, 700, .inl fl)), (h0, .inr (11, gP a i g (nI cd) (nI zs) (nI w130) w131 bd bp bq (nI bk) (nI pl) br)), (a 1, .inl (cm 1, 1400, .inl fT))] := hD
          try dsimp only at hw
          clear hz1 hk1 hFc hPc hKc hDc
          rcases hw with ⟨rfl, hA_r129⟩ | ⟨rfl, hA_r129⟩
          ·
            refine lv_if_eq (tgt := 153) hx hb dX11_statement_121 (by decide) (fun hc => absurd hc (by decide)) (fun hc => ?_)
            refine lv_aload_n hx hb dX11_statement_124 rfl (lv_at hl 1 rfl) ?_
            refine va_get (D := D) (ci := 11) (v := .int (nI bk)) (C := RX11) (T := TX11) (N := 47) hx hb hts hin_X11 hown hK hP 3 rfl rfl 27 (by decide) (hts (.fieldLink RX11 286 "ClashFreeModel" "blocks" "I") (List.mem_of_getElem? (i := 24) rfl)) (fun _ h9 => h9) rfl dX11_statement_125 ?_
            refine lv_iconst (v := 5) hx hb dX11_statement_128 (by decide) ?_
            refine lv_icmp_ne (tgt := 138) hx hb dX11_statement_129 (by decide) (fun hc132 => ?_) (fun hc132 => ?_)
            ·
              have hb4 : bk ≤ 4 := by
                rcases Nat.lt_or_ge bk 5 with z | z
                · omega
                · exact absurd (by rw [show bk = 5 by omega]; rfl) hc132
              refine lv_aload_n hx hb dX11_statement_138 rfl (lv_at hl 1 rfl) ?_
              refine lv_sipush (v := 200) hx hb dX11_statement_139 (by decide) ?_
              have hPc := hP.sub (ws' := [(h0, .inr (11, gP a i g (nI cd) (nI zs) (nI w130) w131 bd bp bq (nI bk) (nI pl) br)), (a 1, .inl (cm 1, 1400, .inl fT))]) [3, 4] rfl
              have hKc := hK.sub (tys' := [(cm 1, .byte)]) [0] rfl
              have hDc := hD.sub (ws' := [(h0, .inr (11, gP a i g (nI cd) (nI zs) (nI w130) w131 bd bp bq (nI bk) (nI pl) br)), (a 1, .inl (cm 1, 1400, .inl fT))]) [3, 4] (by decide) rfl
              have hFc := va_free (wc := [(h0, .inr (11, gP a i g (nI cd) (nI zs) (nI w130) w131 bd bp bq (nI bk) (nI pl) br)), (a 1, .inl (cm 1, 1400, .inl fT))]) hD hS hA [3, 4] rfl
              refine va_calli (va_runV (As := [.int 200]) (rest := []) ⟨hx, hb, hml, hown, hts⟩ (c_number l D _ h0 a cm i g fT cd zs w130 w131 bd bp bq bk pl br 200 (by first | assumption | omega) (by first | assumption | omega)) (cwV 1 hts g_c_statement_c_number_348 rfl rfl rfl (by decide +kernel) ⟨(Nat.le_of_ble_eq_true rfl), (Nat.le_of_ble_eq_true rfl)⟩) (PcW_V (q0 := 0) hPc hKc hDc rfl rfl) rfl rfl hl.1 rfl (lv_room (Nat.le_of_ble_eq_true rfl)) dX11_statement_142 ⟨(Nat.le_of_ble_eq_true rfl), (Nat.le_of_ble_eq_true rfl)⟩) hS (fun q _ h => hFc q h) hFc (fun r133 uu tt H locs htt hvm hw hB hz1 hk1 hS => ?_)
              obtain ⟨w134, w135, w136, w137, w138⟩ := uu
              obtain ⟨hP1, hK1, hD1⟩ := hB
              rw [htt] at hP1
              have hK1 := va_K.moved hvm.symm hK1
              have hP1 : va_P D vwCl [(h0, .inr (11, gP a i g (nI cd) (nI zs) (nI w134) w135 w136 w137 w138 (nI bk) (nI pl) br)), (a 1, .inl (cm 1, 1400, .inl fT))] H := hP1
              obtain ⟨hP, hD⟩ := va_join (wr := [(a 19, .inl (cm 19, 2000, .inl fc)), (a 28, .inl (cm 28, 6, .inl fo)), (a 29, .inl (cm 29, 700, .inl fl))]) (w1 := [(h0, .inr (11, gP a i g (nI cd) (nI zs) (nI w134) w135 w136 w137 w138 (nI bk) (nI pl) br)), (a 1, .inl (cm 1, 1400, .inl fT))]) hP hD [3, 4] [0, 1, 2] rfl rfl (by decide) (by decide) hk1 hFc hP1 hD1
              have hP : va_P D vwCl [(a 19, .inl (cm 19, 2000, .inl fc)), (a 28, .inl (cm 28, 6, .inl fo)), (a 29, .inl (cm 29, 700, .inl fl)), (h0, .inr (11, gP a i g (nI cd) (nI zs) (nI w134) w135 w136 w137 w138 (nI bk) (nI pl) br)), (a 1, .inl (cm 1, 1400, .inl fT))] H := hP
              have hD : va_D A [(a 19, .inl (cm 19, 2000, .inl fc)), (a 28, .inl (cm 28, 6, .inl fo)), (a 29, .inl (cm 29, 700, .inl fl)), (h0, .inr (11, gP a i g (nI cd) (nI zs) (nI w134) w135 w136 w137 w138 (nI bk) (nI pl) br)), (a 1, .inl (cm 1, 1400, .inl fT))] := hD
              try dsimp only at hw
              clear hz1 hk1 hFc hPc hKc hDc
              obtain ⟨hb139_1, hb139_2, hb139_b⟩ := hw
              refine lv_istore_n (lv' := [(2, .int r133), (1, .int (nI w2)), (0, .ref h0)]) hx hb dX11_statement_145 rfl hl (by decide) rfl (fun ls hl => ?_)
              refine lv_aload_n hx hb dX11_statement_146 rfl (lv_at hl 2 rfl) ?_
              refine lv_iconst (v := 4) hx hb dX11_statement_147 (by decide) ?_
              refine lv_iload_n hx hb dX11_statement_148 rfl (lv_at hl 0 rfl) ?_
              have hWo : w136 = 0 → bk ≤ 4 ∧ PSt fc fo cd bk (4 - 4) := fun _ => ⟨by omega, hW⟩
              have hPc := hP.sub (ws' := [(h0, .inr (11, gP a i g (nI cd) (nI zs) (nI w134) w135 w136 w137 w138 (nI bk) (nI pl) br)), (a 1, .inl (cm 1, 1400, .inl fT)), (a 19, .inl (cm 19, 2000, .inl fc)), (a 28, .inl (cm 28, 6, .inl fo))]) [3, 4, 0, 1] rfl
              have hKc := hK.sub (tys' := [(cm 1, .byte), (cm 19, .int), (cm 28, .int)]) [0, 1, 2] rfl
              have hDc := hD.sub (ws' := [(h0, .inr (11, gP a i g (nI cd) (nI zs) (nI w134) w135 w136 w137 w138 (nI bk) (nI pl) br)), (a 1, .inl (cm 1, 1400, .inl fT)), (a 19, .inl (cm 19, 2000, .inl fc)), (a 28, .inl (cm 28, 6, .inl fo))]) [3, 4, 0, 1] (by decide) rfl
              have hFc := va_free (wc := [(h0, .inr (11, gP a i g (nI cd) (nI zs) (nI w134) w135 w136 w137 w138 (nI bk) (nI pl) br)), (a 1, .inl (cm 1, 1400, .inl fT)), (a 19, .inl (cm 19, 2000, .inl fc)), (a 28, .inl (cm 28, 6, .inl fo))]) hD hS hA [3, 4, 0, 1] rfl
              refine va_callv (va_runV (As := [.int (nI 4), .int r133]) (rest := []) ⟨hx, hb, hml, hown, hts⟩ (c_opens l D _ h0 a cm i g fT fc fo cd zs w134 w135 w136 w137 w138 bk pl br 4 r133 (by omega) (by omega) (by omega) (by omega) (by omega) hWo) (cwV 2 hts g_c_statement_c_opens_373 rfl rfl rfl (by decide +kernel) ⟨(Nat.le_of_ble_eq_true rfl), (Nat.le_of_ble_eq_true rfl)⟩) (PcW_V (q0 := 0) hPc hKc hDc rfl rfl) rfl rfl hl.1 rfl (lv_room (Nat.le_of_ble_eq_true rfl)) dX11_statement_149 ⟨(Nat.le_of_ble_eq_true rfl), (Nat.le_of_ble_eq_true rfl)⟩) hS (fun q _ h => hFc q h) hFc (fun uu tt H locs htt hvm hw hB hz1 hk1 hS => ?_)
              obtain ⟨w141, w142, w143, w144, w145, w146, w147, w148⟩ := uu
              obtain ⟨hP1, hK1, hD1⟩ := hB
              rw [htt] at hP1
              have hK1 := va_K.moved hvm.symm hK1
              have hP1 : va_P D vwCl [(h0, .inr (11, gP a i g (nI w143) (nI zs) (nI w144) w135 w145 w146 w147 (nI w148) (nI pl) br)), (a 1, .inl (cm 1, 1400, .inl fT)), (a 19, .inl (cm 19, 2000, .inl w141)), (a 28, .inl (cm 28, 6, .inl w142))] H := hP1
              obtain ⟨hP, hD⟩ := va_join (wr := [(a 29, .inl (cm 29, 700, .inl fl))]) (w1 := [(h0, .inr (11, gP a i g (nI w143) (nI zs) (nI w144) w135 w145 w146 w147 (nI w148) (nI pl) br)), (a 1, .inl (cm 1, 1400, .inl fT)), (a 19, .inl (cm 19, 2000, .inl w141)), (a 28, .inl (cm 28, 6, .inl w142))]) hP hD [3, 4, 0, 1] [2] rfl rfl (by decide) (by decide) hk1 hFc hP1 hD1
              have hP : va_P D vwCl [(a 29, .inl (cm 29, 700, .inl fl)), (h0, .inr (11, gP a i g (nI w143) (nI zs) (nI w144) w135 w145 w146 w147 (nI w148) (nI pl) br)), (a 1, .inl (cm 1, 1400, .inl fT)), (a 19, .inl (cm 19, 2000, .inl w141)), (a 28, .inl (cm 28, 6, .inl w142))] H := hP
              have hD : va_D A [(a 29, .inl (cm 29, 700, .inl fl)), (h0, .inr (11, gP a i g (nI w143) (nI zs) (nI w144) w135 w145 w146 w147 (nI w148) (nI pl) br)), (a 1, .inl (cm 1, 1400, .inl fT)), (a 19, .inl (cm 19, 2000, .inl w141)), (a 28, .inl (cm 28, 6, .inl w142))] := hD
              try dsimp only at hw
              clear hz1 hk1 hFc hPc hKc hDc
              obtain ⟨ho149_1, ho149_2, ho149_3, ho149_4, ho149_b⟩ := hw
              exact W.vret hx hb hr (fun t ht hW => ⟨⟨(w141, w142, fl, w143, w144, w135, w145, w146, w147, w148, pl, br), rfl, (by (try dsimp only); exact ⟨ho149_1, ho149_3, ho149_4, fun z => ⟨by have := (ho149_b z).2.1; omega, (ho149_b z).2.2⟩⟩), by rw [ht]; exact hP.sub [1, 2, 3, 4, 0] rfl, va_K.moved hW.alike (hK.sub [0, 1, 2, 3] rfl), hD.sub [1, 2, 3, 4, 0] (by decide) rfl⟩, hS.F ht⟩) hS.2.2 dX11_statement_152
            ·
              refine lv_aload_n hx hb dX11_statement_132 rfl (lv_at hl 1 rfl) ?_
              refine lv_iconst (v := 3) hx hb dX11_statement_133 (by decide) ?_
              refine lv_iload_n hx hb dX11_statement_134 rfl (lv_at hl 0 rfl) ?_
              have hPc := hP.sub (ws' := [(h0, .inr (11, gP a i g (nI cd) (nI zs) (nI w130) w131 bd bp bq (nI bk) (nI pl) br))]) [3] rfl
              have hKc := hK.sub (tys' := []) [] rfl
              have hDc := hD.sub (ws' := [(h0, .inr (11, gP a i g (nI cd) (nI zs) (nI w130) w131 bd bp bq (nI bk) (nI pl) br))]) [3] (by decide) rfl
              have hFc := va_free (wc := [(h0, .inr (11, gP a i g (nI cd) (nI zs) (nI w130) w131 bd bp bq (nI bk) (nI pl) br))]) hD hS hA [3] rfl
              refine va_callv (va_runV (As := [.int 3, .int (nI w2)]) (rest := []) ⟨hx, hb, hml, hown, hts⟩ (c_fail l D _ h0 a cm i g cd zs w130 w131 bd bp bq bk pl br 3 (nI w2) (by decide)) (cwV 2 hts g_c_statement_c_fail_310 rfl rfl rfl (by decide +kernel) ⟨(Nat.le_of_ble_eq_true rfl), (Nat.le_of_ble_eq_true rfl)⟩) (PcW_V (q0 := 0) hPc hKc hDc rfl rfl) rfl rfl hl.1 rfl (lv_room (Nat.le_of_ble_eq_true rfl)) dX11_statement_135 ⟨(Nat.le_of_ble_eq_true rfl), (Nat.le_of_ble_eq_true rfl)⟩) hS (fun q _ h => hFc q h) hFc (fun uu tt H locs htt hvm hw hB hz1 hk1 hS => ?_)
              obtain ⟨w151, w152, w153⟩ := uu
              obtain ⟨hP1, hK1, hD1⟩ := hB
              rw [htt] at hP1
              have hK1 := va_K.moved hvm.symm hK1
              have hP1 : va_P D vwCl [(h0, .inr (11, gP a i g (nI cd) (nI zs) (nI w130) w131 w151 w152 w153 (nI bk) (nI pl) br))] H := hP1
              obtain ⟨hP, hD⟩ := va_join (wr := [(a 19, .inl (cm 19, 2000, .inl fc)), (a 28, .inl (cm 28, 6, .inl fo)), (a 29, .inl (cm 29, 700, .inl fl)), (a 1, .inl (cm 1, 1400, .inl fT))]) (w1 := [(h0, .inr (11, gP a i g (nI cd) (nI zs) (nI w130) w131 w151 w152 w153 (nI bk) (nI pl) br))]) hP hD [3] [0, 1, 2, 4] rfl rfl (by decide) (by decide) hk1 hFc hP1 hD1
              have hP : va_P D vwCl [(a 19, .inl (cm 19, 2000, .inl fc)), (a 28, .inl (cm 28, 6, .inl fo)), (a 29, .inl (cm 29, 700, .inl fl)), (a 1, .inl (cm 1, 1400, .inl fT)), (h0, .inr (11, gP a i g (nI cd) (nI zs) (nI w130) w131 w151 w152 w153 (nI bk) (nI pl) br))] H := hP
              have hD : va_D A [(a 19, .inl (cm 19, 2000, .inl fc)), (a 28, .inl (cm 28, 6, .inl fo)), (a 29, .inl (cm 29, 700, .inl fl)), (a 1, .inl (cm 1, 1400, .inl fT)), (h0, .inr (11, gP a i g (nI cd) (nI zs) (nI w130) w131 w151 w152 w153 (nI bk) (nI pl) br))] := hD
              try dsimp only at hw
              clear hz1 hk1 hFc hPc hKc hDc
              have hb154_b := hw
              refine lv_aload_n hx hb dX11_statement_138 rfl (lv_at hl 1 rfl) ?_
              refine lv_sipush (v := 200) hx hb dX11_statement_139 (by decide) ?_
              have hPc := hP.sub (ws' := [(h0, .inr (11, gP a i g (nI cd) (nI zs) (nI w130) w131 w151 w152 w153 (nI bk) (nI pl) br)), (a 1, .inl (cm 1, 1400, .inl fT))]) [4, 3] rfl
              have hKc := hK.sub (tys' := [(cm 1, .byte)]) [0] rfl
              have hDc := hD.sub (ws' := [(h0, .inr (11, gP a i g (nI cd) (nI zs) (nI w130) w131 w151 w152 w153 (nI bk) (nI pl) br)), (a 1, .inl (cm 1, 1400, .inl fT))]) [4, 3] (by decide) rfl
              have hFc := va_free (wc := [(h0, .inr (11, gP a i g (nI cd) (nI zs) (nI w130) w131 w151 w152 w153 (nI bk) (nI pl) br)), (a 1, .inl (cm 1, 1400, .inl fT))]) hD hS hA [4, 3] rfl
              refine va_calli (va_runV (As := [.int 200]) (rest := []) ⟨hx, hb, hml, hown, hts⟩ (c_number l D _ h0 a cm i g fT cd zs w130 w131 w151 w152 w153 bk pl br 200 (by first | assumption | omega) (by first | assumption | omega)) (cwV 1 hts g_c_statement_c_number_348 rfl rfl rfl (by decide +kernel) ⟨(Nat.le_of_ble_eq_true rfl), (Nat.le_of_ble_eq_true rfl)⟩) (PcW_V (q0 := 0) hPc hKc hDc rfl rfl) rfl rfl hl.1 rfl (lv_room (Nat.le_of_ble_eq_true rfl)) dX11_statement_142 ⟨(Nat.le_of_ble_eq_true rfl), (Nat.le_of_ble_eq_true rfl)⟩) hS (fun q _ h => hFc q h) hFc (fun r155 uu tt H locs htt hvm hw hB hz1 hk1 hS => ?_)
              obtain ⟨w156, w157, w158, w159, w160⟩ := uu
              obtain ⟨hP1, hK1, hD1⟩ := hB
              rw [htt] at hP1
              have hK1 := va_K.moved hvm.symm hK1
              have hP1 : va_P D vwCl [(h0, .inr (11, gP a i g (nI cd) (nI zs) (nI w156) w157 w158 w159 w160 (nI bk) (nI pl) br)), (a 1, .inl (cm 1, 1400, .inl fT))] H := hP1
              obtain ⟨hP, hD⟩ := va_join (wr := [(a 19, .inl (cm 19, 2000, .inl fc)), (a 28, .inl (cm 28, 6, .inl fo)), (a 29, .inl (cm 29, 700, .inl fl))]) (w1 := [(h0, .inr (11, gP a i g (nI cd) (nI zs) (nI w156) w157 w158 w159 w160 (nI bk) (nI pl) br)), (a 1, .inl (cm 1, 1400, .inl fT))]) hP hD [4, 3] [0, 1, 2] rfl rfl (by decide) (by decide) hk1 hFc hP1 hD1
              have hP : va_P D vwCl [(a 19, .inl (cm 19, 2000, .inl fc)), (a 28, .inl (cm 28, 6, .inl fo)), (a 29, .inl (cm 29, 700, .inl fl)), (h0, .inr (11, gP a i g (nI cd) (nI zs) (nI w156) w157 w158 w159 w160 (nI bk) (nI pl) br)), (a 1, .inl (cm 1, 1400, .inl fT))] H := hP
              have hD : va_D A [(a 19, .inl (cm 19, 2000, .inl fc)), (a 28, .inl (cm 28, 6, .inl fo)), (a 29, .inl (cm 29, 700, .inl fl)), (h0, .inr (11, gP a i g (nI cd) (nI zs) (nI w156) w157 w158 w159 w160 (nI bk) (nI pl) br)), (a 1, .inl (cm 1, 1400, .inl fT))] := hD
              try dsimp only at hw
              clear hz1 hk1 hFc hPc hKc hDc
              obtain ⟨hb161_1, hb161_2, hb161_b⟩ := hw
              refine lv_istore_n (lv' := [(2, .int r155), (1, .int (nI w2)), (0, .ref h0)]) hx hb dX11_statement_145 rfl hl (by decide) rfl (fun ls hl => ?_)
              refine lv_aload_n hx hb dX11_statement_146 rfl (lv_at hl 2 rfl) ?_
              refine lv_iconst (v := 4) hx hb dX11_statement_147 (by decide) ?_
              refine lv_iload_n hx hb dX11_statement_148 rfl (lv_at hl 0 rfl) ?_
              have hWo : w158 = 0 → bk ≤ 4 ∧ PSt fc fo cd bk (4 - 4) := fun z => absurd (hb161_b z).1 hb154_b
              have hPc := hP.sub (ws' := [(h0, .inr (11, gP a i g (nI cd) (nI zs) (nI w156) w157 w158 w159 w160 (nI bk) (nI pl) br)), (a 1, .inl (cm 1, 1400, .inl fT)), (a 19, .inl (cm 19, 2000, .inl fc)), (a 28, .inl (cm 28, 6, .inl fo))]) [3, 4, 0, 1] rfl
              have hKc := hK.sub (tys' := [(cm 1, .byte), (cm 19, .int), (cm 28, .int)]) [0, 1, 2] rfl
              have hDc := hD.sub (ws' := [(h0, .inr (11, gP a i g (nI cd) (nI zs) (nI w156) w157 w158 w159 w160 (nI bk) (nI pl) br)), (a 1, .inl (cm 1, 1400, .inl fT)), (a 19, .inl (cm 19, 2000, .inl fc)), (a 28, .inl (cm 28, 6, .inl fo))]) [3, 4, 0, 1] (by decide) rfl
              have hFc := va_free (wc := [(h0, .inr (11, gP a i g (nI cd) (nI zs) (nI w156) w157 w158 w159 w160 (nI bk) (nI pl) br)), (a 1, .inl (cm 1, 1400, .inl fT)), (a 19, .inl (cm 19, 2000, .inl fc)), (a 28, .inl (cm 28, 6, .inl fo))]) hD hS hA [3, 4, 0, 1] rfl
              refine va_callv (va_runV (As := [.int (nI 4), .int r155]) (rest := []) ⟨hx, hb, hml, hown, hts⟩ (c_opens l D _ h0 a cm i g fT fc fo cd zs w156 w157 w158 w159 w160 bk pl br 4 r155 (by omega) (by omega) (by omega) (by omega) (by omega) hWo) (cwV 2 hts g_c_statement_c_opens_373 rfl rfl rfl (by decide +kernel) ⟨(Nat.le_of_ble_eq_true rfl), (Nat.le_of_ble_eq_true rfl)⟩) (PcW_V (q0 := 0) hPc hKc hDc rfl rfl) rfl rfl hl.1 rfl (lv_room (Nat.le_of_ble_eq_true rfl)) dX11_statement_149 ⟨(Nat.le_of_ble_eq_true rfl), (Nat.le_of_ble_eq_true rfl)⟩) hS (fun q _ h => hFc q h) hFc (fun uu tt H locs htt hvm hw hB hz1 hk1 hS => ?_)
              obtain ⟨w163, w164, w165, w166, w167, w168, w169, w170⟩ := uu
              obtain ⟨hP1, hK1, hD1⟩ := hB
              rw [htt] at hP1
              have hK1 := va_K.moved hvm.symm hK1
              have hP1 : va_P D vwCl [(h0, .inr (11, gP a i g (nI w165) (nI zs) (nI w166) w157 w167 w168 w169 (nI w170) (nI pl) br)), (a 1, .inl (cm 1, 1400, .inl fT)), (a 19, .inl (cm 19, 2000, .inl w163)), (a 28, .inl (cm 28, 6, .inl w164))] H := hP1
              obtain ⟨hP, hD⟩ := va_join (wr := [(a 29, .inl (cm 29, 700, .inl fl))]) (w1 := [(h0, .inr (11, gP a i g (nI w165) (nI zs) (nI w166) w157 w167 w168 w169 (nI w170) (nI pl) br)), (a 1, .inl (cm 1, 1400, .inl fT)), (a 19, .inl (cm 19, 2000, .inl w163)), (a 28, .inl (cm 28, 6, .inl w164))]) hP hD [3, 4, 0, 1] [2] rfl rfl (by decide) (by decide) hk1 hFc hP1 hD1
              have hP : va_P D vwCl [(a 29, .inl (cm 29, 700, .inl fl)), (h0, .inr (11, gP a i g (nI w165) (nI zs) (nI w166) w157 w167 w168 w169 (nI w170) (nI pl) br)), (a 1, .inl (cm 1, 1400, .inl fT)), (a 19, .inl (cm 19, 2000, .inl w163)), (a 28, .inl (cm 28, 6, .inl w164))] H := hP
              have hD : va_D A [(a 29, .inl (cm 29, 700, .inl fl)), (h0, .inr (11, gP a i g (nI w165) (nI zs) (nI w166) w157 w167 w168 w169 (nI w170) (nI pl) br)), (a 1, .inl (cm 1, 1400, .inl fT)), (a 19, .inl (cm 19, 2000, .inl w163)), (a 28, .inl (cm 28, 6, .inl w164))] := hD
              try dsimp only at hw
              clear hz1 hk1 hFc hPc hKc hDc
              obtain ⟨ho171_1, ho171_2, ho171_3, ho171_4, ho171_b⟩ := hw
              exact W.vret hx hb hr (fun t ht hW => ⟨⟨(w163, w164, fl, w165, w166, w157, w167, w168, w169, w170, pl, br), rfl, (by (try dsimp only); exact ⟨ho171_1, ho171_3, ho171_4, fun z => ⟨by have := (ho171_b z).2.1; omega, (ho171_b z).2.2⟩⟩), by rw [ht]; exact hP.sub [1, 2, 3, 4, 0] rfl, va_K.moved hW.alike (hK.sub [0, 1, 2, 3] rfl), hD.sub [1, 2, 3, 4, 0] (by decide) rfl⟩, hS.F ht⟩) hS.2.2 dX11_statement_152
          ·
            refine lv_if_eq (tgt := 153) hx hb dX11_statement_121 (by decide) (fun hc => ?_) (fun hc => absurd (by decide) hc)
            refine lv_aload_n hx hb dX11_statement_153 rfl (lv_at hl 1 rfl) ?_
            refine lv_sipush (v := 294) hx hb dX11_statement_154 (by decide) ?_
            have hPc := hP.sub (ws' := [(h0, .inr (11, gP a i g (nI cd) (nI zs) (nI w130) w131 bd bp bq (nI bk) (nI pl) br)), (a 1, .inl (cm 1, 1400, .inl fT))]) [3, 4] rfl
            have hKc := hK.sub (tys' := [(cm 1, .byte)]) [0] rfl
            have hDc := hD.sub (ws' := [(h0, .inr (11, gP a i g (nI cd) (nI zs) (nI w130) w131 bd bp bq (nI bk) (nI pl) br)), (a 1, .inl (cm 1, 1400, .inl fT))]) [3, 4] (by decide) rfl
            have hFc := va_free (wc := [(h0, .inr (11, gP a i g (nI cd) (nI zs) (nI w130) w131 bd bp bq (nI bk) (nI pl) br)), (a 1, .inl (cm 1, 1400, .inl fT))]) hD hS hA [3, 4] rfl
            refine va_calli (va_runV (As := [.int 294]) (rest := []) ⟨hx, hb, hml, hown, hts⟩ (c_takesWord l D _ h0 a cm i g fT cd zs w130 w131 bd bp bq bk pl br 294 (by first | assumption | omega) (by first | assumption | omega)) (cwV 1 hts g_c_statement_c_takesWord_329 rfl rfl rfl (by decide +kernel) ⟨(Nat.le_of_ble_eq_true rfl), (Nat.le_of_ble_eq_true rfl)⟩) (PcW_V (q0 := 0) hPc hKc hDc rfl rfl) rfl rfl hl.1 rfl (lv_room (Nat.le_of_ble_eq_true rfl)) dX11_statement_157 ⟨(Nat.le_of_ble_eq_true rfl), (Nat.le_of_ble_eq_true rfl)⟩) hS (fun q _ h => hFc q h) hFc (fun r172 uu tt H locs htt hvm hw hB hz1 hk1 hS => ?_)
            obtain ⟨w173, w174⟩ := uu
            obtain ⟨hP1, hK1, hD1⟩ := hB
            rw [htt] at hP1
            have hK1 := va_K.moved hvm.symm hK1
            have hP1 : va_P D vwCl [(h0, .inr (11, gP a i g (nI cd) (nI zs) (nI w173) w174 bd bp bq (nI bk) (nI pl) br)), (a 1, .inl (cm 1, 1400, .inl fT))] H := hP1
            obtain ⟨hP, hD⟩ := va_join (wr := [(a 19, .inl (cm 19, 2000, .inl fc)), (a 28, .inl (cm 28, 6, .inl fo)), (a 29, .inl (cm 29, 700, .inl fl))]) (w1 := [(h0, .inr (11, gP a i g (nI cd) (nI zs) (nI w173) w174 bd bp bq (nI bk) (nI pl) br)), (a 1, .inl (cm 1, 1400, .inl fT))]) hP hD [3, 4] [0, 1, 2] rfl rfl (by decide) (by decide) hk1 hFc hP1 hD1
            have hP : va_P D vwCl [(a 19, .inl (cm 19, 2000, .inl fc)), (a 28, .inl (cm 28, 6, .inl fo)), (a 29, .inl (cm 29, 700, .inl fl)), (h0, .inr (11, gP a i g (nI cd) (nI zs) (nI w173) w174 bd bp bq (nI bk) (nI pl) br)), (a 1, .inl (cm 1, 1400, .inl fT))] H := hP
            have hD : va_D A [(a 19, .inl (cm 19, 2000, .inl fc)), (a 28, .inl (cm 28, 6, .inl fo)), (a 29, .inl (cm 29, 700, .inl fl)), (h0, .inr (11, gP a i g (nI cd) (nI zs) (nI w173) w174 bd bp bq (nI bk) (nI pl) br)), (a 1, .inl (cm 1, 1400, .inl fT))] := hD
            try dsimp only at hw
            clear hz1 hk1 hFc hPc hKc hDc
            rcases hw with ⟨rfl, hA_r172⟩ | ⟨rfl, hA_r172⟩
            ·
              refine lv_if_eq (tgt := 195) hx hb dX11_statement_160 (by decide) (fun hc => absurd hc (by decide)) (fun hc => ?_)
              refine lv_aload_n hx hb dX11_statement_163 rfl (lv_at hl 1 rfl) ?_
              refine va_get (D := D) (ci := 11) (v := .int (nI bk)) (C := RX11) (T := TX11) (N := 47) hx hb hts hin_X11 hown hK hP 3 rfl rfl 27 (by decide) (hts (.fieldLink RX11 286 "ClashFreeModel" "blocks" "I") (List.mem_of_getElem? (i := 24) rfl)) (fun _ h9 => h9) rfl dX11_statement_164 ?_
              refine lv_iconst (v := 5) hx hb dX11_statement_167 (by decide) ?_
              refine lv_icmp_ne (tgt := 177) hx hb dX11_statement_168 (by decide) (fun hc175 => ?_) (fun hc175 => ?_)
              ·
                have hb4 : bk ≤ 4 := by
                  rcases Nat.lt_or_ge bk 5 with z | z
                  · omega
                  · exact absurd (by rw [show bk = 5 by omega]; rfl) hc175
                refine lv_aload_n hx hb dX11_statement_177 rfl (lv_at hl 1 rfl) ?_
                have hPc := hP.sub (ws' := [(h0, .inr (11, gP a i g (nI cd) (nI zs) (nI w173) w174 bd bp bq (nI bk) (nI pl) br))]) [3] rfl
                have hKc := hK.sub (tys' := []) [] rfl
                have hFc := va_free0 hS hA
                refine va_calli (va_runV (As := []) (rest := []) ⟨hx, hb, hml, hown, hts⟩ (c_isFine l D _ h0 a cm i g cd zs w173 w174 bd bp bq bk pl br) (cwV 0 hts g_c_statement_c_isFine_313 rfl rfl rfl (by decide +kernel) ⟨(Nat.le_of_ble_eq_true rfl), (Nat.le_of_ble_eq_true rfl)⟩) (PcR_V (q0 := 0) hPc hKc rfl rfl) rfl rfl hl.1 rfl (lv_room (Nat.le_of_ble_eq_true rfl)) dX11_statement_178 ⟨(Nat.le_of_ble_eq_true rfl), (Nat.le_of_ble_eq_true rfl)⟩) hS (fun q _ h => hFc q h) hFc (fun r176 uu tt H locs htt hvm hw hB hz1 hk1 hS => ?_)
                have hP := va_keep hP hk1
                try dsimp only at hw
                clear hB hz1 hk1 hFc hPc hKc
                rcases hw with ⟨rfl, hA_r176⟩ | ⟨rfl, hA_r176⟩
                ·
                  refine lv_if_eq (tgt := 188) hx hb dX11_statement_181 (by decide) (fun hc => absurd hc (by decide)) (fun hc => ?_)
                  refine lv_aload_n hx hb dX11_statement_184 rfl (lv_at hl 1 rfl) ?_
                  have hPc := hP.sub (ws' := [(h0, .inr (11, gP a i g (nI cd) (nI zs) (nI w173) w174 bd bp bq (nI bk) (nI pl) br)), (a 1, .inl (cm 1, 1400, .inl fT)), (a 19, .inl (cm 19, 2000, .inl fc)), (a 29, .inl (cm 29, 700, .inl fl))]) [3, 4, 0, 2] rfl
                  have hKc := hK.sub (tys' := [(cm 1, .byte), (cm 19, .int), (cm 29, .int)]) [0, 1, 3] rfl
                  have hDc := hD.sub (ws' := [(h0, .inr (11, gP a i g (nI cd) (nI zs) (nI w173) w174 bd bp bq (nI bk) (nI pl) br)), (a 1, .inl (cm 1, 1400, .inl fT)), (a 19, .inl (cm 19, 2000, .inl fc)), (a 29, .inl (cm 29, 700, .inl fl))]) [3, 4, 0, 2] (by decide) rfl
                  have hFc := va_free (wc := [(h0, .inr (11, gP a i g (nI cd) (nI zs) (nI w173) w174 bd bp bq (nI bk) (nI pl) br)), (a 1, .inl (cm 1, 1400, .inl fT)), (a 19, .inl (cm 19, 2000, .inl fc)), (a 29, .inl (cm 29, 700, .inl fl))]) hD hS hA [3, 4, 0, 2] rfl
                  refine va_callv (va_runV (As := []) (rest := []) ⟨hx, hb, hml, hown, hts⟩ (c_sum l D _ h0 a cm i g fT fc fl cd zs w173 w174 bd bp bq bk pl br fo 0 1 (by omega) (by omega) (by omega) hWf) (cwV 0 hts g_c_statement_c_sum_366 rfl rfl rfl (by decide +kernel) ⟨(Nat.le_of_ble_eq_true rfl), (Nat.le_of_ble_eq_true rfl)⟩) (PcW_V (q0 := 0) hPc hKc hDc rfl rfl) rfl rfl hl.1 rfl (lv_room (Nat.le_of_ble_eq_true rfl)) dX11_statement_185 ⟨(Nat.le_of_ble_eq_true rfl), (Nat.le_of_ble_eq_true rfl)⟩) hS (fun q _ h => hFc q h) hFc (fun uu tt H locs htt hvm hw hB hz1 hk1 hS => ?_)
                  obtain ⟨w178, w179, w180, w181, w182, w183, w184, w185, w186, w187⟩ := uu
                  obtain ⟨hP1, hK1, hD1⟩ := hB
                  rw [htt] at hP1
                  have hK1 := va_K.moved hvm.symm hK1
                  have hP1 : va_P D vwCl [(h0, .inr (11, gP a i g (nI w180) (nI zs) (nI w181) w182 w183 w184 w185 (nI bk) (nI w186) w187)), (a 1, .inl (cm 1, 1400, .inl fT)), (a 19, .inl (cm 19, 2000, .inl w178)), (a 29, .inl (cm 29, 700, .inl w179))] H := hP1
                  obtain ⟨hP, hD⟩ := va_join (wr := [(a 28, .inl (cm 28, 6, .inl fo))]) (w1 := [(h0, .inr (11, gP a i g (nI w180) (nI zs) (nI w181) w182 w183 w184 w185 (nI bk) (nI w186) w187)), (a 1, .inl (cm 1, 1400, .inl fT)), (a 19, .inl (cm 19, 2000, .inl w178)), (a 29, .inl (cm 29, 700, .inl w179))]) hP hD [3, 4, 0, 2] [1] rfl rfl (by decide) (by decide) hk1 hFc hP1 hD1
                  have hP : va_P D vwCl [(a 28, .inl (cm 28, 6, .inl fo)), (h0, .inr (11, gP a i g (nI w180) (nI zs) (nI w181) w182 w183 w184 w185 (nI bk) (nI w186) w187)), (a 1, .inl (cm 1, 1400, .inl fT)), (a 19, .inl (cm 19, 2000, .inl w178)), (a 29, .inl (cm 29, 700, .inl w179))] H := hP
                  have hD : va_D A [(a 28, .inl (cm 28, 6, .inl fo)), (h0, .inr (11, gP a i g (nI w180) (nI zs) (nI w181) w182 w183 w184 w185 (nI bk) (nI w186) w187)), (a 1, .inl (cm 1, 1400, .inl fT)), (a 19, .inl (cm 19, 2000, .inl w178)), (a 29, .inl (cm 29, 700, .inl w179))] := hD
                  try dsimp only at hw
                  clear hz1 hk1 hFc hPc hKc hDc
                  obtain ⟨hs188_1, hs188_2, hs188_3, hs188_b⟩ := hw
                  have hs188_W := fun z => (hs188_b z).2
                  refine lv_aload_n hx hb dX11_statement_188 rfl (lv_at hl 1 rfl) ?_
                  refine lv_iconst (v := 5) hx hb dX11_statement_189 (by decide) ?_
                  refine lv_iconst (v := 0) hx hb dX11_statement_190 (by decide) ?_
                  have hWo : w183 = 0 → bk ≤ 4 ∧ PSt w178 fo w180 bk (5 - 4) := fun z => ⟨by omega, hs188_W z⟩
                  have hPc := hP.sub (ws' := [(h0, .inr (11, gP a i g (nI w180) (nI zs) (nI w181) w182 w183 w184 w185 (nI bk) (nI w186) w187)), (a 1, .inl (cm 1, 1400, .inl fT)), (a 19, .inl (cm 19, 2000, .inl w178)), (a 28, .inl (cm 28, 6, .inl fo))]) [1, 2, 3, 0] rfl
                  have hKc := hK.sub (tys' := [(cm 1, .byte), (cm 19, .int), (cm 28, .int)]) [0, 1, 2] rfl
                  have hDc := hD.sub (ws' := [(h0, .inr (11, gP a i g (nI w180) (nI zs) (nI w181) w182 w183 w184 w185 (nI bk) (nI w186) w187)), (a 1, .inl (cm 1, 1400, .inl fT)), (a 19, .inl (cm 19, 2000, .inl w178)), (a 28, .inl (cm 28, 6, .inl fo))]) [1, 2, 3, 0] (by decide) rfl
                  have hFc := va_free (wc := [(h0, .inr (11, gP a i g (nI w180) (nI zs) (nI w181) w182 w183 w184 w185 (nI bk) (nI w186) w187)), (a 1, .inl (cm 1, 1400, .inl fT)), (a 19, .inl (cm 19, 2000, .inl w178)), (a 28, .inl (cm 28, 6, .inl fo))]) hD hS hA [1, 2, 3, 0] rfl
                  refine va_callv (va_runV (As := [.int (nI 5), .int 0]) (rest := []) ⟨hx, hb, hml, hown, hts⟩ (c_opens l D _ h0 a cm i g fT w178 fo w180 zs w181 w182 w183 w184 w185 bk w186 w187 5 0 (by omega) (by omega) (by omega) (by omega) (by omega) hWo) (cwV 2 hts g_c_statement_c_opens_373 rfl rfl rfl (by decide +kernel) ⟨(Nat.le_of_ble_eq_true rfl), (Nat.le_of_ble_eq_true rfl)⟩) (PcW_V (q0 := 0) hPc hKc hDc rfl rfl) rfl rfl hl.1 rfl (lv_room (Nat.le_of_ble_eq_true rfl)) dX11_statement_191 ⟨(Nat.le_of_ble_eq_true rfl), (Nat.le_of_ble_eq_true rfl)⟩) hS (fun q _ h => hFc q h) hFc (fun uu tt H locs htt hvm hw hB hz1 hk1 hS => ?_)
                  obtain ⟨w190, w191, w192, w193, w194, w195, w196, w197⟩ := uu
                  obtain ⟨hP1, hK1, hD1⟩ := hB
                  rw [htt] at hP1
                  have hK1 := va_K.moved hvm.symm hK1
                  have hP1 : va_P D vwCl [(h0, .inr (11, gP a i g (nI w192) (nI zs) (nI w193) w182 w194 w195 w196 (nI w197) (nI w186) w187)), (a 1, .inl (cm 1, 1400, .inl fT)), (a 19, .inl (cm 19, 2000, .inl w190)), (a 28, .inl (cm 28, 6, .inl w191))] H := hP1
                  obtain ⟨hP, hD⟩ := va_join (wr := [(a 29, .inl (cm 29, 700, .inl w179))]) (w1 := [(h0, .inr (11, gP a i g (nI w192) (nI zs) (nI w193) w182 w194 w195 w196 (nI w197) (nI w186) w187)), (a 1, .inl (cm 1, 1400, .inl fT)), (a 19, .inl (cm 19, 2000, .inl w190)), (a 28, .inl (cm 28, 6, .inl w191))]) hP hD [1, 2, 3, 0] [4] rfl rfl (by decide) (by decide) hk1 hFc hP1 hD1
                  have hP : va_P D vwCl [(a 29, .inl (cm 29, 700, .inl w179)), (h0, .inr (11, gP a i g (nI w192) (nI zs) (nI w193) w182 w194 w195 w196 (nI w197) (nI w186) w187)), (a 1, .inl (cm 1, 1400, .inl fT)), (a 19, .inl (cm 19, 2000, .inl w190)), (a 28, .inl (cm 28, 6, .inl w191))] H := hP
                  have hD : va_D A [(a 29, .inl (cm 29, 700, .inl w179)), (h0, .inr (11, gP a i g (nI w192) (nI zs) (nI w193) w182 w194 w195 w196 (nI w197) (nI w186) w187)), (a 1, .inl (cm 1, 1400, .inl fT)), (a 19, .inl (cm 19, 2000, .inl w190)), (a 28, .inl (cm 28, 6, .inl w191))] := hD
                  try dsimp only at hw
                  clear hz1 hk1 hFc hPc hKc hDc
                  obtain ⟨ho198_1, ho198_2, ho198_3, ho198_4, ho198_b⟩ := hw
                  exact W.vret hx hb hr (fun t ht hW => ⟨⟨(w190, w191, w179, w192, w193, w182, w194, w195, w196, w197, w186, w187), rfl, (by (try dsimp only); exact ⟨ho198_1, ho198_3, ho198_4, fun z => ⟨by have := (ho198_b z).2.1; omega, (ho198_b z).2.2⟩⟩), by rw [ht]; exact hP.sub [1, 2, 3, 4, 0] rfl, va_K.moved hW.alike (hK.sub [0, 1, 2, 3] rfl), hD.sub [1, 2, 3, 4, 0] (by decide) rfl⟩, hS.F ht⟩) hS.2.2 dX11_statement_194
                ·
                  exact absurd hb0 hA_r176
              ·
                refine lv_aload_n hx hb dX11_statement_171 rfl (lv_at hl 1 rfl) ?_
                refine lv_iconst (v := 3) hx hb dX11_statement_172 (by decide) ?_
                refine lv_iload_n hx hb dX11_statement_173 rfl (lv_at hl 0 rfl) ?_
                have hPc := hP.sub (ws' := [(h0, .inr (11, gP a i g (nI cd) (nI zs) (nI w173) w174 bd bp bq (nI bk) (nI pl) br))]) [3] rfl
                have hKc := hK.sub (tys' := []) [] rfl
                have hDc := hD.sub (ws' := [(h0, .inr (11, gP a i g (nI cd) (nI zs) (nI w173) w174 bd bp bq (nI bk) (nI pl) br))]) [3] (by decide) rfl
                have hFc := va_free (wc := [(h0, .inr (11, gP a i g (nI cd) (nI zs) (nI w173) w174 bd bp bq (nI bk) (nI pl) br))]) hD hS hA [3] rfl
                refine va_callv (va_runV (As := [.int 3, .int (nI w2)]) (rest := []) ⟨hx, hb, hml, hown, hts⟩ (c_fail l D _ h0 a cm i g cd zs w173 w174 bd bp bq bk pl br 3 (nI w2) (by decide)) (cwV 2 hts g_c_statement_c_fail_310 rfl rfl rfl (by decide +kernel) ⟨(Nat.le_of_ble_eq_true rfl), (Nat.le_of_ble_eq_true rfl)⟩) (PcW_V (q0 := 0) hPc hKc hDc rfl rfl) rfl rfl hl.1 rfl (lv_room (Nat.le_of_ble_eq_true rfl)) dX11_statement_174 ⟨(Nat.le_of_ble_eq_true rfl), (Nat.le_of_ble_eq_true rfl)⟩) hS (fun q _ h => hFc q h) hFc (fun uu tt H locs htt hvm hw hB hz1 hk1 hS => ?_)
                obtain ⟨w200, w201, w202⟩ := uu
                obtain ⟨hP1, hK1, hD1⟩ := hB
                rw [htt] at hP1
                have hK1 := va_K.moved hvm.symm hK1
                have hP1 : va_P D vwCl [(h0, .inr (11, gP a i g (nI cd) (nI zs) (nI w173) w174 w200 w201 w202 (nI bk) (nI pl) br))] H := hP1
                obtain ⟨hP, hD⟩ := va_join (wr := [(a 19, .inl (cm 19, 2000, .inl fc)), (a 28, .inl (cm 28, 6, .inl fo)), (a 29, .inl (cm 29, 700, .inl fl)), (a 1, .inl (cm 1, 1400, .inl fT))]) (w1 := [(h0, .inr (11, gP a i g (nI cd) (nI zs) (nI w173) w174 w200 w201 w202 (nI bk) (nI pl) br))]) hP hD [3] [0, 1, 2, 4] rfl rfl (by decide) (by decide) hk1 hFc hP1 hD1
                have hP : va_P D vwCl [(a 19, .inl (cm 19, 2000, .inl fc)), (a 28, .inl (cm 28, 6, .inl fo)), (a 29, .inl (cm 29, 700, .inl fl)), (a 1, .inl (cm 1, 1400, .inl fT)), (h0, .inr (11, gP a i g (nI cd) (nI zs) (nI w173) w174 w200 w201 w202 (nI bk) (nI pl) br))] H := hP
                have hD : va_D A [(a 19, .inl (cm 19, 2000, .inl fc)), (a 28, .inl (cm 28, 6, .inl fo)), (a 29, .inl (cm 29, 700, .inl fl)), (a 1, .inl (cm 1, 1400, .inl fT)), (h0, .inr (11, gP a i g (nI cd) (nI zs) (nI w173) w174 w200 w201 w202 (nI bk) (nI pl) br))] := hD
                try dsimp only at hw
                clear hz1 hk1 hFc hPc hKc hDc
                have hb203_b := hw
                refine lv_aload_n hx hb dX11_statement_177 rfl (lv_at hl 1 rfl) ?_
                have hPc := hP.sub (ws' := [(h0, .inr (11, gP a i g (nI cd) (nI zs) (nI w173) w174 w200 w201 w202 (nI bk) (nI pl) br))]) [4] rfl
                have hKc := hK.sub (tys' := []) [] rfl
                have hFc := va_free0 hS hA
                refine va_calli (va_runV (As := []) (rest := []) ⟨hx, hb, hml, hown, hts⟩ (c_isFine l D _ h0 a cm i g cd zs w173 w174 w200 w201 w202 bk pl br) (cwV 0 hts g_c_statement_c_isFine_313 rfl rfl rfl (by decide +kernel) ⟨(Nat.le_of_ble_eq_true rfl), (Nat.le_of_ble_eq_true rfl)⟩) (PcR_V (q0 := 0) hPc hKc rfl rfl) rfl rfl hl.1 rfl (lv_room (Nat.le_of_ble_eq_true rfl)) dX11_statement_178 ⟨(Nat.le_of_ble_eq_true rfl), (Nat.le_of_ble_eq_true rfl)⟩) hS (fun q _ h => hFc q h) hFc (fun r204 uu tt H locs htt hvm hw hB hz1 hk1 hS => ?_)
                have hP := va_keep hP hk1
                try dsimp only at hw
                clear hB hz1 hk1 hFc hPc hKc
                rcases hw with ⟨rfl, hA_r204⟩ | ⟨rfl, hA_r204⟩
                ·
                  exact absurd hA_r204 hb203_b
                ·
                  refine lv_if_eq (tgt := 188) hx hb dX11_statement_181 (by decide) (fun hc => ?_) (fun hc => absurd (by decide) hc)
                  refine lv_aload_n hx hb dX11_statement_188 rfl (lv_at hl 1 rfl) ?_
                  refine lv_iconst (v := 5) hx hb dX11_statement_189 (by decide) ?_
                  refine lv_iconst (v := 0) hx hb dX11_statement_190 (by decide) ?_
                  have hWo : w200 = 0 → bk ≤ 4 ∧ PSt fc fo cd bk (5 - 4) := fun z => absurd z hb203_b
                  have hPc := hP.sub (ws' := [(h0, .inr (11, gP a i g (nI cd) (nI zs) (nI w173) w174 w200 w201 w202 (nI bk) (nI pl) br)), (a 1, .inl (cm 1, 1400, .inl fT)), (a 19, .inl (cm 19, 2000, .inl fc)), (a 28, .inl (cm 28, 6, .inl fo))]) [4, 3, 0, 1] rfl
                  have hKc := hK.sub (tys' := [(cm 1, .byte), (cm 19, .int), (cm 28, .int)]) [0, 1, 2] rfl
                  have hDc := hD.sub (ws' := [(h0, .inr (11, gP a i g (nI cd) (nI zs) (nI w173) w174 w200 w201 w202 (nI bk) (nI pl) br)), (a 1, .inl (cm 1, 1400, .inl fT)), (a 19, .inl (cm 19, 2000, .inl fc)), (a 28, .inl (cm 28, 6, .inl fo))]) [4, 3, 0, 1] (by decide) rfl
                  have hFc := va_free (wc := [(h0, .inr (11, gP a i g (nI cd) (nI zs) (nI w173) w174 w200 w201 w202 (nI bk) (nI pl) br)), (a 1, .inl (cm 1, 1400, .inl fT)), (a 19, .inl (cm 19, 2000, .inl fc)), (a 28, .inl (cm 28, 6, .inl fo))]) hD hS hA [4, 3, 0, 1] rfl
                  refine va_callv (va_runV (As := [.int (nI 5), .int 0]) (rest := []) ⟨hx, hb, hml, hown, hts⟩ (c_opens l D _ h0 a cm i g fT fc fo cd zs w173 w174 w200 w201 w202 bk pl br 5 0 (by omega) (by omega) (by omega) (by omega) (by omega) hWo) (cwV 2 hts g_c_statement_c_opens_373 rfl rfl rfl (by decide +kernel) ⟨(Nat.le_of_ble_eq_true rfl), (Nat.le_of_ble_eq_true rfl)⟩) (PcW_V (q0 := 0) hPc hKc hDc rfl rfl) rfl rfl hl.1 rfl (lv_room (Nat.le_of_ble_eq_true rfl)) dX11_statement_191 ⟨(Nat.le_of_ble_eq_true rfl), (Nat.le_of_ble_eq_true rfl)⟩) hS (fun q _ h => hFc q h) hFc (fun uu tt H locs htt hvm hw hB hz1 hk1 hS => ?_)
                  obtain ⟨w206, w207, w208, w209, w210, w211, w212, w213⟩ := uu
                  obtain ⟨hP1, hK1, hD1⟩ := hB
                  rw [htt] at hP1
                  have hK1 := va_K.moved hvm.symm hK1
                  have hP1 : va_P D vwCl [(h0, .inr (11, gP a i g (nI w208) (nI zs) (nI w209) w174 w210 w211 w212 (nI w213) (nI pl) br)), (a 1, .inl (cm 1, 1400, .inl fT)), (a 19, .inl (cm 19, 2000, .inl w206)), (a 28, .inl (cm 28, 6, .inl w207))] H := hP1
                  obtain ⟨hP, hD⟩ := va_join (wr := [(a 29, .inl (cm 29, 700, .inl fl))]) (w1 := [(h0, .inr (11, gP a i g (nI w208) (nI zs) (nI w209) w174 w210 w211 w212 (nI w213) (nI pl) br)), (a 1, .inl (cm 1, 1400, .inl fT)), (a 19, .inl (cm 19, 2000, .inl w206)), (a 28, .inl (cm 28, 6, .inl w207))]) hP hD [4, 3, 0, 1] [2] rfl rfl (by decide) (by decide) hk1 hFc hP1 hD1
                  have hP : va_P D vwCl [(a 29, .inl (cm 29, 700, .inl fl)), (h0, .inr (11, gP a i g (nI w208) (nI zs) (nI w209) w174 w210 w211 w212 (nI w213) (nI pl) br)), (a 1, .inl (cm 1, 1400, .inl fT)), (a 19, .inl (cm 19, 2000, .inl w206)), (a 28, .inl (cm 28, 6, .inl w207))] H := hP
                  have hD : va_D A [(a 29, .inl (cm 29, 700, .inl fl)), (h0, .inr (11, gP a i g (nI w208) (nI zs) (nI w209) w174 w210 w211 w212 (nI w213) (nI pl) br)), (a 1, .inl (cm 1, 1400, .inl fT)), (a 19, .inl (cm 19, 2000, .inl w206)), (a 28, .inl (cm 28, 6, .inl w207))] := hD
                  try dsimp only at hw
                  clear hz1 hk1 hFc hPc hKc hDc
                  obtain ⟨ho214_1, ho214_2, ho214_3, ho214_4, ho214_b⟩ := hw
                  exact W.vret hx hb hr (fun t ht hW => ⟨⟨(w206, w207, fl, w208, w209, w174, w210, w211, w212, w213, pl, br), rfl, (by (try dsimp only); exact ⟨ho214_1, ho214_3, ho214_4, fun z => ⟨by have := (ho214_b z).2.1; omega, (ho214_b z).2.2⟩⟩), by rw [ht]; exact hP.sub [1, 2, 3, 4, 0] rfl, va_K.moved hW.alike (hK.sub [0, 1, 2, 3] rfl), hD.sub [1, 2, 3, 4, 0] (by decide) rfl⟩, hS.F ht⟩) hS.2.2 dX11_statement_194
            ·
              refine lv_if_eq (tgt := 195) hx hb dX11_statement_160 (by decide) (fun hc => ?_) (fun hc => absurd (by decide) hc)
              refine lv_aload_n hx hb dX11_statement_195 rfl (lv_at hl 1 rfl) ?_
              have hPc := hP.sub (ws' := [(h0, .inr (11, gP a i g (nI cd) (nI zs) (nI w173) w174 bd bp bq (nI bk) (nI pl) br)), (a 1, .inl (cm 1, 1400, .inl fT))]) [3, 4] rfl
              have hKc := hK.sub (tys' := [(cm 1, .byte)]) [0] rfl
              have hDc := hD.sub (ws' := [(h0, .inr (11, gP a i g (nI cd) (nI zs) (nI w173) w174 bd bp bq (nI bk) (nI pl) br)), (a 1, .inl (cm 1, 1400, .inl fT))]) [3, 4] (by decide) rfl
              have hFc := va_free (wc := [(h0, .inr (11, gP a i g (nI cd) (nI zs) (nI w173) w174 bd bp bq (nI bk) (nI pl) br)), (a 1, .inl (cm 1, 1400, .inl fT))]) hD hS hA [3, 4] rfl
              refine va_callv (va_runV (As := []) (rest := []) ⟨hx, hb, hml, hown, hts⟩ (c_unlike l D _ h0 a cm i g fT cd zs w173 w174 bd bp bq bk pl br (by first | assumption | omega) (by first | assumption | omega)) (cwV 0 hts g_c_statement_c_unlike_320 rfl rfl rfl (by decide +kernel) ⟨(Nat.le_of_ble_eq_true rfl), (Nat.le_of_ble_eq_true rfl)⟩) (PcW_V (q0 := 0) hPc hKc hDc rfl rfl) rfl rfl hl.1 rfl (lv_room (Nat.le_of_ble_eq_true rfl)) dX11_statement_196 ⟨(Nat.le_of_ble_eq_true rfl), (Nat.le_of_ble_eq_true rfl)⟩) hS (fun q _ h => hFc q h) hFc (fun uu tt H locs htt hvm hw hB hz1 hk1 hS => ?_)
              obtain ⟨w216, w217, w218, w219⟩ := uu
              obtain ⟨hP1, hK1, hD1⟩ := hB
              rw [htt] at hP1
              have hK1 := va_K.moved hvm.symm hK1
              have hP1 : va_P D vwCl [(h0, .inr (11, gP a i g (nI cd) (nI zs) (nI w216) w174 w217 w218 w219 (nI bk) (nI pl) br)), (a 1, .inl (cm 1, 1400, .inl fT))] H := hP1
              obtain ⟨hP, hD⟩ := va_join (wr := [(a 19, .inl (cm 19, 2000, .inl fc)), (a 28, .inl (cm 28, 6, .inl fo)), (a 29, .inl (cm 29, 700, .inl fl))]) (w1 := [(h0, .inr (11, gP a i g (nI cd) (nI zs) (nI w216) w174 w217 w218 w219 (nI bk) (nI pl) br)), (a 1, .inl (cm 1, 1400, .inl fT))]) hP hD [3, 4] [0, 1, 2] rfl rfl (by decide) (by decide) hk1 hFc hP1 hD1
              have hP : va_P D vwCl [(a 19, .inl (cm 19, 2000, .inl fc)), (a 28, .inl (cm 28, 6, .inl fo)), (a 29, .inl (cm 29, 700, .inl fl)), (h0, .inr (11, gP a i g (nI cd) (nI zs) (nI w216) w174 w217 w218 w219 (nI bk) (nI pl) br)), (a 1, .inl (cm 1, 1400, .inl fT))] H := hP
              have hD : va_D A [(a 19, .inl (cm 19, 2000, .inl fc)), (a 28, .inl (cm 28, 6, .inl fo)), (a 29, .inl (cm 29, 700, .inl fl)), (h0, .inr (11, gP a i g (nI cd) (nI zs) (nI w216) w174 w217 w218 w219 (nI bk) (nI pl) br)), (a 1, .inl (cm 1, 1400, .inl fT))] := hD
              try dsimp only at hw
              clear hz1 hk1 hFc hPc hKc hDc
              obtain ⟨hb220_b, hb220_1, hb220_2⟩ := hw
              refine lv_aload_n hx hb dX11_statement_199 rfl (lv_at hl 1 rfl) ?_
              refine lv_bipush (v := 59) hx hb dX11_statement_200 (by decide) ?_
              have hPc := hP.sub (ws' := [(h0, .inr (11, gP a i g (nI cd) (nI zs) (nI w216) w174 w217 w218 w219 (nI bk) (nI pl) br)), (a 1, .inl (cm 1, 1400, .inl fT))]) [3, 4] rfl
              have hKc := hK.sub (tys' := [(cm 1, .byte)]) [0] rfl
              have hDc := hD.sub (ws' := [(h0, .inr (11, gP a i g (nI cd) (nI zs) (nI w216) w174 w217 w218 w219 (nI bk) (nI pl) br)), (a 1, .inl (cm 1, 1400, .inl fT))]) [3, 4] (by decide) rfl
              have hFc := va_free (wc := [(h0, .inr (11, gP a i g (nI cd) (nI zs) (nI w216) w174 w217 w218 w219 (nI bk) (nI pl) br)), (a 1, .inl (cm 1, 1400, .inl fT))]) hD hS hA [3, 4] rfl
              refine va_callv (va_runV (As := [.int 59]) (rest := []) ⟨hx, hb, hml, hown, hts⟩ (c_needsSign l D _ h0 a cm i g fT cd zs w216 w174 w217 w218 w219 bk pl br 59 (by first | assumption | omega) (by first | assumption | omega)) (cwV 1 hts g_c_statement_c_needsSign_363 rfl rfl rfl (by decide +kernel) ⟨(Nat.le_of_ble_eq_true rfl), (Nat.le_of_ble_eq_true rfl)⟩) (PcW_V (q0 := 0) hPc hKc hDc rfl rfl) rfl rfl hl.1 rfl (lv_room (Nat.le_of_ble_eq_true rfl)) dX11_statement_202 ⟨(Nat.le_of_ble_eq_true rfl), (Nat.le_of_ble_eq_true rfl)⟩) hS (fun q _ h => hFc q h) hFc (fun uu tt H locs htt hvm hw hB hz1 hk1 hS => ?_)
              obtain ⟨w222, w223, w224, w225⟩ := uu
              obtain ⟨hP1, hK1, hD1⟩ := hB
              rw [htt] at hP1
              have hK1 := va_K.moved hvm.symm hK1
              have hP1 : va_P D vwCl [(h0, .inr (11, gP a i g (nI cd) (nI zs) (nI w222) w174 w223 w224 w225 (nI bk) (nI pl) br)), (a 1, .inl (cm 1, 1400, .inl fT))] H := hP1
              obtain ⟨hP, hD⟩ := va_join (wr := [(a 19, .inl (cm 19, 2000, .inl fc)), (a 28, .inl (cm 28, 6, .inl fo)), (a 29, .inl (cm 29, 700, .inl fl))]) (w1 := [(h0, .inr (11, gP a i g (nI cd) (nI zs) (nI w222) w174 w223 w224 w225 (nI bk) (nI pl) br)), (a 1, .inl (cm 1, 1400, .inl fT))]) hP hD [3, 4] [0, 1, 2] rfl rfl (by decide) (by decide) hk1 hFc hP1 hD1
              have hP : va_P D vwCl [(a 19, .inl (cm 19, 2000, .inl fc)), (a 28, .inl (cm 28, 6, .inl fo)), (a 29, .inl (cm 29, 700, .inl fl)), (h0, .inr (11, gP a i g (nI cd) (nI zs) (nI w222) w174 w223 w224 w225 (nI bk) (nI pl) br)), (a 1, .inl (cm 1, 1400, .inl fT))] H := hP
              have hD : va_D A [(a 19, .inl (cm 19, 2000, .inl fc)), (a 28, .inl (cm 28, 6, .inl fo)), (a 29, .inl (cm 29, 700, .inl fl)), (h0, .inr (11, gP a i g (nI cd) (nI zs) (nI w222) w174 w223 w224 w225 (nI bk) (nI pl) br)), (a 1, .inl (cm 1, 1400, .inl fT))] := hD
              try dsimp only at hw
              clear hz1 hk1 hFc hPc hKc hDc
              obtain ⟨hb226_1, hb226_2, hb226_b⟩ := hw
              exact W.vret hx hb hr (fun t ht hW => ⟨⟨(fc, fo, fl, cd, w222, w174, w223, w224, w225, bk, pl, br), rfl, (by (try dsimp only); exact ⟨by omega, by omega, hb5, fun z => absurd (hb226_b z).1 hb220_b⟩), by rw [ht]; exact hP.sub [3, 4, 0, 1, 2] rfl, va_K.moved hW.alike (hK.sub [0, 1, 2, 3] rfl), hD.sub [3, 4, 0, 1, 2] (by decide) rfl⟩, hS.F ht⟩) hS.2.2 dX11_statement_205

