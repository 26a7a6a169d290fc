theorem dX11_statement_0 : decode cX11_statement 0 = .ok (.aload_n 0, 1) := by decide +kernel
theorem dX11_statement_1 : decode cX11_statement 1 = .ok (.invokevirtual 306, 3) := by decide +kernel
theorem dX11_statement_4 : decode cX11_statement 4 = .ok (.istore_n 1, 1) := by decide +kernel
theorem dX11_statement_5 : decode cX11_statement 5 = .ok (.aload_n 0, 1) := by decide +kernel
theorem dX11_statement_6 : decode cX11_statement 6 = .ok (.sipush 17076, 3) := by decide +kernel
theorem dX11_statement_9 : decode cX11_statement 9 = .ok (.invokevirtual 329, 3) := by decide +kernel
theorem dX11_statement_12 : decode cX11_statement 12 = .ok (.ifCond .eq 33, 3) := by decide +kernel
theorem dX11_statement_15 : decode cX11_statement 15 = .ok (.aload_n 0, 1) := by decide +kernel
theorem dX11_statement_16 : decode cX11_statement 16 = .ok (.invokevirtual 366, 3) := by decide +kernel
theorem dX11_statement_19 : decode cX11_statement 19 = .ok (.aload_n 0, 1) := by decide +kernel
theorem dX11_statement_20 : decode cX11_statement 20 = .ok (.bipush 51, 2) := by decide +kernel
theorem dX11_statement_22 : decode cX11_statement 22 = .ok (.invokevirtual 369, 3) := by decide +kernel
theorem dX11_statement_25 : decode cX11_statement 25 = .ok (.aload_n 0, 1) := by decide +kernel
theorem dX11_statement_26 : decode cX11_statement 26 = .ok (.invokevirtual 313, 3) := by decide +kernel
theorem dX11_statement_29 : decode cX11_statement 29 = .ok (.ifCond .eq 7, 3) := by decide +kernel
theorem dX11_statement_32 : decode cX11_statement 32 = .ok (.aload_n 0, 1) := by decide +kernel
theorem dX11_statement_33 : decode cX11_statement 33 = .ok (.invokevirtual 366, 3) := by decide +kernel
theorem dX11_statement_36 : decode cX11_statement 36 = .ok (.aload_n 0, 1) := by decide +kernel
theorem dX11_statement_37 : decode cX11_statement 37 = .ok (.iconst 0, 1) := by decide +kernel
theorem dX11_statement_38 : decode cX11_statement 38 = .ok (.iconst 0, 1) := by decide +kernel
theorem dX11_statement_39 : decode cX11_statement 39 = .ok (.invokevirtual 344, 3) := by decide +kernel
theorem dX11_statement_42 : decode cX11_statement 42 = .ok (.goto 157, 3) := by decide +kernel
theorem dX11_statement_45 : decode cX11_statement 45 = .ok (.aload_n 0, 1) := by decide +kernel
theorem dX11_statement_46 : decode cX11_statement 46 = .ok (.ldc_w 372, 3) := by decide +kernel
theorem dX11_statement_49 : decode cX11_statement 49 = .ok (.invokevirtual 329, 3) := by decide +kernel
theorem dX11_statement_52 : decode cX11_statement 52 = .ok (.ifCond .eq 16, 3) := by decide +kernel
theorem dX11_statement_55 : decode cX11_statement 55 = .ok (.aload_n 0, 1) := by decide +kernel
theorem dX11_statement_56 : decode cX11_statement 56 = .ok (.invokevirtual 366, 3) := by decide +kernel
theorem dX11_statement_59 : decode cX11_statement 59 = .ok (.aload_n 0, 1) := by decide +kernel
theorem dX11_statement_60 : decode cX11_statement 60 = .ok (.iconst 1, 1) := by decide +kernel
theorem dX11_statement_61 : decode cX11_statement 61 = .ok (.iconst 0, 1) := by decide +kernel
theorem dX11_statement_62 : decode cX11_statement 62 = .ok (.invokevirtual 344, 3) := by decide +kernel
theorem dX11_statement_65 : decode cX11_statement 65 = .ok (.goto 134, 3) := by decide +kernel
theorem dX11_statement_68 : decode cX11_statement 68 = .ok (.aload_n 0, 1) := by decide +kernel
theorem dX11_statement_69 : decode cX11_statement 69 = .ok (.sipush 7348, 3) := by decide +kernel
theorem dX11_statement_72 : decode cX11_statement 72 = .ok (.invokevirtual 329, 3) := by decide +kernel
theorem dX11_statement_75 : decode cX11_statement 75 = .ok (.ifCond .eq 16, 3) := by decide +kernel
theorem dX11_statement_78 : decode cX11_statement 78 = .ok (.aload_n 0, 1) := by decide +kernel
theorem dX11_statement_79 : decode cX11_statement 79 = .ok (.invokevirtual 366, 3) := by decide +kernel
theorem dX11_statement_82 : decode cX11_statement 82 = .ok (.aload_n 0, 1) := by decide +kernel
theorem dX11_statement_83 : decode cX11_statement 83 = .ok (.iconst 2, 1) := by decide +kernel
theorem dX11_statement_84 : decode cX11_statement 84 = .ok (.iconst 0, 1) := by decide +kernel
theorem dX11_statement_85 : decode cX11_statement 85 = .ok (.invokevirtual 344, 3) := by decide +kernel
theorem dX11_statement_88 : decode cX11_statement 88 = .ok (.goto 111, 3) := by decide +kernel
theorem dX11_statement_91 : decode cX11_statement 91 = .ok (.aload_n 0, 1) := by decide +kernel
theorem dX11_statement_92 : decode cX11_statement 92 = .ok (.sipush 12468, 3) := by decide +kernel
theorem dX11_statement_95 : decode cX11_statement 95 = .ok (.invokevirtual 329, 3) := by decide +kernel
theorem dX11_statement_98 : decode cX11_statement 98 = .ok (.ifCond .eq 16, 3) := by decide +kernel
theorem dX11_statement_101 : decode cX11_statement 101 = .ok (.aload_n 0, 1) := by decide +kernel
theorem dX11_statement_102 : decode cX11_statement 102 = .ok (.invokevirtual 366, 3) := by decide +kernel
theorem dX11_statement_105 : decode cX11_statement 105 = .ok (.aload_n 0, 1) := by decide +kernel
theorem dX11_statement_106 : decode cX11_statement 106 = .ok (.iconst 3, 1) := by decide +kernel
theorem dX11_statement_107 : decode cX11_statement 107 = .ok (.iconst 0, 1) := by decide +kernel
theorem dX11_statement_108 : decode cX11_statement 108 = .ok (.invokevirtual 344, 3) := by decide +kernel
theorem dX11_statement_111 : decode cX11_statement 111 = .ok (.goto 88, 3) := by decide +kernel
theorem dX11_statement_114 : decode cX11_statement 114 = .ok (.aload_n 0, 1) := by decide +kernel
theorem dX11_statement_115 : decode cX11_statement 115 = .ok (.sipush 6642, 3) := by decide +kernel
theorem dX11_statement_118 : decode cX11_statement 118 = .ok (.invokevirtual 329, 3) := by decide +kernel
theorem dX11_statement_121 : decode cX11_statement 121 = .ok (.ifCond .eq 32, 3) := by decide +kernel
theorem dX11_statement_124 : decode cX11_statement 124 = .ok (.aload_n 0, 1) := by decide +kernel
theorem dX11_statement_125 : decode cX11_statement 125 = .ok (.getfield 286, 3) := by decide +kernel
theorem dX11_statement_128 : decode cX11_statement 128 = .ok (.iconst 5, 1) := by decide +kernel
theorem dX11_statement_129 : decode cX11_statement 129 = .ok (.if_icmp .ne 9, 3) := by decide +kernel
theorem dX11_statement_132 : decode cX11_statement 132 = .ok (.aload_n 0, 1) := by decide +kernel
theorem dX11_statement_133 : decode cX11_statement 133 = .ok (.iconst 3, 1) := by decide +kernel
theorem dX11_statement_134 : decode cX11_statement 134 = .ok (.iload_n 1, 1) := by decide +kernel
theorem dX11_statement_135 : decode cX11_statement 135 = .ok (.invokevirtual 310, 3) := by decide +kernel
theorem dX11_statement_138 : decode cX11_statement 138 = .ok (.aload_n 0, 1) := by decide +kernel
theorem dX11_statement_139 : decode cX11_statement 139 = .ok (.sipush 200, 3) := by decide +kernel
theorem dX11_statement_142 : decode cX11_statement 142 = .ok (.invokevirtual 348, 3) := by decide +kernel
theorem dX11_statement_145 : decode cX11_statement 145 = .ok (.istore_n 2, 1) := by decide +kernel
theorem dX11_statement_146 : decode cX11_statement 146 = .ok (.aload_n 0, 1) := by decide +kernel
theorem dX11_statement_147 : decode cX11_statement 147 = .ok (.iconst 4, 1) := by decide +kernel
theorem dX11_statement_148 : decode cX11_statement 148 = .ok (.iload_n 2, 1) := by decide +kernel
theorem dX11_statement_149 : decode cX11_statement 149 = .ok (.invokevirtual 373, 3) := by decide +kernel
theorem dX11_statement_152 : decode cX11_statement 152 = .ok (.return_, 1) := by decide +kernel
theorem dX11_statement_153 : decode cX11_statement 153 = .ok (.aload_n 0, 1) := by decide +kernel
theorem dX11_statement_154 : decode cX11_statement 154 = .ok (.sipush 294, 3) := by decide +kernel
theorem dX11_statement_157 : decode cX11_statement 157 = .ok (.invokevirtual 329, 3) := by decide +kernel
theorem dX11_statement_160 : decode cX11_statement 160 = .ok (.ifCond .eq 35, 3) := by decide +kernel
theorem dX11_statement_163 : decode cX11_statement 163 = .ok (.aload_n 0, 1) := by decide +kernel
theorem dX11_statement_164 : decode cX11_statement 164 = .ok (.getfield 286, 3) := by decide +kernel
theorem dX11_statement_167 : decode cX11_statement 167 = .ok (.iconst 5, 1) := by decide +kernel
theorem dX11_statement_168 : decode cX11_statement 168 = .ok (.if_icmp .ne 9, 3) := by decide +kernel
theorem dX11_statement_171 : decode cX11_statement 171 = .ok (.aload_n 0, 1) := by decide +kernel
theorem dX11_statement_172 : decode cX11_statement 172 = .ok (.iconst 3, 1) := by decide +kernel
theorem dX11_statement_173 : decode cX11_statement 173 = .ok (.iload_n 1, 1) := by decide +kernel
theorem dX11_statement_174 : decode cX11_statement 174 = .ok (.invokevirtual 310, 3) := by decide +kernel
theorem dX11_statement_177 : decode cX11_statement 177 = .ok (.aload_n 0, 1) := by decide +kernel
theorem dX11_statement_178 : decode cX11_statement 178 = .ok (.invokevirtual 313, 3) := by decide +kernel
theorem dX11_statement_181 : decode cX11_statement 181 = .ok (.ifCond .eq 7, 3) := by decide +kernel
theorem dX11_statement_184 : decode cX11_statement 184 = .ok (.aload_n 0, 1) := by decide +kernel
theorem dX11_statement_185 : decode cX11_statement 185 = .ok (.invokevirtual 366, 3) := by decide +kernel
theorem dX11_statement_188 : decode cX11_statement 188 = .ok (.aload_n 0, 1) := by decide +kernel
theorem dX11_statement_189 : decode cX11_statement 189 = .ok (.iconst 5, 1) := by decide +kernel
theorem dX11_statement_190 : decode cX11_statement 190 = .ok (.iconst 0, 1) := by decide +kernel
theorem dX11_statement_191 : decode cX11_statement 191 = .ok (.invokevirtual 373, 3) := by decide +kernel
theorem dX11_statement_194 : decode cX11_statement 194 = .ok (.return_, 1) := by decide +kernel
theorem dX11_statement_195 : decode cX11_statement 195 = .ok (.aload_n 0, 1) := by decide +kernel
theorem dX11_statement_196 : decode cX11_statement 196 = .ok (.invokevirtual 320, 3) := by decide +kernel
theorem dX11_statement_199 : decode cX11_statement 199 = .ok (.aload_n 0, 1) := by decide +kernel
theorem dX11_statement_200 : decode cX11_statement 200 = .ok (.bipush 59, 2) := by decide +kernel
theorem dX11_statement_202 : decode cX11_statement 202 = .ok (.invokevirtual 363, 3) := by decide +kernel
theorem dX11_statement_205 : decode cX11_statement 205 = .ok (.return_, 1) := by decide +kernel
def own_c_statement : List Cond := [.methodLink RX11 306 yX11_next, .instanceMethod yX11_next, .selects RX11 yX11_next yX11_next, .initialized RX11, .methodLink RX11 329 yX11_takesWord, .instanceMethod yX11_takesWord, .selects RX11 yX11_takesWord yX11_takesWord, .methodLink RX11 366 yX11_sum, .instanceMethod yX11_sum, .selects RX11 yX11_sum yX11_sum, .methodLink RX11 369 yX11_asks, .instanceMethod yX11_asks, .selects RX11 yX11_asks yX11_asks, .methodLink RX11 313 yX11_isFine, .instanceMethod yX11_isFine, .selects RX11 yX11_isFine yX11_isFine, .methodLink RX11 344 yX11_emits, .instanceMethod yX11_emits, .selects RX11 yX11_emits yX11_emits, .methodLink RX11 363 yX11_needsSign, .instanceMethod yX11_needsSign, .selects RX11 yX11_needsSign yX11_needsSign, .constant RX11 372 (150000), .fieldLink RX11 286 "ClashFreeModel" "blocks" "I", .methodLink RX11 348 yX11_number, .instanceMethod yX11_number, .selects RX11 yX11_number yX11_number, .methodLink RX11 373 yX11_opens, .instanceMethod yX11_opens, .selects RX11 yX11_opens yX11_opens, .methodLink RX11 310 yX11_fail, .instanceMethod yX11_fail, .selects RX11 yX11_fail yX11_fail, .methodLink RX11 320 yX11_unlike, .instanceMethod yX11_unlike, .selects RX11 yX11_unlike yX11_unlike]
def wp_c_statement : List Cond := .code yX11_statement cX11_statement 3 none :: (own_c_statement ++ (wp_c_next ++ (wp_c_takesWord ++ (wp_c_sum ++ (wp_c_asks ++ (wp_c_isFine ++ (wp_c_emits ++ (wp_c_needsSign ++ (wp_c_number ++ (wp_c_opens ++ (wp_c_fail ++ (wp_c_unlike ++ (wsX110 ++ ([] : List Cond))))))))))))))
set_option maxRecDepth 20000 in
theorem inown_c_statement : ∀ w ∈ own_c_statement, w ∈ lw_tbl := mem_places [1673, 1675, 75, 115, 1701, 1703, 82, 1711, 1713, 84, 1742, 1744, 91, 1669, 1671, 74, 1685, 1687, 78, 1689, 1691, 79, 1746, 1243, 1720, 1722, 86, 1747, 1749, 92, 1665, 1667, 73, 1693, 1695, 80] (by decide +kernel)
set_option maxRecDepth 20000 in
theorem in_c_statement : ∀ w ∈ wp_c_statement, w ∈ lw_tbl := List.forall_mem_cons.mpr ⟨List.mem_of_getElem? (i := 1700) (by decide +kernel), List.forall_mem_append.mpr ⟨inown_c_statement, List.forall_mem_append.mpr ⟨in_c_next, List.forall_mem_append.mpr ⟨in_c_takesWord, List.forall_mem_append.mpr ⟨in_c_sum, List.forall_mem_append.mpr ⟨in_c_asks, List.forall_mem_append.mpr ⟨in_c_isFine, List.forall_mem_append.mpr ⟨in_c_emits, List.forall_mem_append.mpr ⟨in_c_needsSign, List.forall_mem_append.mpr ⟨in_c_number, List.forall_mem_append.mpr ⟨in_c_opens, List.forall_mem_append.mpr ⟨in_c_fail, List.forall_mem_append.mpr ⟨in_c_unlike, List.forall_mem_append.mpr ⟨lwb_X11, fun _ h => absurd h List.not_mem_nil⟩⟩⟩⟩⟩⟩⟩⟩⟩⟩⟩⟩⟩⟩
set_option maxRecDepth 20000 in
theorem good_c_statement : wp_c_statement.all goodWord = true := by decide +kernel
set_option maxRecDepth 20000 in
theorem g_c_statement_c_next_306 : GoodIn wp_c_statement (wsV RX11 306 RX11 yX11_next wp_c_next) := goodIn_sub (List.forall_mem_append.mpr ⟨List.forall_mem_cons.mpr ⟨(List.mem_of_getElem? (i := 1) rfl), List.forall_mem_cons.mpr ⟨(List.mem_of_getElem? (i := 2) rfl), List.forall_mem_cons.mpr ⟨(List.mem_of_getElem? (i := 3) rfl), List.forall_mem_cons.mpr ⟨(List.mem_of_getElem? (i := 4) rfl), fun _ h => absurd h List.not_mem_nil⟩⟩⟩⟩, (fun _ h => (List.mem_cons_of_mem _ (List.mem_append_right _ (List.mem_append_left _ h))))⟩) (by decide +kernel)
set_option maxRecDepth 20000 in
theorem g_c_statement_c_takesWord_329 : GoodIn wp_c_statement (wsV RX11 329 RX11 yX11_takesWord wp_c_takesWord) := goodIn_sub (List.forall_mem_append.mpr ⟨List.forall_mem_cons.mpr ⟨(List.mem_of_getElem? (i := 5) rfl), List.forall_mem_cons.mpr ⟨(List.mem_of_getElem? (i := 6) rfl), List.forall_mem_cons.mpr ⟨(List.mem_of_getElem? (i := 7) rfl), List.forall_mem_cons.mpr ⟨(List.mem_of_getElem? (i := 4) rfl), fun _ h => absurd h List.not_mem_nil⟩⟩⟩⟩, (fun _ h => (List.mem_cons_of_mem _ (List.mem_append_right _ (List.mem_append_right _ (List.mem_append_left _ h)))))⟩) (by decide +kernel)
set_option maxRecDepth 20000 in
theorem g_c_statement_c_sum_366 : GoodIn wp_c_statement (wsV RX11 366 RX11 yX11_sum wp_c_sum) := goodIn_sub (List.forall_mem_append.mpr ⟨List.forall_mem_cons.mpr ⟨(List.mem_of_getElem? (i := 8) rfl), List.forall_mem_cons.mpr ⟨(List.mem_of_getElem? (i := 9) rfl), List.forall_mem_cons.mpr ⟨(List.mem_of_getElem? (i := 10) rfl), List.forall_mem_cons.mpr ⟨(List.mem_of_getElem? (i := 4) rfl), fun _ h => absurd h List.not_mem_nil⟩⟩⟩⟩, (fun _ h => (List.mem_cons_of_mem _ (List.mem_append_right _ (List.mem_append_right _ (List.mem_append_right _ (List.mem_append_left _ h))))))⟩) (by decide +kernel)
set_option maxRecDepth 20000 in
theorem g_c_statement_c_asks_369 : GoodIn wp_c_statement (wsV RX11 369 RX11 yX11_asks wp_c_asks) := goodIn_sub (List.forall_mem_append.mpr ⟨List.forall_mem_cons.mpr ⟨(List.mem_of_getElem? (i := 11) rfl), List.forall_mem_cons.mpr ⟨(List.mem_of_getElem? (i := 12) rfl), List.forall_mem_cons.mpr ⟨(List.mem_of_getElem? (i := 13) rfl), List.forall_mem_cons.mpr ⟨(List.mem_of_getElem? (i := 4) rfl), fun _ h => absurd h List.not_mem_nil⟩⟩⟩⟩, (fun _ h => (List.mem_cons_of_mem _ (List.mem_append_right _ (List.mem_append_right _ (List.mem_append_right _ (List.mem_append_right _ (List.mem_append_left _ h)))))))⟩) (by decide +kernel)
set_option maxRecDepth 20000 in
theorem g_c_statement_c_isFine_313 : GoodIn wp_c_statement (wsV RX11 313 RX11 yX11_isFine wp_c_isFine) := goodIn_sub (List.forall_mem_append.mpr ⟨List.forall_mem_cons.mpr ⟨(List.mem_of_getElem? (i := 14) rfl), List.forall_mem_cons.mpr ⟨(List.mem_of_getElem? (i := 15) rfl), List.forall_mem_cons.mpr ⟨(List.mem_of_getElem? (i := 16) rfl), List.forall_mem_cons.mpr ⟨(List.mem_of_getElem? (i := 4) rfl), fun _ h => absurd h List.not_mem_nil⟩⟩⟩⟩, (fun _ h => (List.mem_cons_of_mem _ (List.mem_append_right _ (List.mem_append_right _ (List.mem_append_right _ (List.mem_append_right _ (List.mem_append_right _ (List.mem_append_left _ h))))))))⟩) (by decide +kernel)
set_option maxRecDepth 20000 in
theorem g_c_statement_c_emits_344 : GoodIn wp_c_statement (wsV RX11 344 RX11 yX11_emits wp_c_emits) := goodIn_sub (List.forall_mem_append.mpr ⟨List.forall_mem_cons.mpr ⟨(List.mem_of_getElem? (i := 17) rfl), List.forall_mem_cons.mpr ⟨(List.mem_of_getElem? (i := 18) rfl), List.forall_mem_cons.mpr ⟨(List.mem_of_getElem? (i := 19) rfl), List.forall_mem_cons.mpr ⟨(List.mem_of_getElem? (i := 4) rfl), fun _ h => absurd h List.not_mem_nil⟩⟩⟩⟩, (fun _ h => (List.mem_cons_of_mem _ (List.mem_append_right _ (List.mem_append_right _ (List.mem_append_right _ (List.mem_append_right _ (List.mem_append_right _ (List.mem_append_right _ (List.mem_append_left _ h)))))))))⟩) (by decide +kernel)
set_option maxRecDepth 20000 in
theorem g_c_statement_c_needsSign_363 : GoodIn wp_c_statement (wsV RX11 363 RX11 yX11_needsSign wp_c_needsSign) := goodIn_sub (List.forall_mem_append.mpr ⟨List.forall_mem_cons.mpr ⟨(List.mem_of_getElem? (i := 20) rfl), List.forall_mem_cons.mpr ⟨(List.mem_of_getElem? (i := 21) rfl), List.forall_mem_cons.mpr ⟨(List.mem_of_getElem? (i := 22) rfl), List.forall_mem_cons.mpr ⟨(List.mem_of_getElem? (i := 4) rfl), fun _ h => absurd h List.not_mem_nil⟩⟩⟩⟩, (fun _ h => (List.mem_cons_of_mem _ (List.mem_append_right _ (List.mem_append_right _ (List.mem_append_right _ (List.mem_append_right _ (List.mem_append_right _ (List.mem_append_right _ (List.mem_append_right _ (List.mem_append_left _ h))))))))))⟩) (by decide +kernel)
set_option maxRecDepth 20000 in
theorem g_c_statement_c_number_348 : GoodIn wp_c_statement (wsV RX11 348 RX11 yX11_number wp_c_number) := goodIn_sub (List.forall_mem_append.mpr ⟨List.forall_mem_cons.mpr ⟨(List.mem_of_getElem? (i := 25) rfl), List.forall_mem_cons.mpr ⟨(List.mem_of_getElem? (i := 26) rfl), List.forall_mem_cons.mpr ⟨(List.mem_of_getElem? (i := 27) rfl), List.forall_mem_cons.mpr ⟨(List.mem_of_getElem? (i := 4) rfl), fun _ h => absurd h List.not_mem_nil⟩⟩⟩⟩, (fun _ h => (List.mem_cons_of_mem _ (List.mem_append_right _ (List.mem_append_right _ (List.mem_append_right _ (List.mem_append_right _ (List.mem_append_right _ (List.mem_append_right _ (List.mem_append_right _ (List.mem_append_right _ (List.mem_append_left _ h)))))))))))⟩) (by decide +kernel)
set_option maxRecDepth 20000 in
theorem g_c_statement_c_opens_373 : GoodIn wp_c_statement (wsV RX11 373 RX11 yX11_opens wp_c_opens) := goodIn_sub (List.forall_mem_append.mpr ⟨List.forall_mem_cons.mpr ⟨(List.mem_of_getElem? (i := 28) rfl), List.forall_mem_cons.mpr ⟨(List.mem_of_getElem? (i := 29) rfl), List.forall_mem_cons.mpr ⟨(List.mem_of_getElem? (i := 30) rfl), List.forall_mem_cons.mpr ⟨(List.mem_of_getElem? (i := 4) rfl), fun _ h => absurd h List.not_mem_nil⟩⟩⟩⟩, (fun _ h => (List.mem_cons_of_mem _ (List.mem_append_right _ (List.mem_append_right _ (List.mem_append_right _ (List.mem_append_right _ (List.mem_append_right _ (List.mem_append_right _ (List.mem_append_right _ (List.mem_append_right _ (List.mem_append_right _ (List.mem_append_left _ h))))))))))))⟩) (by decide +kernel)
set_option maxRecDepth 20000 in
theorem g_c_statement_c_fail_310 : GoodIn wp_c_statement (wsV RX11 310 RX11 yX11_fail wp_c_fail) := goodIn_sub (List.forall_mem_append.mpr ⟨List.forall_mem_cons.mpr ⟨(List.mem_of_getElem? (i := 31) rfl), List.forall_mem_cons.mpr ⟨(List.mem_of_getElem? (i := 32) rfl), List.forall_mem_cons.mpr ⟨(List.mem_of_getElem? (i := 33) rfl), List.forall_mem_cons.mpr ⟨(List.mem_of_getElem? (i := 4) rfl), fun _ h => absurd h List.not_mem_nil⟩⟩⟩⟩, (fun _ h => (List.mem_cons_of_mem _ (List.mem_append_right _ (List.mem_append_right _ (List.mem_append_right _ (List.mem_append_right _ (List.mem_append_right _ (List.mem_append_right _ (List.mem_append_right _ (List.mem_append_right _ (List.mem_append_right _ (List.mem_append_right _ (List.mem_append_left _ h)))))))))))))⟩) (by decide +kernel)
set_option maxRecDepth 20000 in
theorem g_c_statement_c_unlike_320 : GoodIn wp_c_statement (wsV RX11 320 RX11 yX11_unlike wp_c_unlike) := goodIn_sub (List.forall_mem_append.mpr ⟨List.forall_mem_cons.mpr ⟨(List.mem_of_getElem? (i := 34) rfl), List.forall_mem_cons.mpr ⟨(List.mem_of_getElem? (i := 35) rfl), List.forall_mem_cons.mpr ⟨(List.mem_of_getElem? (i := 36) rfl), List.forall_mem_cons.mpr ⟨(List.mem_of_getElem? (i := 4) rfl), fun _ h => absurd h List.not_mem_nil⟩⟩⟩⟩, (fun _ h => (List.mem_cons_of_mem _ (List.mem_append_right _ (List.mem_append_right _ (List.mem_append_right _ (List.mem_append_right _ (List.mem_append_right _ (List.mem_append_right _ (List.mem_append_right _ (List.mem_append_right _ (List.mem_append_right _ (List.mem_append_right _ (List.mem_append_right _ (List.mem_append_left _ h))))))))))))))⟩) (by decide +kernel)
set_option maxHeartbeats 4000000 in
set_option maxRecDepth 100000 in
theorem c_statement (l : Launch) (D : va_G) (sz : Nat) (h0 : Nat) (a : Nat → Nat) (cm : Nat → ClassId) (i : Nat → Int32) (g : Nat → Int64) (fT : Nat → Int32) (fc : Nat → Int32) (fo : Nat → Int32) (fl : Nat → Int32) (cd : Nat) (zs : Nat) (ta : Nat) (en : Int32) (bd : Int32) (bp : Int32) (bq : Int32) (bk : Nat) (pl : Nat) (br : Int32) (bt : Nat → Nat) (vz : Option (SM × RC)) (hb0 : bd = 0) (hz6 : zs ≤ 600) (hta : ta ≤ zs) (hcp : cd ≤ ta) (hb5 : bk ≤ 5) (hW : PSt fc fo cd bk 0) (hbt : TieB fT bt) (hV : TR bt zs vz 0 0 cd fc bk fo ta en) (hnc : ¬ (0 < bk ∧ SgP bt zs ta 93)) (hne : ¬ (bk = 0 ∧ ¬ tkA bt zs ta < zs)) : Met l yX11_statement wp_c_statement ({ frames := 7, cells := 0, slots := 0, locals := 212 }) (PcW D [.ref h0] sz [(h0, .inr (11, gP a i g (nI cd) (nI zs) (nI ta) en bd bp bq (nI bk) (nI pl) br)), (a 1, .inl (cm 1, 1400, .inl fT)), (a 19, .inl (cm 19, 2000, .inl fc)), (a 28, .inl (cm 28, 6, .inl fo)), (a 29, .inl (cm 29, 700, .inl fl))] [(cm 1, .byte), (cm 19, .int), (cm 28, .int), (cm 29, .int)]) (va_Qv (fun (u : (Nat → Int32) × (Nat → Int32) × (Nat → Int32) × (Nat) × (Nat) × (Int32) × (Int32) × (Int32) × (Int32) × (Nat) × (Nat) × (Int32)) => u.2.2.2.1 ≤ u.2.2.2.2.1 ∧ u.2.2.2.2.1 ≤ zs ∧ u.2.2.2.2.2.2.2.2.2.1 ≤ 5 ∧ (u.2.2.2.2.2.2.1 = 0 → ta + 1 ≤ u.2.2.2.2.1 ∧ PSt u.1 u.2.1 u.2.2.2.1 u.2.2.2.2.2.2.2.2.2.1 0) ∧ (u.2.2.2.2.2.2.1 = 0 → TR bt zs vz 0 0 u.2.2.2.1 u.1 u.2.2.2.2.2.2.2.2.2.1 u.2.1 u.2.2.2.2.1 u.2.2.2.2.2.1) ∧ (¬ u.2.2.2.2.2.2.1 = 0 → vz = none)) (fun (u : (Nat → Int32) × (Nat → Int32) × (Nat → Int32) × (Nat) × (Nat) × (Int32) × (Int32) × (Int32) × (Int32) × (Nat) × (Nat) × (Int32)) t => va_P D vwCl [(h0, .inr (11, gP a i g (nI u.2.2.2.1) (nI zs) (nI u.2.2.2.2.1) u.2.2.2.2.2.1 u.2.2.2.2.2.2.1 u.2.2.2.2.2.2.2.1 u.2.2.2.2.2.2.2.2.1 (nI u.2.2.2.2.2.2.2.2.2.1) (nI u.2.2.2.2.2.2.2.2.2.2.1) u.2.2.2.2.2.2.2.2.2.2.2)), (a 1, .inl (cm 1, 1400, .inl fT)), (a 19, .inl (cm 19, 2000, .inl u.1)), (a 28, .inl (cm 28, 6, .inl u.2.1)), (a 29, .inl (cm 29, 700, .inl u.2.2.1))] t.heap ∧ va_K D vwCl [(cm 1, .byte), (cm 19, .int), (cm 28, .int), (cm 29, .int)] t ∧ va_D (va_A [(h0, .inr (11, gP a i g (nI cd) (nI zs) (nI ta) en bd bp bq (nI bk) (nI pl) br)), (a 1, .inl (cm 1, 1400, .inl fT)), (a 19, .inl (cm 19, 2000, .inl fc)), (a 28, .inl (cm 28, 6, .inl fo)), (a 29, .inl (cm 29, 700, .inl fl))] sz) [(h0, .inr (11, gP a i g (nI u.2.2.2.1) (nI zs) (nI u.2.2.2.2.1) u.2.2.2.2.2.1 u.2.2.2.2.2.2.1 u.2.2.2.2.2.2.2.1 u.2.2.2.2.2.2.2.2.1 (nI u.2.2.2.2.2.2.2.2.2.1) (nI u.2.2.2.2.2.2.2.2.2.2.1) u.2.2.2.2.2.2.2.2.2.2.2)), (a 1, .inl (cm 1, 1400, .inl fT)), (a 19, .inl (cm 19, 2000, .inl u.1)), (a 28, .inl (cm 28, 6, .inl u.2.1)), (a 29, .inl (cm 29, 700, .inl u.2.2.1))]) (va_A [(h0, .inr (11, gP a i g (nI cd) (nI zs) (nI ta) en bd bp bq (nI bk) (nI pl) br)), (a 1, .inl (cm 1, 1400, .inl fT)), (a 19, .inl (cm 19, 2000, .inl fc)), (a 28, .inl (cm 28, 6, .inl fo)), (a 29, .inl (cm 29, 700, .inl fl))] sz)) 0 0 (va_A [(h0, .inr (11, gP a i g (nI cd) (nI zs) (nI ta) en bd bp bq (nI bk) (nI pl) br)), (a 1, .inl (cm 1, 1400, .inl fT)), (a 19, .inl (cm 19, 2000, .inl fc)), (a 28, .inl (cm 28, 6, .inl fo)), (a 29, .inl (cm 29, 700, .inl fl))] sz) := by
  refine Met.ofW (cc := cX11_statement) (maxL := 3) (ret := none) (by decide) rfl ?_
  intro p e s m args below meth c s₁ B hml hv
  obtain ⟨rfl, hsz, hP, hK, hD0⟩ := hv
  have hx := B.exec
  have hb := B.bytes
  have hr := B.returns
  have hts := atoms_spec (ws := wp_c_statement) B.pre
  have hin_X11 : ∀ w ∈ wsX110, w ∈ wp_c_statement := fun _ h => (List.mem_cons_of_mem _ (List.mem_append_right _ (List.mem_append_right _ (List.mem_append_right _ (List.mem_append_right _ (List.mem_append_right _ (List.mem_append_right _ (List.mem_append_right _ (List.mem_append_right _ (List.mem_append_right _ (List.mem_append_right _ (List.mem_append_right _ (List.mem_append_right _ (List.mem_append_left _ h))))))))))))))
  have hown : s.vm.findClass RX11 = some m.cls := findClass_of_methodNamed B.named
  have hlocks := B.notSynchronized
  subst hsz
  have hD := hD0.self (sz := s.heap.size)
  generalize hAe : va_A [(h0, .inr (11, gP a i g (nI cd) (nI zs) (nI ta) en bd bp bq (nI bk) (nI pl) br)), (a 1, .inl (cm 1, 1400, .inl fT)), (a 19, .inl (cm 19, 2000, .inl fc)), (a 28, .inl (cm 28, 6, .inl fo)), (a 29, .inl (cm 29, 700, .inl fl))] s.heap.size = A at hD ⊢
  have hA : ∀ q : Nat, s.heap.size ≤ q → A q := fun q h => by rw [← hAe]; exact Or.inr h
  have hS : va_S A s.heap s.heap [] := va_S.rf
  have hP : va_P D vwCl [(h0, .inr (11, gP a i g (nI cd) (nI zs) (nI ta) en bd bp bq (nI bk) (nI pl) br)), (a 1, .inl (cm 1, 1400, .inl fT)), (a 19, .inl (cm 19, 2000, .inl fc)), (a 28, .inl (cm 28, 6, .inl fo)), (a 29, .inl (cm 29, 700, .inl fl))] s.heap := hP
  have hl := lv_entry ([.ref h0]) (n := 3) (Nat.le_of_ble_eq_true rfl)
  rw [lg_entry_eq]
  generalize (lg_sl ([.ref h0]) ++ List.replicate (3 - (lg_sl ([.ref h0])).length) Slot.unset).toArray = ls at hl ⊢
  have hl : lv_has ls 3 [(0, .ref h0)] := hl
  have hzs : zs ≤ 1400 := by omega
  have hWf : bd = 0 → PSt fc fo cd bk 0 := fun _ => hW
  refine lv_aload_n hx hb dX11_statement_0 rfl (lv_at hl 0 rfl) ?_
  have hPc := hP.sub (ws' := [(h0, .inr (11, gP a i g (nI cd) (nI zs) (nI ta) en bd bp bq (nI bk) (nI pl) br)), (a 1, .inl (cm 1, 1400, .inl fT))]) [0, 1] rfl
  have hKc := hK.sub (tys' := [(cm 1, .byte)]) [0] rfl
  have hDc := hD.sub (ws' := [(h0, .inr (11, gP a i g (nI cd) (nI zs) (nI ta) en bd bp bq (nI bk) (nI pl) br)), (a 1, .inl (cm 1, 1400, .inl fT))]) [0, 1] (by decide) rfl
  have hFc := va_free (wc := [(h0, .inr (11, gP a i g (nI cd) (nI zs) (nI ta) en bd bp bq (nI bk) (nI pl) br)), (a 1, .inl (cm 1, 1400, .inl fT))]) hD hS hA [0, 1] rfl
  refine va_calli (va_runV (As := []) (rest := []) ⟨hx, hb, hml, hown, hts⟩ (c_next l D _ h0 a cm i g fT cd zs ta en bd bp bq bk pl br bt (by omega) (by omega) hbt) (cwV 0 hts g_c_statement_c_next_306 rfl rfl rfl (by decide +kernel) ⟨(Nat.le_of_ble_eq_true rfl), (Nat.le_of_ble_eq_true rfl)⟩) (PcW_V (q0 := 0) hPc hKc hDc rfl rfl) rfl rfl hl.1 rfl (lv_room (Nat.le_of_ble_eq_true rfl)) dX11_statement_1 ⟨(Nat.le_of_ble_eq_true rfl), (Nat.le_of_ble_eq_true rfl)⟩) hS (fun q _ h => hFc q h) hFc (fun r1 uu tt H locs htt hvm hw hB hz1 hk1 hS => ?_)
  obtain ⟨w2, rfl⟩ : ∃ z, z = uu := ⟨_, rfl⟩
  obtain ⟨hP1, hK1, hD1⟩ := hB
  rw [htt] at hP1
  have hK1 := va_K.moved hvm.symm hK1
  have hP1 : va_P D vwCl [(h0, .inr (11, gP a i g (nI cd) (nI zs) (nI w2) en bd bp bq (nI bk) (nI pl) br)), (a 1, .inl (cm 1, 1400, .inl fT))] H := hP1
  obtain ⟨hP, hD⟩ := va_join (wr := [(a 19, .inl (cm 19, 2000, .inl fc)), (a 28, .inl (cm 28, 6, .inl fo)), (a 29, .inl (cm 29, 700, .inl fl))]) (w1 := [(h0, .inr (11, gP a i g (nI cd) (nI zs) (nI w2) en bd bp bq (nI bk) (nI pl) br)), (a 1, .inl (cm 1, 1400, .inl fT))]) hP hD [0, 1] [2, 3, 4] rfl rfl (by decide) (by decide) hk1 hFc hP1 hD1
  have hP : va_P D vwCl [(a 19, .inl (cm 19, 2000, .inl fc)), (a 28, .inl (cm 28, 6, .inl fo)), (a 29, .inl (cm 29, 700, .inl fl)), (h0, .inr (11, gP a i g (nI cd) (nI zs) (nI w2) en bd bp bq (nI bk) (nI pl) br)), (a 1, .inl (cm 1, 1400, .inl fT))] H := hP
  have hD : va_D A [(a 19, .inl (cm 19, 2000, .inl fc)), (a 28, .inl (cm 28, 6, .inl fo)), (a 29, .inl (cm 29, 700, .inl fl)), (h0, .inr (11, gP a i g (nI cd) (nI zs) (nI w2) en bd bp bq (nI bk) (nI pl) br)), (a 1, .inl (cm 1, 1400, .inl fT))] := hD
  try dsimp only at hw
  clear hz1 hk1 hFc hPc hKc hDc
  obtain ⟨rfl, hn3_1, hn3_2, hn3_e⟩ := hw
  refine lv_istore_n (lv' := [(1, .int (nI w2)), (0, .ref h0)]) hx hb dX11_statement_4 rfl hl (by decide) rfl (fun ls hl => ?_)
  have hq0 : w2 = tkA bt zs ta := hn3_e
  refine lv_aload_n hx hb dX11_statement_5 rfl (lv_at hl 1 rfl) ?_
  refine lv_sipush (v := 17076) hx hb dX11_statement_6 (by decide) ?_
  have hPc := hP.sub (ws' := [(h0, .inr (11, gP a i g (nI cd) (nI zs) (nI w2) en bd bp bq (nI bk) (nI pl) br)), (a 1, .inl (cm 1, 1400, .inl fT))]) [3, 4] rfl
  have hKc := hK.sub (tys' := [(cm 1, .byte)]) [0] rfl
  have hDc := hD.sub (ws' := [(h0, .inr (11, gP a i g (nI cd) (nI zs) (nI w2) en bd bp bq (nI bk) (nI pl) br)), (a 1, .inl (cm 1, 1400, .inl fT))]) [3, 4] (by decide) rfl
  have hFc := va_free (wc := [(h0, .inr (11, gP a i g (nI cd) (nI zs) (nI w2) en bd bp bq (nI bk) (nI pl) br)), (a 1, .inl (cm 1, 1400, .inl fT))]) hD hS hA [3, 4] rfl
  refine va_calli (va_runV (As := [.int 17076]) (rest := []) ⟨hx, hb, hml, hown, hts⟩ (c_takesWord l D _ h0 a cm i g fT cd zs w2 en bd bp bq bk pl br 17076 3 bt (by omega) (by omega) hbt rfl) (cwV 1 hts g_c_statement_c_takesWord_329 rfl rfl rfl (by decide +kernel) ⟨(Nat.le_of_ble_eq_true rfl), (Nat.le_of_ble_eq_true rfl)⟩) (PcW_V (q0 := 0) hPc hKc hDc rfl rfl) rfl rfl hl.1 rfl (lv_room (Nat.le_of_ble_eq_true rfl)) dX11_statement_9 ⟨(Nat.le_of_ble_eq_true rfl), (Nat.le_of_ble_eq_true rfl)⟩) hS (fun q _ h => hFc q h) hFc (fun r4 uu tt H locs htt hvm hw hB hz1 hk1 hS => ?_)
  obtain ⟨w5, w6⟩ := uu
  obtain ⟨hP1, hK1, hD1⟩ := hB
  rw [htt] at hP1
  have hK1 := va_K.moved hvm.symm hK1
  have hP1 : va_P D vwCl [(h0, .inr (11, gP a i g (nI cd) (nI zs) (nI w5) w6 bd bp bq (nI bk) (nI pl) br)), (a 1, .inl (cm 1, 1400, .inl fT))] H := hP1
  obtain ⟨hP, hD⟩ := va_join (wr := [(a 19, .inl (cm 19, 2000, .inl fc)), (a 28, .inl (cm 28, 6, .inl fo)), (a 29, .inl (cm 29, 700, .inl fl))]) (w1 := [(h0, .inr (11, gP a i g (nI cd) (nI zs) (nI w5) w6 bd bp bq (nI bk) (nI pl) br)), (a 1, .inl (cm 1, 1400, .inl fT))]) hP hD [3, 4] [0, 1, 2] rfl rfl (by decide) (by decide) hk1 hFc hP1 hD1
  have hP : va_P D vwCl [(a 19, .inl (cm 19, 2000, .inl fc)), (a 28, .inl (cm 28, 6, .inl fo)), (a 29, .inl (cm 29, 700, .inl fl)), (h0, .inr (11, gP a i g (nI cd) (nI zs) (nI w5) w6 bd bp bq (nI bk) (nI pl) br)), (a 1, .inl (cm 1, 1400, .inl fT))] H := hP
  have hD : va_D A [(a 19, .inl (cm 19, 2000, .inl fc)), (a 28, .inl (cm 28, 6, .inl fo)), (a 29, .inl (cm 29, 700, .inl fl)), (h0, .inr (11, gP a i g (nI cd) (nI zs) (nI w5) w6 bd bp bq (nI bk) (nI pl) br)), (a 1, .inl (cm 1, 1400, .inl fT))] := hD
  try dsimp only at hw
  clear hz1 hk1 hFc hPc hKc hDc
  rcases hw with ⟨rfl, hA_r4⟩ | ⟨rfl, hA_r4⟩
  ·
    obtain ⟨hA_r4_0, hA_r4_1, hA_r4_2, hA_r4_e, hA_r4_n, hA_r4_w⟩ := hA_r4
    have hwd : WdP bt zs ta en 3 := (WdP_at hq0 hta rfl).mp hA_r4_w
    have hpl2 : w5 = spE (ltB bt) zs (tkA bt zs ta) := by rw [hA_r4_e, tkA_w hq0 hta]
    have hTw := hV.wrd hzs (by decide) hwd
    have hTk : bd = 0 → TR bt zs vz 1 3 cd fc bk fo w5 w6 := fun _ => by rw [hA_r4_n, hpl2]; exact hTw.2 (fun z => absurd z (by decide))
    refine lv_if_eq (tgt := 45) hx hb dX11_statement_12 (by decide) (fun hc => absurd hc (by decide)) (fun hc => ?_)
    refine lv_aload_n hx hb dX11_statement_15 rfl (lv_at hl 1 rfl) ?_
    have hPc := hP.sub (ws' := [(h0, .inr (11, gP a i g (nI cd) (nI zs) (nI w5) w6 bd bp bq (nI bk) (nI pl) br)), (a 1, .inl (cm 1, 1400, .inl fT)), (a 19, .inl (cm 19, 2000, .inl fc)), (a 29, .inl (cm 29, 700, .inl fl))]) [3, 4, 0, 2] rfl
    have hKc := hK.sub (tys' := [(cm 1, .byte), (cm 19, .int), (cm 29, .int)]) [0, 1, 3] rfl
    have hDc := hD.sub (ws' := [(h0, .inr (11, gP a i g (nI cd) (nI zs) (nI w5) w6 bd bp bq (nI bk) (nI pl) br)), (a 1, .inl (cm 1, 1400, .inl fT)), (a 19, .inl (cm 19, 2000, .inl fc)), (a 29, .inl (cm 29, 700, .inl fl))]) [3, 4, 0, 2] (by decide) rfl
    have hFc := va_free (wc := [(h0, .inr (11, gP a i g (nI cd) (nI zs) (nI w5) w6 bd bp bq (nI bk) (nI pl) br)), (a 1, .inl (cm 1, 1400, .inl fT)), (a 19, .inl (cm 19, 2000, .inl fc)), (a 29, .inl (cm 29, 700, .inl fl))]) hD hS hA [3, 4, 0, 2] rfl
    refine va_callv (va_runV (As := []) (rest := []) ⟨hx, hb, hml, hown, hts⟩ (c_sum l D _ h0 a cm i g fT fc fl cd zs w5 w6 bd bp bq bk pl br fo 0 1 bt 3 vz (by omega) (by omega) (by omega) hWf hbt hTk (fun z => absurd hb0 z)) (cwV 0 hts g_c_statement_c_sum_366 rfl rfl rfl (by decide +kernel) ⟨(Nat.le_of_ble_eq_true rfl), (Nat.le_of_ble_eq_true rfl)⟩) (PcW_V (q0 := 0) hPc hKc hDc rfl rfl) rfl rfl hl.1 rfl (lv_room (Nat.le_of_ble_eq_true rfl)) dX11_statement_16 ⟨(Nat.le_of_ble_eq_true rfl), (Nat.le_of_ble_eq_true rfl)⟩) hS (fun q _ h => hFc q h) hFc (fun uu tt H locs htt hvm hw hB hz1 hk1 hS => ?_)
    obtain ⟨w9, w10, w11, w12, w13, w14, w15, w16, w17, w18⟩ := uu
    obtain ⟨hP1, hK1, hD1⟩ := hB
    rw [htt] at hP1
    have hK1 := va_K.moved hvm.symm hK1
    have hP1 : va_P D vwCl [(h0, .inr (11, gP a i g (nI w11) (nI zs) (nI w12) w13 w14 w15 w16 (nI bk) (nI w17) w18)), (a 1, .inl (cm 1, 1400, .inl fT)), (a 19, .inl (cm 19, 2000, .inl w9)), (a 29, .inl (cm 29, 700, .inl w10))] H := hP1
    obtain ⟨hP, hD⟩ := va_join (wr := [(a 28, .inl (cm 28, 6, .inl fo))]) (w1 := [(h0, .inr (11, gP a i g (nI w11) (nI zs) (nI w12) w13 w14 w15 w16 (nI bk) (nI w17) w18)), (a 1, .inl (cm 1, 1400, .inl fT)), (a 19, .inl (cm 19, 2000, .inl w9)), (a 29, .inl (cm 29, 700, .inl w10))]) hP hD [3, 4, 0, 2] [1] rfl rfl (by decide) (by decide) hk1 hFc hP1 hD1
    have hP : va_P D vwCl [(a 28, .inl (cm 28, 6, .inl fo)), (h0, .inr (11, gP a i g (nI w11) (nI zs) (nI w12) w13 w14 w15 w16 (nI bk) (nI w17) w18)), (a 1, .inl (cm 1, 1400, .inl fT)), (a 19, .inl (cm 19, 2000, .inl w9)), (a 29, .inl (cm 29, 700, .inl w10))] H := hP
    have hD : va_D A [(a 28, .inl (cm 28, 6, .inl fo)), (h0, .inr (11, gP a i g (nI w11) (nI zs) (nI w12) w13 w14 w15 w16 (nI bk) (nI w17) w18)), (a 1, .inl (cm 1, 1400, .inl fT)), (a 19, .inl (cm 19, 2000, .inl w9)), (a 29, .inl (cm 29, 700, .inl w10))] := hD
    try dsimp only at hw
    clear hz1 hk1 hFc hPc hKc hDc
    obtain ⟨hs19_1, hs19_2, hs19_3, hs19_b, hs19_V, hs19_N⟩ := hw
    have hs19_W := fun z => (hs19_b z).2
    refine lv_aload_n hx hb dX11_statement_19 rfl (lv_at hl 1 rfl) ?_
    refine lv_bipush (v := 51) hx hb dX11_statement_20 (by decide) ?_
    have hPc := hP.sub (ws' := [(h0, .inr (11, gP a i g (nI w11) (nI zs) (nI w12) w13 w14 w15 w16 (nI bk) (nI w17) w18)), (a 1, .inl (cm 1, 1400, .inl fT))]) [1, 2] rfl
    have hKc := hK.sub (tys' := [(cm 1, .byte)]) [0] rfl
    have hDc := hD.sub (ws' := [(h0, .inr (11, gP a i g (nI w11) (nI zs) (nI w12) w13 w14 w15 w16 (nI bk) (nI w17) w18)), (a 1, .inl (cm 1, 1400, .inl fT))]) [1, 2] (by decide) rfl
    have hFc := va_free (wc := [(h0, .inr (11, gP a i g (nI w11) (nI zs) (nI w12) w13 w14 w15 w16 (nI bk) (nI w17) w18)), (a 1, .inl (cm 1, 1400, .inl fT))]) hD hS hA [1, 2] rfl
    refine va_callv (va_runV (As := [.int 51]) (rest := []) ⟨hx, hb, hml, hown, hts⟩ (c_asks l D _ h0 a cm i g fT w11 zs w12 w13 w14 w15 w16 bk w17 w18 bt w9 fo vz (by omega) (by omega) hbt hs19_V hs19_N) (cwV 1 hts g_c_statement_c_asks_369 rfl rfl rfl (by decide +kernel) ⟨(Nat.le_of_ble_eq_true rfl), (Nat.le_of_ble_eq_true rfl)⟩) (PcW_V (q0 := 0) hPc hKc hDc rfl rfl) rfl rfl hl.1 rfl (lv_room (Nat.le_of_ble_eq_true rfl)) dX11_statement_22 ⟨(Nat.le_of_ble_eq_true rfl), (Nat.le_of_ble_eq_true rfl)⟩) hS (fun q _ h => hFc q h) hFc (fun uu tt H locs htt hvm hw hB hz1 hk1 hS => ?_)
    obtain ⟨w21, w22, w23, w24, w25⟩ := uu
    obtain ⟨hP1, hK1, hD1⟩ := hB
    rw [htt] at hP1
    have hK1 := va_K.moved hvm.symm hK1
    have hP1 : va_P D vwCl [(h0, .inr (11, gP a i g (nI w11) (nI zs) (nI w21) w22 w23 w24 w25 (nI bk) (nI w17) w18)), (a 1, .inl (cm 1, 1400, .inl fT))] H := hP1
    obtain ⟨hP, hD⟩ := va_join (wr := [(a 28, .inl (cm 28, 6, .inl fo)), (a 19, .inl (cm 19, 2000, .inl w9)), (a 29, .inl (cm 29, 700, .inl w10))]) (w1 := [(h0, .inr (11, gP a i g (nI w11) (nI zs) (nI w21) w22 w23 w24 w25 (nI bk) (nI w17) w18)), (a 1, .inl (cm 1, 1400, .inl fT))]) hP hD [1, 2] [0, 3, 4] rfl rfl (by decide) (by decide) hk1 hFc hP1 hD1
    have hP : va_P D vwCl [(a 28, .inl (cm 28, 6, .inl fo)), (a 19, .inl (cm 19, 2000, .inl w9)), (a 29, .inl (cm 29, 700, .inl w10)), (h0, .inr (11, gP a i g (nI w11) (nI zs) (nI w21) w22 w23 w24 w25 (nI bk) (nI w17) w18)), (a 1, .inl (cm 1, 1400, .inl fT))] H := hP
    have hD : va_D A [(a 28, .inl (cm 28, 6, .inl fo)), (a 19, .inl (cm 19, 2000, .inl w9)), (a 29, .inl (cm 29, 700, .inl w10)), (h0, .inr (11, gP a i g (nI w11) (nI zs) (nI w21) w22 w23 w24 w25 (nI bk) (nI w17) w18)), (a 1, .inl (cm 1, 1400, .inl fT))] := hD
    try dsimp only at hw
    clear hz1 hk1 hFc hPc hKc hDc
    obtain ⟨hb26_1, hb26_2, hb26_b, hb26_V, hb26_N⟩ := hw
    refine lv_aload_n hx hb dX11_statement_25 rfl (lv_at hl 1 rfl) ?_
    have hPc := hP.sub (ws' := [(h0, .inr (11, gP a i g (nI w11) (nI zs) (nI w21) w22 w23 w24 w25 (nI bk) (nI w17) w18))]) [3] rfl
    have hKc := hK.sub (tys' := []) [] rfl
    have hFc := va_free0 hS hA
    refine va_calli (va_runV (As := []) (rest := []) ⟨hx, hb, hml, hown, hts⟩ (c_isFine l D _ h0 a cm i g w11 zs w21 w22 w23 w24 w25 bk w17 w18) (cwV 0 hts g_c_statement_c_isFine_313 rfl rfl rfl (by decide +kernel) ⟨(Nat.le_of_ble_eq_true rfl), (Nat.le_of_ble_eq_true rfl)⟩) (PcR_V (q0 := 0) hPc hKc rfl rfl) rfl rfl hl.1 rfl (lv_room (Nat.le_of_ble_eq_true rfl)) dX11_statement_26 ⟨(Nat.le_of_ble_eq_true rfl), (Nat.le_of_ble_eq_true rfl)⟩) hS (fun q _ h => hFc q h) hFc (fun r27 uu tt H locs htt hvm hw hB hz1 hk1 hS => ?_)
    have hP := va_keep hP hk1
    try dsimp only at hw
    clear hB hz1 hk1 hFc hPc hKc
    rcases hw with ⟨rfl, hA_r27⟩ | ⟨rfl, hA_r27⟩
    ·
      refine lv_if_eq (tgt := 36) hx hb dX11_statement_29 (by decide) (fun hc => absurd hc (by decide)) (fun hc => ?_)
      refine lv_aload_n hx hb dX11_statement_32 rfl (lv_at hl 1 rfl) ?_
      have hW1 : w23 = 0 → PSt w9 fo w11 bk 1 := fun z => (hs19_b (hb26_b z)).2
      have hPc := hP.sub (ws' := [(h0, .inr (11, gP a i g (nI w11) (nI zs) (nI w21) w22 w23 w24 w25 (nI bk) (nI w17) w18)), (a 1, .inl (cm 1, 1400, .inl fT)), (a 19, .inl (cm 19, 2000, .inl w9)), (a 29, .inl (cm 29, 700, .inl w10))]) [3, 4, 1, 2] rfl
      have hKc := hK.sub (tys' := [(cm 1, .byte), (cm 19, .int), (cm 29, .int)]) [0, 1, 3] rfl
      have hDc := hD.sub (ws' := [(h0, .inr (11, gP a i g (nI w11) (nI zs) (nI w21) w22 w23 w24 w25 (nI bk) (nI w17) w18)), (a 1, .inl (cm 1, 1400, .inl fT)), (a 19, .inl (cm 19, 2000, .inl w9)), (a 29, .inl (cm 29, 700, .inl w10))]) [3, 4, 1, 2] (by decide) rfl
      have hFc := va_free (wc := [(h0, .inr (11, gP a i g (nI w11) (nI zs) (nI w21) w22 w23 w24 w25 (nI bk) (nI w17) w18)), (a 1, .inl (cm 1, 1400, .inl fT)), (a 19, .inl (cm 19, 2000, .inl w9)), (a 29, .inl (cm 29, 700, .inl w10))]) hD hS hA [3, 4, 1, 2] rfl
      refine va_callv (va_runV (As := []) (rest := []) ⟨hx, hb, hml, hown, hts⟩ (c_sum l D _ h0 a cm i g fT w9 w10 w11 zs w21 w22 w23 w24 w25 bk w17 w18 fo 1 1 bt 4 vz (by omega) (by omega) (by omega) hW1 hbt hb26_V hb26_N) (cwV 0 hts g_c_statement_c_sum_366 rfl rfl rfl (by decide +kernel) ⟨(Nat.le_of_ble_eq_true rfl), (Nat.le_of_ble_eq_true rfl)⟩) (PcW_V (q0 := 0) hPc hKc hDc rfl rfl) rfl rfl hl.1 rfl (lv_room (Nat.le_of_ble_eq_true rfl)) dX11_statement_33 ⟨(Nat.le_of_ble_eq_true rfl), (Nat.le_of_ble_eq_true rfl)⟩) hS (fun q _ h => hFc q h) hFc (fun uu tt H locs htt hvm hw hB hz1 hk1 hS => ?_)
      obtain ⟨w29, w30, w31, w32, w33, w34, w35, w36, w37, w38⟩ := uu
      obtain ⟨hP1, hK1, hD1⟩ := hB
      rw [htt] at hP1
      have hK1 := va_K.moved hvm.symm hK1
      have hP1 : va_P D vwCl [(h0, .inr (11, gP a i g (nI w31) (nI zs) (nI w32) w33 w34 w35 w36 (nI bk) (nI w37) w38)), (a 1, .inl (cm 1, 1400, .inl fT)), (a 19, .inl (cm 19, 2000, .inl w29)), (a 29, .inl (cm 29, 700, .inl w30))] H := hP1
      obtain ⟨hP, hD⟩ := va_join (wr := [(a 28, .inl (cm 28, 6, .inl fo))]) (w1 := [(h0, .inr (11, gP a i g (nI w31) (nI zs) (nI w32) w33 w34 w35 w36 (nI bk) (nI w37) w38)), (a 1, .inl (cm 1, 1400, .inl fT)), (a 19, .inl (cm 19, 2000, .inl w29)), (a 29, .inl (cm 29, 700, .inl w30))]) hP hD [3, 4, 1, 2] [0] rfl rfl (by decide) (by decide) hk1 hFc hP1 hD1
      have hP : va_P D vwCl [(a 28, .inl (cm 28, 6, .inl fo)), (h0, .inr (11, gP a i g (nI w31) (nI zs) (nI w32) w33 w34 w35 w36 (nI bk) (nI w37) w38)), (a 1, .inl (cm 1, 1400, .inl fT)), (a 19, .inl (cm 19, 2000, .inl w29)), (a 29, .inl (cm 29, 700, .inl w30))] H := hP
      have hD : va_D A [(a 28, .inl (cm 28, 6, .inl fo)), (h0, .inr (11, gP a i g (nI w31) (nI zs) (nI w32) w33 w34 w35 w36 (nI bk) (nI w37) w38)), (a 1, .inl (cm 1, 1400, .inl fT)), (a 19, .inl (cm 19, 2000, .inl w29)), (a 29, .inl (cm 29, 700, .inl w30))] := hD
      try dsimp only at hw
      clear hz1 hk1 hFc hPc hKc hDc
      obtain ⟨hs39_1, hs39_2, hs39_3, hs39_b, hs39_V, hs39_N⟩ := hw
      have hs39_W := fun z => (hs39_b z).2
      refine lv_aload_n hx hb dX11_statement_36 rfl (lv_at hl 1 rfl) ?_
      refine lv_iconst (v := 0) hx hb dX11_statement_37 (by decide) ?_
      refine lv_iconst (v := 0) hx hb dX11_statement_38 (by decide) ?_
      have hPc := hP.sub (ws' := [(h0, .inr (11, gP a i g (nI w31) (nI zs) (nI w32) w33 w34 w35 w36 (nI bk) (nI w37) w38)), (a 19, .inl (cm 19, 2000, .inl w29))]) [1, 3] rfl
      have hKc := hK.sub (tys' := [(cm 19, .int)]) [1] rfl
      have hDc := hD.sub (ws' := [(h0, .inr (11, gP a i g (nI w31) (nI zs) (nI w32) w33 w34 w35 w36 (nI bk) (nI w37) w38)), (a 19, .inl (cm 19, 2000, .inl w29))]) [1, 3] (by decide) rfl
      have hFc := va_free (wc := [(h0, .inr (11, gP a i g (nI w31) (nI zs) (nI w32) w33 w34 w35 w36 (nI bk) (nI w37) w38)), (a 19, .inl (cm 19, 2000, .inl w29))]) hD hS hA [1, 3] rfl
      refine va_callv (va_runV (As := [.int 0, .int 0]) (rest := []) ⟨hx, hb, hml, hown, hts⟩ (c_emits l D _ h0 a cm i g w29 w31 zs w32 w33 w34 w35 w36 bk w37 w38 0 0 (by first | assumption | omega)) (cwV 2 hts g_c_statement_c_emits_344 rfl rfl rfl (by decide +kernel) ⟨(Nat.le_of_ble_eq_true rfl), (Nat.le_of_ble_eq_true rfl)⟩) (PcW_V (q0 := 0) hPc hKc hDc rfl rfl) rfl rfl hl.1 rfl (lv_room (Nat.le_of_ble_eq_true rfl)) dX11_statement_39 ⟨(Nat.le_of_ble_eq_true rfl), (Nat.le_of_ble_eq_true rfl)⟩) hS (fun q _ h => hFc q h) hFc (fun uu tt H locs htt hvm hw hB hz1 hk1 hS => ?_)
      obtain ⟨w41, w42⟩ := uu
      obtain ⟨hP1, hK1, hD1⟩ := hB
      rw [htt] at hP1
      have hK1 := va_K.moved hvm.symm hK1
      have hP1 : va_P D vwCl [(h0, .inr (11, gP a i g (nI w42) (nI zs) (nI w32) w33 w34 w35 w36 (nI bk) (nI w37) w38)), (a 19, .inl (cm 19, 2000, .inl w41))] H := hP1
      obtain ⟨hP, hD⟩ := va_join (wr := [(a 28, .inl (cm 28, 6, .inl fo)), (a 1, .inl (cm 1, 1400, .inl fT)), (a 29, .inl (cm 29, 700, .inl w30))]) (w1 := [(h0, .inr (11, gP a i g (nI w42) (nI zs) (nI w32) w33 w34 w35 w36 (nI bk) (nI w37) w38)), (a 19, .inl (cm 19, 2000, .inl w41))]) hP hD [1, 3] [0, 2, 4] rfl rfl (by decide) (by decide) hk1 hFc hP1 hD1
      have hP : va_P D vwCl [(a 28, .inl (cm 28, 6, .inl fo)), (a 1, .inl (cm 1, 1400, .inl fT)), (a 29, .inl (cm 29, 700, .inl w30)), (h0, .inr (11, gP a i g (nI w42) (nI zs) (nI w32) w33 w34 w35 w36 (nI bk) (nI w37) w38)), (a 19, .inl (cm 19, 2000, .inl w41))] H := hP
      have hD : va_D A [(a 28, .inl (cm 28, 6, .inl fo)), (a 1, .inl (cm 1, 1400, .inl fT)), (a 29, .inl (cm 29, 700, .inl w30)), (h0, .inr (11, gP a i g (nI w42) (nI zs) (nI w32) w33 w34 w35 w36 (nI bk) (nI w37) w38)), (a 19, .inl (cm 19, 2000, .inl w41))] := hD
      try dsimp only at hw
      clear hz1 hk1 hFc hPc hKc hDc
      obtain ⟨rfl, rfl⟩ := hw
      have hP : va_P D vwCl [(a 28, .inl (cm 28, 6, .inl fo)), (a 1, .inl (cm 1, 1400, .inl fT)), (a 29, .inl (cm 29, 700, .inl w30)), (h0, .inr (11, gP a i g (nI (w31 + 1)) (nI zs) (nI w32) w33 w34 w35 w36 (nI bk) (nI w37) w38)), (a 19, .inl (cm 19, 2000, .inl (upd (upd w29 (2 * w31) 0) (2 * w31 + 1) 0)))] H := hP
      have hD : va_D A [(a 28, .inl (cm 28, 6, .inl fo)), (a 1, .inl (cm 1, 1400, .inl fT)), (a 29, .inl (cm 29, 700, .inl w30)), (h0, .inr (11, gP a i g (nI (w31 + 1)) (nI zs) (nI w32) w33 w34 w35 w36 (nI bk) (nI w37) w38)), (a 19, .inl (cm 19, 2000, .inl (upd (upd w29 (2 * w31) 0) (2 * w31 + 1) 0)))] := hD
      refine lv_goto (tgt := 199) hx hb dX11_statement_42 (by decide) ?_
      refine lv_aload_n hx hb dX11_statement_199 rfl (lv_at hl 1 rfl) ?_
      refine lv_bipush (v := 59) hx hb dX11_statement_200 (by decide) ?_
      have hPc := hP.sub (ws' := [(h0, .inr (11, gP a i g (nI (w31 + 1)) (nI zs) (nI w32) w33 w34 w35 w36 (nI bk) (nI w37) w38)), (a 1, .inl (cm 1, 1400, .inl fT))]) [3, 1] rfl
      have hKc := hK.sub (tys' := [(cm 1, .byte)]) [0] rfl
      have hDc := hD.sub (ws' := [(h0, .inr (11, gP a i g (nI (w31 + 1)) (nI zs) (nI w32) w33 w34 w35 w36 (nI bk) (nI w37) w38)), (a 1, .inl (cm 1, 1400, .inl fT))]) [3, 1] (by decide) rfl
      have hFc := va_free (wc := [(h0, .inr (11, gP a i g (nI (w31 + 1)) (nI zs) (nI w32) w33 w34 w35 w36 (nI bk) (nI w37) w38)), (a 1, .inl (cm 1, 1400, .inl fT))]) hD hS hA [3, 1] rfl
      refine va_callv (va_runV (As := [.int 59]) (rest := []) ⟨hx, hb, hml, hown, hts⟩ (c_needsSign l D _ h0 a cm i g fT (w31 + 1) zs w32 w33 w34 w35 w36 bk w37 w38 59 59 bt (by omega) (by omega) hbt rfl (by decide)) (cwV 1 hts g_c_statement_c_needsSign_363 rfl rfl rfl (by decide +kernel) ⟨(Nat.le_of_ble_eq_true rfl), (Nat.le_of_ble_eq_true rfl)⟩) (PcW_V (q0 := 0) hPc hKc hDc rfl rfl) rfl rfl hl.1 rfl (lv_room (Nat.le_of_ble_eq_true rfl)) dX11_statement_202 ⟨(Nat.le_of_ble_eq_true rfl), (Nat.le_of_ble_eq_true rfl)⟩) hS (fun q _ h => hFc q h) hFc (fun uu tt H locs htt hvm hw hB hz1 hk1 hS => ?_)
      obtain ⟨w44, w45, w46, w47⟩ := uu
      obtain ⟨hP1, hK1, hD1⟩ := hB
      rw [htt] at hP1
      have hK1 := va_K.moved hvm.symm hK1
      have hP1 : va_P D vwCl [(h0, .inr (11, gP a i g (nI (w31 + 1)) (nI zs) (nI w44) w33 w45 w46 w47 (nI bk) (nI w37) w38)), (a 1, .inl (cm 1, 1400, .inl fT))] H := hP1
      obtain ⟨hP, hD⟩ := va_join (wr := [(a 28, .inl (cm 28, 6, .inl fo)), (a 29, .inl (cm 29, 700, .inl w30)), (a 19, .inl (cm 19, 2000, .inl (upd (upd w29 (2 * w31) 0) (2 * w31 + 1) 0)))]) (w1 := [(h0, .inr (11, gP a i g (nI (w31 + 1)) (nI zs) (nI w44) w33 w45 w46 w47 (nI bk) (nI w37) w38)), (a 1, .inl (cm 1, 1400, .inl fT))]) hP hD [3, 1] [0, 2, 4] rfl rfl (by decide) (by decide) hk1 hFc hP1 hD1
      have hP : va_P D vwCl [(a 28, .inl (cm 28, 6, .inl fo)), (a 29, .inl (cm 29, 700, .inl w30)), (a 19, .inl (cm 19, 2000, .inl (upd (upd w29 (2 * w31) 0) (2 * w31 + 1) 0))), (h0, .inr (11, gP a i g (nI (w31 + 1)) (nI zs) (nI w44) w33 w45 w46 w47 (nI bk) (nI w37) w38)), (a 1, .inl (cm 1, 1400, .inl fT))] H := hP
      have hD : va_D A [(a 28, .inl (cm 28, 6, .inl fo)), (a 29, .inl (cm 29, 700, .inl w30)), (a 19, .inl (cm 19, 2000, .inl (upd (upd w29 (2 * w31) 0) (2 * w31 + 1) 0))), (h0, .inr (11, gP a i g (nI (w31 + 1)) (nI zs) (nI w44) w33 w45 w46 w47 (nI bk) (nI w37) w38)), (a 1, .inl (cm 1, 1400, .inl fT))] := hD
      try dsimp only at hw
      clear hz1 hk1 hFc hPc hKc hDc
      obtain ⟨hb48_1, hb48_2, hb48_b, hb48_s, hb48_n⟩ := hw
      exact W.vret hx hb hr (fun t ht hW => ⟨⟨((upd (upd w29 (2 * w31) 0) (2 * w31 + 1) 0), fo, w30, (w31 + 1), w44, w33, w45, w46, w47, bk, w37, w38), rfl, (by (try dsimp only); exact ⟨by omega, by omega, hb5, fun z => ⟨by omega, PSt_app (x := 0) (hs39_W (hb48_b z).1) (Or.inr (Or.inr ⟨by omega, by omega, rfl⟩))⟩, fun z => by
          rw [(hb48_s z).1]
          exact ((hs39_V (hb48_b z).1).semi (by decide)).1 (hb48_s z).2, fun z => (Decidable.em (w34 = 0)).elim (fun h => ((hs39_V h).semi (by decide)).2 (hb48_n h z)) hs39_N⟩), by rw [ht]; exact hP.sub [3, 4, 2, 0, 1] rfl, va_K.moved hW.alike (hK.sub [0, 1, 2, 3] rfl), hD.sub [3, 4, 2, 0, 1] (by decide) rfl⟩, hS.F ht⟩) hS.2.2 dX11_statement_205
    ·
      refine lv_if_eq (tgt := 36) hx hb dX11_statement_29 (by decide) (fun hc => ?_) (fun hc => absurd (by decide) hc)
      refine lv_aload_n hx hb dX11_statement_36 rfl (lv_at hl 1 rfl) ?_
      refine lv_iconst (v := 0) hx hb dX11_statement_37 (by decide) ?_
      refine lv_iconst (v := 0) hx hb dX11_statement_38 (by decide) ?_
      have hPc := hP.sub (ws' := [(h0, .inr (11, gP a i g (nI w11) (nI zs) (nI w21) w22 w23 w24 w25 (nI bk) (nI w17) w18)), (a 19, .inl (cm 19, 2000, .inl w9))]) [3, 1] rfl
      have hKc := hK.sub (tys' := [(cm 19, .int)]) [1] rfl
      have hDc := hD.sub (ws' := [(h0, .inr (11, gP a i g (nI w11) (nI zs) (nI w21) w22 w23 w24 w25 (nI bk) (nI w17) w18)), (a 19, .inl (cm 19, 2000, .inl w9))]) [3, 1] (by decide) rfl
      have hFc := va_free (wc := [(h0, .inr (11, gP a i g (nI w11) (nI zs) (nI w21) w22 w23 w24 w25 (nI bk) (nI w17) w18)), (a 19, .inl (cm 19, 2000, .inl w9))]) hD hS hA [3, 1] rfl
      refine va_callv (va_runV (As := [.int 0, .int 0]) (rest := []) ⟨hx, hb, hml, hown, hts⟩ (c_emits l D _ h0 a cm i g w9 w11 zs w21 w22 w23 w24 w25 bk w17 w18 0 0 (by first | assumption | omega)) (cwV 2 hts g_c_statement_c_emits_344 rfl rfl rfl (by decide +kernel) ⟨(Nat.le_of_ble_eq_true rfl), (Nat.le_of_ble_eq_true rfl)⟩) (PcW_V (q0 := 0) hPc hKc hDc rfl rfl) rfl rfl hl.1 rfl (lv_room (Nat.le_of_ble_eq_true rfl)) dX11_statement_39 ⟨(Nat.le_of_ble_eq_true rfl), (Nat.le_of_ble_eq_true rfl)⟩) hS (fun q _ h => hFc q h) hFc (fun uu tt H locs htt hvm hw hB hz1 hk1 hS => ?_)
      obtain ⟨w50, w51⟩ := uu
      obtain ⟨hP1, hK1, hD1⟩ := hB
      rw [htt] at hP1
      have hK1 := va_K.moved hvm.symm hK1
      have hP1 : va_P D vwCl [(h0, .inr (11, gP a i g (nI w51) (nI zs) (nI w21) w22 w23 w24 w25 (nI bk) (nI w17) w18)), (a 19, .inl (cm 19, 2000, .inl w50))] H := hP1
      obtain ⟨hP, hD⟩ := va_join (wr := [(a 28, .inl (cm 28, 6, .inl fo)), (a 29, .inl (cm 29, 700, .inl w10)), (a 1, .inl (cm 1, 1400, .inl fT))]) (w1 := [(h0, .inr (11, gP a i g (nI w51) (nI zs) (nI w21) w22 w23 w24 w25 (nI bk) (nI w17) w18)), (a 19, .inl (cm 19, 2000, .inl w50))]) hP hD [3, 1] [0, 2, 4] rfl rfl (by decide) (by decide) hk1 hFc hP1 hD1
      have hP : va_P D vwCl [(a 28, .inl (cm 28, 6, .inl fo)), (a 29, .inl (cm 29, 700, .inl w10)), (a 1, .inl (cm 1, 1400, .inl fT)), (h0, .inr (11, gP a i g (nI w51) (nI zs) (nI w21) w22 w23 w24 w25 (nI bk) (nI w17) w18)), (a 19, .inl (cm 19, 2000, .inl w50))] H := hP
      have hD : va_D A [(a 28, .inl (cm 28, 6, .inl fo)), (a 29, .inl (cm 29, 700, .inl w10)), (a 1, .inl (cm 1, 1400, .inl fT)), (h0, .inr (11, gP a i g (nI w51) (nI zs) (nI w21) w22 w23 w24 w25 (nI bk) (nI w17) w18)), (a 19, .inl (cm 19, 2000, .inl w50))] := hD
      try dsimp only at hw
      clear hz1 hk1 hFc hPc hKc hDc
      obtain ⟨rfl, rfl⟩ := hw
      have hP : va_P D vwCl [(a 28, .inl (cm 28, 6, .inl fo)), (a 29, .inl (cm 29, 700, .inl w10)), (a 1, .inl (cm 1, 1400, .inl fT)), (h0, .inr (11, gP a i g (nI (w11 + 1)) (nI zs) (nI w21) w22 w23 w24 w25 (nI bk) (nI w17) w18)), (a 19, .inl (cm 19, 2000, .inl (upd (upd w9 (2 * w11) 0) (2 * w11 + 1) 0)))] H := hP
      have hD : va_D A [(a 28, .inl (cm 28, 6, .inl fo)), (a 29, .inl (cm 29, 700, .inl w10)), (a 1, .inl (cm 1, 1400, .inl fT)), (h0, .inr (11, gP a i g (nI (w11 + 1)) (nI zs) (nI w21) w22 w23 w24 w25 (nI bk) (nI w17) w18)), (a 19, .inl (cm 19, 2000, .inl (upd (upd w9 (2 * w11) 0) (2 * w11 + 1) 0)))] := hD
      refine lv_goto (tgt := 199) hx hb dX11_statement_42 (by decide) ?_
      refine lv_aload_n hx hb dX11_statement_199 rfl (lv_at hl 1 rfl) ?_
      refine lv_bipush (v := 59) hx hb dX11_statement_200 (by decide) ?_
      have hPc := hP.sub (ws' := [(h0, .inr (11, gP a i g (nI (w11 + 1)) (nI zs) (nI w21) w22 w23 w24 w25 (nI bk) (nI w17) w18)), (a 1, .inl (cm 1, 1400, .inl fT))]) [3, 2] rfl
      have hKc := hK.sub (tys' := [(cm 1, .byte)]) [0] rfl
      have hDc := hD.sub (ws' := [(h0, .inr (11, gP a i g (nI (w11 + 1)) (nI zs) (nI w21) w22 w23 w24 w25 (nI bk) (nI w17) w18)), (a 1, .inl (cm 1, 1400, .inl fT))]) [3, 2] (by decide) rfl
      have hFc := va_free (wc := [(h0, .inr (11, gP a i g (nI (w11 + 1)) (nI zs) (nI w21) w22 w23 w24 w25 (nI bk) (nI w17) w18)), (a 1, .inl (cm 1, 1400, .inl fT))]) hD hS hA [3, 2] rfl
      refine va_callv (va_runV (As := [.int 59]) (rest := []) ⟨hx, hb, hml, hown, hts⟩ (c_needsSign l D _ h0 a cm i g fT (w11 + 1) zs w21 w22 w23 w24 w25 bk w17 w18 59 59 bt (by omega) (by omega) hbt rfl (by decide)) (cwV 1 hts g_c_statement_c_needsSign_363 rfl rfl rfl (by decide +kernel) ⟨(Nat.le_of_ble_eq_true rfl), (Nat.le_of_ble_eq_true rfl)⟩) (PcW_V (q0 := 0) hPc hKc hDc rfl rfl) rfl rfl hl.1 rfl (lv_room (Nat.le_of_ble_eq_true rfl)) dX11_statement_202 ⟨(Nat.le_of_ble_eq_true rfl), (Nat.le_of_ble_eq_true rfl)⟩) hS (fun q _ h => hFc q h) hFc (fun uu tt H locs htt hvm hw hB hz1 hk1 hS => ?_)
      obtain ⟨w53, w54, w55, w56⟩ := uu
      obtain ⟨hP1, hK1, hD1⟩ := hB
      rw [htt] at hP1
      have hK1 := va_K.moved hvm.symm hK1
      have hP1 : va_P D vwCl [(h0, .inr (11, gP a i g (nI (w11 + 1)) (nI zs) (nI w53) w22 w54 w55 w56 (nI bk) (nI w17) w18)), (a 1, .inl (cm 1, 1400, .inl fT))] H := hP1
      obtain ⟨hP, hD⟩ := va_join (wr := [(a 28, .inl (cm 28, 6, .inl fo)), (a 29, .inl (cm 29, 700, .inl w10)), (a 19, .inl (cm 19, 2000, .inl (upd (upd w9 (2 * w11) 0) (2 * w11 + 1) 0)))]) (w1 := [(h0, .inr (11, gP a i g (nI (w11 + 1)) (nI zs) (nI w53) w22 w54 w55 w56 (nI bk) (nI w17) w18)), (a 1, .inl (cm 1, 1400, .inl fT))]) hP hD [3, 2] [0, 1, 4] rfl rfl (by decide) (by decide) hk1 hFc hP1 hD1
      have hP : va_P D vwCl [(a 28, .inl (cm 28, 6, .inl fo)), (a 29, .inl (cm 29, 700, .inl w10)), (a 19, .inl (cm 19, 2000, .inl (upd (upd w9 (2 * w11) 0) (2 * w11 + 1) 0))), (h0, .inr (11, gP a i g (nI (w11 + 1)) (nI zs) (nI w53) w22 w54 w55 w56 (nI bk) (nI w17) w18)), (a 1, .inl (cm 1, 1400, .inl fT))] H := hP
      have hD : va_D A [(a 28, .inl (cm 28, 6, .inl fo)), (a 29, .inl (cm 29, 700, .inl w10)), (a 19, .inl (cm 19, 2000, .inl (upd (upd w9 (2 * w11) 0) (2 * w11 + 1) 0))), (h0, .inr (11, gP a i g (nI (w11 + 1)) (nI zs) (nI w53) w22 w54 w55 w56 (nI bk) (nI w17) w18)), (a 1, .inl (cm 1, 1400, .inl fT))] := hD
      try dsimp only at hw
      clear hz1 hk1 hFc hPc hKc hDc
      obtain ⟨hb57_1, hb57_2, hb57_b, hb57_s, hb57_n⟩ := hw
      exact W.vret hx hb hr (fun t ht hW => ⟨⟨((upd (upd w9 (2 * w11) 0) (2 * w11 + 1) 0), fo, w10, (w11 + 1), w53, w22, w54, w55, w56, bk, w17, w18), rfl, (by (try dsimp only); exact ⟨by omega, by omega, hb5, fun z => absurd (hb57_b z).1 hA_r27, fun z => absurd (hb57_b z).1 hA_r27, fun _ => hb26_N hA_r27⟩), by rw [ht]; exact hP.sub [3, 4, 2, 0, 1] rfl, va_K.moved hW.alike (hK.sub [0, 1, 2, 3] rfl), hD.sub [3, 4, 2, 0, 1] (by decide) rfl⟩, hS.F ht⟩) hS.2.2 dX11_statement_205
  ·
    obtain ⟨hA_r4_1, hA_r4_2, hA_r4_e, hA_r4_n, hA_r4_w⟩ := hA_r4
    have hq58 : w5 = tkA bt zs ta := hA_r4_e.trans (tkA_w hq0 hta)
    have hq58_e : w6 = en := hA_r4_n.trans rfl
    have hnw3 : ¬ WdP bt zs ta en 3 := fun z => hA_r4_w hb0 ((WdP_at hq0 hta rfl).mpr z)
    refine lv_if_eq (tgt := 45) hx hb dX11_statement_12 (by decide) (fun hc => ?_) (fun hc => absurd (by decide) hc)
    refine lv_aload_n hx hb dX11_statement_45 rfl (lv_at hl 1 rfl) ?_
    refine lv_ldcw (v := 150000) hx hb hown (hts (.constant RX11 372 (150000)) (List.mem_of_getElem? (i := 23) rfl)) dX11_statement_46 ?_
    have hPc := hP.sub (ws' := [(h0, .inr (11, gP a i g (nI cd) (nI zs) (nI w5) w6 bd bp bq (nI bk) (nI pl) br)), (a 1, .inl (cm 1, 1400, .inl fT))]) [3, 4] rfl
    have hKc := hK.sub (tys' := [(cm 1, .byte)]) [0] rfl
    have hDc := hD.sub (ws' := [(h0, .inr (11, gP a i g (nI cd) (nI zs) (nI w5) w6 bd bp bq (nI bk) (nI pl) br)), (a 1, .inl (cm 1, 1400, .inl fT))]) [3, 4] (by decide) rfl
    have hFc := va_free (wc := [(h0, .inr (11, gP a i g (nI cd) (nI zs) (nI w5) w6 bd bp bq (nI bk) (nI pl) br)), (a 1, .inl (cm 1, 1400, .inl fT))]) hD hS hA [3, 4] rfl
    refine va_calli (va_runV (As := [.int 150000]) (rest := []) ⟨hx, hb, hml, hown, hts⟩ (c_takesWord l D _ h0 a cm i g fT cd zs w5 w6 bd bp bq bk pl br 150000 5 bt (by omega) (by omega) hbt rfl) (cwV 1 hts g_c_statement_c_takesWord_329 rfl rfl rfl (by decide +kernel) ⟨(Nat.le_of_ble_eq_true rfl), (Nat.le_of_ble_eq_true rfl)⟩) (PcW_V (q0 := 0) hPc hKc hDc rfl rfl) rfl rfl hl.1 rfl (lv_room (Nat.le_of_ble_eq_true rfl)) dX11_statement_49 ⟨(Nat.le_of_ble_eq_true rfl), (Nat.le_of_ble_eq_true rfl)⟩) hS (fun q _ h => hFc q h) hFc (fun r59 uu tt H locs htt hvm hw hB hz1 hk1 hS => ?_)
    obtain ⟨w60, w61⟩ := uu
    obtain ⟨hP1, hK1, hD1⟩ := hB
    rw [htt] at hP1
    have hK1 := va_K.moved hvm.symm hK1
    have hP1 : va_P D vwCl [(h0, .inr (11, gP a i g (nI cd) (nI zs) (nI w60) w61 bd bp bq (nI bk) (nI pl) br)), (a 1, .inl (cm 1, 1400, .inl fT))] H := hP1
    obtain ⟨hP, hD⟩ := va_join (wr := [(a 19, .inl (cm 19, 2000, .inl fc)), (a 28, .inl (cm 28, 6, .inl fo)), (a 29, .inl (cm 29, 700, .inl fl))]) (w1 := [(h0, .inr (11, gP a i g (nI cd) (nI zs) (nI w60) w61 bd bp bq (nI bk) (nI pl) br)), (a 1, .inl (cm 1, 1400, .inl fT))]) hP hD [3, 4] [0, 1, 2] rfl rfl (by decide) (by decide) hk1 hFc hP1 hD1
    have hP : va_P D vwCl [(a 19, .inl (cm 19, 2000, .inl fc)), (a 28, .inl (cm 28, 6, .inl fo)), (a 29, .inl (cm 29, 700, .inl fl)), (h0, .inr (11, gP a i g (nI cd) (nI zs) (nI w60) w61 bd bp bq (nI bk) (nI pl) br)), (a 1, .inl (cm 1, 1400, .inl fT))] H := hP
    have hD : va_D A [(a 19, .inl (cm 19, 2000, .inl fc)), (a 28, .inl (cm 28, 6, .inl fo)), (a 29, .inl (cm 29, 700, .inl fl)), (h0, .inr (11, gP a i g (nI cd) (nI zs) (nI w60) w61 bd bp bq (nI bk) (nI pl) br)), (a 1, .inl (cm 1, 1400, .inl fT))] := hD
    try dsimp only at hw
    clear hz1 hk1 hFc hPc hKc hDc
    rcases hw with ⟨rfl, hA_r59⟩ | ⟨rfl, hA_r59⟩
    ·
      obtain ⟨hA_r59_0, hA_r59_1, hA_r59_2, hA_r59_e, hA_r59_n, hA_r59_w⟩ := hA_r59
      have hwd : WdP bt zs ta en 5 := (WdP_at hq58 hta hq58_e).mp hA_r59_w
      have hpl2 : w60 = spE (ltB bt) zs (tkA bt zs ta) := by rw [hA_r59_e, tkA_w hq58 hta]
      have hTw := hV.wrd hzs (by decide) hwd
      have hTk : bd = 0 → TR bt zs vz 1 5 cd fc bk fo w60 w61 := fun _ => by rw [hA_r59_n, hpl2]; exact hTw.2 (fun z => absurd z (by decide))
      refine lv_if_eq (tgt := 68) hx hb dX11_statement_52 (by decide) (fun hc => absurd hc (by decide)) (fun hc => ?_)
      refine lv_aload_n hx hb dX11_statement_55 rfl (lv_at hl 1 rfl) ?_
      have hPc := hP.sub (ws' := [(h0, .inr (11, gP a i g (nI cd) (nI zs) (nI w60) w61 bd bp bq (nI bk) (nI pl) br)), (a 1, .inl (cm 1, 1400, .inl fT)), (a 19, .inl (cm 19, 2000, .inl fc)), (a 29, .inl (cm 29, 700, .inl fl))]) [3, 4, 0, 2] rfl
      have hKc := hK.sub (tys' := [(cm 1, .byte), (cm 19, .int), (cm 29, .int)]) [0, 1, 3] rfl
      have hDc := hD.sub (ws' := [(h0, .inr (11, gP a i g (nI cd) (nI zs) (nI w60) w61 bd bp bq (nI bk) (nI pl) br)), (a 1, .inl (cm 1, 1400, .inl fT)), (a 19, .inl (cm 19, 2000, .inl fc)), (a 29, .inl (cm 29, 700, .inl fl))]) [3, 4, 0, 2] (by decide) rfl
      have hFc := va_free (wc := [(h0, .inr (11, gP a i g (nI cd) (nI zs) (nI w60) w61 bd bp bq (nI bk) (nI pl) br)), (a 1, .inl (cm 1, 1400, .inl fT)), (a 19, .inl (cm 19, 2000, .inl fc)), (a 29, .inl (cm 29, 700, .inl fl))]) hD hS hA [3, 4, 0, 2] rfl
      refine va_callv (va_runV (As := []) (rest := []) ⟨hx, hb, hml, hown, hts⟩ (c_sum l D _ h0 a cm i g fT fc fl cd zs w60 w61 bd bp bq bk pl br fo 0 1 bt 5 vz (by omega) (by omega) (by omega) hWf hbt hTk (fun z => absurd hb0 z)) (cwV 0 hts g_c_statement_c_sum_366 rfl rfl rfl (by decide +kernel) ⟨(Nat.le_of_ble_eq_true rfl), (Nat.le_of_ble_eq_true rfl)⟩) (PcW_V (q0 := 0) hPc hKc hDc rfl rfl) rfl rfl hl.1 rfl (lv_room (Nat.le_of_ble_eq_true rfl)) dX11_statement_56 ⟨(Nat.le_of_ble_eq_true rfl), (Nat.le_of_ble_eq_true rfl)⟩) hS (fun q _ h => hFc q h) hFc (fun uu tt H locs htt hvm hw hB hz1 hk1 hS => ?_)
      obtain ⟨w64, w65, w66, w67, w68, w69, w70, w71, w72, w73⟩ := uu
      obtain ⟨hP1, hK1, hD1⟩ := hB
      rw [htt] at hP1
      have hK1 := va_K.moved hvm.symm hK1
      have hP1 : va_P D vwCl [(h0, .inr (11, gP a i g (nI w66) (nI zs) (nI w67) w68 w69 w70 w71 (nI bk) (nI w72) w73)), (a 1, .inl (cm 1, 1400, .inl fT)), (a 19, .inl (cm 19, 2000, .inl w64)), (a 29, .inl (cm 29, 700, .inl w65))] H := hP1
      obtain ⟨hP, hD⟩ := va_join (wr := [(a 28, .inl (cm 28, 6, .inl fo))]) (w1 := [(h0, .inr (11, gP a i g (nI w66) (nI zs) (nI w67) w68 w69 w70 w71 (nI bk) (nI w72) w73)), (a 1, .inl (cm 1, 1400, .inl fT)), (a 19, .inl (cm 19, 2000, .inl w64)), (a 29, .inl (cm 29, 700, .inl w65))]) hP hD [3, 4, 0, 2] [1] rfl rfl (by decide) (by decide) hk1 hFc hP1 hD1
      have hP : va_P D vwCl [(a 28, .inl (cm 28, 6, .inl fo)), (h0, .inr (11, gP a i g (nI w66) (nI zs) (nI w67) w68 w69 w70 w71 (nI bk) (nI w72) w73)), (a 1, .inl (cm 1, 1400, .inl fT)), (a 19, .inl (cm 19, 2000, .inl w64)), (a 29, .inl (cm 29, 700, .inl w65))] H := hP
      have hD : va_D A [(a 28, .inl (cm 28, 6, .inl fo)), (h0, .inr (11, gP a i g (nI w66) (nI zs) (nI w67) w68 w69 w70 w71 (nI bk) (nI w72) w73)), (a 1, .inl (cm 1, 1400, .inl fT)), (a 19, .inl (cm 19, 2000, .inl w64)), (a 29, .inl (cm 29, 700, .inl w65))] := hD
      try dsimp only at hw
      clear hz1 hk1 hFc hPc hKc hDc
      obtain ⟨hs74_1, hs74_2, hs74_3, hs74_b, hs74_V, hs74_N⟩ := hw
      have hs74_W := fun z => (hs74_b z).2
      refine lv_aload_n hx hb dX11_statement_59 rfl (lv_at hl 1 rfl) ?_
      refine lv_iconst (v := 1) hx hb dX11_statement_60 (by decide) ?_
      refine lv_iconst (v := 0) hx hb dX11_statement_61 (by decide) ?_
      have hPc := hP.sub (ws' := [(h0, .inr (11, gP a i g (nI w66) (nI zs) (nI w67) w68 w69 w70 w71 (nI bk) (nI w72) w73)), (a 19, .inl (cm 19, 2000, .inl w64))]) [1, 3] rfl
      have hKc := hK.sub (tys' := [(cm 19, .int)]) [1] rfl
      have hDc := hD.sub (ws' := [(h0, .inr (11, gP a i g (nI w66) (nI zs) (nI w67) w68 w69 w70 w71 (nI bk) (nI w72) w73)), (a 19, .inl (cm 19, 2000, .inl w64))]) [1, 3] (by decide) rfl
      have hFc := va_free (wc := [(h0, .inr (11, gP a i g (nI w66) (nI zs) (nI w67) w68 w69 w70 w71 (nI bk) (nI w72) w73)), (a 19, .inl (cm 19, 2000, .inl w64))]) hD hS hA [1, 3] rfl
      refine va_callv (va_runV (As := [.int 1, .int 0]) (rest := []) ⟨hx, hb, hml, hown, hts⟩ (c_emits l D _ h0 a cm i g w64 w66 zs w67 w68 w69 w70 w71 bk w72 w73 1 0 (by first | assumption | omega)) (cwV 2 hts g_c_statement_c_emits_344 rfl rfl rfl (by decide +kernel) ⟨(Nat.le_of_ble_eq_true rfl), (Nat.le_of_ble_eq_true rfl)⟩) (PcW_V (q0 := 0) hPc hKc hDc rfl rfl) rfl rfl hl.1 rfl (lv_room (Nat.le_of_ble_eq_true rfl)) dX11_statement_62 ⟨(Nat.le_of_ble_eq_true rfl), (Nat.le_of_ble_eq_true rfl)⟩) hS (fun q _ h => hFc q h) hFc (fun uu tt H locs htt hvm hw hB hz1 hk1 hS => ?_)
      obtain ⟨w76, w77⟩ := uu
      obtain ⟨hP1, hK1, hD1⟩ := hB
      rw [htt] at hP1
      have hK1 := va_K.moved hvm.symm hK1
      have hP1 : va_P D vwCl [(h0, .inr (11, gP a i g (nI w77) (nI zs) (nI w67) w68 w69 w70 w71 (nI bk) (nI w72) w73)), (a 19, .inl (cm 19, 2000, .inl w76))] H := hP1
      obtain ⟨hP, hD⟩ := va_join (wr := [(a 28, .inl (cm 28, 6, .inl fo)), (a 1, .inl (cm 1, 1400, .inl fT)), (a 29, .inl (cm 29, 700, .inl w65))]) (w1 := [(h0, .inr (11, gP a i g (nI w77) (nI zs) (nI w67) w68 w69 w70 w71 (nI bk) (nI w72) w73)), (a 19, .inl (cm 19, 2000, .inl w76))]) hP hD [1, 3] [0, 2, 4] rfl rfl (by decide) (by decide) hk1 hFc hP1 hD1
      have hP : va_P D vwCl [(a 28, .inl (cm 28, 6, .inl fo)), (a 1, .inl (cm 1, 1400, .inl fT)), (a 29, .inl (cm 29, 700, .inl w65)), (h0, .inr (11, gP a i g (nI w77) (nI zs) (nI w67) w68 w69 w70 w71 (nI bk) (nI w72) w73)), (a 19, .inl (cm 19, 2000, .inl w76))] H := hP
      have hD : va_D A [(a 28, .inl (cm 28, 6, .inl fo)), (a 1, .inl (cm 1, 1400, .inl fT)), (a 29, .inl (cm 29, 700, .inl w65)), (h0, .inr (11, gP a i g (nI w77) (nI zs) (nI w67) w68 w69 w70 w71 (nI bk) (nI w72) w73)), (a 19, .inl (cm 19, 2000, .inl w76))] := hD
      try dsimp only at hw
      clear hz1 hk1 hFc hPc hKc hDc
      obtain ⟨rfl, rfl⟩ := hw
      have hP : va_P D vwCl [(a 28, .inl (cm 28, 6, .inl fo)), (a 1, .inl (cm 1, 1400, .inl fT)), (a 29, .inl (cm 29, 700, .inl w65)), (h0, .inr (11, gP a i g (nI (w66 + 1)) (nI zs) (nI w67) w68 w69 w70 w71 (nI bk) (nI w72) w73)), (a 19, .inl (cm 19, 2000, .inl (upd (upd w64 (2 * w66) 1) (2 * w66 + 1) 0)))] H := hP
      have hD : va_D A [(a 28, .inl (cm 28, 6, .inl fo)), (a 1, .inl (cm 1, 1400, .inl fT)), (a 29, .inl (cm 29, 700, .inl w65)), (h0, .inr (11, gP a i g (nI (w66 + 1)) (nI zs) (nI w67) w68 w69 w70 w71 (nI bk) (nI w72) w73)), (a 19, .inl (cm 19, 2000, .inl (upd (upd w64 (2 * w66) 1) (2 * w66 + 1) 0)))] := hD
      refine lv_goto (tgt := 199) hx hb dX11_statement_65 (by decide) ?_
      refine lv_aload_n hx hb dX11_statement_199 rfl (lv_at hl 1 rfl) ?_
      refine lv_bipush (v := 59) hx hb dX11_statement_200 (by decide) ?_
      have hPc := hP.sub (ws' := [(h0, .inr (11, gP a i g (nI (w66 + 1)) (nI zs) (nI w67) w68 w69 w70 w71 (nI bk) (nI w72) w73)), (a 1, .inl (cm 1, 1400, .inl fT))]) [3, 1] rfl
      have hKc := hK.sub (tys' := [(cm 1, .byte)]) [0] rfl
      have hDc := hD.sub (ws' := [(h0, .inr (11, gP a i g (nI (w66 + 1)) (nI zs) (nI w67) w68 w69 w70 w71 (nI bk) (nI w72) w73)), (a 1, .inl (cm 1, 1400, .inl fT))]) [3, 1] (by decide) rfl
      have hFc := va_free (wc := [(h0, .inr (11, gP a i g (nI (w66 + 1)) (nI zs) (nI w67) w68 w69 w70 w71 (nI bk) (nI w72) w73)), (a 1, .inl (cm 1, 1400, .inl fT))]) hD hS hA [3, 1] rfl
      refine va_callv (va_runV (As := [.int 59]) (rest := []) ⟨hx, hb, hml, hown, hts⟩ (c_needsSign l D _ h0 a cm i g fT (w66 + 1) zs w67 w68 w69 w70 w71 bk w72 w73 59 59 bt (by omega) (by omega) hbt rfl (by decide)) (cwV 1 hts g_c_statement_c_needsSign_363 rfl rfl rfl (by decide +kernel) ⟨(Nat.le_of_ble_eq_true rfl), (Nat.le_of_ble_eq_true rfl)⟩) (PcW_V (q0 := 0) hPc hKc hDc rfl rfl) rfl rfl hl.1 rfl (lv_room (Nat.le_of_ble_eq_true rfl)) dX11_statement_202 ⟨(Nat.le_of_ble_eq_true rfl), (Nat.le_of_ble_eq_true rfl)⟩) hS (fun q _ h => hFc q h) hFc (fun uu tt H locs htt hvm hw hB hz1 hk1 hS => ?_)
      obtain ⟨w79, w80, w81, w82⟩ := uu
      obtain ⟨hP1, hK1, hD1⟩ := hB
      rw [htt] at hP1
      have hK1 := va_K.moved hvm.symm hK1
      have hP1 : va_P D vwCl [(h0, .inr (11, gP a i g (nI (w66 + 1)) (nI zs) (nI w79) w68 w80 w81 w82 (nI bk) (nI w72) w73)), (a 1, .inl (cm 1, 1400, .inl fT))] H := hP1
      obtain ⟨hP, hD⟩ := va_join (wr := [(a 28, .inl (cm 28, 6, .inl fo)), (a 29, .inl (cm 29, 700, .inl w65)), (a 19, .inl (cm 19, 2000, .inl (upd (upd w64 (2 * w66) 1) (2 * w66 + 1) 0)))]) (w1 := [(h0, .inr (11, gP a i g (nI (w66 + 1)) (nI zs) (nI w79) w68 w80 w81 w82 (nI bk) (nI w72) w73)), (a 1, .inl (cm 1, 1400, .inl fT))]) hP hD [3, 1] [0, 2, 4] rfl rfl (by decide) (by decide) hk1 hFc hP1 hD1
      have hP : va_P D vwCl [(a 28, .inl (cm 28, 6, .inl fo)), (a 29, .inl (cm 29, 700, .inl w65)), (a 19, .inl (cm 19, 2000, .inl (upd (upd w64 (2 * w66) 1) (2 * w66 + 1) 0))), (h0, .inr (11, gP a i g (nI (w66 + 1)) (nI zs) (nI w79) w68 w80 w81 w82 (nI bk) (nI w72) w73)), (a 1, .inl (cm 1, 1400, .inl fT))] H := hP
      have hD : va_D A [(a 28, .inl (cm 28, 6, .inl fo)), (a 29, .inl (cm 29, 700, .inl w65)), (a 19, .inl (cm 19, 2000, .inl (upd (upd w64 (2 * w66) 1) (2 * w66 + 1) 0))), (h0, .inr (11, gP a i g (nI (w66 + 1)) (nI zs) (nI w79) w68 w80 w81 w82 (nI bk) (nI w72) w73)), (a 1, .inl (cm 1, 1400, .inl fT))] := hD
      try dsimp only at hw
      clear hz1 hk1 hFc hPc hKc hDc
      obtain ⟨hb83_1, hb83_2, hb83_b, hb83_s, hb83_n⟩ := hw
      exact W.vret hx hb hr (fun t ht hW => ⟨⟨((upd (upd w64 (2 * w66) 1) (2 * w66 + 1) 0), fo, w65, (w66 + 1), w79, w68, w80, w81, w82, bk, w72, w73), rfl, (by (try dsimp only); exact ⟨by omega, by omega, hb5, fun z => ⟨by omega, PSt_app (x := 1) (hs74_W (hb83_b z).1) (Or.inr (Or.inr ⟨by omega, by omega, rfl⟩))⟩, fun z => by
          rw [(hb83_s z).1]
          exact ((hs74_V (hb83_b z).1).semi (by decide)).1 (hb83_s z).2, fun z => (Decidable.em (w69 = 0)).elim (fun h => ((hs74_V h).semi (by decide)).2 (hb83_n h z)) hs74_N⟩), by rw [ht]; exact hP.sub [3, 4, 2, 0, 1] rfl, va_K.moved hW.alike (hK.sub [0, 1, 2, 3] rfl), hD.sub [3, 4, 2, 0, 1] (by decide) rfl⟩, hS.F ht⟩) hS.2.2 dX11_statement_205
    ·
      obtain ⟨hA_r59_1, hA_r59_2, hA_r59_e, hA_r59_n, hA_r59_w⟩ := hA_r59
      have hq84 : w60 = tkA bt zs ta := hA_r59_e.trans (tkA_w hq58 hta)
      have hq84_e : w61 = en := hA_r59_n.trans hq58_e
      have hnw5 : ¬ WdP bt zs ta en 5 := fun z => hA_r59_w hb0 ((WdP_at hq58 hta hq58_e).mpr z)
      refine lv_if_eq (tgt := 68) hx hb dX11_statement_52 (by decide) (fun hc => ?_) (fun hc => absurd (by decide) hc)
      refine lv_aload_n hx hb dX11_statement_68 rfl (lv_at hl 1 rfl) ?_
      refine lv_sipush (v := 7348) hx hb dX11_statement_69 (by decide) ?_
      have hPc := hP.sub (ws' := [(h0, .inr (11, gP a i g (nI cd) (nI zs) (nI w60) w61 bd bp bq (nI bk) (nI pl) br)), (a 1, .inl (cm 1, 1400, .inl fT))]) [3, 4] rfl
      have hKc := hK.sub (tys' := [(cm 1, .byte)]) [0] rfl
      have hDc := hD.sub (ws' := [(h0, .inr (11, gP a i g (nI cd) (nI zs) (nI w60) w61 bd bp bq (nI bk) (nI pl) br)), (a 1, .inl (cm 1, 1400, .inl fT))]) [3, 4] (by decide) rfl
      have hFc := va_free (wc := [(h0, .inr (11, gP a i g (nI cd) (nI zs) (nI w60) w61 bd bp bq (nI bk) (nI pl) br)), (a 1, .inl (cm 1, 1400, .inl fT))]) hD hS hA [3, 4] rfl
      refine va_calli (va_runV (As := [.int 7348]) (rest := []) ⟨hx, hb, hml, hown, hts⟩ (c_takesWord l D _ h0 a cm i g fT cd zs w60 w61 bd bp bq bk pl br 7348 6 bt (by omega) (by omega) hbt rfl) (cwV 1 hts g_c_statement_c_takesWord_329 rfl rfl rfl (by decide +kernel) ⟨(Nat.le_of_ble_eq_true rfl), (Nat.le_of_ble_eq_true rfl)⟩) (PcW_V (q0 := 0) hPc hKc hDc rfl rfl) rfl rfl hl.1 rfl (lv_room (Nat.le_of_ble_eq_true rfl)) dX11_statement_72 ⟨(Nat.le_of_ble_eq_true rfl), (Nat.le_of_ble_eq_true rfl)⟩) hS (fun q _ h => hFc q h) hFc (fun r85 uu tt H locs htt hvm hw hB hz1 hk1 hS => ?_)
      obtain ⟨w86, w87⟩ := uu
      obtain ⟨hP1, hK1, hD1⟩ := hB
      rw [htt] at hP1
      have hK1 := va_K.moved hvm.symm hK1
      have hP1 : va_P D vwCl [(h0, .inr (11, gP a i g (nI cd) (nI zs) (nI w86) w87 bd bp bq (nI bk) (nI pl) br)), (a 1, .inl (cm 1, 1400, .inl fT))] H := hP1
      obtain ⟨hP, hD⟩ := va_join (wr := [(a 19, .inl (cm 19, 2000, .inl fc)), (a 28, .inl (cm 28, 6, .inl fo)), (a 29, .inl (cm 29, 700, .inl fl))]) (w1 := [(h0, .inr (11, gP a i g (nI cd) (nI zs) (nI w86) w87 bd bp bq (nI bk) (nI pl) br)), (a 1, .inl (cm 1, 1400, .inl fT))]) hP hD [3, 4] [0, 1, 2] rfl rfl (by decide) (by decide) hk1 hFc hP1 hD1
      have hP : va_P D vwCl [(a 19, .inl (cm 19, 2000, .inl fc)), (a 28, .inl (cm 28, 6, .inl fo)), (a 29, .inl (cm 29, 700, .inl fl)), (h0, .inr (11, gP a i g (nI cd) (nI zs) (nI w86) w87 bd bp bq (nI bk) (nI pl) br)), (a 1, .inl (cm 1, 1400, .inl fT))] H := hP
      have hD : va_D A [(a 19, .inl (cm 19, 2000, .inl fc)), (a 28, .inl (cm 28, 6, .inl fo)), (a 29, .inl (cm 29, 700, .inl fl)), (h0, .inr (11, gP a i g (nI cd) (nI zs) (nI w86) w87 bd bp bq (nI bk) (nI pl) br)), (a 1, .inl (cm 1, 1400, .inl fT))] := hD
      try dsimp only at hw
      clear hz1 hk1 hFc hPc hKc hDc
      rcases hw with ⟨rfl, hA_r85⟩ | ⟨rfl, hA_r85⟩
      ·
        obtain ⟨hA_r85_0, hA_r85_1, hA_r85_2, hA_r85_e, hA_r85_n, hA_r85_w⟩ := hA_r85
        have hwd : WdP bt zs ta en 6 := (WdP_at hq84 hta hq84_e).mp hA_r85_w
        have hpl2 : w86 = spE (ltB bt) zs (tkA bt zs ta) := by rw [hA_r85_e, tkA_w hq84 hta]
        have hTw := hV.wrd hzs (by decide) hwd
        have hTk : bd = 0 → TR bt zs vz 1 6 cd fc bk fo w86 w87 := fun _ => by rw [hA_r85_n, hpl2]; exact hTw.2 (fun z => absurd z (by decide))
        refine lv_if_eq (tgt := 91) hx hb dX11_statement_75 (by decide) (fun hc => absurd hc (by decide)) (fun hc => ?_)
        refine lv_aload_n hx hb dX11_statement_78 rfl (lv_at hl 1 rfl) ?_
        have hPc := hP.sub (ws' := [(h0, .inr (11, gP a i g (nI cd) (nI zs) (nI w86) w87 bd bp bq (nI bk) (nI pl) br)), (a 1, .inl (cm 1, 1400, .inl fT)), (a 19, .inl (cm 19, 2000, .inl fc)), (a 29, .inl (cm 29, 700, .inl fl))]) [3, 4, 0, 2] rfl
        have hKc := hK.sub (tys' := [(cm 1, .byte), (cm 19, .int), (cm 29, .int)]) [0, 1, 3] rfl
        have hDc := hD.sub (ws' := [(h0, .inr (11, gP a i g (nI cd) (nI zs) (nI w86) w87 bd bp bq (nI bk) (nI pl) br)), (a 1, .inl (cm 1, 1400, .inl fT)), (a 19, .inl (cm 19, 2000, .inl fc)), (a 29, .inl (cm 29, 700, .inl fl))]) [3, 4, 0, 2] (by decide) rfl
        have hFc := va_free (wc := [(h0, .inr (11, gP a i g (nI cd) (nI zs) (nI w86) w87 bd bp bq (nI bk) (nI pl) br)), (a 1, .inl (cm 1, 1400, .inl fT)), (a 19, .inl (cm 19, 2000, .inl fc)), (a 29, .inl (cm 29, 700, .inl fl))]) hD hS hA [3, 4, 0, 2] rfl
        refine va_callv (va_runV (As := []) (rest := []) ⟨hx, hb, hml, hown, hts⟩ (c_sum l D _ h0 a cm i g fT fc fl cd zs w86 w87 bd bp bq bk pl br fo 0 1 bt 6 vz (by omega) (by omega) (by omega) hWf hbt hTk (fun z => absurd hb0 z)) (cwV 0 hts g_c_statement_c_sum_366 rfl rfl rfl (by decide +kernel) ⟨(Nat.le_of_ble_eq_true rfl), (Nat.le_of_ble_eq_true rfl)⟩) (PcW_V (q0 := 0) hPc hKc hDc rfl rfl) rfl rfl hl.1 rfl (lv_room (Nat.le_of_ble_eq_true rfl)) dX11_statement_79 ⟨(Nat.le_of_ble_eq_true rfl), (Nat.le_of_ble_eq_true rfl)⟩) hS (fun q _ h => hFc q h) hFc (fun uu tt H locs htt hvm hw hB hz1 hk1 hS => ?_)
        obtain ⟨w90, w91, w92, w93, w94, w95, w96, w97, w98, w99⟩ := uu
        obtain ⟨hP1, hK1, hD1⟩ := hB
        rw [htt] at hP1
        have hK1 := va_K.moved hvm.symm hK1
        have hP1 : va_P D vwCl [(h0, .inr (11, gP a i g (nI w92) (nI zs) (nI w93) w94 w95 w96 w97 (nI bk) (nI w98) w99)), (a 1, .inl (cm 1, 1400, .inl fT)), (a 19, .inl (cm 19, 2000, .inl w90)), (a 29, .inl (cm 29, 700, .inl w91))] H := hP1
        obtain ⟨hP, hD⟩ := va_join (wr := [(a 28, .inl (cm 28, 6, .inl fo))]) (w1 := [(h0, .inr (11, gP a i g (nI w92) (nI zs) (nI w93) w94 w95 w96 w97 (nI bk) (nI w98) w99)), (a 1, .inl (cm 1, 1400, .inl fT)), (a 19, .inl (cm 19, 2000, .inl w90)), (a 29, .inl (cm 29, 700, .inl w91))]) hP hD [3, 4, 0, 2] [1] rfl rfl (by decide) (by decide) hk1 hFc hP1 hD1
        have hP : va_P D vwCl [(a 28, .inl (cm 28, 6, .inl fo)), (h0, .inr (11, gP a i g (nI w92) (nI zs) (nI w93) w94 w95 w96 w97 (nI bk) (nI w98) w99)), (a 1, .inl (cm 1, 1400, .inl fT)), (a 19, .inl (cm 19, 2000, .inl w90)), (a 29, .inl (cm 29, 700, .inl w91))] H := hP
        have hD : va_D A [(a 28, .inl (cm 28, 6, .inl fo)), (h0, .inr (11, gP a i g (nI w92) (nI zs) (nI w93) w94 w95 w96 w97 (nI bk) (nI w98) w99)), (a 1, .inl (cm 1, 1400, .inl fT)), (a 19, .inl (cm 19, 2000, .inl w90)), (a 29, .inl (cm 29, 700, .inl w91))] := hD
        try dsimp only at hw
        clear hz1 hk1 hFc hPc hKc hDc
        obtain ⟨hs100_1, hs100_2, hs100_3, hs100_b, hs100_V, hs100_N⟩ := hw
        have hs100_W := fun z => (hs100_b z).2
        refine lv_aload_n hx hb dX11_statement_82 rfl (lv_at hl 1 rfl) ?_
        refine lv_iconst (v := 2) hx hb dX11_statement_83 (by decide) ?_
        refine lv_iconst (v := 0) hx hb dX11_statement_84 (by decide) ?_
        have hPc := hP.sub (ws' := [(h0, .inr (11, gP a i g (nI w92) (nI zs) (nI w93) w94 w95 w96 w97 (nI bk) (nI w98) w99)), (a 19, .inl (cm 19, 2000, .inl w90))]) [1, 3] rfl
        have hKc := hK.sub (tys' := [(cm 19, .int)]) [1] rfl
        have hDc := hD.sub (ws' := [(h0, .inr (11, gP a i g (nI w92) (nI zs) (nI w93) w94 w95 w96 w97 (nI bk) (nI w98) w99)), (a 19, .inl (cm 19, 2000, .inl w90))]) [1, 3] (by decide) rfl
        have hFc := va_free (wc := [(h0, .inr (11, gP a i g (nI w92) (nI zs) (nI w93) w94 w95 w96 w97 (nI bk) (nI w98) w99)), (a 19, .inl (cm 19, 2000, .inl w90))]) hD hS hA [1, 3] rfl
        refine va_callv (va_runV (As := [.int 2, .int 0]) (rest := []) ⟨hx, hb, hml, hown, hts⟩ (c_emits l D _ h0 a cm i g w90 w92 zs w93 w94 w95 w96 w97 bk w98 w99 2 0 (by first | assumption | omega)) (cwV 2 hts g_c_statement_c_emits_344 rfl rfl rfl (by decide +kernel) ⟨(Nat.le_of_ble_eq_true rfl), (Nat.le_of_ble_eq_true rfl)⟩) (PcW_V (q0 := 0) hPc hKc hDc rfl rfl) rfl rfl hl.1 rfl (lv_room (Nat.le_of_ble_eq_true rfl)) dX11_statement_85 ⟨(Nat.le_of_ble_eq_true rfl), (Nat.le_of_ble_eq_true rfl)⟩) hS (fun q _ h => hFc q h) hFc (fun uu tt H locs htt hvm hw hB hz1 hk1 hS => ?_)
        obtain ⟨w102, w103⟩ := uu
        obtain ⟨hP1, hK1, hD1⟩ := hB
        rw [htt] at hP1
        have hK1 := va_K.moved hvm.symm hK1
        have hP1 : va_P D vwCl [(h0, .inr (11, gP a i g (nI w103) (nI zs) (nI w93) w94 w95 w96 w97 (nI bk) (nI w98) w99)), (a 19, .inl (cm 19, 2000, .inl w102))] H := hP1
        obtain ⟨hP, hD⟩ := va_join (wr := [(a 28, .inl (cm 28, 6, .inl fo)), (a 1, .inl (cm 1, 1400, .inl fT)), (a 29, .inl (cm 29, 700, .inl w91))]) (w1 := [(h0, .inr (11, gP a i g (nI w103) (nI zs) (nI w93) w94 w95 w96 w97 (nI bk) (nI w98) w99)), (a 19, .inl (cm 19, 2000, .inl w102))]) hP hD [1, 3] [0, 2, 4] rfl rfl (by decide) (by decide) hk1 hFc hP1 hD1
        have hP : va_P D vwCl [(a 28, .inl (cm 28, 6, .inl fo)), (a 1, .inl (cm 1, 1400, .inl fT)), (a 29, .inl (cm 29, 700, .inl w91)), (h0, .inr (11, gP a i g (nI w103) (nI zs) (nI w93) w94 w95 w96 w97 (nI bk) (nI w98) w99)), (a 19, .inl (cm 19, 2000, .inl w102))] H := hP
        have hD : va_D A [(a 28, .inl (cm 28, 6, .inl fo)), (a 1, .inl (cm 1, 1400, .inl fT)), (a 29, .inl (cm 29, 700, .inl w91)), (h0, .inr (11, gP a i g (nI w103) (nI zs) (nI w93) w94 w95 w96 w97 (nI bk) (nI w98) w99)), (a 19, .inl (cm 19, 2000, .inl w102))] := hD
        try dsimp only at hw
        clear hz1 hk1 hFc hPc hKc hDc
        obtain ⟨rfl, rfl⟩ := hw
        have hP : va_P D vwCl [(a 28, .inl (cm 28, 6, .inl fo)), (a 1, .inl (cm 1, 1400, .inl fT)), (a 29, .inl (cm 29, 700, .inl w91)), (h0, .inr (11, gP a i g (nI (w92 + 1)) (nI zs) (nI w93) w94 w95 w96 w97 (nI bk) (nI w98) w99)), (a 19, .inl (cm 19, 2000, .inl (upd (upd w90 (2 * w92) 2) (2 * w92 + 1) 0)))] H := hP
        have hD : va_D A [(a 28, .inl (cm 28, 6, .inl fo)), (a 1, .inl (cm 1, 1400, .inl fT)), (a 29, .inl (cm 29, 700, .inl w91)), (h0, .inr (11, gP a i g (nI (w92 + 1)) (nI zs) (nI w93) w94 w95 w96 w97 (nI bk) (nI w98) w99)), (a 19, .inl (cm 19, 2000, .inl (upd (upd w90 (2 * w92) 2) (2 * w92 + 1) 0)))] := hD
        refine lv_goto (tgt := 199) hx hb dX11_statement_88 (by decide) ?_
        refine lv_aload_n hx hb dX11_statement_199 rfl (lv_at hl 1 rfl) ?_
        refine lv_bipush (v := 59) hx hb dX11_statement_200 (by decide) ?_
        have hPc := hP.sub (ws' := [(h0, .inr (11, gP a i g (nI (w92 + 1)) (nI zs) (nI w93) w94 w95 w96 w97 (nI bk) (nI w98) w99)), (a 1, .inl (cm 1, 1400, .inl fT))]) [3, 1] rfl
        have hKc := hK.sub (tys' := [(cm 1, .byte)]) [0] rfl
        have hDc := hD.sub (ws' := [(h0, .inr (11, gP a i g (nI (w92 + 1)) (nI zs) (nI w93) w94 w95 w96 w97 (nI bk) (nI w98) w99)), (a 1, .inl (cm 1, 1400, .inl fT))]) [3, 1] (by decide) rfl
        have hFc := va_free (wc := [(h0, .inr (11, gP a i g (nI (w92 + 1)) (nI zs) (nI w93) w94 w95 w96 w97 (nI bk) (nI w98) w99)), (a 1, .inl (cm 1, 1400, .inl fT))]) hD hS hA [3, 1] rfl
        refine va_callv (va_runV (As := [.int 59]) (rest := []) ⟨hx, hb, hml, hown, hts⟩ (c_needsSign l D _ h0 a cm i g fT (w92 + 1) zs w93 w94 w95 w96 w97 bk w98 w99 59 59 bt (by omega) (by omega) hbt rfl (by decide)) (cwV 1 hts g_c_statement_c_needsSign_363 rfl rfl rfl (by decide +kernel) ⟨(Nat.le_of_ble_eq_true rfl), (Nat.le_of_ble_eq_true rfl)⟩) (PcW_V (q0 := 0) hPc hKc hDc rfl rfl) rfl rfl hl.1 rfl (lv_room (Nat.le_of_ble_eq_true rfl)) dX11_statement_202 ⟨(Nat.le_of_ble_eq_true rfl), (Nat.le_of_ble_eq_true rfl)⟩) hS (fun q _ h => hFc q h) hFc (fun uu tt H locs htt hvm hw hB hz1 hk1 hS => ?_)
        obtain ⟨w105, w106, w107, w108⟩ := uu
        obtain ⟨hP1, hK1, hD1⟩ := hB
        rw [htt] at hP1
        have hK1 := va_K.moved hvm.symm hK1
        have hP1 : va_P D vwCl [(h0, .inr (11, gP a i g (nI (w92 + 1)) (nI zs) (nI w105) w94 w106 w107 w108 (nI bk) (nI w98) w99)), (a 1, .inl (cm 1, 1400, .inl fT))] H := hP1
        obtain ⟨hP, hD⟩ := va_join (wr := [(a 28, .inl (cm 28, 6, .inl fo)), (a 29, .inl (cm 29, 700, .inl w91)), (a 19, .inl (cm 19, 2000, .inl (upd (upd w90 (2 * w92) 2) (2 * w92 + 1) 0)))]) (w1 := [(h0, .inr (11, gP a i g (nI (w92 + 1)) (nI zs) (nI w105) w94 w106 w107 w108 (nI bk) (nI w98) w99)), (a 1, .inl (cm 1, 1400, .inl fT))]) hP hD [3, 1] [0, 2, 4] rfl rfl (by decide) (by decide) hk1 hFc hP1 hD1
        have hP : va_P D vwCl [(a 28, .inl (cm 28, 6, .inl fo)), (a 29, .inl (cm 29, 700, .inl w91)), (a 19, .inl (cm 19, 2000, .inl (upd (upd w90 (2 * w92) 2) (2 * w92 + 1) 0))), (h0, .inr (11, gP a i g (nI (w92 + 1)) (nI zs) (nI w105) w94 w106 w107 w108 (nI bk) (nI w98) w99)), (a 1, .inl (cm 1, 1400, .inl fT))] H := hP
        have hD : va_D A [(a 28, .inl (cm 28, 6, .inl fo)), (a 29, .inl (cm 29, 700, .inl w91)), (a 19, .inl (cm 19, 2000, .inl (upd (upd w90 (2 * w92) 2) (2 * w92 + 1) 0))), (h0, .inr (11, gP a i g (nI (w92 + 1)) (nI zs) (nI w105) w94 w106 w107 w108 (nI bk) (nI w98) w99)), (a 1, .inl (cm 1, 1400, .inl fT))] := hD
        try dsimp only at hw
        clear hz1 hk1 hFc hPc hKc hDc
        obtain ⟨hb109_1, hb109_2, hb109_b, hb109_s, hb109_n⟩ := hw
        exact W.vret hx hb hr (fun t ht hW => ⟨⟨((upd (upd w90 (2 * w92) 2) (2 * w92 + 1) 0), fo, w91, (w92 + 1), w105, w94, w106, w107, w108, bk, w98, w99), rfl, (by (try dsimp only); exact ⟨by omega, by omega, hb5, fun z => ⟨by omega, PSt_app (x := 2) (hs100_W (hb109_b z).1) (Or.inr (Or.inr ⟨by omega, by omega, rfl⟩))⟩, fun z => by
            rw [(hb109_s z).1]
            exact ((hs100_V (hb109_b z).1).semi (by decide)).1 (hb109_s z).2, fun z => (Decidable.em (w95 = 0)).elim (fun h => ((hs100_V h).semi (by decide)).2 (hb109_n h z)) hs100_N⟩), by rw [ht]; exact hP.sub [3, 4, 2, 0, 1] rfl, va_K.moved hW.alike (hK.sub [0, 1, 2, 3] rfl), hD.sub [3, 4, 2, 0, 1] (by decide) rfl⟩, hS.F ht⟩) hS.2.2 dX11_statement_205
      ·
        obtain ⟨hA_r85_1, hA_r85_2, hA_r85_e, hA_r85_n, hA_r85_w⟩ := hA_r85
        have hq110 : w86 = tkA bt zs ta := hA_r85_e.trans (tkA_w hq84 hta)
        have hq110_e : w87 = en := hA_r85_n.trans hq84_e
        have hnw6 : ¬ WdP bt zs ta en 6 := fun z => hA_r85_w hb0 ((WdP_at hq84 hta hq84_e).mpr z)
        refine lv_if_eq (tgt := 91) hx hb dX11_statement_75 (by decide) (fun hc => ?_) (fun hc => absurd (by decide) hc)
        refine lv_aload_n hx hb dX11_statement_91 rfl (lv_at hl 1 rfl) ?_
        refine lv_sipush (v := 12468) hx hb dX11_statement_92 (by decide) ?_
        have hPc := hP.sub (ws' := [(h0, .inr (11, gP a i g (nI cd) (nI zs) (nI w86) w87 bd bp bq (nI bk) (nI pl) br)), (a 1, .inl (cm 1, 1400, .inl fT))]) [3, 4] rfl
        have hKc := hK.sub (tys' := [(cm 1, .byte)]) [0] rfl
        have hDc := hD.sub (ws' := [(h0, .inr (11, gP a i g (nI cd) (nI zs) (nI w86) w87 bd bp bq (nI bk) (nI pl) br)), (a 1, .inl (cm 1, 1400, .inl fT))]) [3, 4] (by decide) rfl
        have hFc := va_free (wc := [(h0, .inr (11, gP a i g (nI cd) (nI zs) (nI w86) w87 bd bp bq (nI bk) (nI pl) br)), (a 1, .inl (cm 1, 1400, .inl fT))]) hD hS hA [3, 4] rfl
        refine va_calli (va_runV (As := [.int 12468]) (rest := []) ⟨hx, hb, hml, hown, hts⟩ (c_takesWord l D _ h0 a cm i g fT cd zs w86 w87 bd bp bq bk pl br 12468 7 bt (by omega) (by omega) hbt rfl) (cwV 1 hts g_c_statement_c_takesWord_329 rfl rfl rfl (by decide +kernel) ⟨(Nat.le_of_ble_eq_true rfl), (Nat.le_of_ble_eq_true rfl)⟩) (PcW_V (q0 := 0) hPc hKc hDc rfl rfl) rfl rfl hl.1 rfl (lv_room (Nat.le_of_ble_eq_true rfl)) dX11_statement_95 ⟨(Nat.le_of_ble_eq_true rfl), (Nat.le_of_ble_eq_true rfl)⟩) hS (fun q _ h => hFc q h) hFc (fun r111 uu tt H locs htt hvm hw hB hz1 hk1 hS => ?_)
        obtain ⟨w112, w113⟩ := uu
        obtain ⟨hP1, hK1, hD1⟩ := hB
        rw [htt] at hP1
        have hK1 := va_K.moved hvm.symm hK1
        have hP1 : va_P D vwCl [(h0, .inr (11, gP a i g (nI cd) (nI zs) (nI w112) w113 bd bp bq (nI bk) (nI pl) br)), (a 1, .inl (cm 1, 1400, .inl fT))] H := hP1
        obtain ⟨hP, hD⟩ := va_join (wr := [(a 19, .inl (cm 19, 2000, .inl fc)), (a 28, .inl (cm 28, 6, .inl fo)), (a 29, .inl (cm 29, 700, .inl fl))]) (w1 := [(h0, .inr (11, gP a i g (nI cd) (nI zs) (nI w112) w113 bd bp bq (nI bk) (nI pl) br)), (a 1, .inl (cm 1, 1400, .inl fT))]) hP hD [3, 4] [0, 1, 2] rfl rfl (by decide) (by decide) hk1 hFc hP1 hD1
        have hP : va_P D vwCl [(a 19, .inl (cm 19, 2000, .inl fc)), (a 28, .inl (cm 28, 6, .inl fo)), (a 29, .inl (cm 29, 700, .inl fl)), (h0, .inr (11, gP a i g (nI cd) (nI zs) (nI w112) w113 bd bp bq (nI bk) (nI pl) br)), (a 1, .inl (cm 1, 1400, .inl fT))] H := hP
        have hD : va_D A [(a 19, .inl (cm 19, 2000, .inl fc)), (a 28, .inl (cm 28, 6, .inl fo)), (a 29, .inl (cm 29, 700, .inl fl)), (h0, .inr (11, gP a i g (nI cd) (nI zs) (nI w112) w113 bd bp bq (nI bk) (nI pl) br)), (a 1, .inl (cm 1, 1400, .inl fT))] := hD
        try dsimp only at hw
        clear hz1 hk1 hFc hPc hKc hDc
        rcases hw with ⟨rfl, hA_r111⟩ | ⟨rfl, hA_r111⟩
        ·
          obtain ⟨hA_r111_0, hA_r111_1, hA_r111_2, hA_r111_e, hA_r111_n, hA_r111_w⟩ := hA_r111
          have hwd : WdP bt zs ta en 7 := (WdP_at hq110 hta hq110_e).mp hA_r111_w
          have hpl2 : w112 = spE (ltB bt) zs (tkA bt zs ta) := by rw [hA_r111_e, tkA_w hq110 hta]
          have hTw := hV.wrd hzs (by decide) hwd
          have hTk : bd = 0 → TR bt zs vz 1 7 cd fc bk fo w112 w113 := fun _ => by rw [hA_r111_n, hpl2]; exact hTw.2 (fun z => absurd z (by decide))
          refine lv_if_eq (tgt := 114) hx hb dX11_statement_98 (by decide) (fun hc => absurd hc (by decide)) (fun hc => ?_)
          refine lv_aload_n hx hb dX11_statement_101 rfl (lv_at hl 1 rfl) ?_
          have hPc := hP.sub (ws' := [(h0, .inr (11, gP a i g (nI cd) (nI zs) (nI w112) w113 bd bp bq (nI bk) (nI pl) br)), (a 1, .inl (cm 1, 1400, .inl fT)), (a 19, .inl (cm 19, 2000, .inl fc)), (a 29, .inl (cm 29, 700, .inl fl))]) [3, 4, 0, 2] rfl
          have hKc := hK.sub (tys' := [(cm 1, .byte), (cm 19, .int), (cm 29, .int)]) [0, 1, 3] rfl
          have hDc := hD.sub (ws' := [(h0, .inr (11, gP a i g (nI cd) (nI zs) (nI w112) w113 bd bp bq (nI bk) (nI pl) br)), (a 1, .inl (cm 1, 1400, .inl fT)), (a 19, .inl (cm 19, 2000, .inl fc)), (a 29, .inl (cm 29, 700, .inl fl))]) [3, 4, 0, 2] (by decide) rfl
          have hFc := va_free (wc := [(h0, .inr (11, gP a i g (nI cd) (nI zs) (nI w112) w113 bd bp bq (nI bk) (nI pl) br)), (a 1, .inl (cm 1, 1400, .inl fT)), (a 19, .inl (cm 19, 2000, .inl fc)), (a 29, .inl (cm 29, 700, .inl fl))]) hD hS hA [3, 4, 0, 2] rfl
          refine va_callv (va_runV (As := []) (rest := []) ⟨hx, hb, hml, hown, hts⟩ (c_sum l D _ h0 a cm i g fT fc fl cd zs w112 w113 bd bp bq bk pl br fo 0 1 bt 7 vz (by omega) (by omega) (by omega) hWf hbt hTk (fun z => absurd hb0 z)) (cwV 0 hts g_c_statement_c_sum_366 rfl rfl rfl (by decide +kernel) ⟨(Nat.le_of_ble_eq_true rfl), (Nat.le_of_ble_eq_true rfl)⟩) (PcW_V (q0 := 0) hPc hKc hDc rfl rfl) rfl rfl hl.1 rfl (lv_room (Nat.le_of_ble_eq_true rfl)) dX11_statement_102 ⟨(Nat.le_of_ble_eq_true rfl), (Nat.le_of_ble_eq_true rfl)⟩) hS (fun q _ h => hFc q h) hFc (fun uu tt H locs htt hvm hw hB hz1 hk1 hS => ?_)
          obtain ⟨w116, w117, w118, w119, w120, w121, w122, w123, w124, w125⟩ := uu
          obtain ⟨hP1, hK1, hD1⟩ := hB
          rw [htt] at hP1
          have hK1 := va_K.moved hvm.symm hK1
          have hP1 : va_P D vwCl [(h0, .inr (11, gP a i g (nI w118) (nI zs) (nI w119) w120 w121 w122 w123 (nI bk) (nI w124) w125)), (a 1, .inl (cm 1, 1400, .inl fT)), (a 19, .inl (cm 19, 2000, .inl w116)), (a 29, .inl (cm 29, 700, .inl w117))] H := hP1
          obtain ⟨hP, hD⟩ := va_join (wr := [(a 28, .inl (cm 28, 6, .inl fo))]) (w1 := [(h0, .inr (11, gP a i g (nI w118) (nI zs) (nI w119) w120 w121 w122 w123 (nI bk) (nI w124) w125)), (a 1, .inl (cm 1, 1400, .inl fT)), (a 19, .inl (cm 19, 2000, .inl w116)), (a 29, .inl (cm 29, 700, .inl w117))]) hP hD [3, 4, 0, 2] [1] rfl rfl (by decide) (by decide) hk1 hFc hP1 hD1
          have hP : va_P D vwCl [(a 28, .inl (cm 28, 6, .inl fo)), (h0, .inr (11, gP a i g (nI w118) (nI zs) (nI w119) w120 w121 w122 w123 (nI bk) (nI w124) w125)), (a 1, .inl (cm 1, 1400, .inl fT)), (a 19, .inl (cm 19, 2000, .inl w116)), (a 29, .inl (cm 29, 700, .inl w117))] H := hP
          have hD : va_D A [(a 28, .inl (cm 28, 6, .inl fo)), (h0, .inr (11, gP a i g (nI w118) (nI zs) (nI w119) w120 w121 w122 w123 (nI bk) (nI w124) w125)), (a 1, .inl (cm 1, 1400, .inl fT)), (a 19, .inl (cm 19, 2000, .inl w116)), (a 29, .inl (cm 29, 700, .inl w117))] := hD
          try dsimp only at hw
          clear hz1 hk1 hFc hPc hKc hDc
          obtain ⟨hs126_1, hs126_2, hs126_3, hs126_b, hs126_V, hs126_N⟩ := hw
          have hs126_W := fun z => (hs126_b z).2
          refine lv_aload_n hx hb dX11_statement_105 rfl (lv_at hl 1 rfl) ?_
          refine lv_iconst (v := 3) hx hb dX11_statement_106 (by decide) ?_
          refine lv_iconst (v := 0) hx hb dX11_statement_107 (by decide) ?_
          have hPc := hP.sub (ws' := [(h0, .inr (11, gP a i g (nI w118) (nI zs) (nI w119) w120 w121 w122 w123 (nI bk) (nI w124) w125)), (a 19, .inl (cm 19, 2000, .inl w116))]) [1, 3] rfl
          have hKc := hK.sub (tys' := [(cm 19, .int)]) [1] rfl
          have hDc := hD.sub (ws' := [(h0, .inr (11, gP a i g (nI w118) (nI zs) (nI w119) w120 w121 w122 w123 (nI bk) (nI w124) w125)), (a 19, .inl (cm 19, 2000, .inl w116))]) [1, 3] (by decide) rfl
          have hFc := va_free (wc := [(h0, .inr (11, gP a i g (nI w118) (nI zs) (nI w119) w120 w121 w122 w123 (nI bk) (nI w124) w125)), (a 19, .inl (cm 19, 2000, .inl w116))]) hD hS hA [1, 3] rfl
          refine va_callv (va_runV (As := [.int 3, .int 0]) (rest := []) ⟨hx, hb, hml, hown, hts⟩ (c_emits l D _ h0 a cm i g w116 w118 zs w119 w120 w121 w122 w123 bk w124 w125 3 0 (by first | assumption | omega)) (cwV 2 hts g_c_statement_c_emits_344 rfl rfl rfl (by decide +kernel) ⟨(Nat.le_of_ble_eq_true rfl), (Nat.le_of_ble_eq_true rfl)⟩) (PcW_V (q0 := 0) hPc hKc hDc rfl rfl) rfl rfl hl.1 rfl (lv_room (Nat.le_of_ble_eq_true rfl)) dX11_statement_108 ⟨(Nat.le_of_ble_eq_true rfl), (Nat.le_of_ble_eq_true rfl)⟩) hS (fun q _ h => hFc q h) hFc (fun uu tt H locs htt hvm hw hB hz1 hk1 hS => ?_)
          obtain ⟨w128, w129⟩ := uu
          obtain ⟨hP1, hK1, hD1⟩ := hB
          rw [htt] at hP1
          have hK1 := va_K.moved hvm.symm hK1
          have hP1 : va_P D vwCl [(h0, .inr (11, gP a i g (nI w129) (nI zs) (nI w119) w120 w121 w122 w123 (nI bk) (nI w124) w125)), (a 19, .inl (cm 19, 2000, .inl w128))] H := hP1
          obtain ⟨hP, hD⟩ := va_join (wr := [(a 28, .inl (cm 28, 6, .inl fo)), (a 1, .inl (cm 1, 1400, .inl fT)), (a 29, .inl (cm 29, 700, .inl w117))]) (w1 := [(h0, .inr (11, gP a i g (nI w129) (nI zs) (nI w119) w120 w121 w122 w123 (nI bk) (nI w124) w125)), (a 19, .inl (cm 19, 2000, .inl w128))]) hP hD [1, 3] [0, 2, 4] rfl rfl (by decide) (by decide) hk1 hFc hP1 hD1
          have hP : va_P D vwCl [(a 28, .inl (cm 28, 6, .inl fo)), (a 1, .inl (cm 1, 1400, .inl fT)), (a 29, .inl (cm 29, 700, .inl w117)), (h0, .inr (11, gP a i g (nI w129) (nI zs) (nI w119) w120 w121 w122 w123 (nI bk) (nI w124) w125)), (a 19, .inl (cm 19, 2000, .inl w128))] H := hP
          have hD : va_D A [(a 28, .inl (cm 28, 6, .inl fo)), (a 1, .inl (cm 1, 1400, .inl fT)), (a 29, .inl (cm 29, 700, .inl w117)), (h0, .inr (11, gP a i g (nI w129) (nI zs) (nI w119) w120 w121 w122 w123 (nI bk) (nI w124) w125)), (a 19, .inl (cm 19, 2000, .inl w128))] := hD
          try dsimp only at hw
          clear hz1 hk1 hFc hPc hKc hDc
          obtain ⟨rfl, rfl⟩ := hw
          have hP : va_P D vwCl [(a 28, .inl (cm 28, 6, .inl fo)), (a 1, .inl (cm 1, 1400, .inl fT)), (a 29, .inl (cm 29, 700, .inl w117)), (h0, .inr (11, gP a i g (nI (w118 + 1)) (nI zs) (nI w119) w120 w121 w122 w123 (nI bk) (nI w124) w125)), (a 19, .inl (cm 19, 2000, .inl (upd (upd w116 (2 * w118) 3) (2 * w118 + 1) 0)))] H := hP
          have hD : va_D A [(a 28, .inl (cm 28, 6, .inl fo)), (a 1, .inl (cm 1, 1400, .inl fT)), (a 29, .inl (cm 29, 700, .inl w117)), (h0, .inr (11, gP a i g (nI (w118 + 1)) (nI zs) (nI w119) w120 w121 w122 w123 (nI bk) (nI w124) w125)), (a 19, .inl (cm 19, 2000, .inl (upd (upd w116 (2 * w118) 3) (2 * w118 + 1) 0)))] := hD
          refine lv_goto (tgt := 199) hx hb dX11_statement_111 (by decide) ?_
          refine lv_aload_n hx hb dX11_statement_199 rfl (lv_at hl 1 rfl) ?_
          refine lv_bipush (v := 59) hx hb dX11_statement_200 (by decide) ?_
          have hPc := hP.sub (ws' := [(h0, .inr (11, gP a i g (nI (w118 + 1)) (nI zs) (nI w119) w120 w121 w122 w123 (nI bk) (nI w124) w125)), (a 1, .inl (cm 1, 1400, .inl fT))]) [3, 1] rfl
          have hKc := hK.sub (tys' := [(cm 1, .byte)]) [0] rfl
          have hDc := hD.sub (ws' := [(h0, .inr (11, gP a i g (nI (w118 + 1)) (nI zs) (nI w119) w120 w121 w122 w123 (nI bk) (nI w124) w125)), (a 1, .inl (cm 1, 1400, .inl fT))]) [3, 1] (by decide) rfl
          have hFc := va_free (wc := [(h0, .inr (11, gP a i g (nI (w118 + 1)) (nI zs) (nI w119) w120 w121 w122 w123 (nI bk) (nI w124) w125)), (a 1, .inl (cm 1, 1400, .inl fT))]) hD hS hA [3, 1] rfl
          refine va_callv (va_runV (As := [.int 59]) (rest := []) ⟨hx, hb, hml, hown, hts⟩ (c_needsSign l D _ h0 a cm i g fT (w118 + 1) zs w119 w120 w121 w122 w123 bk w124 w125 59 59 bt (by omega) (by omega) hbt rfl (by decide)) (cwV 1 hts g_c_statement_c_needsSign_363 rfl rfl rfl (by decide +kernel) ⟨(Nat.le_of_ble_eq_true rfl), (Nat.le_of_ble_eq_true rfl)⟩) (PcW_V (q0 := 0) hPc hKc hDc rfl rfl) rfl rfl hl.1 rfl (lv_room (Nat.le_of_ble_eq_true rfl)) dX11_statement_202 ⟨(Nat.le_of_ble_eq_true rfl), (Nat.le_of_ble_eq_true rfl)⟩) hS (fun q _ h => hFc q h) hFc (fun uu tt H locs htt hvm hw hB hz1 hk1 hS => ?_)
          obtain ⟨w131, w132, w133, w134⟩ := uu
          obtain ⟨hP1, hK1, hD1⟩ := hB
          rw [htt] at hP1
          have hK1 := va_K.moved hvm.symm hK1
          have hP1 : va_P D vwCl [(h0, .inr (11, gP a i g (nI (w118 + 1)) (nI zs) (nI w131) w120 w132 w133 w134 (nI bk) (nI w124) w125)), (a 1, .inl (cm 1, 1400, .inl fT))] H := hP1
          obtain ⟨hP, hD⟩ := va_join (wr := [(a 28, .inl (cm 28, 6, .inl fo)), (a 29, .inl (cm 29, 700, .inl w117)), (a 19, .inl (cm 19, 2000, .inl (upd (upd w116 (2 * w118) 3) (2 * w118 + 1) 0)))]) (w1 := [(h0, .inr (11, gP a i g (nI (w118 + 1)) (nI zs) (nI w131) w120 w132 w133 w134 (nI bk) (nI w124) w125)), (a 1, .inl (cm 1, 1400, .inl fT))]) hP hD [3, 1] [0, 2, 4] rfl rfl (by decide) (by decide) hk1 hFc hP1 hD1
          have hP : va_P D vwCl [(a 28, .inl (cm 28, 6, .inl fo)), (a 29, .inl (cm 29, 700, .inl w117)), (a 19, .inl (cm 19, 2000, .inl (upd (upd w116 (2 * w118) 3) (2 * w118 + 1) 0))), (h0, .inr (11, gP a i g (nI (w118 + 1)) (nI zs) (nI w131) w120 w132 w133 w134 (nI bk) (nI w124) w125)), (a 1, .inl (cm 1, 1400, .inl fT))] H := hP
          have hD : va_D A [(a 28, .inl (cm 28, 6, .inl fo)), (a 29, .inl (cm 29, 700, .inl w117)), (a 19, .inl (cm 19, 2000, .inl (upd (upd w116 (2 * w118) 3) (2 * w118 + 1) 0))), (h0, .inr (11, gP a i g (nI (w118 + 1)) (nI zs) (nI w131) w120 w132 w133 w134 (nI bk) (nI w124) w125)), (a 1, .inl (cm 1, 1400, .inl fT))] := hD
          try dsimp only at hw
          clear hz1 hk1 hFc hPc hKc hDc
          obtain ⟨hb135_1, hb135_2, hb135_b, hb135_s, hb135_n⟩ := hw
          exact W.vret hx hb hr (fun t ht hW => ⟨⟨((upd (upd w116 (2 * w118) 3) (2 * w118 + 1) 0), fo, w117, (w118 + 1), w131, w120, w132, w133, w134, bk, w124, w125), rfl, (by (try dsimp only); exact ⟨by omega, by omega, hb5, fun z => ⟨by omega, PSt_app (x := 3) (hs126_W (hb135_b z).1) (Or.inr (Or.inr ⟨by omega, by omega, rfl⟩))⟩, fun z => by
              rw [(hb135_s z).1]
              exact ((hs126_V (hb135_b z).1).semi (by decide)).1 (hb135_s z).2, fun z => (Decidable.em (w121 = 0)).elim (fun h => ((hs126_V h).semi (by decide)).2 (hb135_n h z)) hs126_N⟩), by rw [ht]; exact hP.sub [3, 4, 2, 0, 1] rfl, va_K.moved hW.alike (hK.sub [0, 1, 2, 3] rfl), hD.sub [3, 4, 2, 0, 1] (by decide) rfl⟩, hS.F ht⟩) hS.2.2 dX11_statement_205
        ·
          obtain ⟨hA_r111_1, hA_r111_2, hA_r111_e, hA_r111_n, hA_r111_w⟩ := hA_r111
          have hq136 : w112 = tkA bt zs ta := hA_r111_e.trans (tkA_w hq110 hta)
          have hq136_e : w113 = en := hA_r111_n.trans hq110_e
          have hnw7 : ¬ WdP bt zs ta en 7 := fun z => hA_r111_w hb0 ((WdP_at hq110 hta hq110_e).mpr z)
          refine lv_if_eq (tgt := 114) hx hb dX11_statement_98 (by decide) (fun hc => ?_) (fun hc => absurd (by decide) hc)
          refine lv_aload_n hx hb dX11_statement_114 rfl (lv_at hl 1 rfl) ?_
          refine lv_sipush (v := 6642) hx hb dX11_statement_115 (by decide) ?_
          have hPc := hP.sub (ws' := [(h0, .inr (11, gP a i g (nI cd) (nI zs) (nI w112) w113 bd bp bq (nI bk) (nI pl) br)), (a 1, .inl (cm 1, 1400, .inl fT))]) [3, 4] rfl
          have hKc := hK.sub (tys' := [(cm 1, .byte)]) [0] rfl
          have hDc := hD.sub (ws' := [(h0, .inr (11, gP a i g (nI cd) (nI zs) (nI w112) w113 bd bp bq (nI bk) (nI pl) br)), (a 1, .inl (cm 1, 1400, .inl fT))]) [3, 4] (by decide) rfl
          have hFc := va_free (wc := [(h0, .inr (11, gP a i g (nI cd) (nI zs) (nI w112) w113 bd bp bq (nI bk) (nI pl) br)), (a 1, .inl (cm 1, 1400, .inl fT))]) hD hS hA [3, 4] rfl
          refine va_calli (va_runV (As := [.int 6642]) (rest := []) ⟨hx, hb, hml, hown, hts⟩ (c_takesWord l D _ h0 a cm i g fT cd zs w112 w113 bd bp bq bk pl br 6642 8 bt (by omega) (by omega) hbt rfl) (cwV 1 hts g_c_statement_c_takesWord_329 rfl rfl rfl (by decide +kernel) ⟨(Nat.le_of_ble_eq_true rfl), (Nat.le_of_ble_eq_true rfl)⟩) (PcW_V (q0 := 0) hPc hKc hDc rfl rfl) rfl rfl hl.1 rfl (lv_room (Nat.le_of_ble_eq_true rfl)) dX11_statement_118 ⟨(Nat.le_of_ble_eq_true rfl), (Nat.le_of_ble_eq_true rfl)⟩) hS (fun q _ h => hFc q h) hFc (fun r137 uu tt H locs htt hvm hw hB hz1 hk1 hS => ?_)
          obtain ⟨w138, w139⟩ := uu
          obtain ⟨hP1, hK1, hD1⟩ := hB
          rw [htt] at hP1
          have hK1 := va_K.moved hvm.symm hK1
          have hP1 : va_P D vwCl [(h0, .inr (11, gP a i g (nI cd) (nI zs) (nI w138) w139 bd bp bq (nI bk) (nI pl) br)), (a 1, .inl (cm 1, 1400, .inl fT))] H := hP1
          obtain ⟨hP, hD⟩ := va_join (wr := [(a 19, .inl (cm 19, 2000, .inl fc)), (a 28, .inl (cm 28, 6, .inl fo)), (a 29, .inl (cm 29, 700, .inl fl))]) (w1 := [(h0, .inr (11, gP a i g (nI cd) (nI zs) (nI w138) w139 bd bp bq (nI bk) (nI pl) br)), (a 1, .inl (cm 1, 1400, .inl fT))]) hP hD [3, 4] [0, 1, 2] rfl rfl (by decide) (by decide) hk1 hFc hP1 hD1
          have hP : va_P D vwCl [(a 19, .inl (cm 19, 2000, .inl fc)), (a 28, .inl (cm 28, 6, .inl fo)), (a 29, .inl (cm 29, 700, .inl fl)), (h0, .inr (11, gP a i g (nI cd) (nI zs) (nI w138) w139 bd bp bq (nI bk) (nI pl) br)), (a 1, .inl (cm 1, 1400, .inl fT))] H := hP
          have hD : va_D A [(a 19, .inl (cm 19, 2000, .inl fc)), (a 28, .inl (cm 28, 6, .inl fo)), (a 29, .inl (cm 29, 700, .inl fl)), (h0, .inr (11, gP a i g (nI cd) (nI zs) (nI w138) w139 bd bp bq (nI bk) (nI pl) br)), (a 1, .inl (cm 1, 1400, .inl fT))] := hD
          try dsimp only at hw
          clear hz1 hk1 hFc hPc hKc hDc
          rcases hw with ⟨rfl, hA_r137⟩ | ⟨rfl, hA_r137⟩
          ·
            obtain ⟨hA_r137_0, hA_r137_1, hA_r137_2, hA_r137_e, hA_r137_n, hA_r137_w⟩ := hA_r137
            have hwd : WdP bt zs ta en 8 := (WdP_at hq136 hta hq136_e).mp hA_r137_w
            have hpl2 : w138 = spE (ltB bt) zs (tkA bt zs ta) := by rw [hA_r137_e, tkA_w hq136 hta]
            have hTw := hV.wrd hzs (by decide) hwd
            refine lv_if_eq (tgt := 153) hx hb dX11_statement_121 (by decide) (fun hc => absurd hc (by decide)) (fun hc => ?_)
            refine lv_aload_n hx hb dX11_statement_124 rfl (lv_at hl 1 rfl) ?_
            refine va_get (D := D) (ci := 11) (v := .int (nI bk)) (C := RX11) (T := TX11) (N := 47) hx hb hts hin_X11 hown hK hP 3 rfl rfl 27 (by decide) (hts (.fieldLink RX11 286 "ClashFreeModel" "blocks" "I") (List.mem_of_getElem? (i := 24) rfl)) (fun _ h9 => h9) rfl dX11_statement_125 ?_
            refine lv_iconst (v := 5) hx hb dX11_statement_128 (by decide) ?_
            refine lv_icmp_ne (tgt := 138) hx hb dX11_statement_129 (by decide) (fun hc141 => ?_) (fun hc141 => ?_)
            ·
              have hb4 : bk ≤ 4 := by
                rcases Nat.lt_or_ge bk 5 with z | z
                · omega
                · exact absurd (by rw [show bk = 5 by omega]; rfl) hc141
              refine lv_aload_n hx hb dX11_statement_138 rfl (lv_at hl 1 rfl) ?_
              refine lv_sipush (v := 200) hx hb dX11_statement_139 (by decide) ?_
              have hPc := hP.sub (ws' := [(h0, .inr (11, gP a i g (nI cd) (nI zs) (nI w138) w139 bd bp bq (nI bk) (nI pl) br)), (a 1, .inl (cm 1, 1400, .inl fT))]) [3, 4] rfl
              have hKc := hK.sub (tys' := [(cm 1, .byte)]) [0] rfl
              have hDc := hD.sub (ws' := [(h0, .inr (11, gP a i g (nI cd) (nI zs) (nI w138) w139 bd bp bq (nI bk) (nI pl) br)), (a 1, .inl (cm 1, 1400, .inl fT))]) [3, 4] (by decide) rfl
              have hFc := va_free (wc := [(h0, .inr (11, gP a i g (nI cd) (nI zs) (nI w138) w139 bd bp bq (nI bk) (nI pl) br)), (a 1, .inl (cm 1, 1400, .inl fT))]) hD hS hA [3, 4] rfl
              refine va_calli (va_runV (As := [.int 200]) (rest := []) ⟨hx, hb, hml, hown, hts⟩ (c_number l D _ h0 a cm i g fT cd zs w138 w139 bd bp bq bk pl br 200 200 bt (by omega) (by omega) hbt rfl (by decide)) (cwV 1 hts g_c_statement_c_number_348 rfl rfl rfl (by decide +kernel) ⟨(Nat.le_of_ble_eq_true rfl), (Nat.le_of_ble_eq_true rfl)⟩) (PcW_V (q0 := 0) hPc hKc hDc rfl rfl) rfl rfl hl.1 rfl (lv_room (Nat.le_of_ble_eq_true rfl)) dX11_statement_142 ⟨(Nat.le_of_ble_eq_true rfl), (Nat.le_of_ble_eq_true rfl)⟩) hS (fun q _ h => hFc q h) hFc (fun r142 uu tt H locs htt hvm hw hB hz1 hk1 hS => ?_)
              obtain ⟨w143, w144, w145, w146, w147⟩ := uu
              obtain ⟨hP1, hK1, hD1⟩ := hB
              rw [htt] at hP1
              have hK1 := va_K.moved hvm.symm hK1
              have hP1 : va_P D vwCl [(h0, .inr (11, gP a i g (nI cd) (nI zs) (nI w143) w144 w145 w146 w147 (nI bk) (nI pl) br)), (a 1, .inl (cm 1, 1400, .inl fT))] H := hP1
              obtain ⟨hP, hD⟩ := va_join (wr := [(a 19, .inl (cm 19, 2000, .inl fc)), (a 28, .inl (cm 28, 6, .inl fo)), (a 29, .inl (cm 29, 700, .inl fl))]) (w1 := [(h0, .inr (11, gP a i g (nI cd) (nI zs) (nI w143) w144 w145 w146 w147 (nI bk) (nI pl) br)), (a 1, .inl (cm 1, 1400, .inl fT))]) hP hD [3, 4] [0, 1, 2] rfl rfl (by decide) (by decide) hk1 hFc hP1 hD1
              have hP : va_P D vwCl [(a 19, .inl (cm 19, 2000, .inl fc)), (a 28, .inl (cm 28, 6, .inl fo)), (a 29, .inl (cm 29, 700, .inl fl)), (h0, .inr (11, gP a i g (nI cd) (nI zs) (nI w143) w144 w145 w146 w147 (nI bk) (nI pl) br)), (a 1, .inl (cm 1, 1400, .inl fT))] H := hP
              have hD : va_D A [(a 19, .inl (cm 19, 2000, .inl fc)), (a 28, .inl (cm 28, 6, .inl fo)), (a 29, .inl (cm 29, 700, .inl fl)), (h0, .inr (11, gP a i g (nI cd) (nI zs) (nI w143) w144 w145 w146 w147 (nI bk) (nI pl) br)), (a 1, .inl (cm 1, 1400, .inl fT))] := hD
              try dsimp only at hw
              clear hz1 hk1 hFc hPc hKc hDc
              obtain ⟨hb148_1, hb148_2, hb148_b, hb148_V, hb148_N⟩ := hw
              refine lv_istore_n (lv' := [(2, .int r142), (1, .int (nI w2)), (0, .ref h0)]) hx hb dX11_statement_145 rfl hl (by decide) rfl (fun ls hl => ?_)
              refine lv_aload_n hx hb dX11_statement_146 rfl (lv_at hl 2 rfl) ?_
              refine lv_iconst (v := 4) hx hb dX11_statement_147 (by decide) ?_
              refine lv_iload_n hx hb dX11_statement_148 rfl (lv_at hl 0 rfl) ?_
              have hWo : w145 = 0 → bk ≤ 4 ∧ PSt fc fo cd bk (4 - 4) := fun _ => ⟨by omega, hW⟩
              have hT3 : TR bt zs vz 3 8 cd fc bk fo w138 w139 := by rw [hA_r137_n, hpl2]; exact hTw.2 (fun _ => by omega)
              have hPc := hP.sub (ws' := [(h0, .inr (11, gP a i g (nI cd) (nI zs) (nI w143) w144 w145 w146 w147 (nI bk) (nI pl) br)), (a 1, .inl (cm 1, 1400, .inl fT)), (a 19, .inl (cm 19, 2000, .inl fc)), (a 28, .inl (cm 28, 6, .inl fo))]) [3, 4, 0, 1] rfl
              have hKc := hK.sub (tys' := [(cm 1, .byte), (cm 19, .int), (cm 28, .int)]) [0, 1, 2] rfl
              have hDc := hD.sub (ws' := [(h0, .inr (11, gP a i g (nI cd) (nI zs) (nI w143) w144 w145 w146 w147 (nI bk) (nI pl) br)), (a 1, .inl (cm 1, 1400, .inl fT)), (a 19, .inl (cm 19, 2000, .inl fc)), (a 28, .inl (cm 28, 6, .inl fo))]) [3, 4, 0, 1] (by decide) rfl
              have hFc := va_free (wc := [(h0, .inr (11, gP a i g (nI cd) (nI zs) (nI w143) w144 w145 w146 w147 (nI bk) (nI pl) br)), (a 1, .inl (cm 1, 1400, .inl fT)), (a 19, .inl (cm 19, 2000, .inl fc)), (a 28, .inl (cm 28, 6, .inl fo))]) hD hS hA [3, 4, 0, 1] rfl
              refine va_callv (va_runV (As := [.int (nI 4), .int r142]) (rest := []) ⟨hx, hb, hml, hown, hts⟩ (c_opens l D _ h0 a cm i g fT fc fo cd zs w143 w144 w145 w146 w147 bk pl br 4 r142 bt vz (by omega) (by omega) (by omega) (by omega) (by omega) hWo hbt (fun z => Or.inl ⟨rfl, _, by rw [(hb148_V z).2.2.2.2, (hb148_V z).2.2.2.1]; exact (hT3.num hzs).1 (hb148_V z).1 (hb148_V z).2.1, (hb148_V z).2.2.1⟩) (fun z => (hT3.num hzs).2 (hb148_N hb0 z))) (cwV 2 hts g_c_statement_c_opens_373 rfl rfl rfl (by decide +kernel) ⟨(Nat.le_of_ble_eq_true rfl), (Nat.le_of_ble_eq_true rfl)⟩) (PcW_V (q0 := 0) hPc hKc hDc rfl rfl) rfl rfl hl.1 rfl (lv_room (Nat.le_of_ble_eq_true rfl)) dX11_statement_149 ⟨(Nat.le_of_ble_eq_true rfl), (Nat.le_of_ble_eq_true rfl)⟩) hS (fun q _ h => hFc q h) hFc (fun uu tt H locs htt hvm hw hB hz1 hk1 hS => ?_)
              obtain ⟨w150, w151, w152, w153, w154, w155, w156, w157⟩ := uu
              obtain ⟨hP1, hK1, hD1⟩ := hB
              rw [htt] at hP1
              have hK1 := va_K.moved hvm.symm hK1
              have hP1 : va_P D vwCl [(h0, .inr (11, gP a i g (nI w152) (nI zs) (nI w153) w144 w154 w155 w156 (nI w157) (nI pl) br)), (a 1, .inl (cm 1, 1400, .inl fT)), (a 19, .inl (cm 19, 2000, .inl w150)), (a 28, .inl (cm 28, 6, .inl w151))] H := hP1
              obtain ⟨hP, hD⟩ := va_join (wr := [(a 29, .inl (cm 29, 700, .inl fl))]) (w1 := [(h0, .inr (11, gP a i g (nI w152) (nI zs) (nI w153) w144 w154 w155 w156 (nI w157) (nI pl) br)), (a 1, .inl (cm 1, 1400, .inl fT)), (a 19, .inl (cm 19, 2000, .inl w150)), (a 28, .inl (cm 28, 6, .inl w151))]) hP hD [3, 4, 0, 1] [2] rfl rfl (by decide) (by decide) hk1 hFc hP1 hD1
              have hP : va_P D vwCl [(a 29, .inl (cm 29, 700, .inl fl)), (h0, .inr (11, gP a i g (nI w152) (nI zs) (nI w153) w144 w154 w155 w156 (nI w157) (nI pl) br)), (a 1, .inl (cm 1, 1400, .inl fT)), (a 19, .inl (cm 19, 2000, .inl w150)), (a 28, .inl (cm 28, 6, .inl w151))] H := hP
              have hD : va_D A [(a 29, .inl (cm 29, 700, .inl fl)), (h0, .inr (11, gP a i g (nI w152) (nI zs) (nI w153) w144 w154 w155 w156 (nI w157) (nI pl) br)), (a 1, .inl (cm 1, 1400, .inl fT)), (a 19, .inl (cm 19, 2000, .inl w150)), (a 28, .inl (cm 28, 6, .inl w151))] := hD
              try dsimp only at hw
              clear hz1 hk1 hFc hPc hKc hDc
              obtain ⟨ho158_1, ho158_2, ho158_3, ho158_4, ho158_b, ho158_V, ho158_N⟩ := hw
              exact W.vret hx hb hr (fun t ht hW => ⟨⟨(w150, w151, fl, w152, w153, w144, w154, w155, w156, w157, pl, br), rfl, (by (try dsimp only); exact ⟨ho158_1, ho158_3, ho158_4, fun z => ⟨by have := (ho158_b z).2.1; omega, (ho158_b z).2.2⟩, ho158_V, ho158_N⟩), by rw [ht]; exact hP.sub [1, 2, 3, 4, 0] rfl, va_K.moved hW.alike (hK.sub [0, 1, 2, 3] rfl), hD.sub [1, 2, 3, 4, 0] (by decide) rfl⟩, hS.F ht⟩) hS.2.2 dX11_statement_152
            ·
              have hbk5 : bk = 5 := (nI_eq (b := 5) (by omega) (by decide)).mp hc141
              refine lv_aload_n hx hb dX11_statement_132 rfl (lv_at hl 1 rfl) ?_
              refine lv_iconst (v := 3) hx hb dX11_statement_133 (by decide) ?_
              refine lv_iload_n hx hb dX11_statement_134 rfl (lv_at hl 0 rfl) ?_
              have hPc := hP.sub (ws' := [(h0, .inr (11, gP a i g (nI cd) (nI zs) (nI w138) w139 bd bp bq (nI bk) (nI pl) br))]) [3] rfl
              have hKc := hK.sub (tys' := []) [] rfl
              have hDc := hD.sub (ws' := [(h0, .inr (11, gP a i g (nI cd) (nI zs) (nI w138) w139 bd bp bq (nI bk) (nI pl) br))]) [3] (by decide) rfl
              have hFc := va_free (wc := [(h0, .inr (11, gP a i g (nI cd) (nI zs) (nI w138) w139 bd bp bq (nI bk) (nI pl) br))]) hD hS hA [3] rfl
              refine va_callv (va_runV (As := [.int 3, .int (nI w2)]) (rest := []) ⟨hx, hb, hml, hown, hts⟩ (c_fail l D _ h0 a cm i g cd zs w138 w139 bd bp bq bk pl br 3 (nI w2) (by decide)) (cwV 2 hts g_c_statement_c_fail_310 rfl rfl rfl (by decide +kernel) ⟨(Nat.le_of_ble_eq_true rfl), (Nat.le_of_ble_eq_true rfl)⟩) (PcW_V (q0 := 0) hPc hKc hDc rfl rfl) rfl rfl hl.1 rfl (lv_room (Nat.le_of_ble_eq_true rfl)) dX11_statement_135 ⟨(Nat.le_of_ble_eq_true rfl), (Nat.le_of_ble_eq_true rfl)⟩) hS (fun q _ h => hFc q h) hFc (fun uu tt H locs htt hvm hw hB hz1 hk1 hS => ?_)
              obtain ⟨w160, w161, w162⟩ := uu
              obtain ⟨hP1, hK1, hD1⟩ := hB
              rw [htt] at hP1
              have hK1 := va_K.moved hvm.symm hK1
              have hP1 : va_P D vwCl [(h0, .inr (11, gP a i g (nI cd) (nI zs) (nI w138) w139 w160 w161 w162 (nI bk) (nI pl) br))] H := hP1
              obtain ⟨hP, hD⟩ := va_join (wr := [(a 19, .inl (cm 19, 2000, .inl fc)), (a 28, .inl (cm 28, 6, .inl fo)), (a 29, .inl (cm 29, 700, .inl fl)), (a 1, .inl (cm 1, 1400, .inl fT))]) (w1 := [(h0, .inr (11, gP a i g (nI cd) (nI zs) (nI w138) w139 w160 w161 w162 (nI bk) (nI pl) br))]) hP hD [3] [0, 1, 2, 4] rfl rfl (by decide) (by decide) hk1 hFc hP1 hD1
              have hP : va_P D vwCl [(a 19, .inl (cm 19, 2000, .inl fc)), (a 28, .inl (cm 28, 6, .inl fo)), (a 29, .inl (cm 29, 700, .inl fl)), (a 1, .inl (cm 1, 1400, .inl fT)), (h0, .inr (11, gP a i g (nI cd) (nI zs) (nI w138) w139 w160 w161 w162 (nI bk) (nI pl) br))] H := hP
              have hD : va_D A [(a 19, .inl (cm 19, 2000, .inl fc)), (a 28, .inl (cm 28, 6, .inl fo)), (a 29, .inl (cm 29, 700, .inl fl)), (a 1, .inl (cm 1, 1400, .inl fT)), (h0, .inr (11, gP a i g (nI cd) (nI zs) (nI w138) w139 w160 w161 w162 (nI bk) (nI pl) br))] := hD
              try dsimp only at hw
              clear hz1 hk1 hFc hPc hKc hDc
              have hb163_b := hw
              refine lv_aload_n hx hb dX11_statement_138 rfl (lv_at hl 1 rfl) ?_
              refine lv_sipush (v := 200) hx hb dX11_statement_139 (by decide) ?_
              have hPc := hP.sub (ws' := [(h0, .inr (11, gP a i g (nI cd) (nI zs) (nI w138) w139 w160 w161 w162 (nI bk) (nI pl) br)), (a 1, .inl (cm 1, 1400, .inl fT))]) [4, 3] rfl
              have hKc := hK.sub (tys' := [(cm 1, .byte)]) [0] rfl
              have hDc := hD.sub (ws' := [(h0, .inr (11, gP a i g (nI cd) (nI zs) (nI w138) w139 w160 w161 w162 (nI bk) (nI pl) br)), (a 1, .inl (cm 1, 1400, .inl fT))]) [4, 3] (by decide) rfl
              have hFc := va_free (wc := [(h0, .inr (11, gP a i g (nI cd) (nI zs) (nI w138) w139 w160 w161 w162 (nI bk) (nI pl) br)), (a 1, .inl (cm 1, 1400, .inl fT))]) hD hS hA [4, 3] rfl
              refine va_calli (va_runV (As := [.int 200]) (rest := []) ⟨hx, hb, hml, hown, hts⟩ (c_number l D _ h0 a cm i g fT cd zs w138 w139 w160 w161 w162 bk pl br 200 200 bt (by omega) (by omega) hbt rfl (by decide)) (cwV 1 hts g_c_statement_c_number_348 rfl rfl rfl (by decide +kernel) ⟨(Nat.le_of_ble_eq_true rfl), (Nat.le_of_ble_eq_true rfl)⟩) (PcW_V (q0 := 0) hPc hKc hDc rfl rfl) rfl rfl hl.1 rfl (lv_room (Nat.le_of_ble_eq_true rfl)) dX11_statement_142 ⟨(Nat.le_of_ble_eq_true rfl), (Nat.le_of_ble_eq_true rfl)⟩) hS (fun q _ h => hFc q h) hFc (fun r164 uu tt H locs htt hvm hw hB hz1 hk1 hS => ?_)
              obtain ⟨w165, w166, w167, w168, w169⟩ := uu
              obtain ⟨hP1, hK1, hD1⟩ := hB
              rw [htt] at hP1
              have hK1 := va_K.moved hvm.symm hK1
              have hP1 : va_P D vwCl [(h0, .inr (11, gP a i g (nI cd) (nI zs) (nI w165) w166 w167 w168 w169 (nI bk) (nI pl) br)), (a 1, .inl (cm 1, 1400, .inl fT))] H := hP1
              obtain ⟨hP, hD⟩ := va_join (wr := [(a 19, .inl (cm 19, 2000, .inl fc)), (a 28, .inl (cm 28, 6, .inl fo)), (a 29, .inl (cm 29, 700, .inl fl))]) (w1 := [(h0, .inr (11, gP a i g (nI cd) (nI zs) (nI w165) w166 w167 w168 w169 (nI bk) (nI pl) br)), (a 1, .inl (cm 1, 1400, .inl fT))]) hP hD [4, 3] [0, 1, 2] rfl rfl (by decide) (by decide) hk1 hFc hP1 hD1
              have hP : va_P D vwCl [(a 19, .inl (cm 19, 2000, .inl fc)), (a 28, .inl (cm 28, 6, .inl fo)), (a 29, .inl (cm 29, 700, .inl fl)), (h0, .inr (11, gP a i g (nI cd) (nI zs) (nI w165) w166 w167 w168 w169 (nI bk) (nI pl) br)), (a 1, .inl (cm 1, 1400, .inl fT))] H := hP
              have hD : va_D A [(a 19, .inl (cm 19, 2000, .inl fc)), (a 28, .inl (cm 28, 6, .inl fo)), (a 29, .inl (cm 29, 700, .inl fl)), (h0, .inr (11, gP a i g (nI cd) (nI zs) (nI w165) w166 w167 w168 w169 (nI bk) (nI pl) br)), (a 1, .inl (cm 1, 1400, .inl fT))] := hD
              try dsimp only at hw
              clear hz1 hk1 hFc hPc hKc hDc
              obtain ⟨hb170_1, hb170_2, hb170_b, hb170_V, hb170_N⟩ := hw
              refine lv_istore_n (lv' := [(2, .int r164), (1, .int (nI w2)), (0, .ref h0)]) hx hb dX11_statement_145 rfl hl (by decide) rfl (fun ls hl => ?_)
              refine lv_aload_n hx hb dX11_statement_146 rfl (lv_at hl 2 rfl) ?_
              refine lv_iconst (v := 4) hx hb dX11_statement_147 (by decide) ?_
              refine lv_iload_n hx hb dX11_statement_148 rfl (lv_at hl 0 rfl) ?_
              have hWo : w167 = 0 → bk ≤ 4 ∧ PSt fc fo cd bk (4 - 4) := fun z => absurd (hb170_b z).1 hb163_b
              have hPc := hP.sub (ws' := [(h0, .inr (11, gP a i g (nI cd) (nI zs) (nI w165) w166 w167 w168 w169 (nI bk) (nI pl) br)), (a 1, .inl (cm 1, 1400, .inl fT)), (a 19, .inl (cm 19, 2000, .inl fc)), (a 28, .inl (cm 28, 6, .inl fo))]) [3, 4, 0, 1] rfl
              have hKc := hK.sub (tys' := [(cm 1, .byte), (cm 19, .int), (cm 28, .int)]) [0, 1, 2] rfl
              have hDc := hD.sub (ws' := [(h0, .inr (11, gP a i g (nI cd) (nI zs) (nI w165) w166 w167 w168 w169 (nI bk) (nI pl) br)), (a 1, .inl (cm 1, 1400, .inl fT)), (a 19, .inl (cm 19, 2000, .inl fc)), (a 28, .inl (cm 28, 6, .inl fo))]) [3, 4, 0, 1] (by decide) rfl
              have hFc := va_free (wc := [(h0, .inr (11, gP a i g (nI cd) (nI zs) (nI w165) w166 w167 w168 w169 (nI bk) (nI pl) br)), (a 1, .inl (cm 1, 1400, .inl fT)), (a 19, .inl (cm 19, 2000, .inl fc)), (a 28, .inl (cm 28, 6, .inl fo))]) hD hS hA [3, 4, 0, 1] rfl
              refine va_callv (va_runV (As := [.int (nI 4), .int r164]) (rest := []) ⟨hx, hb, hml, hown, hts⟩ (c_opens l D _ h0 a cm i g fT fc fo cd zs w165 w166 w167 w168 w169 bk pl br 4 r164 bt vz (by omega) (by omega) (by omega) (by omega) (by omega) hWo hbt (fun z => absurd (hb170_b z).1 hb163_b) (fun _ => hTw.1 (by decide) hbk5)) (cwV 2 hts g_c_statement_c_opens_373 rfl rfl rfl (by decide +kernel) ⟨(Nat.le_of_ble_eq_true rfl), (Nat.le_of_ble_eq_true rfl)⟩) (PcW_V (q0 := 0) hPc hKc hDc rfl rfl) rfl rfl hl.1 rfl (lv_room (Nat.le_of_ble_eq_true rfl)) dX11_statement_149 ⟨(Nat.le_of_ble_eq_true rfl), (Nat.le_of_ble_eq_true rfl)⟩) hS (fun q _ h => hFc q h) hFc (fun uu tt H locs htt hvm hw hB hz1 hk1 hS => ?_)
              obtain ⟨w172, w173, w174, w175, w176, w177, w178, w179⟩ := uu
              obtain ⟨hP1, hK1, hD1⟩ := hB
              rw [htt] at hP1
              have hK1 := va_K.moved hvm.symm hK1
              have hP1 : va_P D vwCl [(h0, .inr (11, gP a i g (nI w174) (nI zs) (nI w175) w166 w176 w177 w178 (nI w179) (nI pl) br)), (a 1, .inl (cm 1, 1400, .inl fT)), (a 19, .inl (cm 19, 2000, .inl w172)), (a 28, .inl (cm 28, 6, .inl w173))] H := hP1
              obtain ⟨hP, hD⟩ := va_join (wr := [(a 29, .inl (cm 29, 700, .inl fl))]) (w1 := [(h0, .inr (11, gP a i g (nI w174) (nI zs) (nI w175) w166 w176 w177 w178 (nI w179) (nI pl) br)), (a 1, .inl (cm 1, 1400, .inl fT)), (a 19, .inl (cm 19, 2000, .inl w172)), (a 28, .inl (cm 28, 6, .inl w173))]) hP hD [3, 4, 0, 1] [2] rfl rfl (by decide) (by decide) hk1 hFc hP1 hD1
              have hP : va_P D vwCl [(a 29, .inl (cm 29, 700, .inl fl)), (h0, .inr (11, gP a i g (nI w174) (nI zs) (nI w175) w166 w176 w177 w178 (nI w179) (nI pl) br)), (a 1, .inl (cm 1, 1400, .inl fT)), (a 19, .inl (cm 19, 2000, .inl w172)), (a 28, .inl (cm 28, 6, .inl w173))] H := hP
              have hD : va_D A [(a 29, .inl (cm 29, 700, .inl fl)), (h0, .inr (11, gP a i g (nI w174) (nI zs) (nI w175) w166 w176 w177 w178 (nI w179) (nI pl) br)), (a 1, .inl (cm 1, 1400, .inl fT)), (a 19, .inl (cm 19, 2000, .inl w172)), (a 28, .inl (cm 28, 6, .inl w173))] := hD
              try dsimp only at hw
              clear hz1 hk1 hFc hPc hKc hDc
              obtain ⟨ho180_1, ho180_2, ho180_3, ho180_4, ho180_b, ho180_V, ho180_N⟩ := hw
              exact W.vret hx hb hr (fun t ht hW => ⟨⟨(w172, w173, fl, w174, w175, w166, w176, w177, w178, w179, pl, br), rfl, (by (try dsimp only); exact ⟨ho180_1, ho180_3, ho180_4, fun z => ⟨by have := (ho180_b z).2.1; omega, (ho180_b z).2.2⟩, ho180_V, ho180_N⟩), by rw [ht]; exact hP.sub [1, 2, 3, 4, 0] rfl, va_K.moved hW.alike (hK.sub [0, 1, 2, 3] rfl), hD.sub [1, 2, 3, 4, 0] (by decide) rfl⟩, hS.F ht⟩) hS.2.2 dX11_statement_152
          ·
            obtain ⟨hA_r137_1, hA_r137_2, hA_r137_e, hA_r137_n, hA_r137_w⟩ := hA_r137
            have hq181 : w138 = tkA bt zs ta := hA_r137_e.trans (tkA_w hq136 hta)
            have hq181_e : w139 = en := hA_r137_n.trans hq136_e
            have hnw8 : ¬ WdP bt zs ta en 8 := fun z => hA_r137_w hb0 ((WdP_at hq136 hta hq136_e).mpr z)
            refine lv_if_eq (tgt := 153) hx hb dX11_statement_121 (by decide) (fun hc => ?_) (fun hc => absurd (by decide) hc)
            refine lv_aload_n hx hb dX11_statement_153 rfl (lv_at hl 1 rfl) ?_
            refine lv_sipush (v := 294) hx hb dX11_statement_154 (by decide) ?_
            have hPc := hP.sub (ws' := [(h0, .inr (11, gP a i g (nI cd) (nI zs) (nI w138) w139 bd bp bq (nI bk) (nI pl) br)), (a 1, .inl (cm 1, 1400, .inl fT))]) [3, 4] rfl
            have hKc := hK.sub (tys' := [(cm 1, .byte)]) [0] rfl
            have hDc := hD.sub (ws' := [(h0, .inr (11, gP a i g (nI cd) (nI zs) (nI w138) w139 bd bp bq (nI bk) (nI pl) br)), (a 1, .inl (cm 1, 1400, .inl fT))]) [3, 4] (by decide) rfl
            have hFc := va_free (wc := [(h0, .inr (11, gP a i g (nI cd) (nI zs) (nI w138) w139 bd bp bq (nI bk) (nI pl) br)), (a 1, .inl (cm 1, 1400, .inl fT))]) hD hS hA [3, 4] rfl
            refine va_calli (va_runV (As := [.int 294]) (rest := []) ⟨hx, hb, hml, hown, hts⟩ (c_takesWord l D _ h0 a cm i g fT cd zs w138 w139 bd bp bq bk pl br 294 9 bt (by omega) (by omega) hbt rfl) (cwV 1 hts g_c_statement_c_takesWord_329 rfl rfl rfl (by decide +kernel) ⟨(Nat.le_of_ble_eq_true rfl), (Nat.le_of_ble_eq_true rfl)⟩) (PcW_V (q0 := 0) hPc hKc hDc rfl rfl) rfl rfl hl.1 rfl (lv_room (Nat.le_of_ble_eq_true rfl)) dX11_statement_157 ⟨(Nat.le_of_ble_eq_true rfl), (Nat.le_of_ble_eq_true rfl)⟩) hS (fun q _ h => hFc q h) hFc (fun r182 uu tt H locs htt hvm hw hB hz1 hk1 hS => ?_)
            obtain ⟨w183, w184⟩ := uu
            obtain ⟨hP1, hK1, hD1⟩ := hB
            rw [htt] at hP1
            have hK1 := va_K.moved hvm.symm hK1
            have hP1 : va_P D vwCl [(h0, .inr (11, gP a i g (nI cd) (nI zs) (nI w183) w184 bd bp bq (nI bk) (nI pl) br)), (a 1, .inl (cm 1, 1400, .inl fT))] H := hP1
            obtain ⟨hP, hD⟩ := va_join (wr := [(a 19, .inl (cm 19, 2000, .inl fc)), (a 28, .inl (cm 28, 6, .inl fo)), (a 29, .inl (cm 29, 700, .inl fl))]) (w1 := [(h0, .inr (11, gP a i g (nI cd) (nI zs) (nI w183) w184 bd bp bq (nI bk) (nI pl) br)), (a 1, .inl (cm 1, 1400, .inl fT))]) hP hD [3, 4] [0, 1, 2] rfl rfl (by decide) (by decide) hk1 hFc hP1 hD1
            have hP : va_P D vwCl [(a 19, .inl (cm 19, 2000, .inl fc)), (a 28, .inl (cm 28, 6, .inl fo)), (a 29, .inl (cm 29, 700, .inl fl)), (h0, .inr (11, gP a i g (nI cd) (nI zs) (nI w183) w184 bd bp bq (nI bk) (nI pl) br)), (a 1, .inl (cm 1, 1400, .inl fT))] H := hP
            have hD : va_D A [(a 19, .inl (cm 19, 2000, .inl fc)), (a 28, .inl (cm 28, 6, .inl fo)), (a 29, .inl (cm 29, 700, .inl fl)), (h0, .inr (11, gP a i g (nI cd) (nI zs) (nI w183) w184 bd bp bq (nI bk) (nI pl) br)), (a 1, .inl (cm 1, 1400, .inl fT))] := hD
            try dsimp only at hw
            clear hz1 hk1 hFc hPc hKc hDc
            rcases hw with ⟨rfl, hA_r182⟩ | ⟨rfl, hA_r182⟩
            ·
              obtain ⟨hA_r182_0, hA_r182_1, hA_r182_2, hA_r182_e, hA_r182_n, hA_r182_w⟩ := hA_r182
              have hwd : WdP bt zs ta en 9 := (WdP_at hq181 hta hq181_e).mp hA_r182_w
              have hpl2 : w183 = spE (ltB bt) zs (tkA bt zs ta) := by rw [hA_r182_e, tkA_w hq181 hta]
              have hTw := hV.wrd hzs (by decide) hwd
              refine lv_if_eq (tgt := 195) hx hb dX11_statement_160 (by decide) (fun hc => absurd hc (by decide)) (fun hc => ?_)
              refine lv_aload_n hx hb dX11_statement_163 rfl (lv_at hl 1 rfl) ?_
              refine va_get (D := D) (ci := 11) (v := .int (nI bk)) (C := RX11) (T := TX11) (N := 47) hx hb hts hin_X11 hown hK hP 3 rfl rfl 27 (by decide) (hts (.fieldLink RX11 286 "ClashFreeModel" "blocks" "I") (List.mem_of_getElem? (i := 24) rfl)) (fun _ h9 => h9) rfl dX11_statement_164 ?_
              refine lv_iconst (v := 5) hx hb dX11_statement_167 (by decide) ?_
              refine lv_icmp_ne (tgt := 177) hx hb dX11_statement_168 (by decide) (fun hc186 => ?_) (fun hc186 => ?_)
              ·
                have hb4 : bk ≤ 4 := by
                  rcases Nat.lt_or_ge bk 5 with z | z
                  · omega
                  · exact absurd (by rw [show bk = 5 by omega]; rfl) hc186
                have hTk : bd = 0 → TR bt zs vz 1 9 cd fc bk fo w183 w184 := fun _ => by rw [hA_r182_n, hpl2]; exact hTw.2 (fun _ => by omega)
                refine lv_aload_n hx hb dX11_statement_177 rfl (lv_at hl 1 rfl) ?_
                have hPc := hP.sub (ws' := [(h0, .inr (11, gP a i g (nI cd) (nI zs) (nI w183) w184 bd bp bq (nI bk) (nI pl) br))]) [3] rfl
                have hKc := hK.sub (tys' := []) [] rfl
                have hFc := va_free0 hS hA
                refine va_calli (va_runV (As := []) (rest := []) ⟨hx, hb, hml, hown, hts⟩ (c_isFine l D _ h0 a cm i g cd zs w183 w184 bd bp bq bk pl br) (cwV 0 hts g_c_statement_c_isFine_313 rfl rfl rfl (by decide +kernel) ⟨(Nat.le_of_ble_eq_true rfl), (Nat.le_of_ble_eq_true rfl)⟩) (PcR_V (q0 := 0) hPc hKc rfl rfl) rfl rfl hl.1 rfl (lv_room (Nat.le_of_ble_eq_true rfl)) dX11_statement_178 ⟨(Nat.le_of_ble_eq_true rfl), (Nat.le_of_ble_eq_true rfl)⟩) hS (fun q _ h => hFc q h) hFc (fun r187 uu tt H locs htt hvm hw hB hz1 hk1 hS => ?_)
                have hP := va_keep hP hk1
                try dsimp only at hw
                clear hB hz1 hk1 hFc hPc hKc
                rcases hw with ⟨rfl, hA_r187⟩ | ⟨rfl, hA_r187⟩
                ·
                  refine lv_if_eq (tgt := 188) hx hb dX11_statement_181 (by decide) (fun hc => absurd hc (by decide)) (fun hc => ?_)
                  refine lv_aload_n hx hb dX11_statement_184 rfl (lv_at hl 1 rfl) ?_
                  have hPc := hP.sub (ws' := [(h0, .inr (11, gP a i g (nI cd) (nI zs) (nI w183) w184 bd bp bq (nI bk) (nI pl) br)), (a 1, .inl (cm 1, 1400, .inl fT)), (a 19, .inl (cm 19, 2000, .inl fc)), (a 29, .inl (cm 29, 700, .inl fl))]) [3, 4, 0, 2] rfl
                  have hKc := hK.sub (tys' := [(cm 1, .byte), (cm 19, .int), (cm 29, .int)]) [0, 1, 3] rfl
                  have hDc := hD.sub (ws' := [(h0, .inr (11, gP a i g (nI cd) (nI zs) (nI w183) w184 bd bp bq (nI bk) (nI pl) br)), (a 1, .inl (cm 1, 1400, .inl fT)), (a 19, .inl (cm 19, 2000, .inl fc)), (a 29, .inl (cm 29, 700, .inl fl))]) [3, 4, 0, 2] (by decide) rfl
                  have hFc := va_free (wc := [(h0, .inr (11, gP a i g (nI cd) (nI zs) (nI w183) w184 bd bp bq (nI bk) (nI pl) br)), (a 1, .inl (cm 1, 1400, .inl fT)), (a 19, .inl (cm 19, 2000, .inl fc)), (a 29, .inl (cm 29, 700, .inl fl))]) hD hS hA [3, 4, 0, 2] rfl
                  refine va_callv (va_runV (As := []) (rest := []) ⟨hx, hb, hml, hown, hts⟩ (c_sum l D _ h0 a cm i g fT fc fl cd zs w183 w184 bd bp bq bk pl br fo 0 1 bt 9 vz (by omega) (by omega) (by omega) hWf hbt hTk (fun z => absurd hb0 z)) (cwV 0 hts g_c_statement_c_sum_366 rfl rfl rfl (by decide +kernel) ⟨(Nat.le_of_ble_eq_true rfl), (Nat.le_of_ble_eq_true rfl)⟩) (PcW_V (q0 := 0) hPc hKc hDc rfl rfl) rfl rfl hl.1 rfl (lv_room (Nat.le_of_ble_eq_true rfl)) dX11_statement_185 ⟨(Nat.le_of_ble_eq_true rfl), (Nat.le_of_ble_eq_true rfl)⟩) hS (fun q _ h => hFc q h) hFc (fun uu tt H locs htt hvm hw hB hz1 hk1 hS => ?_)
                  obtain ⟨w189, w190, w191, w192, w193, w194, w195, w196, w197, w198⟩ := uu
                  obtain ⟨hP1, hK1, hD1⟩ := hB
                  rw [htt] at hP1
                  have hK1 := va_K.moved hvm.symm hK1
                  have hP1 : va_P D vwCl [(h0, .inr (11, gP a i g (nI w191) (nI zs) (nI w192) w193 w194 w195 w196 (nI bk) (nI w197) w198)), (a 1, .inl (cm 1, 1400, .inl fT)), (a 19, .inl (cm 19, 2000, .inl w189)), (a 29, .inl (cm 29, 700, .inl w190))] H := hP1
                  obtain ⟨hP, hD⟩ := va_join (wr := [(a 28, .inl (cm 28, 6, .inl fo))]) (w1 := [(h0, .inr (11, gP a i g (nI w191) (nI zs) (nI w192) w193 w194 w195 w196 (nI bk) (nI w197) w198)), (a 1, .inl (cm 1, 1400, .inl fT)), (a 19, .inl (cm 19, 2000, .inl w189)), (a 29, .inl (cm 29, 700, .inl w190))]) hP hD [3, 4, 0, 2] [1] rfl rfl (by decide) (by decide) hk1 hFc hP1 hD1
                  have hP : va_P D vwCl [(a 28, .inl (cm 28, 6, .inl fo)), (h0, .inr (11, gP a i g (nI w191) (nI zs) (nI w192) w193 w194 w195 w196 (nI bk) (nI w197) w198)), (a 1, .inl (cm 1, 1400, .inl fT)), (a 19, .inl (cm 19, 2000, .inl w189)), (a 29, .inl (cm 29, 700, .inl w190))] H := hP
                  have hD : va_D A [(a 28, .inl (cm 28, 6, .inl fo)), (h0, .inr (11, gP a i g (nI w191) (nI zs) (nI w192) w193 w194 w195 w196 (nI bk) (nI w197) w198)), (a 1, .inl (cm 1, 1400, .inl fT)), (a 19, .inl (cm 19, 2000, .inl w189)), (a 29, .inl (cm 29, 700, .inl w190))] := hD
                  try dsimp only at hw
                  clear hz1 hk1 hFc hPc hKc hDc
                  obtain ⟨hs199_1, hs199_2, hs199_3, hs199_b, hs199_V, hs199_N⟩ := hw
                  have hs199_W := fun z => (hs199_b z).2
                  refine lv_aload_n hx hb dX11_statement_188 rfl (lv_at hl 1 rfl) ?_
                  refine lv_iconst (v := 5) hx hb dX11_statement_189 (by decide) ?_
                  refine lv_iconst (v := 0) hx hb dX11_statement_190 (by decide) ?_
                  have hWo : w194 = 0 → bk ≤ 4 ∧ PSt w189 fo w191 bk (5 - 4) := fun z => ⟨by omega, hs199_W z⟩
                  have hPc := hP.sub (ws' := [(h0, .inr (11, gP a i g (nI w191) (nI zs) (nI w192) w193 w194 w195 w196 (nI bk) (nI w197) w198)), (a 1, .inl (cm 1, 1400, .inl fT)), (a 19, .inl (cm 19, 2000, .inl w189)), (a 28, .inl (cm 28, 6, .inl fo))]) [1, 2, 3, 0] rfl
                  have hKc := hK.sub (tys' := [(cm 1, .byte), (cm 19, .int), (cm 28, .int)]) [0, 1, 2] rfl
                  have hDc := hD.sub (ws' := [(h0, .inr (11, gP a i g (nI w191) (nI zs) (nI w192) w193 w194 w195 w196 (nI bk) (nI w197) w198)), (a 1, .inl (cm 1, 1400, .inl fT)), (a 19, .inl (cm 19, 2000, .inl w189)), (a 28, .inl (cm 28, 6, .inl fo))]) [1, 2, 3, 0] (by decide) rfl
                  have hFc := va_free (wc := [(h0, .inr (11, gP a i g (nI w191) (nI zs) (nI w192) w193 w194 w195 w196 (nI bk) (nI w197) w198)), (a 1, .inl (cm 1, 1400, .inl fT)), (a 19, .inl (cm 19, 2000, .inl w189)), (a 28, .inl (cm 28, 6, .inl fo))]) hD hS hA [1, 2, 3, 0] rfl
                  refine va_callv (va_runV (As := [.int (nI 5), .int 0]) (rest := []) ⟨hx, hb, hml, hown, hts⟩ (c_opens l D _ h0 a cm i g fT w189 fo w191 zs w192 w193 w194 w195 w196 bk w197 w198 5 0 bt vz (by omega) (by omega) (by omega) (by omega) (by omega) hWo hbt (fun z => Or.inr ⟨rfl, hs199_V z, rfl⟩) hs199_N) (cwV 2 hts g_c_statement_c_opens_373 rfl rfl rfl (by decide +kernel) ⟨(Nat.le_of_ble_eq_true rfl), (Nat.le_of_ble_eq_true rfl)⟩) (PcW_V (q0 := 0) hPc hKc hDc rfl rfl) rfl rfl hl.1 rfl (lv_room (Nat.le_of_ble_eq_true rfl)) dX11_statement_191 ⟨(Nat.le_of_ble_eq_true rfl), (Nat.le_of_ble_eq_true rfl)⟩) hS (fun q _ h => hFc q h) hFc (fun uu tt H locs htt hvm hw hB hz1 hk1 hS => ?_)
                  obtain ⟨w201, w202, w203, w204, w205, w206, w207, w208⟩ := uu
                  obtain ⟨hP1, hK1, hD1⟩ := hB
                  rw [htt] at hP1
                  have hK1 := va_K.moved hvm.symm hK1
                  have hP1 : va_P D vwCl [(h0, .inr (11, gP a i g (nI w203) (nI zs) (nI w204) w193 w205 w206 w207 (nI w208) (nI w197) w198)), (a 1, .inl (cm 1, 1400, .inl fT)), (a 19, .inl (cm 19, 2000, .inl w201)), (a 28, .inl (cm 28, 6, .inl w202))] H := hP1
                  obtain ⟨hP, hD⟩ := va_join (wr := [(a 29, .inl (cm 29, 700, .inl w190))]) (w1 := [(h0, .inr (11, gP a i g (nI w203) (nI zs) (nI w204) w193 w205 w206 w207 (nI w208) (nI w197) w198)), (a 1, .inl (cm 1, 1400, .inl fT)), (a 19, .inl (cm 19, 2000, .inl w201)), (a 28, .inl (cm 28, 6, .inl w202))]) hP hD [1, 2, 3, 0] [4] rfl rfl (by decide) (by decide) hk1 hFc hP1 hD1
                  have hP : va_P D vwCl [(a 29, .inl (cm 29, 700, .inl w190)), (h0, .inr (11, gP a i g (nI w203) (nI zs) (nI w204) w193 w205 w206 w207 (nI w208) (nI w197) w198)), (a 1, .inl (cm 1, 1400, .inl fT)), (a 19, .inl (cm 19, 2000, .inl w201)), (a 28, .inl (cm 28, 6, .inl w202))] H := hP
                  have hD : va_D A [(a 29, .inl (cm 29, 700, .inl w190)), (h0, .inr (11, gP a i g (nI w203) (nI zs) (nI w204) w193 w205 w206 w207 (nI w208) (nI w197) w198)), (a 1, .inl (cm 1, 1400, .inl fT)), (a 19, .inl (cm 19, 2000, .inl w201)), (a 28, .inl (cm 28, 6, .inl w202))] := hD
                  try dsimp only at hw
                  clear hz1 hk1 hFc hPc hKc hDc
                  obtain ⟨ho209_1, ho209_2, ho209_3, ho209_4, ho209_b, ho209_V, ho209_N⟩ := hw
                  exact W.vret hx hb hr (fun t ht hW => ⟨⟨(w201, w202, w190, w203, w204, w193, w205, w206, w207, w208, w197, w198), rfl, (by (try dsimp only); exact ⟨ho209_1, ho209_3, ho209_4, fun z => ⟨by have := (ho209_b z).2.1; omega, (ho209_b z).2.2⟩, ho209_V, ho209_N⟩), by rw [ht]; exact hP.sub [1, 2, 3, 4, 0] rfl, va_K.moved hW.alike (hK.sub [0, 1, 2, 3] rfl), hD.sub [1, 2, 3, 4, 0] (by decide) rfl⟩, hS.F ht⟩) hS.2.2 dX11_statement_194
                ·
                  exact absurd hb0 hA_r187
              ·
                have hbk5 : bk = 5 := (nI_eq (b := 5) (by omega) (by decide)).mp hc186
                refine lv_aload_n hx hb dX11_statement_171 rfl (lv_at hl 1 rfl) ?_
                refine lv_iconst (v := 3) hx hb dX11_statement_172 (by decide) ?_
                refine lv_iload_n hx hb dX11_statement_173 rfl (lv_at hl 0 rfl) ?_
                have hPc := hP.sub (ws' := [(h0, .inr (11, gP a i g (nI cd) (nI zs) (nI w183) w184 bd bp bq (nI bk) (nI pl) br))]) [3] rfl
                have hKc := hK.sub (tys' := []) [] rfl
                have hDc := hD.sub (ws' := [(h0, .inr (11, gP a i g (nI cd) (nI zs) (nI w183) w184 bd bp bq (nI bk) (nI pl) br))]) [3] (by decide) rfl
                have hFc := va_free (wc := [(h0, .inr (11, gP a i g (nI cd) (nI zs) (nI w183) w184 bd bp bq (nI bk) (nI pl) br))]) hD hS hA [3] rfl
                refine va_callv (va_runV (As := [.int 3, .int (nI w2)]) (rest := []) ⟨hx, hb, hml, hown, hts⟩ (c_fail l D _ h0 a cm i g cd zs w183 w184 bd bp bq bk pl br 3 (nI w2) (by decide)) (cwV 2 hts g_c_statement_c_fail_310 rfl rfl rfl (by decide +kernel) ⟨(Nat.le_of_ble_eq_true rfl), (Nat.le_of_ble_eq_true rfl)⟩) (PcW_V (q0 := 0) hPc hKc hDc rfl rfl) rfl rfl hl.1 rfl (lv_room (Nat.le_of_ble_eq_true rfl)) dX11_statement_174 ⟨(Nat.le_of_ble_eq_true rfl), (Nat.le_of_ble_eq_true rfl)⟩) hS (fun q _ h => hFc q h) hFc (fun uu tt H locs htt hvm hw hB hz1 hk1 hS => ?_)
                obtain ⟨w211, w212, w213⟩ := uu
                obtain ⟨hP1, hK1, hD1⟩ := hB
                rw [htt] at hP1
                have hK1 := va_K.moved hvm.symm hK1
                have hP1 : va_P D vwCl [(h0, .inr (11, gP a i g (nI cd) (nI zs) (nI w183) w184 w211 w212 w213 (nI bk) (nI pl) br))] H := hP1
                obtain ⟨hP, hD⟩ := va_join (wr := [(a 19, .inl (cm 19, 2000, .inl fc)), (a 28, .inl (cm 28, 6, .inl fo)), (a 29, .inl (cm 29, 700, .inl fl)), (a 1, .inl (cm 1, 1400, .inl fT))]) (w1 := [(h0, .inr (11, gP a i g (nI cd) (nI zs) (nI w183) w184 w211 w212 w213 (nI bk) (nI pl) br))]) hP hD [3] [0, 1, 2, 4] rfl rfl (by decide) (by decide) hk1 hFc hP1 hD1
                have hP : va_P D vwCl [(a 19, .inl (cm 19, 2000, .inl fc)), (a 28, .inl (cm 28, 6, .inl fo)), (a 29, .inl (cm 29, 700, .inl fl)), (a 1, .inl (cm 1, 1400, .inl fT)), (h0, .inr (11, gP a i g (nI cd) (nI zs) (nI w183) w184 w211 w212 w213 (nI bk) (nI pl) br))] H := hP
                have hD : va_D A [(a 19, .inl (cm 19, 2000, .inl fc)), (a 28, .inl (cm 28, 6, .inl fo)), (a 29, .inl (cm 29, 700, .inl fl)), (a 1, .inl (cm 1, 1400, .inl fT)), (h0, .inr (11, gP a i g (nI cd) (nI zs) (nI w183) w184 w211 w212 w213 (nI bk) (nI pl) br))] := hD
                try dsimp only at hw
                clear hz1 hk1 hFc hPc hKc hDc
                have hb214_b := hw
                refine lv_aload_n hx hb dX11_statement_177 rfl (lv_at hl 1 rfl) ?_
                have hPc := hP.sub (ws' := [(h0, .inr (11, gP a i g (nI cd) (nI zs) (nI w183) w184 w211 w212 w213 (nI bk) (nI pl) br))]) [4] rfl
                have hKc := hK.sub (tys' := []) [] rfl
                have hFc := va_free0 hS hA
                refine va_calli (va_runV (As := []) (rest := []) ⟨hx, hb, hml, hown, hts⟩ (c_isFine l D _ h0 a cm i g cd zs w183 w184 w211 w212 w213 bk pl br) (cwV 0 hts g_c_statement_c_isFine_313 rfl rfl rfl (by decide +kernel) ⟨(Nat.le_of_ble_eq_true rfl), (Nat.le_of_ble_eq_true rfl)⟩) (PcR_V (q0 := 0) hPc hKc rfl rfl) rfl rfl hl.1 rfl (lv_room (Nat.le_of_ble_eq_true rfl)) dX11_statement_178 ⟨(Nat.le_of_ble_eq_true rfl), (Nat.le_of_ble_eq_true rfl)⟩) hS (fun q _ h => hFc q h) hFc (fun r215 uu tt H locs htt hvm hw hB hz1 hk1 hS => ?_)
                have hP := va_keep hP hk1
                try dsimp only at hw
                clear hB hz1 hk1 hFc hPc hKc
                rcases hw with ⟨rfl, hA_r215⟩ | ⟨rfl, hA_r215⟩
                ·
                  exact absurd hA_r215 hb214_b
                ·
                  refine lv_if_eq (tgt := 188) hx hb dX11_statement_181 (by decide) (fun hc => ?_) (fun hc => absurd (by decide) hc)
                  refine lv_aload_n hx hb dX11_statement_188 rfl (lv_at hl 1 rfl) ?_
                  refine lv_iconst (v := 5) hx hb dX11_statement_189 (by decide) ?_
                  refine lv_iconst (v := 0) hx hb dX11_statement_190 (by decide) ?_
                  have hWo : w211 = 0 → bk ≤ 4 ∧ PSt fc fo cd bk (5 - 4) := fun z => absurd z hb214_b
                  have hPc := hP.sub (ws' := [(h0, .inr (11, gP a i g (nI cd) (nI zs) (nI w183) w184 w211 w212 w213 (nI bk) (nI pl) br)), (a 1, .inl (cm 1, 1400, .inl fT)), (a 19, .inl (cm 19, 2000, .inl fc)), (a 28, .inl (cm 28, 6, .inl fo))]) [4, 3, 0, 1] rfl
                  have hKc := hK.sub (tys' := [(cm 1, .byte), (cm 19, .int), (cm 28, .int)]) [0, 1, 2] rfl
                  have hDc := hD.sub (ws' := [(h0, .inr (11, gP a i g (nI cd) (nI zs) (nI w183) w184 w211 w212 w213 (nI bk) (nI pl) br)), (a 1, .inl (cm 1, 1400, .inl fT)), (a 19, .inl (cm 19, 2000, .inl fc)), (a 28, .inl (cm 28, 6, .inl fo))]) [4, 3, 0, 1] (by decide) rfl
                  have hFc := va_free (wc := [(h0, .inr (11, gP a i g (nI cd) (nI zs) (nI w183) w184 w211 w212 w213 (nI bk) (nI pl) br)), (a 1, .inl (cm 1, 1400, .inl fT)), (a 19, .inl (cm 19, 2000, .inl fc)), (a 28, .inl (cm 28, 6, .inl fo))]) hD hS hA [4, 3, 0, 1] rfl
                  refine va_callv (va_runV (As := [.int (nI 5), .int 0]) (rest := []) ⟨hx, hb, hml, hown, hts⟩ (c_opens l D _ h0 a cm i g fT fc fo cd zs w183 w184 w211 w212 w213 bk pl br 5 0 bt vz (by omega) (by omega) (by omega) (by omega) (by omega) hWo hbt (fun z => absurd z hb214_b) (fun _ => hTw.1 (by decide) hbk5)) (cwV 2 hts g_c_statement_c_opens_373 rfl rfl rfl (by decide +kernel) ⟨(Nat.le_of_ble_eq_true rfl), (Nat.le_of_ble_eq_true rfl)⟩) (PcW_V (q0 := 0) hPc hKc hDc rfl rfl) rfl rfl hl.1 rfl (lv_room (Nat.le_of_ble_eq_true rfl)) dX11_statement_191 ⟨(Nat.le_of_ble_eq_true rfl), (Nat.le_of_ble_eq_true rfl)⟩) hS (fun q _ h => hFc q h) hFc (fun uu tt H locs htt hvm hw hB hz1 hk1 hS => ?_)
                  obtain ⟨w217, w218, w219, w220, w221, w222, w223, w224⟩ := uu
                  obtain ⟨hP1, hK1, hD1⟩ := hB
                  rw [htt] at hP1
                  have hK1 := va_K.moved hvm.symm hK1
                  have hP1 : va_P D vwCl [(h0, .inr (11, gP a i g (nI w219) (nI zs) (nI w220) w184 w221 w222 w223 (nI w224) (nI pl) br)), (a 1, .inl (cm 1, 1400, .inl fT)), (a 19, .inl (cm 19, 2000, .inl w217)), (a 28, .inl (cm 28, 6, .inl w218))] H := hP1
                  obtain ⟨hP, hD⟩ := va_join (wr := [(a 29, .inl (cm 29, 700, .inl fl))]) (w1 := [(h0, .inr (11, gP a i g (nI w219) (nI zs) (nI w220) w184 w221 w222 w223 (nI w224) (nI pl) br)), (a 1, .inl (cm 1, 1400, .inl fT)), (a 19, .inl (cm 19, 2000, .inl w217)), (a 28, .inl (cm 28, 6, .inl w218))]) hP hD [4, 3, 0, 1] [2] rfl rfl (by decide) (by decide) hk1 hFc hP1 hD1
                  have hP : va_P D vwCl [(a 29, .inl (cm 29, 700, .inl fl)), (h0, .inr (11, gP a i g (nI w219) (nI zs) (nI w220) w184 w221 w222 w223 (nI w224) (nI pl) br)), (a 1, .inl (cm 1, 1400, .inl fT)), (a 19, .inl (cm 19, 2000, .inl w217)), (a 28, .inl (cm 28, 6, .inl w218))] H := hP
                  have hD : va_D A [(a 29, .inl (cm 29, 700, .inl fl)), (h0, .inr (11, gP a i g (nI w219) (nI zs) (nI w220) w184 w221 w222 w223 (nI w224) (nI pl) br)), (a 1, .inl (cm 1, 1400, .inl fT)), (a 19, .inl (cm 19, 2000, .inl w217)), (a 28, .inl (cm 28, 6, .inl w218))] := hD
                  try dsimp only at hw
                  clear hz1 hk1 hFc hPc hKc hDc
                  obtain ⟨ho225_1, ho225_2, ho225_3, ho225_4, ho225_b, ho225_V, ho225_N⟩ := hw
                  exact W.vret hx hb hr (fun t ht hW => ⟨⟨(w217, w218, fl, w219, w220, w184, w221, w222, w223, w224, pl, br), rfl, (by (try dsimp only); exact ⟨ho225_1, ho225_3, ho225_4, fun z => ⟨by have := (ho225_b z).2.1; omega, (ho225_b z).2.2⟩, ho225_V, ho225_N⟩), by rw [ht]; exact hP.sub [1, 2, 3, 4, 0] rfl, va_K.moved hW.alike (hK.sub [0, 1, 2, 3] rfl), hD.sub [1, 2, 3, 4, 0] (by decide) rfl⟩, hS.F ht⟩) hS.2.2 dX11_statement_194
            ·
              obtain ⟨hA_r182_1, hA_r182_2, hA_r182_e, hA_r182_n, hA_r182_w⟩ := hA_r182
              have hq226 : w183 = tkA bt zs ta := hA_r182_e.trans (tkA_w hq181 hta)
              have hq226_e : w184 = en := hA_r182_n.trans hq181_e
              have hnw9 : ¬ WdP bt zs ta en 9 := fun z => hA_r182_w hb0 ((WdP_at hq181 hta hq181_e).mpr z)
              refine lv_if_eq (tgt := 195) hx hb dX11_statement_160 (by decide) (fun hc => ?_) (fun hc => absurd (by decide) hc)
              refine lv_aload_n hx hb dX11_statement_195 rfl (lv_at hl 1 rfl) ?_
              have hPc := hP.sub (ws' := [(h0, .inr (11, gP a i g (nI cd) (nI zs) (nI w183) w184 bd bp bq (nI bk) (nI pl) br)), (a 1, .inl (cm 1, 1400, .inl fT))]) [3, 4] rfl
              have hKc := hK.sub (tys' := [(cm 1, .byte)]) [0] rfl
              have hDc := hD.sub (ws' := [(h0, .inr (11, gP a i g (nI cd) (nI zs) (nI w183) w184 bd bp bq (nI bk) (nI pl) br)), (a 1, .inl (cm 1, 1400, .inl fT))]) [3, 4] (by decide) rfl
              have hFc := va_free (wc := [(h0, .inr (11, gP a i g (nI cd) (nI zs) (nI w183) w184 bd bp bq (nI bk) (nI pl) br)), (a 1, .inl (cm 1, 1400, .inl fT))]) hD hS hA [3, 4] rfl
              refine va_callv (va_runV (As := []) (rest := []) ⟨hx, hb, hml, hown, hts⟩ (c_unlike l D _ h0 a cm i g fT cd zs w183 w184 bd bp bq bk pl br bt (by omega) (by omega) hbt) (cwV 0 hts g_c_statement_c_unlike_320 rfl rfl rfl (by decide +kernel) ⟨(Nat.le_of_ble_eq_true rfl), (Nat.le_of_ble_eq_true rfl)⟩) (PcW_V (q0 := 0) hPc hKc hDc rfl rfl) rfl rfl hl.1 rfl (lv_room (Nat.le_of_ble_eq_true rfl)) dX11_statement_196 ⟨(Nat.le_of_ble_eq_true rfl), (Nat.le_of_ble_eq_true rfl)⟩) hS (fun q _ h => hFc q h) hFc (fun uu tt H locs htt hvm hw hB hz1 hk1 hS => ?_)
              obtain ⟨w228, w229, w230, w231⟩ := uu
              obtain ⟨hP1, hK1, hD1⟩ := hB
              rw [htt] at hP1
              have hK1 := va_K.moved hvm.symm hK1
              have hP1 : va_P D vwCl [(h0, .inr (11, gP a i g (nI cd) (nI zs) (nI w228) w184 w229 w230 w231 (nI bk) (nI pl) br)), (a 1, .inl (cm 1, 1400, .inl fT))] H := hP1
              obtain ⟨hP, hD⟩ := va_join (wr := [(a 19, .inl (cm 19, 2000, .inl fc)), (a 28, .inl (cm 28, 6, .inl fo)), (a 29, .inl (cm 29, 700, .inl fl))]) (w1 := [(h0, .inr (11, gP a i g (nI cd) (nI zs) (nI w228) w184 w229 w230 w231 (nI bk) (nI pl) br)), (a 1, .inl (cm 1, 1400, .inl fT))]) hP hD [3, 4] [0, 1, 2] rfl rfl (by decide) (by decide) hk1 hFc hP1 hD1
              have hP : va_P D vwCl [(a 19, .inl (cm 19, 2000, .inl fc)), (a 28, .inl (cm 28, 6, .inl fo)), (a 29, .inl (cm 29, 700, .inl fl)), (h0, .inr (11, gP a i g (nI cd) (nI zs) (nI w228) w184 w229 w230 w231 (nI bk) (nI pl) br)), (a 1, .inl (cm 1, 1400, .inl fT))] H := hP
              have hD : va_D A [(a 19, .inl (cm 19, 2000, .inl fc)), (a 28, .inl (cm 28, 6, .inl fo)), (a 29, .inl (cm 29, 700, .inl fl)), (h0, .inr (11, gP a i g (nI cd) (nI zs) (nI w228) w184 w229 w230 w231 (nI bk) (nI pl) br)), (a 1, .inl (cm 1, 1400, .inl fT))] := hD
              try dsimp only at hw
              clear hz1 hk1 hFc hPc hKc hDc
              obtain ⟨hb232_b, hb232_1, hb232_2⟩ := hw
              refine lv_aload_n hx hb dX11_statement_199 rfl (lv_at hl 1 rfl) ?_
              refine lv_bipush (v := 59) hx hb dX11_statement_200 (by decide) ?_
              have hPc := hP.sub (ws' := [(h0, .inr (11, gP a i g (nI cd) (nI zs) (nI w228) w184 w229 w230 w231 (nI bk) (nI pl) br)), (a 1, .inl (cm 1, 1400, .inl fT))]) [3, 4] rfl
              have hKc := hK.sub (tys' := [(cm 1, .byte)]) [0] rfl
              have hDc := hD.sub (ws' := [(h0, .inr (11, gP a i g (nI cd) (nI zs) (nI w228) w184 w229 w230 w231 (nI bk) (nI pl) br)), (a 1, .inl (cm 1, 1400, .inl fT))]) [3, 4] (by decide) rfl
              have hFc := va_free (wc := [(h0, .inr (11, gP a i g (nI cd) (nI zs) (nI w228) w184 w229 w230 w231 (nI bk) (nI pl) br)), (a 1, .inl (cm 1, 1400, .inl fT))]) hD hS hA [3, 4] rfl
              refine va_callv (va_runV (As := [.int 59]) (rest := []) ⟨hx, hb, hml, hown, hts⟩ (c_needsSign l D _ h0 a cm i g fT cd zs w228 w184 w229 w230 w231 bk pl br 59 59 bt (by omega) (by omega) hbt rfl (by decide)) (cwV 1 hts g_c_statement_c_needsSign_363 rfl rfl rfl (by decide +kernel) ⟨(Nat.le_of_ble_eq_true rfl), (Nat.le_of_ble_eq_true rfl)⟩) (PcW_V (q0 := 0) hPc hKc hDc rfl rfl) rfl rfl hl.1 rfl (lv_room (Nat.le_of_ble_eq_true rfl)) dX11_statement_202 ⟨(Nat.le_of_ble_eq_true rfl), (Nat.le_of_ble_eq_true rfl)⟩) hS (fun q _ h => hFc q h) hFc (fun uu tt H locs htt hvm hw hB hz1 hk1 hS => ?_)
              obtain ⟨w234, w235, w236, w237⟩ := uu
              obtain ⟨hP1, hK1, hD1⟩ := hB
              rw [htt] at hP1
              have hK1 := va_K.moved hvm.symm hK1
              have hP1 : va_P D vwCl [(h0, .inr (11, gP a i g (nI cd) (nI zs) (nI w234) w184 w235 w236 w237 (nI bk) (nI pl) br)), (a 1, .inl (cm 1, 1400, .inl fT))] H := hP1
              obtain ⟨hP, hD⟩ := va_join (wr := [(a 19, .inl (cm 19, 2000, .inl fc)), (a 28, .inl (cm 28, 6, .inl fo)), (a 29, .inl (cm 29, 700, .inl fl))]) (w1 := [(h0, .inr (11, gP a i g (nI cd) (nI zs) (nI w234) w184 w235 w236 w237 (nI bk) (nI pl) br)), (a 1, .inl (cm 1, 1400, .inl fT))]) hP hD [3, 4] [0, 1, 2] rfl rfl (by decide) (by decide) hk1 hFc hP1 hD1
              have hP : va_P D vwCl [(a 19, .inl (cm 19, 2000, .inl fc)), (a 28, .inl (cm 28, 6, .inl fo)), (a 29, .inl (cm 29, 700, .inl fl)), (h0, .inr (11, gP a i g (nI cd) (nI zs) (nI w234) w184 w235 w236 w237 (nI bk) (nI pl) br)), (a 1, .inl (cm 1, 1400, .inl fT))] H := hP
              have hD : va_D A [(a 19, .inl (cm 19, 2000, .inl fc)), (a 28, .inl (cm 28, 6, .inl fo)), (a 29, .inl (cm 29, 700, .inl fl)), (h0, .inr (11, gP a i g (nI cd) (nI zs) (nI w234) w184 w235 w236 w237 (nI bk) (nI pl) br)), (a 1, .inl (cm 1, 1400, .inl fT))] := hD
              try dsimp only at hw
              clear hz1 hk1 hFc hPc hKc hDc
              obtain ⟨hb238_1, hb238_2, hb238_b, hb238_s, hb238_n⟩ := hw
              exact W.vret hx hb hr (fun t ht hW => ⟨⟨(fc, fo, fl, cd, w234, w184, w235, w236, w237, bk, pl, br), rfl, (by (try dsimp only); exact ⟨by omega, by omega, hb5, fun z => absurd (hb238_b z).1 hb232_b, fun z => absurd (hb238_b z).1 hb232_b, fun _ => hV.no hzs hnw3 hnw5 hnw6 hnw7 hnw8 hnw9 hnc hne⟩), by rw [ht]; exact hP.sub [3, 4, 0, 1, 2] rfl, va_K.moved hW.alike (hK.sub [0, 1, 2, 3] rfl), hD.sub [3, 4, 0, 1, 2] (by decide) rfl⟩, hS.F ht⟩) hS.2.2 dX11_statement_205

