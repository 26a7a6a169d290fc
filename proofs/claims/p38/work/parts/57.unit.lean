theorem dX11_unit_0 : decode cX11_unit 0 = .ok (.iconst 1, 1) := by decide +kernel
theorem dX11_unit_1 : decode cX11_unit 1 = .ok (.istore_n 1, 1) := by decide +kernel
theorem dX11_unit_2 : decode cX11_unit 2 = .ok (.aload_n 0, 1) := by decide +kernel
theorem dX11_unit_3 : decode cX11_unit 3 = .ok (.invokevirtual 313, 3) := by decide +kernel
theorem dX11_unit_6 : decode cX11_unit 6 = .ok (.ifCond .eq 91, 3) := by decide +kernel
theorem dX11_unit_9 : decode cX11_unit 9 = .ok (.iload_n 1, 1) := by decide +kernel
theorem dX11_unit_10 : decode cX11_unit 10 = .ok (.ifCond .eq 87, 3) := by decide +kernel
theorem dX11_unit_13 : decode cX11_unit 13 = .ok (.aload_n 0, 1) := by decide +kernel
theorem dX11_unit_14 : decode cX11_unit 14 = .ok (.bipush 40, 2) := by decide +kernel
theorem dX11_unit_16 : decode cX11_unit 16 = .ok (.invokevirtual 317, 3) := by decide +kernel
theorem dX11_unit_19 : decode cX11_unit 19 = .ok (.istore_n 1, 1) := by decide +kernel
theorem dX11_unit_20 : decode cX11_unit 20 = .ok (.iload_n 1, 1) := by decide +kernel
theorem dX11_unit_21 : decode cX11_unit 21 = .ok (.ifCond .ne 6, 3) := by decide +kernel
theorem dX11_unit_24 : decode cX11_unit 24 = .ok (.goto (-22), 3) := by decide +kernel
theorem dX11_unit_27 : decode cX11_unit 27 = .ok (.aload_n 0, 1) := by decide +kernel
theorem dX11_unit_28 : decode cX11_unit 28 = .ok (.getfield 338, 3) := by decide +kernel
theorem dX11_unit_31 : decode cX11_unit 31 = .ok (.bipush 8, 2) := by decide +kernel
theorem dX11_unit_33 : decode cX11_unit 33 = .ok (.if_icmp .ne 12, 3) := by decide +kernel
theorem dX11_unit_36 : decode cX11_unit 36 = .ok (.aload_n 0, 1) := by decide +kernel
theorem dX11_unit_37 : decode cX11_unit 37 = .ok (.iconst 3, 1) := by decide +kernel
theorem dX11_unit_38 : decode cX11_unit 38 = .ok (.aload_n 0, 1) := by decide +kernel
theorem dX11_unit_39 : decode cX11_unit 39 = .ok (.getfield 303, 3) := by decide +kernel
theorem dX11_unit_42 : decode cX11_unit 42 = .ok (.invokevirtual 310, 3) := by decide +kernel
theorem dX11_unit_45 : decode cX11_unit 45 = .ok (.aload_n 0, 1) := by decide +kernel
theorem dX11_unit_46 : decode cX11_unit 46 = .ok (.invokevirtual 313, 3) := by decide +kernel
theorem dX11_unit_49 : decode cX11_unit 49 = .ok (.ifCond .ne 4, 3) := by decide +kernel
theorem dX11_unit_52 : decode cX11_unit 52 = .ok (.return_, 1) := by decide +kernel
theorem dX11_unit_53 : decode cX11_unit 53 = .ok (.aload_n 0, 1) := by decide +kernel
theorem dX11_unit_54 : decode cX11_unit 54 = .ok (.dup, 1) := by decide +kernel
theorem dX11_unit_55 : decode cX11_unit 55 = .ok (.getfield 338, 3) := by decide +kernel
theorem dX11_unit_58 : decode cX11_unit 58 = .ok (.iconst 1, 1) := by decide +kernel
theorem dX11_unit_59 : decode cX11_unit 59 = .ok (.iadd, 1) := by decide +kernel
theorem dX11_unit_60 : decode cX11_unit 60 = .ok (.putfield 338, 3) := by decide +kernel
theorem dX11_unit_63 : decode cX11_unit 63 = .ok (.aload_n 0, 1) := by decide +kernel
theorem dX11_unit_64 : decode cX11_unit 64 = .ok (.dup, 1) := by decide +kernel
theorem dX11_unit_65 : decode cX11_unit 65 = .ok (.getfield 303, 3) := by decide +kernel
theorem dX11_unit_68 : decode cX11_unit 68 = .ok (.iconst 1, 1) := by decide +kernel
theorem dX11_unit_69 : decode cX11_unit 69 = .ok (.iadd, 1) := by decide +kernel
theorem dX11_unit_70 : decode cX11_unit 70 = .ok (.putfield 303, 3) := by decide +kernel
theorem dX11_unit_73 : decode cX11_unit 73 = .ok (.aload_n 0, 1) := by decide +kernel
theorem dX11_unit_74 : decode cX11_unit 74 = .ok (.getfield 51, 3) := by decide +kernel
theorem dX11_unit_77 : decode cX11_unit 77 = .ok (.aload_n 0, 1) := by decide +kernel
theorem dX11_unit_78 : decode cX11_unit 78 = .ok (.getfield 341, 3) := by decide +kernel
theorem dX11_unit_81 : decode cX11_unit 81 = .ok (.bipush 18, 2) := by decide +kernel
theorem dX11_unit_83 : decode cX11_unit 83 = .ok (.iastore, 1) := by decide +kernel
theorem dX11_unit_84 : decode cX11_unit 84 = .ok (.aload_n 0, 1) := by decide +kernel
theorem dX11_unit_85 : decode cX11_unit 85 = .ok (.dup, 1) := by decide +kernel
theorem dX11_unit_86 : decode cX11_unit 86 = .ok (.getfield 341, 3) := by decide +kernel
theorem dX11_unit_89 : decode cX11_unit 89 = .ok (.iconst 1, 1) := by decide +kernel
theorem dX11_unit_90 : decode cX11_unit 90 = .ok (.iadd, 1) := by decide +kernel
theorem dX11_unit_91 : decode cX11_unit 91 = .ok (.putfield 341, 3) := by decide +kernel
theorem dX11_unit_94 : decode cX11_unit 94 = .ok (.goto (-92), 3) := by decide +kernel
theorem dX11_unit_97 : decode cX11_unit 97 = .ok (.aload_n 0, 1) := by decide +kernel
theorem dX11_unit_98 : decode cX11_unit 98 = .ok (.bipush 9, 2) := by decide +kernel
theorem dX11_unit_100 : decode cX11_unit 100 = .ok (.invokevirtual 329, 3) := by decide +kernel
theorem dX11_unit_103 : decode cX11_unit 103 = .ok (.ifCond .eq 13, 3) := by decide +kernel
theorem dX11_unit_106 : decode cX11_unit 106 = .ok (.aload_n 0, 1) := by decide +kernel
theorem dX11_unit_107 : decode cX11_unit 107 = .ok (.bipush 11, 2) := by decide +kernel
theorem dX11_unit_109 : decode cX11_unit 109 = .ok (.iconst 0, 1) := by decide +kernel
theorem dX11_unit_110 : decode cX11_unit 110 = .ok (.invokevirtual 344, 3) := by decide +kernel
theorem dX11_unit_113 : decode cX11_unit 113 = .ok (.goto 51, 3) := by decide +kernel
theorem dX11_unit_116 : decode cX11_unit 116 = .ok (.aload_n 0, 1) := by decide +kernel
theorem dX11_unit_117 : decode cX11_unit 117 = .ok (.bipush 24, 2) := by decide +kernel
theorem dX11_unit_119 : decode cX11_unit 119 = .ok (.invokevirtual 329, 3) := by decide +kernel
theorem dX11_unit_122 : decode cX11_unit 122 = .ok (.ifCond .eq 13, 3) := by decide +kernel
theorem dX11_unit_125 : decode cX11_unit 125 = .ok (.aload_n 0, 1) := by decide +kernel
theorem dX11_unit_126 : decode cX11_unit 126 = .ok (.bipush 12, 2) := by decide +kernel
theorem dX11_unit_128 : decode cX11_unit 128 = .ok (.iconst 0, 1) := by decide +kernel
theorem dX11_unit_129 : decode cX11_unit 129 = .ok (.invokevirtual 344, 3) := by decide +kernel
theorem dX11_unit_132 : decode cX11_unit 132 = .ok (.goto 32, 3) := by decide +kernel
theorem dX11_unit_135 : decode cX11_unit 135 = .ok (.aload_n 0, 1) := by decide +kernel
theorem dX11_unit_136 : decode cX11_unit 136 = .ok (.invokevirtual 313, 3) := by decide +kernel
theorem dX11_unit_139 : decode cX11_unit 139 = .ok (.ifCond .eq 25, 3) := by decide +kernel
theorem dX11_unit_142 : decode cX11_unit 142 = .ok (.aload_n 0, 1) := by decide +kernel
theorem dX11_unit_143 : decode cX11_unit 143 = .ok (.ldc_w 347, 3) := by decide +kernel
theorem dX11_unit_146 : decode cX11_unit 146 = .ok (.invokevirtual 348, 3) := by decide +kernel
theorem dX11_unit_149 : decode cX11_unit 149 = .ok (.istore_n 2, 1) := by decide +kernel
theorem dX11_unit_150 : decode cX11_unit 150 = .ok (.aload_n 0, 1) := by decide +kernel
theorem dX11_unit_151 : decode cX11_unit 151 = .ok (.invokevirtual 313, 3) := by decide +kernel
theorem dX11_unit_154 : decode cX11_unit 154 = .ok (.ifCond .eq 10, 3) := by decide +kernel
theorem dX11_unit_157 : decode cX11_unit 157 = .ok (.aload_n 0, 1) := by decide +kernel
theorem dX11_unit_158 : decode cX11_unit 158 = .ok (.bipush 10, 2) := by decide +kernel
theorem dX11_unit_160 : decode cX11_unit 160 = .ok (.iload_n 2, 1) := by decide +kernel
theorem dX11_unit_161 : decode cX11_unit 161 = .ok (.invokevirtual 344, 3) := by decide +kernel
theorem dX11_unit_164 : decode cX11_unit 164 = .ok (.return_, 1) := by decide +kernel
def own_c_unit : List Cond := [.methodLink RX11 313 yX11_isFine, .instanceMethod yX11_isFine, .selects RX11 yX11_isFine yX11_isFine, .initialized RX11, .methodLink RX11 317 yX11_isSign, .instanceMethod yX11_isSign, .selects RX11 yX11_isSign yX11_isSign, .fieldLink RX11 338 "ClashFreeModel" "brackets" "I", .fieldLink RX11 303 "ClashFreeModel" "at" "I", .fieldLink RX11 51 "ClashFreeModel" "pile" "[I", .fieldLink RX11 341 "ClashFreeModel" "piled" "I", .methodLink RX11 310 yX11_fail, .instanceMethod yX11_fail, .selects RX11 yX11_fail yX11_fail, .methodLink RX11 329 yX11_takesWord, .instanceMethod yX11_takesWord, .selects RX11 yX11_takesWord yX11_takesWord, .methodLink RX11 344 yX11_emits, .instanceMethod yX11_emits, .selects RX11 yX11_emits yX11_emits, .constant RX11 347 (999999), .methodLink RX11 348 yX11_number, .instanceMethod yX11_number, .selects RX11 yX11_number yX11_number]
def wp_c_unit : List Cond := .code yX11_unit cX11_unit 3 none :: (own_c_unit ++ (wp_c_isFine ++ (wp_c_isSign ++ (wp_c_fail ++ (wp_c_takesWord ++ (wp_c_emits ++ (wp_c_number ++ (wsX110 ++ ([] : List Cond)))))))))
set_option maxRecDepth 20000 in
theorem inown_c_unit : ∀ w ∈ own_c_unit, w ∈ lw_tbl := mem_places [1669, 1671, 74, 115, 1677, 1679, 76, 1247, 1238, 1245, 1246, 1665, 1667, 73, 1701, 1703, 82, 1685, 1687, 78, 1719, 1720, 1722, 86] (by decide +kernel)
set_option maxRecDepth 20000 in
theorem in_c_unit : ∀ w ∈ wp_c_unit, w ∈ lw_tbl := List.forall_mem_cons.mpr ⟨List.mem_of_getElem? (i := 1718) (by decide +kernel), List.forall_mem_append.mpr ⟨inown_c_unit, List.forall_mem_append.mpr ⟨in_c_isFine, List.forall_mem_append.mpr ⟨in_c_isSign, List.forall_mem_append.mpr ⟨in_c_fail, List.forall_mem_append.mpr ⟨in_c_takesWord, List.forall_mem_append.mpr ⟨in_c_emits, List.forall_mem_append.mpr ⟨in_c_number, List.forall_mem_append.mpr ⟨lwb_X11, fun _ h => absurd h List.not_mem_nil⟩⟩⟩⟩⟩⟩⟩⟩⟩
set_option maxRecDepth 20000 in
theorem good_c_unit : wp_c_unit.all goodWord = true := by decide +kernel
set_option maxRecDepth 20000 in
theorem g_c_unit_c_isFine_313 : GoodIn wp_c_unit (wsV RX11 313 RX11 yX11_isFine wp_c_isFine) := goodIn_sub (List.forall_mem_append.mpr ⟨List.forall_mem_cons.mpr ⟨(List.mem_of_getElem? (i := 1) rfl), List.forall_mem_cons.mpr ⟨(List.mem_of_getElem? (i := 2) rfl), List.forall_mem_cons.mpr ⟨(List.mem_of_getElem? (i := 3) rfl), List.forall_mem_cons.mpr ⟨(List.mem_of_getElem? (i := 4) rfl), fun _ h => absurd h List.not_mem_nil⟩⟩⟩⟩, (fun _ h => (List.mem_cons_of_mem _ (List.mem_append_right _ (List.mem_append_left _ h))))⟩) (by decide +kernel)
set_option maxRecDepth 20000 in
theorem g_c_unit_c_isSign_317 : GoodIn wp_c_unit (wsV RX11 317 RX11 yX11_isSign wp_c_isSign) := goodIn_sub (List.forall_mem_append.mpr ⟨List.forall_mem_cons.mpr ⟨(List.mem_of_getElem? (i := 5) rfl), List.forall_mem_cons.mpr ⟨(List.mem_of_getElem? (i := 6) rfl), List.forall_mem_cons.mpr ⟨(List.mem_of_getElem? (i := 7) rfl), List.forall_mem_cons.mpr ⟨(List.mem_of_getElem? (i := 4) rfl), fun _ h => absurd h List.not_mem_nil⟩⟩⟩⟩, (fun _ h => (List.mem_cons_of_mem _ (List.mem_append_right _ (List.mem_append_right _ (List.mem_append_left _ h)))))⟩) (by decide +kernel)
set_option maxRecDepth 20000 in
theorem g_c_unit_c_fail_310 : GoodIn wp_c_unit (wsV RX11 310 RX11 yX11_fail wp_c_fail) := goodIn_sub (List.forall_mem_append.mpr ⟨List.forall_mem_cons.mpr ⟨(List.mem_of_getElem? (i := 12) rfl), List.forall_mem_cons.mpr ⟨(List.mem_of_getElem? (i := 13) rfl), List.forall_mem_cons.mpr ⟨(List.mem_of_getElem? (i := 14) rfl), List.forall_mem_cons.mpr ⟨(List.mem_of_getElem? (i := 4) rfl), fun _ h => absurd h List.not_mem_nil⟩⟩⟩⟩, (fun _ h => (List.mem_cons_of_mem _ (List.mem_append_right _ (List.mem_append_right _ (List.mem_append_right _ (List.mem_append_left _ h))))))⟩) (by decide +kernel)
set_option maxRecDepth 20000 in
theorem g_c_unit_c_takesWord_329 : GoodIn wp_c_unit (wsV RX11 329 RX11 yX11_takesWord wp_c_takesWord) := goodIn_sub (List.forall_mem_append.mpr ⟨List.forall_mem_cons.mpr ⟨(List.mem_of_getElem? (i := 15) rfl), List.forall_mem_cons.mpr ⟨(List.mem_of_getElem? (i := 16) rfl), List.forall_mem_cons.mpr ⟨(List.mem_of_getElem? (i := 17) rfl), List.forall_mem_cons.mpr ⟨(List.mem_of_getElem? (i := 4) rfl), fun _ h => absurd h List.not_mem_nil⟩⟩⟩⟩, (fun _ h => (List.mem_cons_of_mem _ (List.mem_append_right _ (List.mem_append_right _ (List.mem_append_right _ (List.mem_append_right _ (List.mem_append_left _ h)))))))⟩) (by decide +kernel)
set_option maxRecDepth 20000 in
theorem g_c_unit_c_emits_344 : GoodIn wp_c_unit (wsV RX11 344 RX11 yX11_emits wp_c_emits) := goodIn_sub (List.forall_mem_append.mpr ⟨List.forall_mem_cons.mpr ⟨(List.mem_of_getElem? (i := 18) rfl), List.forall_mem_cons.mpr ⟨(List.mem_of_getElem? (i := 19) rfl), List.forall_mem_cons.mpr ⟨(List.mem_of_getElem? (i := 20) rfl), List.forall_mem_cons.mpr ⟨(List.mem_of_getElem? (i := 4) rfl), fun _ h => absurd h List.not_mem_nil⟩⟩⟩⟩, (fun _ h => (List.mem_cons_of_mem _ (List.mem_append_right _ (List.mem_append_right _ (List.mem_append_right _ (List.mem_append_right _ (List.mem_append_right _ (List.mem_append_left _ h))))))))⟩) (by decide +kernel)
set_option maxRecDepth 20000 in
theorem g_c_unit_c_number_348 : GoodIn wp_c_unit (wsV RX11 348 RX11 yX11_number wp_c_number) := goodIn_sub (List.forall_mem_append.mpr ⟨List.forall_mem_cons.mpr ⟨(List.mem_of_getElem? (i := 22) rfl), List.forall_mem_cons.mpr ⟨(List.mem_of_getElem? (i := 23) rfl), List.forall_mem_cons.mpr ⟨(List.mem_of_getElem? (i := 24) rfl), List.forall_mem_cons.mpr ⟨(List.mem_of_getElem? (i := 4) rfl), fun _ h => absurd h List.not_mem_nil⟩⟩⟩⟩, (fun _ h => (List.mem_cons_of_mem _ (List.mem_append_right _ (List.mem_append_right _ (List.mem_append_right _ (List.mem_append_right _ (List.mem_append_right _ (List.mem_append_right _ (List.mem_append_left _ h)))))))))⟩) (by decide +kernel)
set_option maxHeartbeats 4000000 in
set_option maxRecDepth 100000 in
theorem lp_unit (l : Launch) {p : Program} {e : Env} {s : State} {m : MethodId} {args : Array Value} {below : List Frame} {meth : Method} {c : Code} {Q : State → Prop} {A : Nat → Prop} (D : va_G) (h0 : Nat) (a : Nat → Nat) (cm : Nat → ClassId) (i : Nat → Int32) (g : Nat → Int64) (fT : Nat → Int32) (fc : Nat → Int32) (cd : Nat) (zs : Nat) (ta : Nat) (en : Int32) (bd : Int32) (bp : Int32) (bq : Int32) (bk : Nat) (pl : Nat) (br : Int32) (fo : Nat → Int32) (bs : Nat) (rs : Nat) (bt : Nat → Nat) (tS : Nat) (vz : Option (SM × RC)) (hz6 : zs ≤ 600) (hzs : zs ≤ 1400) (hbt : TieB fT bt) (hx : p.tables.exec = Jvm.exec) (hb : c.code = cX11_unit) (hml : c.maxLocals = 3) (hown : s.vm.findClass RX11 = some m.cls) (hts : ∀ w ∈ wp_c_unit, w.before args s = true) (hA : ∀ q, s.heap.size ≤ q → A q) (hK : va_K D vwCl [(cm 1, .byte), (cm 19, .int), (cm 29, .int)] s) (kx97 : ∀ (ya : Nat), ∀ (yd : Int32), ∀ (ye : Int32), ∀ (yf : Int32), ∀ (yp : Nat), ∀ (yb : Int32), ∀ (gl : Nat → Int32), (ta ≤ ya) → (ya ≤ zs) → (cd + yp + rs ≤ ya) → (PlS gl yp) → (yd = 0 → bd = 0 ∧ PSt fc fo cd bk (bs + nops gl yp)) → (yd = 0 → UR bt zs vz 1 tS cd fc bk fo yp gl yb ya en) → (¬ yd = 0 → vz = none) → (yd = 0 → ¬ SgP bt zs ya 40) → ∀ (H : Heap) (locs : List Loc) (ls : Array Slot), va_P D vwCl [(h0, .inr (11, gP a i g (nI cd) (nI zs) (nI ya) en yd ye yf (nI bk) (nI yp) yb)), (a 1, .inl (cm 1, 1400, .inl fT)), (a 19, .inl (cm 19, 2000, .inl fc)), (a 29, .inl (cm 29, 700, .inl gl))] H → va_D A [(h0, .inr (11, gP a i g (nI cd) (nI zs) (nI ya) en yd ye yf (nI bk) (nI yp) yb)), (a 1, .inl (cm 1, 1400, .inl fT)), (a 19, .inl (cm 19, 2000, .inl fc)), (a 29, .inl (cm 29, 700, .inl gl))] → va_S A s.heap H locs → lv_has ls 3 [(0, .ref h0)] → W p l e ({ frames := 5, cells := 0, slots := 0, locals := 150 }) s m args below meth c H locs 0 0 Q (F0 m 97 ls [])) (kx52 : ∀ (ya : Nat), ∀ (yd : Int32), ∀ (ye : Int32), ∀ (yf : Int32), ∀ (yp : Nat), ∀ (yb : Int32), ∀ (gl : Nat → Int32), (ta ≤ ya) → (ya ≤ zs) → (cd + yp + rs ≤ ya) → (PlS gl yp) → (yd = 0 → bd = 0 ∧ PSt fc fo cd bk (bs + nops gl yp)) → (yd = 0 → UR bt zs vz 1 tS cd fc bk fo yp gl yb ya en) → (¬ yd = 0 → vz = none) → (¬ yd = 0) → ∀ (H : Heap) (locs : List Loc) (ls : Array Slot), va_P D vwCl [(h0, .inr (11, gP a i g (nI cd) (nI zs) (nI ya) en yd ye yf (nI bk) (nI yp) yb)), (a 1, .inl (cm 1, 1400, .inl fT)), (a 19, .inl (cm 19, 2000, .inl fc)), (a 29, .inl (cm 29, 700, .inl gl))] H → va_D A [(h0, .inr (11, gP a i g (nI cd) (nI zs) (nI ya) en yd ye yf (nI bk) (nI yp) yb)), (a 1, .inl (cm 1, 1400, .inl fT)), (a 19, .inl (cm 19, 2000, .inl fc)), (a 29, .inl (cm 29, 700, .inl gl))] → va_S A s.heap H locs → lv_has ls 3 [(0, .ref h0)] → W p l e ({ frames := 5, cells := 0, slots := 0, locals := 150 }) s m args below meth c H locs 0 0 Q (F0 m 52 ls [])) : ∀ (N : Nat), ∀ (ya : Nat), ∀ (yd : Int32), ∀ (ye : Int32), ∀ (yf : Int32), ∀ (yp : Nat), ∀ (yb : Int32), ∀ (gl : Nat → Int32), (ta ≤ ya) → (ya ≤ zs) → (cd + yp + rs ≤ ya) → (PlS gl yp) → (yd = 0 → bd = 0 ∧ PSt fc fo cd bk (bs + nops gl yp)) → (yd = 0 → UR bt zs vz 1 tS cd fc bk fo yp gl yb ya en) → (¬ yd = 0 → vz = none) → zs - ya < N → ∀ (H : Heap) (locs : List Loc) (ls : Array Slot), va_P D vwCl [(h0, .inr (11, gP a i g (nI cd) (nI zs) (nI ya) en yd ye yf (nI bk) (nI yp) yb)), (a 1, .inl (cm 1, 1400, .inl fT)), (a 19, .inl (cm 19, 2000, .inl fc)), (a 29, .inl (cm 29, 700, .inl gl))] H → va_D A [(h0, .inr (11, gP a i g (nI cd) (nI zs) (nI ya) en yd ye yf (nI bk) (nI yp) yb)), (a 1, .inl (cm 1, 1400, .inl fT)), (a 19, .inl (cm 19, 2000, .inl fc)), (a 29, .inl (cm 29, 700, .inl gl))] → va_S A s.heap H locs → lv_has ls 3 [(1, .int 1), (0, .ref h0)] → W p l e ({ frames := 5, cells := 0, slots := 0, locals := 150 }) s m args below meth c H locs 0 0 Q (F0 m 2 ls []) := by
  have hin_X11 : ∀ w ∈ wsX110, w ∈ wp_c_unit := fun _ h => (List.mem_cons_of_mem _ (List.mem_append_right _ (List.mem_append_right _ (List.mem_append_right _ (List.mem_append_right _ (List.mem_append_right _ (List.mem_append_right _ (List.mem_append_right _ (List.mem_append_left _ h)))))))))
  intro N
  induction N with
  | zero =>
    intro ya yd ye yf yp yb gl hi1 hi2 hi3 hPl hWl hVl hNl hm
    exact absurd hm (Nat.not_lt_zero _)
  | succ N ih =>
    intro ya yd ye yf yp yb gl hi1 hi2 hi3 hPl hWl hVl hNl hm H locs ls hP hD hS hl
    refine lv_aload_n hx hb dX11_unit_2 rfl (lv_at hl 1 rfl) ?_
    have hPc := hP.sub (ws' := [(h0, .inr (11, gP a i g (nI cd) (nI zs) (nI ya) en yd ye yf (nI bk) (nI yp) yb))]) [0] rfl
    have hKc := hK.sub (tys' := []) [] rfl
    have hFc := va_free0 hS hA
    refine va_calli (va_runV (As := []) (rest := []) ⟨hx, hb, hml, hown, hts⟩ (c_isFine l D _ h0 a cm i g cd zs ya en yd ye yf bk yp yb) (cwV 0 hts g_c_unit_c_isFine_313 rfl rfl rfl (by decide +kernel) ⟨(Nat.le_of_ble_eq_true rfl), (Nat.le_of_ble_eq_true rfl)⟩) (PcR_V (q0 := 0) hPc hKc rfl rfl) rfl rfl hl.1 rfl (lv_room (Nat.le_of_ble_eq_true rfl)) dX11_unit_3 ⟨(Nat.le_of_ble_eq_true rfl), (Nat.le_of_ble_eq_true rfl)⟩) hS (fun q _ h => hFc q h) hFc (fun r1 uu tt H locs htt hvm hw hB hz1 hk1 hS => ?_)
    have hP := va_keep hP hk1
    try dsimp only at hw
    clear hB hz1 hk1 hFc hPc hKc
    rcases hw with ⟨rfl, hA_r1⟩ | ⟨rfl, hA_r1⟩
    ·
      refine lv_if_eq (tgt := 97) hx hb dX11_unit_6 (by decide) (fun hc => absurd hc (by decide)) (fun hc => ?_)
      refine lv_iload_n hx hb dX11_unit_9 rfl (lv_at hl 0 rfl) ?_
      refine lv_if_eq (tgt := 97) hx hb dX11_unit_10 (by decide) (fun hc => absurd hc (by decide)) (fun hc => ?_)
      refine lv_aload_n hx hb dX11_unit_13 rfl (lv_at hl 1 rfl) ?_
      refine lv_bipush (v := 40) hx hb dX11_unit_14 (by decide) ?_
      have hPc := hP.sub (ws' := [(h0, .inr (11, gP a i g (nI cd) (nI zs) (nI ya) en yd ye yf (nI bk) (nI yp) yb)), (a 1, .inl (cm 1, 1400, .inl fT))]) [0, 1] rfl
      have hKc := hK.sub (tys' := [(cm 1, .byte)]) [0] rfl
      have hDc := hD.sub (ws' := [(h0, .inr (11, gP a i g (nI cd) (nI zs) (nI ya) en yd ye yf (nI bk) (nI yp) yb)), (a 1, .inl (cm 1, 1400, .inl fT))]) [0, 1] (by decide) rfl
      have hFc := va_free (wc := [(h0, .inr (11, gP a i g (nI cd) (nI zs) (nI ya) en yd ye yf (nI bk) (nI yp) yb)), (a 1, .inl (cm 1, 1400, .inl fT))]) hD hS hA [0, 1] rfl
      refine va_calli (va_runV (As := [.int 40]) (rest := []) ⟨hx, hb, hml, hown, hts⟩ (c_isSign l D _ h0 a cm i g fT cd zs ya en yd ye yf bk yp yb 40 40 bt (by omega) (by omega) hbt rfl (by decide)) (cwV 1 hts g_c_unit_c_isSign_317 rfl rfl rfl (by decide +kernel) ⟨(Nat.le_of_ble_eq_true rfl), (Nat.le_of_ble_eq_true rfl)⟩) (PcW_V (q0 := 0) hPc hKc hDc rfl rfl) rfl rfl hl.1 rfl (lv_room (Nat.le_of_ble_eq_true rfl)) dX11_unit_16 ⟨(Nat.le_of_ble_eq_true rfl), (Nat.le_of_ble_eq_true rfl)⟩) hS (fun q _ h => hFc q h) hFc (fun r2 uu tt H locs htt hvm hw hB hz1 hk1 hS => ?_)
      obtain ⟨w3, rfl⟩ : ∃ z, z = uu := ⟨_, rfl⟩
      obtain ⟨hP1, hK1, hD1⟩ := hB
      rw [htt] at hP1
      have hK1 := va_K.moved hvm.symm hK1
      have hP1 : va_P D vwCl [(h0, .inr (11, gP a i g (nI cd) (nI zs) (nI w3) en yd ye yf (nI bk) (nI yp) yb)), (a 1, .inl (cm 1, 1400, .inl fT))] H := hP1
      obtain ⟨hP, hD⟩ := va_join (wr := [(a 19, .inl (cm 19, 2000, .inl fc)), (a 29, .inl (cm 29, 700, .inl gl))]) (w1 := [(h0, .inr (11, gP a i g (nI cd) (nI zs) (nI w3) en yd ye yf (nI bk) (nI yp) yb)), (a 1, .inl (cm 1, 1400, .inl fT))]) hP hD [0, 1] [2, 3] rfl rfl (by decide) (by decide) hk1 hFc hP1 hD1
      have hP : va_P D vwCl [(a 19, .inl (cm 19, 2000, .inl fc)), (a 29, .inl (cm 29, 700, .inl gl)), (h0, .inr (11, gP a i g (nI cd) (nI zs) (nI w3) en yd ye yf (nI bk) (nI yp) yb)), (a 1, .inl (cm 1, 1400, .inl fT))] H := hP
      have hD : va_D A [(a 19, .inl (cm 19, 2000, .inl fc)), (a 29, .inl (cm 29, 700, .inl gl)), (h0, .inr (11, gP a i g (nI cd) (nI zs) (nI w3) en yd ye yf (nI bk) (nI yp) yb)), (a 1, .inl (cm 1, 1400, .inl fT))] := hD
      try dsimp only at hw
      clear hz1 hk1 hFc hPc hKc hDc
      rcases hw with ⟨rfl, hA_r2⟩ | ⟨rfl, hA_r2⟩
      ·
        obtain ⟨hA_r2_1, hA_r2_2, hA_r2_e, hA_r2_s⟩ := hA_r2
        refine lv_istore_n (lv' := [(1, .int 1), (0, .ref h0)]) hx hb dX11_unit_19 rfl hl (by decide) rfl (fun ls hl => ?_)
        refine lv_iload_n hx hb dX11_unit_20 rfl (lv_at hl 0 rfl) ?_
        refine lv_if_ne (tgt := 27) hx hb dX11_unit_21 (by decide) (fun hc => ?_) (fun hc => absurd hc (by decide))
        refine lv_aload_n hx hb dX11_unit_27 rfl (lv_at hl 1 rfl) ?_
        refine va_get (D := D) (ci := 11) (v := .int yb) (C := RX11) (T := TX11) (N := 47) hx hb hts hin_X11 hown hK hP 2 rfl rfl 31 (by decide) (hts (.fieldLink RX11 338 "ClashFreeModel" "brackets" "I") (List.mem_of_getElem? (i := 8) rfl)) (fun _ h9 => h9) rfl dX11_unit_28 ?_
        refine lv_bipush (v := 8) hx hb dX11_unit_31 (by decide) ?_
        refine lv_icmp_ne (tgt := 45) hx hb dX11_unit_33 (by decide) (fun hc4 => ?_) (fun hc4 => ?_)
        ·
          refine lv_aload_n hx hb dX11_unit_45 rfl (lv_at hl 1 rfl) ?_
          have hPc := hP.sub (ws' := [(h0, .inr (11, gP a i g (nI cd) (nI zs) (nI w3) en yd ye yf (nI bk) (nI yp) yb))]) [2] rfl
          have hKc := hK.sub (tys' := []) [] rfl
          have hFc := va_free0 hS hA
          refine va_calli (va_runV (As := []) (rest := []) ⟨hx, hb, hml, hown, hts⟩ (c_isFine l D _ h0 a cm i g cd zs w3 en yd ye yf bk yp yb) (cwV 0 hts g_c_unit_c_isFine_313 rfl rfl rfl (by decide +kernel) ⟨(Nat.le_of_ble_eq_true rfl), (Nat.le_of_ble_eq_true rfl)⟩) (PcR_V (q0 := 0) hPc hKc rfl rfl) rfl rfl hl.1 rfl (lv_room (Nat.le_of_ble_eq_true rfl)) dX11_unit_46 ⟨(Nat.le_of_ble_eq_true rfl), (Nat.le_of_ble_eq_true rfl)⟩) hS (fun q _ h => hFc q h) hFc (fun r5 uu tt H locs htt hvm hw hB hz1 hk1 hS => ?_)
          have hP := va_keep hP hk1
          try dsimp only at hw
          clear hB hz1 hk1 hFc hPc hKc
          rcases hw with ⟨rfl, hA_r5⟩ | ⟨rfl, hA_r5⟩
          ·
            refine lv_if_ne (tgt := 53) hx hb dX11_unit_49 (by decide) (fun hc => ?_) (fun hc => absurd hc (by decide))
            refine lv_aload_n hx hb dX11_unit_53 rfl (lv_at hl 1 rfl) ?_
            refine lv_dup hx hb dX11_unit_54 rfl ?_
            refine va_get (D := D) (ci := 11) (v := .int yb) (C := RX11) (T := TX11) (N := 47) hx hb hts hin_X11 hown hK hP 2 rfl rfl 31 (by decide) (hts (.fieldLink RX11 338 "ClashFreeModel" "brackets" "I") (List.mem_of_getElem? (i := 8) rfl)) (fun _ h9 => h9) rfl dX11_unit_55 ?_
            refine lv_iconst (v := 1) hx hb dX11_unit_58 (by decide) ?_
            refine lv_iadd hx hb dX11_unit_59 ?_
            refine lv_topi (fun v6 ev6 => ?_)
            obtain rfl : v6 = yb + 1 := ev6.trans (rfl)
            refine va_put (D := D) (ci := 11) (v := .int (yb + 1)) (ty := .int) (C := RX11) (T := TX11) (N := 47) hx hb hts hin_X11 tyX11 tyX11_ok nmX11 hown hK hP hD hS 2 rfl rfl 31 (by decide) (hts (.fieldLink RX11 338 "ClashFreeModel" "brackets" "I") (List.mem_of_getElem? (i := 8) rfl)) (fun _ h9 => h9) rfl (by decide +kernel) rfl rfl (Nat.le_of_ble_eq_true rfl) dX11_unit_60 (fun H locs hP hD hS => ?_)
            have hP : va_P D vwCl [(a 19, .inl (cm 19, 2000, .inl fc)), (a 29, .inl (cm 29, 700, .inl gl)), (h0, .inr (11, gP a i g (nI cd) (nI zs) (nI w3) en yd ye yf (nI bk) (nI yp) (yb + 1))), (a 1, .inl (cm 1, 1400, .inl fT))] H := hP
            have hD : va_D A [(a 19, .inl (cm 19, 2000, .inl fc)), (a 29, .inl (cm 29, 700, .inl gl)), (h0, .inr (11, gP a i g (nI cd) (nI zs) (nI w3) en yd ye yf (nI bk) (nI yp) (yb + 1))), (a 1, .inl (cm 1, 1400, .inl fT))] := hD
            refine lv_aload_n hx hb dX11_unit_63 rfl (lv_at hl 1 rfl) ?_
            refine lv_dup hx hb dX11_unit_64 rfl ?_
            refine va_get (D := D) (ci := 11) (v := .int (nI w3)) (C := RX11) (T := TX11) (N := 47) hx hb hts hin_X11 hown hK hP 2 rfl rfl 22 (by decide) (hts (.fieldLink RX11 303 "ClashFreeModel" "at" "I") (List.mem_of_getElem? (i := 9) rfl)) (fun _ h9 => h9) rfl dX11_unit_65 ?_
            refine lv_iconst (v := 1) hx hb dX11_unit_68 (by decide) ?_
            refine lv_iadd hx hb dX11_unit_69 ?_
            refine lv_topi (fun v7 ev7 => ?_)
            obtain rfl : v7 = nI (w3 + 1) := ev7.trans (nI_1 _)
            refine va_put (D := D) (ci := 11) (v := .int (nI (w3 + 1))) (ty := .int) (C := RX11) (T := TX11) (N := 47) hx hb hts hin_X11 tyX11 tyX11_ok nmX11 hown hK hP hD hS 2 rfl rfl 22 (by decide) (hts (.fieldLink RX11 303 "ClashFreeModel" "at" "I") (List.mem_of_getElem? (i := 9) rfl)) (fun _ h9 => h9) rfl (by decide +kernel) rfl rfl (Nat.le_of_ble_eq_true rfl) dX11_unit_70 (fun H locs hP hD hS => ?_)
            have hP : va_P D vwCl [(a 19, .inl (cm 19, 2000, .inl fc)), (a 29, .inl (cm 29, 700, .inl gl)), (h0, .inr (11, gP a i g (nI cd) (nI zs) (nI (w3 + 1)) en yd ye yf (nI bk) (nI yp) (yb + 1))), (a 1, .inl (cm 1, 1400, .inl fT))] H := hP
            have hD : va_D A [(a 19, .inl (cm 19, 2000, .inl fc)), (a 29, .inl (cm 29, 700, .inl gl)), (h0, .inr (11, gP a i g (nI cd) (nI zs) (nI (w3 + 1)) en yd ye yf (nI bk) (nI yp) (yb + 1))), (a 1, .inl (cm 1, 1400, .inl fT))] := hD
            refine lv_aload_n hx hb dX11_unit_73 rfl (lv_at hl 1 rfl) ?_
            refine va_get (D := D) (ci := 11) (v := .ref (a 29)) (C := RX11) (T := TX11) (N := 47) hx hb hts hin_X11 hown hK hP 2 rfl rfl 29 (by decide) (hts (.fieldLink RX11 51 "ClashFreeModel" "pile" "[I") (List.mem_of_getElem? (i := 10) rfl)) (fun _ h9 => h9) rfl dX11_unit_74 ?_
            refine lv_aload_n hx hb dX11_unit_77 rfl (lv_at hl 1 rfl) ?_
            refine va_get (D := D) (ci := 11) (v := .int (nI yp)) (C := RX11) (T := TX11) (N := 47) hx hb hts hin_X11 hown hK hP 2 rfl rfl 30 (by decide) (hts (.fieldLink RX11 341 "ClashFreeModel" "piled" "I") (List.mem_of_getElem? (i := 11) rfl)) (fun _ h9 => h9) rfl dX11_unit_78 ?_
            refine lv_bipush (v := 18) hx hb dX11_unit_81 (by decide) ?_
            refine va_iast hx hb hK hP hD hS 1 2 rfl rfl (vp_in_nI (by omega) (by decide)) dX11_unit_83 (fun H locs hP hD hS => ?_)
            have hP : va_P D vwCl [(a 19, .inl (cm 19, 2000, .inl fc)), (a 29, .inl (cm 29, 700, .inl (upd gl (Int32.toNatClampNeg (nI yp)) 18))), (h0, .inr (11, gP a i g (nI cd) (nI zs) (nI (w3 + 1)) en yd ye yf (nI bk) (nI yp) (yb + 1))), (a 1, .inl (cm 1, 1400, .inl fT))] H := hP
            have hD : va_D A [(a 19, .inl (cm 19, 2000, .inl fc)), (a 29, .inl (cm 29, 700, .inl (upd gl (Int32.toNatClampNeg (nI yp)) 18))), (h0, .inr (11, gP a i g (nI cd) (nI zs) (nI (w3 + 1)) en yd ye yf (nI bk) (nI yp) (yb + 1))), (a 1, .inl (cm 1, 1400, .inl fT))] := hD
            rw [show (upd gl (Int32.toNatClampNeg (nI yp)) 18) = (upd gl yp 18) from by rw [nI_clamp (by omega)]] at hP hD
            refine lv_aload_n hx hb dX11_unit_84 rfl (lv_at hl 1 rfl) ?_
            refine lv_dup hx hb dX11_unit_85 rfl ?_
            refine va_get (D := D) (ci := 11) (v := .int (nI yp)) (C := RX11) (T := TX11) (N := 47) hx hb hts hin_X11 hown hK hP 2 rfl rfl 30 (by decide) (hts (.fieldLink RX11 341 "ClashFreeModel" "piled" "I") (List.mem_of_getElem? (i := 11) rfl)) (fun _ h9 => h9) rfl dX11_unit_86 ?_
            refine lv_iconst (v := 1) hx hb dX11_unit_89 (by decide) ?_
            refine lv_iadd hx hb dX11_unit_90 ?_
            refine lv_topi (fun v8 ev8 => ?_)
            obtain rfl : v8 = nI (yp + 1) := ev8.trans (nI_1 _)
            refine va_put (D := D) (ci := 11) (v := .int (nI (yp + 1))) (ty := .int) (C := RX11) (T := TX11) (N := 47) hx hb hts hin_X11 tyX11 tyX11_ok nmX11 hown hK hP hD hS 2 rfl rfl 30 (by decide) (hts (.fieldLink RX11 341 "ClashFreeModel" "piled" "I") (List.mem_of_getElem? (i := 11) rfl)) (fun _ h9 => h9) rfl (by decide +kernel) rfl rfl (Nat.le_of_ble_eq_true rfl) dX11_unit_91 (fun H locs hP hD hS => ?_)
            have hP : va_P D vwCl [(a 19, .inl (cm 19, 2000, .inl fc)), (a 29, .inl (cm 29, 700, .inl (upd gl yp 18))), (h0, .inr (11, gP a i g (nI cd) (nI zs) (nI (w3 + 1)) en yd ye yf (nI bk) (nI (yp + 1)) (yb + 1))), (a 1, .inl (cm 1, 1400, .inl fT))] H := hP
            have hD : va_D A [(a 19, .inl (cm 19, 2000, .inl fc)), (a 29, .inl (cm 29, 700, .inl (upd gl yp 18))), (h0, .inr (11, gP a i g (nI cd) (nI zs) (nI (w3 + 1)) en yd ye yf (nI bk) (nI (yp + 1)) (yb + 1))), (a 1, .inl (cm 1, 1400, .inl fT))] := hD
            refine lv_goto (tgt := 2) hx hb dX11_unit_94 (by decide) ?_
            exact ih (w3 + 1) yd ye yf (yp + 1) (yb + 1) (upd gl yp 18) (by omega) (by omega) (by omega) (PlS_push (x := 18) hPl (by omega) (by omega)) (fun z => ⟨(hWl z).1, by have hq := nops_push gl yp (x := 18) (by omega); rw [if_pos rfl, Nat.add_zero] at hq; exact hq.symm ▸ (hWl z).2⟩) (fun z => by rw [hA_r2_e]; exact ((hVl z).par hA_r2_s).2 hc4) (fun z => absurd hA_r1 z) (by omega) H locs ls (hP.sub [2, 3, 0, 1] rfl) (hD.sub [2, 3, 0, 1] (by decide) rfl) hS (lv_sub hl [0, 1] rfl)
          ·
            exact absurd hA_r1 hA_r5
        ·
          refine lv_aload_n hx hb dX11_unit_36 rfl (lv_at hl 1 rfl) ?_
          refine lv_iconst (v := 3) hx hb dX11_unit_37 (by decide) ?_
          refine lv_aload_n hx hb dX11_unit_38 rfl (lv_at hl 1 rfl) ?_
          refine va_get (D := D) (ci := 11) (v := .int (nI w3)) (C := RX11) (T := TX11) (N := 47) hx hb hts hin_X11 hown hK hP 2 rfl rfl 22 (by decide) (hts (.fieldLink RX11 303 "ClashFreeModel" "at" "I") (List.mem_of_getElem? (i := 9) rfl)) (fun _ h9 => h9) rfl dX11_unit_39 ?_
          have hPc := hP.sub (ws' := [(h0, .inr (11, gP a i g (nI cd) (nI zs) (nI w3) en yd ye yf (nI bk) (nI yp) yb))]) [2] rfl
          have hKc := hK.sub (tys' := []) [] rfl
          have hDc := hD.sub (ws' := [(h0, .inr (11, gP a i g (nI cd) (nI zs) (nI w3) en yd ye yf (nI bk) (nI yp) yb))]) [2] (by decide) rfl
          have hFc := va_free (wc := [(h0, .inr (11, gP a i g (nI cd) (nI zs) (nI w3) en yd ye yf (nI bk) (nI yp) yb))]) hD hS hA [2] rfl
          refine va_callv (va_runV (As := [.int 3, .int (nI w3)]) (rest := []) ⟨hx, hb, hml, hown, hts⟩ (c_fail l D _ h0 a cm i g cd zs w3 en yd ye yf bk yp yb 3 (nI w3) (by decide)) (cwV 2 hts g_c_unit_c_fail_310 rfl rfl rfl (by decide +kernel) ⟨(Nat.le_of_ble_eq_true rfl), (Nat.le_of_ble_eq_true rfl)⟩) (PcW_V (q0 := 0) hPc hKc hDc rfl rfl) rfl rfl hl.1 rfl (lv_room (Nat.le_of_ble_eq_true rfl)) dX11_unit_42 ⟨(Nat.le_of_ble_eq_true rfl), (Nat.le_of_ble_eq_true rfl)⟩) hS (fun q _ h => hFc q h) hFc (fun uu tt H locs htt hvm hw hB hz1 hk1 hS => ?_)
          obtain ⟨w10, w11, w12⟩ := uu
          obtain ⟨hP1, hK1, hD1⟩ := hB
          rw [htt] at hP1
          have hK1 := va_K.moved hvm.symm hK1
          have hP1 : va_P D vwCl [(h0, .inr (11, gP a i g (nI cd) (nI zs) (nI w3) en w10 w11 w12 (nI bk) (nI yp) yb))] H := hP1
          obtain ⟨hP, hD⟩ := va_join (wr := [(a 19, .inl (cm 19, 2000, .inl fc)), (a 29, .inl (cm 29, 700, .inl gl)), (a 1, .inl (cm 1, 1400, .inl fT))]) (w1 := [(h0, .inr (11, gP a i g (nI cd) (nI zs) (nI w3) en w10 w11 w12 (nI bk) (nI yp) yb))]) hP hD [2] [0, 1, 3] rfl rfl (by decide) (by decide) hk1 hFc hP1 hD1
          have hP : va_P D vwCl [(a 19, .inl (cm 19, 2000, .inl fc)), (a 29, .inl (cm 29, 700, .inl gl)), (a 1, .inl (cm 1, 1400, .inl fT)), (h0, .inr (11, gP a i g (nI cd) (nI zs) (nI w3) en w10 w11 w12 (nI bk) (nI yp) yb))] H := hP
          have hD : va_D A [(a 19, .inl (cm 19, 2000, .inl fc)), (a 29, .inl (cm 29, 700, .inl gl)), (a 1, .inl (cm 1, 1400, .inl fT)), (h0, .inr (11, gP a i g (nI cd) (nI zs) (nI w3) en w10 w11 w12 (nI bk) (nI yp) yb))] := hD
          try dsimp only at hw
          clear hz1 hk1 hFc hPc hKc hDc
          have hb13_b := hw
          refine lv_aload_n hx hb dX11_unit_45 rfl (lv_at hl 1 rfl) ?_
          have hPc := hP.sub (ws' := [(h0, .inr (11, gP a i g (nI cd) (nI zs) (nI w3) en w10 w11 w12 (nI bk) (nI yp) yb))]) [3] rfl
          have hKc := hK.sub (tys' := []) [] rfl
          have hFc := va_free0 hS hA
          refine va_calli (va_runV (As := []) (rest := []) ⟨hx, hb, hml, hown, hts⟩ (c_isFine l D _ h0 a cm i g cd zs w3 en w10 w11 w12 bk yp yb) (cwV 0 hts g_c_unit_c_isFine_313 rfl rfl rfl (by decide +kernel) ⟨(Nat.le_of_ble_eq_true rfl), (Nat.le_of_ble_eq_true rfl)⟩) (PcR_V (q0 := 0) hPc hKc rfl rfl) rfl rfl hl.1 rfl (lv_room (Nat.le_of_ble_eq_true rfl)) dX11_unit_46 ⟨(Nat.le_of_ble_eq_true rfl), (Nat.le_of_ble_eq_true rfl)⟩) hS (fun q _ h => hFc q h) hFc (fun r14 uu tt H locs htt hvm hw hB hz1 hk1 hS => ?_)
          have hP := va_keep hP hk1
          try dsimp only at hw
          clear hB hz1 hk1 hFc hPc hKc
          rcases hw with ⟨rfl, hA_r14⟩ | ⟨rfl, hA_r14⟩
          ·
            exact absurd hA_r14 hb13_b
          ·
            refine lv_if_ne (tgt := 53) hx hb dX11_unit_49 (by decide) (fun hc => absurd (by decide) hc) (fun hc => ?_)
            exact kx52 w3 w10 w11 w12 yp yb gl (by omega) (by omega) (by omega) (hPl) (fun z => absurd z hA_r14) (fun z => absurd z hA_r14) (fun _ => ((hVl hA_r1).par hA_r2_s).1 hc4) (fun z => absurd z hA_r14) H locs ls (hP.sub [3, 2, 0, 1] rfl) (hD.sub [3, 2, 0, 1] (by decide) rfl) hS (lv_sub hl [1] rfl)
      ·
        obtain ⟨hA_r2_1, hA_r2_2, hA_r2_e, hA_r2_s⟩ := hA_r2
        refine lv_istore_n (lv' := [(1, .int 0), (0, .ref h0)]) hx hb dX11_unit_19 rfl hl (by decide) rfl (fun ls hl => ?_)
        refine lv_iload_n hx hb dX11_unit_20 rfl (lv_at hl 0 rfl) ?_
        refine lv_if_ne (tgt := 27) hx hb dX11_unit_21 (by decide) (fun hc => absurd (by decide) hc) (fun hc => ?_)
        refine lv_goto (tgt := 2) hx hb dX11_unit_24 (by decide) ?_
        refine lv_aload_n hx hb dX11_unit_2 rfl (lv_at hl 1 rfl) ?_
        have hPc := hP.sub (ws' := [(h0, .inr (11, gP a i g (nI cd) (nI zs) (nI w3) en yd ye yf (nI bk) (nI yp) yb))]) [2] rfl
        have hKc := hK.sub (tys' := []) [] rfl
        have hFc := va_free0 hS hA
        refine va_calli (va_runV (As := []) (rest := []) ⟨hx, hb, hml, hown, hts⟩ (c_isFine l D _ h0 a cm i g cd zs w3 en yd ye yf bk yp yb) (cwV 0 hts g_c_unit_c_isFine_313 rfl rfl rfl (by decide +kernel) ⟨(Nat.le_of_ble_eq_true rfl), (Nat.le_of_ble_eq_true rfl)⟩) (PcR_V (q0 := 0) hPc hKc rfl rfl) rfl rfl hl.1 rfl (lv_room (Nat.le_of_ble_eq_true rfl)) dX11_unit_3 ⟨(Nat.le_of_ble_eq_true rfl), (Nat.le_of_ble_eq_true rfl)⟩) hS (fun q _ h => hFc q h) hFc (fun r15 uu tt H locs htt hvm hw hB hz1 hk1 hS => ?_)
        have hP := va_keep hP hk1
        try dsimp only at hw
        clear hB hz1 hk1 hFc hPc hKc
        rcases hw with ⟨rfl, hA_r15⟩ | ⟨rfl, hA_r15⟩
        ·
          refine lv_if_eq (tgt := 97) hx hb dX11_unit_6 (by decide) (fun hc => absurd hc (by decide)) (fun hc => ?_)
          refine lv_iload_n hx hb dX11_unit_9 rfl (lv_at hl 0 rfl) ?_
          refine lv_if_eq (tgt := 97) hx hb dX11_unit_10 (by decide) (fun hc => ?_) (fun hc => absurd (by decide) hc)
          exact kx97 w3 yd ye yf yp yb gl (by omega) (by omega) (by omega) (hPl) (hWl) (fun z => by rw [hA_r2_e]; exact (hVl z).nx) (hNl) (fun _ => by rw [SgP_at hA_r2_e (by omega)]; exact hA_r2_s) H locs ls (hP.sub [2, 3, 0, 1] rfl) (hD.sub [2, 3, 0, 1] (by decide) rfl) hS (lv_sub hl [1] rfl)
        ·
          exact absurd hA_r1 hA_r15
    ·
      refine lv_if_eq (tgt := 97) hx hb dX11_unit_6 (by decide) (fun hc => ?_) (fun hc => absurd (by decide) hc)
      exact kx97 ya yd ye yf yp yb gl (by omega) (by omega) (by omega) (hPl) (fun z => absurd z hA_r1) (fun z => absurd z hA_r1) (hNl) (fun z => absurd z hA_r1) H locs ls (hP.sub [0, 1, 2, 3] rfl) (hD.sub [0, 1, 2, 3] (by decide) rfl) hS (lv_sub hl [1] rfl)
set_option maxHeartbeats 4000000 in
set_option maxRecDepth 100000 in
theorem c_unit (l : Launch) (D : va_G) (sz : Nat) (h0 : Nat) (a : Nat → Nat) (cm : Nat → ClassId) (i : Nat → Int32) (g : Nat → Int64) (fT : Nat → Int32) (fc : Nat → Int32) (fl : Nat → Int32) (cd : Nat) (zs : Nat) (ta : Nat) (en : Int32) (bd : Int32) (bp : Int32) (bq : Int32) (bk : Nat) (pl : Nat) (br : Int32) (fo : Nat → Int32) (bs : Nat) (rs : Nat) (bt : Nat → Nat) (tS : Nat) (vz : Option (SM × RC)) (hz6 : zs ≤ 600) (hta : ta ≤ zs) (hcp : cd + pl + rs ≤ ta) (hPl : PlS fl pl) (hW : bd = 0 → PSt fc fo cd bk (bs + nops fl pl)) (hbt : TieB fT bt) (hV : bd = 0 → UR bt zs vz 1 tS cd fc bk fo pl fl br ta en) (hVn : ¬ bd = 0 → vz = none) : Met l yX11_unit wp_c_unit ({ frames := 5, cells := 0, slots := 0, locals := 150 }) (PcW D [.ref h0] sz [(h0, .inr (11, gP a i g (nI cd) (nI zs) (nI ta) en bd bp bq (nI bk) (nI pl) br)), (a 1, .inl (cm 1, 1400, .inl fT)), (a 19, .inl (cm 19, 2000, .inl fc)), (a 29, .inl (cm 29, 700, .inl fl))] [(cm 1, .byte), (cm 19, .int), (cm 29, .int)]) (va_Qv (fun (u : (Nat → Int32) × (Nat → Int32) × (Nat) × (Nat) × (Int32) × (Int32) × (Int32) × (Int32) × (Nat) × (Int32)) => u.2.2.1 + u.2.2.2.2.2.2.2.2.1 + rs ≤ u.2.2.2.1 ∧ ta ≤ u.2.2.2.1 ∧ u.2.2.2.1 ≤ zs ∧ PlS u.2.1 u.2.2.2.2.2.2.2.2.1 ∧ (u.2.2.2.2.2.1 = 0 → bd = 0 ∧ ta + 1 ≤ u.2.2.2.1 ∧ PSt u.1 fo u.2.2.1 bk (bs + nops u.2.1 u.2.2.2.2.2.2.2.2.1 + 1)) ∧ (u.2.2.2.2.2.1 = 0 → UR bt zs vz 2 tS u.2.2.1 u.1 bk fo u.2.2.2.2.2.2.2.2.1 u.2.1 u.2.2.2.2.2.2.2.2.2 u.2.2.2.1 u.2.2.2.2.1) ∧ (¬ u.2.2.2.2.2.1 = 0 → vz = none)) (fun (u : (Nat → Int32) × (Nat → Int32) × (Nat) × (Nat) × (Int32) × (Int32) × (Int32) × (Int32) × (Nat) × (Int32)) t => va_P D vwCl [(h0, .inr (11, gP a i g (nI u.2.2.1) (nI zs) (nI u.2.2.2.1) u.2.2.2.2.1 u.2.2.2.2.2.1 u.2.2.2.2.2.2.1 u.2.2.2.2.2.2.2.1 (nI bk) (nI u.2.2.2.2.2.2.2.2.1) u.2.2.2.2.2.2.2.2.2)), (a 1, .inl (cm 1, 1400, .inl fT)), (a 19, .inl (cm 19, 2000, .inl u.1)), (a 29, .inl (cm 29, 700, .inl u.2.1))] t.heap ∧ va_K D vwCl [(cm 1, .byte), (cm 19, .int), (cm 29, .int)] t ∧ va_D (va_A [(h0, .inr (11, gP a i g (nI cd) (nI zs) (nI ta) en bd bp bq (nI bk) (nI pl) br)), (a 1, .inl (cm 1, 1400, .inl fT)), (a 19, .inl (cm 19, 2000, .inl fc)), (a 29, .inl (cm 29, 700, .inl fl))] sz) [(h0, .inr (11, gP a i g (nI u.2.2.1) (nI zs) (nI u.2.2.2.1) u.2.2.2.2.1 u.2.2.2.2.2.1 u.2.2.2.2.2.2.1 u.2.2.2.2.2.2.2.1 (nI bk) (nI u.2.2.2.2.2.2.2.2.1) u.2.2.2.2.2.2.2.2.2)), (a 1, .inl (cm 1, 1400, .inl fT)), (a 19, .inl (cm 19, 2000, .inl u.1)), (a 29, .inl (cm 29, 700, .inl u.2.1))]) (va_A [(h0, .inr (11, gP a i g (nI cd) (nI zs) (nI ta) en bd bp bq (nI bk) (nI pl) br)), (a 1, .inl (cm 1, 1400, .inl fT)), (a 19, .inl (cm 19, 2000, .inl fc)), (a 29, .inl (cm 29, 700, .inl fl))] sz)) 0 0 (va_A [(h0, .inr (11, gP a i g (nI cd) (nI zs) (nI ta) en bd bp bq (nI bk) (nI pl) br)), (a 1, .inl (cm 1, 1400, .inl fT)), (a 19, .inl (cm 19, 2000, .inl fc)), (a 29, .inl (cm 29, 700, .inl fl))] sz) := by
  refine Met.ofW (cc := cX11_unit) (maxL := 3) (ret := none) (by decide) rfl ?_
  intro p e s m args below meth c s₁ B hml hv
  obtain ⟨rfl, hsz, hP, hK, hD0⟩ := hv
  have hx := B.exec
  have hb := B.bytes
  have hr := B.returns
  have hts := atoms_spec (ws := wp_c_unit) B.pre
  have hin_X11 : ∀ w ∈ wsX110, w ∈ wp_c_unit := fun _ h => (List.mem_cons_of_mem _ (List.mem_append_right _ (List.mem_append_right _ (List.mem_append_right _ (List.mem_append_right _ (List.mem_append_right _ (List.mem_append_right _ (List.mem_append_right _ (List.mem_append_left _ h)))))))))
  have hown : s.vm.findClass RX11 = some m.cls := findClass_of_methodNamed B.named
  have hlocks := B.notSynchronized
  subst hsz
  have hD := hD0.self (sz := s.heap.size)
  generalize hAe : va_A [(h0, .inr (11, gP a i g (nI cd) (nI zs) (nI ta) en bd bp bq (nI bk) (nI pl) br)), (a 1, .inl (cm 1, 1400, .inl fT)), (a 19, .inl (cm 19, 2000, .inl fc)), (a 29, .inl (cm 29, 700, .inl fl))] s.heap.size = A at hD ⊢
  have hA : ∀ q : Nat, s.heap.size ≤ q → A q := fun q h => by rw [← hAe]; exact Or.inr h
  have hS : va_S A s.heap s.heap [] := va_S.rf
  have hP : va_P D vwCl [(h0, .inr (11, gP a i g (nI cd) (nI zs) (nI ta) en bd bp bq (nI bk) (nI pl) br)), (a 1, .inl (cm 1, 1400, .inl fT)), (a 19, .inl (cm 19, 2000, .inl fc)), (a 29, .inl (cm 29, 700, .inl fl))] s.heap := hP
  have hl := lv_entry ([.ref h0]) (n := 3) (Nat.le_of_ble_eq_true rfl)
  rw [lg_entry_eq]
  generalize (lg_sl ([.ref h0]) ++ List.replicate (3 - (lg_sl ([.ref h0])).length) Slot.unset).toArray = ls at hl ⊢
  have hl : lv_has ls 3 [(0, .ref h0)] := hl
  have hzs : zs ≤ 1400 := by omega
  refine lv_iconst (v := 1) hx hb dX11_unit_0 (by decide) ?_
  refine lv_istore_n (lv' := [(1, .int 1), (0, .ref h0)]) hx hb dX11_unit_1 rfl hl (by decide) rfl (fun ls hl => ?_)
  refine lp_unit l D h0 a cm i g fT fc cd zs ta en bd bp bq bk pl br fo bs rs bt tS vz (hz6) (hzs) (hbt) hx hb hml hown hts hA (hK.sub [0, 1, 2] rfl) ?_ ?_ (zs + 1) ta bd bp bq pl br fl (Nat.le_refl _) (hta) (hcp) (hPl) (fun z => ⟨z, hW z⟩) (hV) (hVn) (by omega) _ _ _ (hP.sub [0, 1, 2, 3] rfl) (hD.sub [0, 1, 2, 3] (by decide) rfl) hS (lv_sub hl [0, 1] rfl)
  ·
    intro ya_1 yd_2 ye_3 yf_4 yp_5 yb_6 gl_7 hi1_8 hi2_9 hi3_10 hPl_11 hWl_12 hVl_13 hNl_14 hx15 H locs ls hP hD hS hl
    refine lv_aload_n hx hb dX11_unit_97 rfl (lv_at hl 0 rfl) ?_
    refine lv_bipush (v := 9) hx hb dX11_unit_98 (by decide) ?_
    have hPc := hP.sub (ws' := [(h0, .inr (11, gP a i g (nI cd) (nI zs) (nI ya_1) en yd_2 ye_3 yf_4 (nI bk) (nI yp_5) yb_6)), (a 1, .inl (cm 1, 1400, .inl fT))]) [0, 1] rfl
    have hKc := hK.sub (tys' := [(cm 1, .byte)]) [0] rfl
    have hDc := hD.sub (ws' := [(h0, .inr (11, gP a i g (nI cd) (nI zs) (nI ya_1) en yd_2 ye_3 yf_4 (nI bk) (nI yp_5) yb_6)), (a 1, .inl (cm 1, 1400, .inl fT))]) [0, 1] (by decide) rfl
    have hFc := va_free (wc := [(h0, .inr (11, gP a i g (nI cd) (nI zs) (nI ya_1) en yd_2 ye_3 yf_4 (nI bk) (nI yp_5) yb_6)), (a 1, .inl (cm 1, 1400, .inl fT))]) hD hS hA [0, 1] rfl
    refine va_calli (va_runV (As := [.int 9]) (rest := []) ⟨hx, hb, hml, hown, hts⟩ (c_takesWord l D _ h0 a cm i g fT cd zs ya_1 en yd_2 ye_3 yf_4 bk yp_5 yb_6 9 10 bt (by omega) (by omega) hbt rfl) (cwV 1 hts g_c_unit_c_takesWord_329 rfl rfl rfl (by decide +kernel) ⟨(Nat.le_of_ble_eq_true rfl), (Nat.le_of_ble_eq_true rfl)⟩) (PcW_V (q0 := 0) hPc hKc hDc rfl rfl) rfl rfl hl.1 rfl (lv_room (Nat.le_of_ble_eq_true rfl)) dX11_unit_100 ⟨(Nat.le_of_ble_eq_true rfl), (Nat.le_of_ble_eq_true rfl)⟩) hS (fun q _ h => hFc q h) hFc (fun r16 uu tt H locs htt hvm hw hB hz1 hk1 hS => ?_)
    obtain ⟨w17, w18⟩ := uu
    obtain ⟨hP1, hK1, hD1⟩ := hB
    rw [htt] at hP1
    have hK1 := va_K.moved hvm.symm hK1
    have hP1 : va_P D vwCl [(h0, .inr (11, gP a i g (nI cd) (nI zs) (nI w17) w18 yd_2 ye_3 yf_4 (nI bk) (nI yp_5) yb_6)), (a 1, .inl (cm 1, 1400, .inl fT))] H := hP1
    obtain ⟨hP, hD⟩ := va_join (wr := [(a 19, .inl (cm 19, 2000, .inl fc)), (a 29, .inl (cm 29, 700, .inl gl_7))]) (w1 := [(h0, .inr (11, gP a i g (nI cd) (nI zs) (nI w17) w18 yd_2 ye_3 yf_4 (nI bk) (nI yp_5) yb_6)), (a 1, .inl (cm 1, 1400, .inl fT))]) hP hD [0, 1] [2, 3] rfl rfl (by decide) (by decide) hk1 hFc hP1 hD1
    have hP : va_P D vwCl [(a 19, .inl (cm 19, 2000, .inl fc)), (a 29, .inl (cm 29, 700, .inl gl_7)), (h0, .inr (11, gP a i g (nI cd) (nI zs) (nI w17) w18 yd_2 ye_3 yf_4 (nI bk) (nI yp_5) yb_6)), (a 1, .inl (cm 1, 1400, .inl fT))] H := hP
    have hD : va_D A [(a 19, .inl (cm 19, 2000, .inl fc)), (a 29, .inl (cm 29, 700, .inl gl_7)), (h0, .inr (11, gP a i g (nI cd) (nI zs) (nI w17) w18 yd_2 ye_3 yf_4 (nI bk) (nI yp_5) yb_6)), (a 1, .inl (cm 1, 1400, .inl fT))] := hD
    try dsimp only at hw
    clear hz1 hk1 hFc hPc hKc hDc
    rcases hw with ⟨rfl, hA_r16⟩ | ⟨rfl, hA_r16⟩
    ·
      obtain ⟨hA_r16_0, hA_r16_1, hA_r16_2, hA_r16_e, hA_r16_n, hA_r16_w⟩ := hA_r16
      refine lv_if_eq (tgt := 116) hx hb dX11_unit_103 (by decide) (fun hc => absurd hc (by decide)) (fun hc => ?_)
      refine lv_aload_n hx hb dX11_unit_106 rfl (lv_at hl 0 rfl) ?_
      refine lv_bipush (v := 11) hx hb dX11_unit_107 (by decide) ?_
      refine lv_iconst (v := 0) hx hb dX11_unit_109 (by decide) ?_
      have hPc := hP.sub (ws' := [(h0, .inr (11, gP a i g (nI cd) (nI zs) (nI w17) w18 yd_2 ye_3 yf_4 (nI bk) (nI yp_5) yb_6)), (a 19, .inl (cm 19, 2000, .inl fc))]) [2, 0] rfl
      have hKc := hK.sub (tys' := [(cm 19, .int)]) [1] rfl
      have hDc := hD.sub (ws' := [(h0, .inr (11, gP a i g (nI cd) (nI zs) (nI w17) w18 yd_2 ye_3 yf_4 (nI bk) (nI yp_5) yb_6)), (a 19, .inl (cm 19, 2000, .inl fc))]) [2, 0] (by decide) rfl
      have hFc := va_free (wc := [(h0, .inr (11, gP a i g (nI cd) (nI zs) (nI w17) w18 yd_2 ye_3 yf_4 (nI bk) (nI yp_5) yb_6)), (a 19, .inl (cm 19, 2000, .inl fc))]) hD hS hA [2, 0] rfl
      refine va_callv (va_runV (As := [.int 11, .int 0]) (rest := []) ⟨hx, hb, hml, hown, hts⟩ (c_emits l D _ h0 a cm i g fc cd zs w17 w18 yd_2 ye_3 yf_4 bk yp_5 yb_6 11 0 (by first | assumption | omega)) (cwV 2 hts g_c_unit_c_emits_344 rfl rfl rfl (by decide +kernel) ⟨(Nat.le_of_ble_eq_true rfl), (Nat.le_of_ble_eq_true rfl)⟩) (PcW_V (q0 := 0) hPc hKc hDc rfl rfl) rfl rfl hl.1 rfl (lv_room (Nat.le_of_ble_eq_true rfl)) dX11_unit_110 ⟨(Nat.le_of_ble_eq_true rfl), (Nat.le_of_ble_eq_true rfl)⟩) hS (fun q _ h => hFc q h) hFc (fun uu tt H locs htt hvm hw hB hz1 hk1 hS => ?_)
      obtain ⟨w20, w21⟩ := uu
      obtain ⟨hP1, hK1, hD1⟩ := hB
      rw [htt] at hP1
      have hK1 := va_K.moved hvm.symm hK1
      have hP1 : va_P D vwCl [(h0, .inr (11, gP a i g (nI w21) (nI zs) (nI w17) w18 yd_2 ye_3 yf_4 (nI bk) (nI yp_5) yb_6)), (a 19, .inl (cm 19, 2000, .inl w20))] H := hP1
      obtain ⟨hP, hD⟩ := va_join (wr := [(a 29, .inl (cm 29, 700, .inl gl_7)), (a 1, .inl (cm 1, 1400, .inl fT))]) (w1 := [(h0, .inr (11, gP a i g (nI w21) (nI zs) (nI w17) w18 yd_2 ye_3 yf_4 (nI bk) (nI yp_5) yb_6)), (a 19, .inl (cm 19, 2000, .inl w20))]) hP hD [2, 0] [1, 3] rfl rfl (by decide) (by decide) hk1 hFc hP1 hD1
      have hP : va_P D vwCl [(a 29, .inl (cm 29, 700, .inl gl_7)), (a 1, .inl (cm 1, 1400, .inl fT)), (h0, .inr (11, gP a i g (nI w21) (nI zs) (nI w17) w18 yd_2 ye_3 yf_4 (nI bk) (nI yp_5) yb_6)), (a 19, .inl (cm 19, 2000, .inl w20))] H := hP
      have hD : va_D A [(a 29, .inl (cm 29, 700, .inl gl_7)), (a 1, .inl (cm 1, 1400, .inl fT)), (h0, .inr (11, gP a i g (nI w21) (nI zs) (nI w17) w18 yd_2 ye_3 yf_4 (nI bk) (nI yp_5) yb_6)), (a 19, .inl (cm 19, 2000, .inl w20))] := hD
      try dsimp only at hw
      clear hz1 hk1 hFc hPc hKc hDc
      obtain ⟨rfl, rfl⟩ := hw
      have hP : va_P D vwCl [(a 29, .inl (cm 29, 700, .inl gl_7)), (a 1, .inl (cm 1, 1400, .inl fT)), (h0, .inr (11, gP a i g (nI (cd + 1)) (nI zs) (nI w17) w18 yd_2 ye_3 yf_4 (nI bk) (nI yp_5) yb_6)), (a 19, .inl (cm 19, 2000, .inl (upd (upd fc (2 * cd) 11) (2 * cd + 1) 0)))] H := hP
      have hD : va_D A [(a 29, .inl (cm 29, 700, .inl gl_7)), (a 1, .inl (cm 1, 1400, .inl fT)), (h0, .inr (11, gP a i g (nI (cd + 1)) (nI zs) (nI w17) w18 yd_2 ye_3 yf_4 (nI bk) (nI yp_5) yb_6)), (a 19, .inl (cm 19, 2000, .inl (upd (upd fc (2 * cd) 11) (2 * cd + 1) 0)))] := hD
      refine lv_goto (tgt := 164) hx hb dX11_unit_113 (by decide) ?_
      exact W.vret hx hb hr (fun t ht hW => ⟨⟨((upd (upd fc (2 * cd) 11) (2 * cd + 1) 0), gl_7, (cd + 1), w17, w18, yd_2, ye_3, yf_4, yp_5, yb_6), rfl, (by (try dsimp only); exact ⟨by omega, by omega, by omega, hPl_11, fun z => ⟨(hWl_12 z).1, by omega, PSt_app (x := 11) (hWl_12 z).2 (Or.inl ⟨by omega, by omega, by omega⟩)⟩, fun z => by rw [hA_r16_n, hA_r16_e]; exact (hVl_13 z).wrd hzs (by decide) hA_r16_w, hNl_14⟩), by rw [ht]; exact hP.sub [2, 1, 3, 0] rfl, va_K.moved hW.alike (hK.sub [0, 1, 2] rfl), hD.sub [2, 1, 3, 0] (by decide) rfl⟩, hS.F ht⟩) hS.2.2 dX11_unit_164
    ·
      obtain ⟨hA_r16_1, hA_r16_2, hA_r16_e, hA_r16_n, hA_r16_w⟩ := hA_r16
      have hU2 : yd_2 = 0 → UR bt zs vz 1 tS cd fc bk fo yp_5 gl_7 yb_6 w17 w18 := fun z => by rw [hA_r16_n, hA_r16_e]; exact (hVl_13 z).nx
      have hS2 : yd_2 = 0 → ¬ SgP bt zs w17 40 := fun z => by rw [SgP_at hA_r16_e (by omega)]; exact hx15 z
      have hI2 : yd_2 = 0 → ¬ WdP bt zs w17 w18 10 := fun z => by rw [WdP_at hA_r16_e (by omega) hA_r16_n]; exact hA_r16_w z
      refine lv_if_eq (tgt := 116) hx hb dX11_unit_103 (by decide) (fun hc => ?_) (fun hc => absurd (by decide) hc)
      refine lv_aload_n hx hb dX11_unit_116 rfl (lv_at hl 0 rfl) ?_
      refine lv_bipush (v := 24) hx hb dX11_unit_117 (by decide) ?_
      have hPc := hP.sub (ws' := [(h0, .inr (11, gP a i g (nI cd) (nI zs) (nI w17) w18 yd_2 ye_3 yf_4 (nI bk) (nI yp_5) yb_6)), (a 1, .inl (cm 1, 1400, .inl fT))]) [2, 3] rfl
      have hKc := hK.sub (tys' := [(cm 1, .byte)]) [0] rfl
      have hDc := hD.sub (ws' := [(h0, .inr (11, gP a i g (nI cd) (nI zs) (nI w17) w18 yd_2 ye_3 yf_4 (nI bk) (nI yp_5) yb_6)), (a 1, .inl (cm 1, 1400, .inl fT))]) [2, 3] (by decide) rfl
      have hFc := va_free (wc := [(h0, .inr (11, gP a i g (nI cd) (nI zs) (nI w17) w18 yd_2 ye_3 yf_4 (nI bk) (nI yp_5) yb_6)), (a 1, .inl (cm 1, 1400, .inl fT))]) hD hS hA [2, 3] rfl
      refine va_calli (va_runV (As := [.int 24]) (rest := []) ⟨hx, hb, hml, hown, hts⟩ (c_takesWord l D _ h0 a cm i g fT cd zs w17 w18 yd_2 ye_3 yf_4 bk yp_5 yb_6 24 11 bt (by omega) (by omega) hbt rfl) (cwV 1 hts g_c_unit_c_takesWord_329 rfl rfl rfl (by decide +kernel) ⟨(Nat.le_of_ble_eq_true rfl), (Nat.le_of_ble_eq_true rfl)⟩) (PcW_V (q0 := 0) hPc hKc hDc rfl rfl) rfl rfl hl.1 rfl (lv_room (Nat.le_of_ble_eq_true rfl)) dX11_unit_119 ⟨(Nat.le_of_ble_eq_true rfl), (Nat.le_of_ble_eq_true rfl)⟩) hS (fun q _ h => hFc q h) hFc (fun r22 uu tt H locs htt hvm hw hB hz1 hk1 hS => ?_)
      obtain ⟨w23, w24⟩ := uu
      obtain ⟨hP1, hK1, hD1⟩ := hB
      rw [htt] at hP1
      have hK1 := va_K.moved hvm.symm hK1
      have hP1 : va_P D vwCl [(h0, .inr (11, gP a i g (nI cd) (nI zs) (nI w23) w24 yd_2 ye_3 yf_4 (nI bk) (nI yp_5) yb_6)), (a 1, .inl (cm 1, 1400, .inl fT))] H := hP1
      obtain ⟨hP, hD⟩ := va_join (wr := [(a 19, .inl (cm 19, 2000, .inl fc)), (a 29, .inl (cm 29, 700, .inl gl_7))]) (w1 := [(h0, .inr (11, gP a i g (nI cd) (nI zs) (nI w23) w24 yd_2 ye_3 yf_4 (nI bk) (nI yp_5) yb_6)), (a 1, .inl (cm 1, 1400, .inl fT))]) hP hD [2, 3] [0, 1] rfl rfl (by decide) (by decide) hk1 hFc hP1 hD1
      have hP : va_P D vwCl [(a 19, .inl (cm 19, 2000, .inl fc)), (a 29, .inl (cm 29, 700, .inl gl_7)), (h0, .inr (11, gP a i g (nI cd) (nI zs) (nI w23) w24 yd_2 ye_3 yf_4 (nI bk) (nI yp_5) yb_6)), (a 1, .inl (cm 1, 1400, .inl fT))] H := hP
      have hD : va_D A [(a 19, .inl (cm 19, 2000, .inl fc)), (a 29, .inl (cm 29, 700, .inl gl_7)), (h0, .inr (11, gP a i g (nI cd) (nI zs) (nI w23) w24 yd_2 ye_3 yf_4 (nI bk) (nI yp_5) yb_6)), (a 1, .inl (cm 1, 1400, .inl fT))] := hD
      try dsimp only at hw
      clear hz1 hk1 hFc hPc hKc hDc
      rcases hw with ⟨rfl, hA_r22⟩ | ⟨rfl, hA_r22⟩
      ·
        obtain ⟨hA_r22_0, hA_r22_1, hA_r22_2, hA_r22_e, hA_r22_n, hA_r22_w⟩ := hA_r22
        refine lv_if_eq (tgt := 135) hx hb dX11_unit_122 (by decide) (fun hc => absurd hc (by decide)) (fun hc => ?_)
        refine lv_aload_n hx hb dX11_unit_125 rfl (lv_at hl 0 rfl) ?_
        refine lv_bipush (v := 12) hx hb dX11_unit_126 (by decide) ?_
        refine lv_iconst (v := 0) hx hb dX11_unit_128 (by decide) ?_
        have hPc := hP.sub (ws' := [(h0, .inr (11, gP a i g (nI cd) (nI zs) (nI w23) w24 yd_2 ye_3 yf_4 (nI bk) (nI yp_5) yb_6)), (a 19, .inl (cm 19, 2000, .inl fc))]) [2, 0] rfl
        have hKc := hK.sub (tys' := [(cm 19, .int)]) [1] rfl
        have hDc := hD.sub (ws' := [(h0, .inr (11, gP a i g (nI cd) (nI zs) (nI w23) w24 yd_2 ye_3 yf_4 (nI bk) (nI yp_5) yb_6)), (a 19, .inl (cm 19, 2000, .inl fc))]) [2, 0] (by decide) rfl
        have hFc := va_free (wc := [(h0, .inr (11, gP a i g (nI cd) (nI zs) (nI w23) w24 yd_2 ye_3 yf_4 (nI bk) (nI yp_5) yb_6)), (a 19, .inl (cm 19, 2000, .inl fc))]) hD hS hA [2, 0] rfl
        refine va_callv (va_runV (As := [.int 12, .int 0]) (rest := []) ⟨hx, hb, hml, hown, hts⟩ (c_emits l D _ h0 a cm i g fc cd zs w23 w24 yd_2 ye_3 yf_4 bk yp_5 yb_6 12 0 (by first | assumption | omega)) (cwV 2 hts g_c_unit_c_emits_344 rfl rfl rfl (by decide +kernel) ⟨(Nat.le_of_ble_eq_true rfl), (Nat.le_of_ble_eq_true rfl)⟩) (PcW_V (q0 := 0) hPc hKc hDc rfl rfl) rfl rfl hl.1 rfl (lv_room (Nat.le_of_ble_eq_true rfl)) dX11_unit_129 ⟨(Nat.le_of_ble_eq_true rfl), (Nat.le_of_ble_eq_true rfl)⟩) hS (fun q _ h => hFc q h) hFc (fun uu tt H locs htt hvm hw hB hz1 hk1 hS => ?_)
        obtain ⟨w26, w27⟩ := uu
        obtain ⟨hP1, hK1, hD1⟩ := hB
        rw [htt] at hP1
        have hK1 := va_K.moved hvm.symm hK1
        have hP1 : va_P D vwCl [(h0, .inr (11, gP a i g (nI w27) (nI zs) (nI w23) w24 yd_2 ye_3 yf_4 (nI bk) (nI yp_5) yb_6)), (a 19, .inl (cm 19, 2000, .inl w26))] H := hP1
        obtain ⟨hP, hD⟩ := va_join (wr := [(a 29, .inl (cm 29, 700, .inl gl_7)), (a 1, .inl (cm 1, 1400, .inl fT))]) (w1 := [(h0, .inr (11, gP a i g (nI w27) (nI zs) (nI w23) w24 yd_2 ye_3 yf_4 (nI bk) (nI yp_5) yb_6)), (a 19, .inl (cm 19, 2000, .inl w26))]) hP hD [2, 0] [1, 3] rfl rfl (by decide) (by decide) hk1 hFc hP1 hD1
        have hP : va_P D vwCl [(a 29, .inl (cm 29, 700, .inl gl_7)), (a 1, .inl (cm 1, 1400, .inl fT)), (h0, .inr (11, gP a i g (nI w27) (nI zs) (nI w23) w24 yd_2 ye_3 yf_4 (nI bk) (nI yp_5) yb_6)), (a 19, .inl (cm 19, 2000, .inl w26))] H := hP
        have hD : va_D A [(a 29, .inl (cm 29, 700, .inl gl_7)), (a 1, .inl (cm 1, 1400, .inl fT)), (h0, .inr (11, gP a i g (nI w27) (nI zs) (nI w23) w24 yd_2 ye_3 yf_4 (nI bk) (nI yp_5) yb_6)), (a 19, .inl (cm 19, 2000, .inl w26))] := hD
        try dsimp only at hw
        clear hz1 hk1 hFc hPc hKc hDc
        obtain ⟨rfl, rfl⟩ := hw
        have hP : va_P D vwCl [(a 29, .inl (cm 29, 700, .inl gl_7)), (a 1, .inl (cm 1, 1400, .inl fT)), (h0, .inr (11, gP a i g (nI (cd + 1)) (nI zs) (nI w23) w24 yd_2 ye_3 yf_4 (nI bk) (nI yp_5) yb_6)), (a 19, .inl (cm 19, 2000, .inl (upd (upd fc (2 * cd) 12) (2 * cd + 1) 0)))] H := hP
        have hD : va_D A [(a 29, .inl (cm 29, 700, .inl gl_7)), (a 1, .inl (cm 1, 1400, .inl fT)), (h0, .inr (11, gP a i g (nI (cd + 1)) (nI zs) (nI w23) w24 yd_2 ye_3 yf_4 (nI bk) (nI yp_5) yb_6)), (a 19, .inl (cm 19, 2000, .inl (upd (upd fc (2 * cd) 12) (2 * cd + 1) 0)))] := hD
        refine lv_goto (tgt := 164) hx hb dX11_unit_132 (by decide) ?_
        exact W.vret hx hb hr (fun t ht hW => ⟨⟨((upd (upd fc (2 * cd) 12) (2 * cd + 1) 0), gl_7, (cd + 1), w23, w24, yd_2, ye_3, yf_4, yp_5, yb_6), rfl, (by (try dsimp only); exact ⟨by omega, by omega, by omega, hPl_11, fun z => ⟨(hWl_12 z).1, by omega, PSt_app (x := 12) (hWl_12 z).2 (Or.inl ⟨by omega, by omega, by omega⟩)⟩, fun z => by rw [hA_r22_n, hA_r22_e]; exact (hU2 z).wrd hzs (by decide) hA_r22_w, hNl_14⟩), by rw [ht]; exact hP.sub [2, 1, 3, 0] rfl, va_K.moved hW.alike (hK.sub [0, 1, 2] rfl), hD.sub [2, 1, 3, 0] (by decide) rfl⟩, hS.F ht⟩) hS.2.2 dX11_unit_164
      ·
        obtain ⟨hA_r22_1, hA_r22_2, hA_r22_e, hA_r22_n, hA_r22_w⟩ := hA_r22
        have hU3 : yd_2 = 0 → UR bt zs vz 1 tS cd fc bk fo yp_5 gl_7 yb_6 w23 w24 := fun z => by rw [hA_r22_n, hA_r22_e]; exact (hU2 z).nx
        have hS3 : yd_2 = 0 → ¬ SgP bt zs w23 40 := fun z => by rw [SgP_at hA_r22_e (by omega)]; exact hS2 z
        have hI3 : yd_2 = 0 → ¬ WdP bt zs w23 w24 10 := fun z => by rw [WdP_at hA_r22_e (by omega) hA_r22_n]; exact hI2 z
        have hX3 : yd_2 = 0 → ¬ WdP bt zs w23 w24 11 := fun z => by rw [WdP_at hA_r22_e (by omega) hA_r22_n]; exact hA_r22_w z
        refine lv_if_eq (tgt := 135) hx hb dX11_unit_122 (by decide) (fun hc => ?_) (fun hc => absurd (by decide) hc)
        refine lv_aload_n hx hb dX11_unit_135 rfl (lv_at hl 0 rfl) ?_
        have hPc := hP.sub (ws' := [(h0, .inr (11, gP a i g (nI cd) (nI zs) (nI w23) w24 yd_2 ye_3 yf_4 (nI bk) (nI yp_5) yb_6))]) [2] rfl
        have hKc := hK.sub (tys' := []) [] rfl
        have hFc := va_free0 hS hA
        refine va_calli (va_runV (As := []) (rest := []) ⟨hx, hb, hml, hown, hts⟩ (c_isFine l D _ h0 a cm i g cd zs w23 w24 yd_2 ye_3 yf_4 bk yp_5 yb_6) (cwV 0 hts g_c_unit_c_isFine_313 rfl rfl rfl (by decide +kernel) ⟨(Nat.le_of_ble_eq_true rfl), (Nat.le_of_ble_eq_true rfl)⟩) (PcR_V (q0 := 0) hPc hKc rfl rfl) rfl rfl hl.1 rfl (lv_room (Nat.le_of_ble_eq_true rfl)) dX11_unit_136 ⟨(Nat.le_of_ble_eq_true rfl), (Nat.le_of_ble_eq_true rfl)⟩) hS (fun q _ h => hFc q h) hFc (fun r28 uu tt H locs htt hvm hw hB hz1 hk1 hS => ?_)
        have hP := va_keep hP hk1
        try dsimp only at hw
        clear hB hz1 hk1 hFc hPc hKc
        rcases hw with ⟨rfl, hA_r28⟩ | ⟨rfl, hA_r28⟩
        ·
          refine lv_if_eq (tgt := 164) hx hb dX11_unit_139 (by decide) (fun hc => absurd hc (by decide)) (fun hc => ?_)
          refine lv_aload_n hx hb dX11_unit_142 rfl (lv_at hl 0 rfl) ?_
          refine lv_ldcw (v := 999999) hx hb hown (hts (.constant RX11 347 (999999)) (List.mem_of_getElem? (i := 21) rfl)) dX11_unit_143 ?_
          have hPc := hP.sub (ws' := [(h0, .inr (11, gP a i g (nI cd) (nI zs) (nI w23) w24 yd_2 ye_3 yf_4 (nI bk) (nI yp_5) yb_6)), (a 1, .inl (cm 1, 1400, .inl fT))]) [2, 3] rfl
          have hKc := hK.sub (tys' := [(cm 1, .byte)]) [0] rfl
          have hDc := hD.sub (ws' := [(h0, .inr (11, gP a i g (nI cd) (nI zs) (nI w23) w24 yd_2 ye_3 yf_4 (nI bk) (nI yp_5) yb_6)), (a 1, .inl (cm 1, 1400, .inl fT))]) [2, 3] (by decide) rfl
          have hFc := va_free (wc := [(h0, .inr (11, gP a i g (nI cd) (nI zs) (nI w23) w24 yd_2 ye_3 yf_4 (nI bk) (nI yp_5) yb_6)), (a 1, .inl (cm 1, 1400, .inl fT))]) hD hS hA [2, 3] rfl
          refine va_calli (va_runV (As := [.int 999999]) (rest := []) ⟨hx, hb, hml, hown, hts⟩ (c_number l D _ h0 a cm i g fT cd zs w23 w24 yd_2 ye_3 yf_4 bk yp_5 yb_6 999999 999999 bt (by omega) (by omega) hbt rfl (by decide)) (cwV 1 hts g_c_unit_c_number_348 rfl rfl rfl (by decide +kernel) ⟨(Nat.le_of_ble_eq_true rfl), (Nat.le_of_ble_eq_true rfl)⟩) (PcW_V (q0 := 0) hPc hKc hDc rfl rfl) rfl rfl hl.1 rfl (lv_room (Nat.le_of_ble_eq_true rfl)) dX11_unit_146 ⟨(Nat.le_of_ble_eq_true rfl), (Nat.le_of_ble_eq_true rfl)⟩) hS (fun q _ h => hFc q h) hFc (fun r29 uu tt H locs htt hvm hw hB hz1 hk1 hS => ?_)
          obtain ⟨w30, w31, w32, w33, w34⟩ := uu
          obtain ⟨hP1, hK1, hD1⟩ := hB
          rw [htt] at hP1
          have hK1 := va_K.moved hvm.symm hK1
          have hP1 : va_P D vwCl [(h0, .inr (11, gP a i g (nI cd) (nI zs) (nI w30) w31 w32 w33 w34 (nI bk) (nI yp_5) yb_6)), (a 1, .inl (cm 1, 1400, .inl fT))] H := hP1
          obtain ⟨hP, hD⟩ := va_join (wr := [(a 19, .inl (cm 19, 2000, .inl fc)), (a 29, .inl (cm 29, 700, .inl gl_7))]) (w1 := [(h0, .inr (11, gP a i g (nI cd) (nI zs) (nI w30) w31 w32 w33 w34 (nI bk) (nI yp_5) yb_6)), (a 1, .inl (cm 1, 1400, .inl fT))]) hP hD [2, 3] [0, 1] rfl rfl (by decide) (by decide) hk1 hFc hP1 hD1
          have hP : va_P D vwCl [(a 19, .inl (cm 19, 2000, .inl fc)), (a 29, .inl (cm 29, 700, .inl gl_7)), (h0, .inr (11, gP a i g (nI cd) (nI zs) (nI w30) w31 w32 w33 w34 (nI bk) (nI yp_5) yb_6)), (a 1, .inl (cm 1, 1400, .inl fT))] H := hP
          have hD : va_D A [(a 19, .inl (cm 19, 2000, .inl fc)), (a 29, .inl (cm 29, 700, .inl gl_7)), (h0, .inr (11, gP a i g (nI cd) (nI zs) (nI w30) w31 w32 w33 w34 (nI bk) (nI yp_5) yb_6)), (a 1, .inl (cm 1, 1400, .inl fT))] := hD
          try dsimp only at hw
          clear hz1 hk1 hFc hPc hKc hDc
          obtain ⟨hb35_1, hb35_2, hb35_b, hb35_V, hb35_N⟩ := hw
          refine lv_istore_n (lv' := [(2, .int r29), (0, .ref h0)]) hx hb dX11_unit_149 rfl hl (by decide) rfl (fun ls hl => ?_)
          refine lv_aload_n hx hb dX11_unit_150 rfl (lv_at hl 1 rfl) ?_
          have hPc := hP.sub (ws' := [(h0, .inr (11, gP a i g (nI cd) (nI zs) (nI w30) w31 w32 w33 w34 (nI bk) (nI yp_5) yb_6))]) [2] rfl
          have hKc := hK.sub (tys' := []) [] rfl
          have hFc := va_free0 hS hA
          refine va_calli (va_runV (As := []) (rest := []) ⟨hx, hb, hml, hown, hts⟩ (c_isFine l D _ h0 a cm i g cd zs w30 w31 w32 w33 w34 bk yp_5 yb_6) (cwV 0 hts g_c_unit_c_isFine_313 rfl rfl rfl (by decide +kernel) ⟨(Nat.le_of_ble_eq_true rfl), (Nat.le_of_ble_eq_true rfl)⟩) (PcR_V (q0 := 0) hPc hKc rfl rfl) rfl rfl hl.1 rfl (lv_room (Nat.le_of_ble_eq_true rfl)) dX11_unit_151 ⟨(Nat.le_of_ble_eq_true rfl), (Nat.le_of_ble_eq_true rfl)⟩) hS (fun q _ h => hFc q h) hFc (fun r36 uu tt H locs htt hvm hw hB hz1 hk1 hS => ?_)
          have hP := va_keep hP hk1
          try dsimp only at hw
          clear hB hz1 hk1 hFc hPc hKc
          rcases hw with ⟨rfl, hA_r36⟩ | ⟨rfl, hA_r36⟩
          ·
            have hnum := (hb35_b hA_r36).2
            refine lv_if_eq (tgt := 164) hx hb dX11_unit_154 (by decide) (fun hc => absurd hc (by decide)) (fun hc => ?_)
            refine lv_aload_n hx hb dX11_unit_157 rfl (lv_at hl 1 rfl) ?_
            refine lv_bipush (v := 10) hx hb dX11_unit_158 (by decide) ?_
            refine lv_iload_n hx hb dX11_unit_160 rfl (lv_at hl 0 rfl) ?_
            have hPc := hP.sub (ws' := [(h0, .inr (11, gP a i g (nI cd) (nI zs) (nI w30) w31 w32 w33 w34 (nI bk) (nI yp_5) yb_6)), (a 19, .inl (cm 19, 2000, .inl fc))]) [2, 0] rfl
            have hKc := hK.sub (tys' := [(cm 19, .int)]) [1] rfl
            have hDc := hD.sub (ws' := [(h0, .inr (11, gP a i g (nI cd) (nI zs) (nI w30) w31 w32 w33 w34 (nI bk) (nI yp_5) yb_6)), (a 19, .inl (cm 19, 2000, .inl fc))]) [2, 0] (by decide) rfl
            have hFc := va_free (wc := [(h0, .inr (11, gP a i g (nI cd) (nI zs) (nI w30) w31 w32 w33 w34 (nI bk) (nI yp_5) yb_6)), (a 19, .inl (cm 19, 2000, .inl fc))]) hD hS hA [2, 0] rfl
            refine va_callv (va_runV (As := [.int 10, .int r29]) (rest := []) ⟨hx, hb, hml, hown, hts⟩ (c_emits l D _ h0 a cm i g fc cd zs w30 w31 w32 w33 w34 bk yp_5 yb_6 10 r29 (by first | assumption | omega)) (cwV 2 hts g_c_unit_c_emits_344 rfl rfl rfl (by decide +kernel) ⟨(Nat.le_of_ble_eq_true rfl), (Nat.le_of_ble_eq_true rfl)⟩) (PcW_V (q0 := 0) hPc hKc hDc rfl rfl) rfl rfl hl.1 rfl (lv_room (Nat.le_of_ble_eq_true rfl)) dX11_unit_161 ⟨(Nat.le_of_ble_eq_true rfl), (Nat.le_of_ble_eq_true rfl)⟩) hS (fun q _ h => hFc q h) hFc (fun uu tt H locs htt hvm hw hB hz1 hk1 hS => ?_)
            obtain ⟨w38, w39⟩ := uu
            obtain ⟨hP1, hK1, hD1⟩ := hB
            rw [htt] at hP1
            have hK1 := va_K.moved hvm.symm hK1
            have hP1 : va_P D vwCl [(h0, .inr (11, gP a i g (nI w39) (nI zs) (nI w30) w31 w32 w33 w34 (nI bk) (nI yp_5) yb_6)), (a 19, .inl (cm 19, 2000, .inl w38))] H := hP1
            obtain ⟨hP, hD⟩ := va_join (wr := [(a 29, .inl (cm 29, 700, .inl gl_7)), (a 1, .inl (cm 1, 1400, .inl fT))]) (w1 := [(h0, .inr (11, gP a i g (nI w39) (nI zs) (nI w30) w31 w32 w33 w34 (nI bk) (nI yp_5) yb_6)), (a 19, .inl (cm 19, 2000, .inl w38))]) hP hD [2, 0] [1, 3] rfl rfl (by decide) (by decide) hk1 hFc hP1 hD1
            have hP : va_P D vwCl [(a 29, .inl (cm 29, 700, .inl gl_7)), (a 1, .inl (cm 1, 1400, .inl fT)), (h0, .inr (11, gP a i g (nI w39) (nI zs) (nI w30) w31 w32 w33 w34 (nI bk) (nI yp_5) yb_6)), (a 19, .inl (cm 19, 2000, .inl w38))] H := hP
            have hD : va_D A [(a 29, .inl (cm 29, 700, .inl gl_7)), (a 1, .inl (cm 1, 1400, .inl fT)), (h0, .inr (11, gP a i g (nI w39) (nI zs) (nI w30) w31 w32 w33 w34 (nI bk) (nI yp_5) yb_6)), (a 19, .inl (cm 19, 2000, .inl w38))] := hD
            try dsimp only at hw
            clear hz1 hk1 hFc hPc hKc hDc
            obtain ⟨rfl, rfl⟩ := hw
            have hP : va_P D vwCl [(a 29, .inl (cm 29, 700, .inl gl_7)), (a 1, .inl (cm 1, 1400, .inl fT)), (h0, .inr (11, gP a i g (nI (cd + 1)) (nI zs) (nI w30) w31 w32 w33 w34 (nI bk) (nI yp_5) yb_6)), (a 19, .inl (cm 19, 2000, .inl (upd (upd fc (2 * cd) 10) (2 * cd + 1) r29)))] H := hP
            have hD : va_D A [(a 29, .inl (cm 29, 700, .inl gl_7)), (a 1, .inl (cm 1, 1400, .inl fT)), (h0, .inr (11, gP a i g (nI (cd + 1)) (nI zs) (nI w30) w31 w32 w33 w34 (nI bk) (nI yp_5) yb_6)), (a 19, .inl (cm 19, 2000, .inl (upd (upd fc (2 * cd) 10) (2 * cd + 1) r29)))] := hD
            exact W.vret hx hb hr (fun t ht hW => ⟨⟨((upd (upd fc (2 * cd) 10) (2 * cd + 1) r29), gl_7, (cd + 1), w30, w31, w32, w33, w34, yp_5, yb_6), rfl, (by (try dsimp only); exact ⟨by omega, by omega, by omega, hPl_11, fun z => have hlast := (hb35_b z).2; ⟨(hWl_12 (hb35_b z).1).1, by omega, PSt_app (x := 10) (hWl_12 (hb35_b z).1).2 (Or.inl ⟨by omega, by omega, by omega⟩)⟩, fun z => by rw [(hb35_V z).2.2.2.2, (hb35_V z).2.2.2.1, (hb35_V z).2.2.1]; exact (hU3 (hb35_b z).1).num hzs (hb35_V z).1, fun z => absurd hA_r36 z⟩), by rw [ht]; exact hP.sub [2, 1, 3, 0] rfl, va_K.moved hW.alike (hK.sub [0, 1, 2] rfl), hD.sub [2, 1, 3, 0] (by decide) rfl⟩, hS.F ht⟩) hS.2.2 dX11_unit_164
          ·
            refine lv_if_eq (tgt := 164) hx hb dX11_unit_154 (by decide) (fun hc => ?_) (fun hc => absurd (by decide) hc)
            exact W.vret hx hb hr (fun t ht hW => ⟨⟨(fc, gl_7, cd, w30, w31, w32, w33, w34, yp_5, yb_6), rfl, (by (try dsimp only); exact ⟨by omega, by omega, by omega, hPl_11, fun z => absurd z hA_r36, fun z => absurd z hA_r36, fun _ => (hU3 hA_r28).uno hzs (hS3 hA_r28) (hI3 hA_r28) (hX3 hA_r28) (nm_mx (by omega) (hb35_N hA_r28 hA_r36))⟩), by rw [ht]; exact hP.sub [2, 3, 0, 1] rfl, va_K.moved hW.alike (hK.sub [0, 1, 2] rfl), hD.sub [2, 3, 0, 1] (by decide) rfl⟩, hS.F ht⟩) hS.2.2 dX11_unit_164
        ·
          refine lv_if_eq (tgt := 164) hx hb dX11_unit_139 (by decide) (fun hc => ?_) (fun hc => absurd (by decide) hc)
          exact W.vret hx hb hr (fun t ht hW => ⟨⟨(fc, gl_7, cd, w23, w24, yd_2, ye_3, yf_4, yp_5, yb_6), rfl, (by (try dsimp only); exact ⟨by omega, by omega, by omega, hPl_11, fun z => absurd z hA_r28, fun z => absurd z hA_r28, hNl_14⟩), by rw [ht]; exact hP.sub [2, 3, 0, 1] rfl, va_K.moved hW.alike (hK.sub [0, 1, 2] rfl), hD.sub [2, 3, 0, 1] (by decide) rfl⟩, hS.F ht⟩) hS.2.2 dX11_unit_164
  ·
    intro ya_40 yd_41 ye_42 yf_43 yp_44 yb_45 gl_46 hi1_47 hi2_48 hi3_49 hPl_50 hWl_51 hVl_52 hNl_53 hx54 H locs ls hP hD hS hl
    exact W.vret hx hb hr (fun t ht hW => ⟨⟨(fc, gl_46, cd, ya_40, en, yd_41, ye_42, yf_43, yp_44, yb_45), rfl, (by (try dsimp only); exact ⟨by omega, by omega, by omega, hPl_50, fun z => absurd z hx54, fun z => absurd z hx54, hNl_53⟩), by rw [ht]; exact hP.sub [0, 1, 2, 3] rfl, va_K.moved hW.alike (hK.sub [0, 1, 2] rfl), hD.sub [0, 1, 2, 3] (by decide) rfl⟩, hS.F ht⟩) hS.2.2 dX11_unit_52

