theorem dX11_drops_0 : decode cX11_drops 0 = .ok (.aload_n 0, 1) := by decide +kernel
theorem dX11_drops_1 : decode cX11_drops 1 = .ok (.iload_n 1, 1) := by decide +kernel
theorem dX11_drops_2 : decode cX11_drops 2 = .ok (.iload_n 2, 1) := by decide +kernel
theorem dX11_drops_3 : decode cX11_drops 3 = .ok (.invokevirtual 215, 3) := by decide +kernel
theorem dX11_drops_6 : decode cX11_drops 6 = .ok (.aload_n 0, 1) := by decide +kernel
theorem dX11_drops_7 : decode cX11_drops 7 = .ok (.iload_n 1, 1) := by decide +kernel
theorem dX11_drops_8 : decode cX11_drops 8 = .ok (.iload_n 2, 1) := by decide +kernel
theorem dX11_drops_9 : decode cX11_drops 9 = .ok (.invokevirtual 202, 3) := by decide +kernel
theorem dX11_drops_12 : decode cX11_drops 12 = .ok (.ifCond .ne 5, 3) := by decide +kernel
theorem dX11_drops_15 : decode cX11_drops 15 = .ok (.iconst (-1), 1) := by decide +kernel
theorem dX11_drops_16 : decode cX11_drops 16 = .ok (.ireturn, 1) := by decide +kernel
theorem dX11_drops_17 : decode cX11_drops 17 = .ok (.sipush 160, 3) := by decide +kernel
theorem dX11_drops_20 : decode cX11_drops 20 = .ok (.iload_n 1, 1) := by decide +kernel
theorem dX11_drops_21 : decode cX11_drops 21 = .ok (.imul, 1) := by decide +kernel
theorem dX11_drops_22 : decode cX11_drops 22 = .ok (.aload_n 0, 1) := by decide +kernel
theorem dX11_drops_23 : decode cX11_drops 23 = .ok (.iload_n 1, 1) := by decide +kernel
theorem dX11_drops_24 : decode cX11_drops 24 = .ok (.iload_n 2, 1) := by decide +kernel
theorem dX11_drops_25 : decode cX11_drops 25 = .ok (.i2l, 1) := by decide +kernel
theorem dX11_drops_26 : decode cX11_drops 26 = .ok (.invokevirtual 99, 3) := by decide +kernel
theorem dX11_drops_29 : decode cX11_drops 29 = .ok (.iadd, 1) := by decide +kernel
theorem dX11_drops_30 : decode cX11_drops 30 = .ok (.istore_n 3, 1) := by decide +kernel
theorem dX11_drops_31 : decode cX11_drops 31 = .ok (.aload_n 0, 1) := by decide +kernel
theorem dX11_drops_32 : decode cX11_drops 32 = .ok (.getfield 33, 3) := by decide +kernel
theorem dX11_drops_35 : decode cX11_drops 35 = .ok (.sipush 2048, 3) := by decide +kernel
theorem dX11_drops_38 : decode cX11_drops 38 = .ok (.iload_n 1, 1) := by decide +kernel
theorem dX11_drops_39 : decode cX11_drops 39 = .ok (.imul, 1) := by decide +kernel
theorem dX11_drops_40 : decode cX11_drops 40 = .ok (.aload_n 0, 1) := by decide +kernel
theorem dX11_drops_41 : decode cX11_drops 41 = .ok (.getfield 24, 3) := by decide +kernel
theorem dX11_drops_44 : decode cX11_drops 44 = .ok (.iload_n 3, 1) := by decide +kernel
theorem dX11_drops_45 : decode cX11_drops 45 = .ok (.iaload, 1) := by decide +kernel
theorem dX11_drops_46 : decode cX11_drops 46 = .ok (.iadd, 1) := by decide +kernel
theorem dX11_drops_47 : decode cX11_drops 47 = .ok (.dup2, 1) := by decide +kernel
theorem dX11_drops_48 : decode cX11_drops 48 = .ok (.iaload, 1) := by decide +kernel
theorem dX11_drops_49 : decode cX11_drops 49 = .ok (.iconst 1, 1) := by decide +kernel
theorem dX11_drops_50 : decode cX11_drops 50 = .ok (.isub, 1) := by decide +kernel
theorem dX11_drops_51 : decode cX11_drops 51 = .ok (.iastore, 1) := by decide +kernel
theorem dX11_drops_52 : decode cX11_drops 52 = .ok (.iload_n 3, 1) := by decide +kernel
theorem dX11_drops_53 : decode cX11_drops 53 = .ok (.istore 4, 2) := by decide +kernel
theorem dX11_drops_55 : decode cX11_drops 55 = .ok (.iload 4, 2) := by decide +kernel
theorem dX11_drops_57 : decode cX11_drops 57 = .ok (.iconst 1, 1) := by decide +kernel
theorem dX11_drops_58 : decode cX11_drops 58 = .ok (.iadd, 1) := by decide +kernel
theorem dX11_drops_59 : decode cX11_drops 59 = .ok (.sipush 160, 3) := by decide +kernel
theorem dX11_drops_62 : decode cX11_drops 62 = .ok (.iload_n 1, 1) := by decide +kernel
theorem dX11_drops_63 : decode cX11_drops 63 = .ok (.imul, 1) := by decide +kernel
theorem dX11_drops_64 : decode cX11_drops 64 = .ok (.aload_n 0, 1) := by decide +kernel
theorem dX11_drops_65 : decode cX11_drops 65 = .ok (.iload_n 1, 1) := by decide +kernel
theorem dX11_drops_66 : decode cX11_drops 66 = .ok (.invokevirtual 95, 3) := by decide +kernel
theorem dX11_drops_69 : decode cX11_drops 69 = .ok (.iadd, 1) := by decide +kernel
theorem dX11_drops_70 : decode cX11_drops 70 = .ok (.if_icmp .ge 19, 3) := by decide +kernel
theorem dX11_drops_73 : decode cX11_drops 73 = .ok (.aload_n 0, 1) := by decide +kernel
theorem dX11_drops_74 : decode cX11_drops 74 = .ok (.iload 4, 2) := by decide +kernel
theorem dX11_drops_76 : decode cX11_drops 76 = .ok (.iload 4, 2) := by decide +kernel
theorem dX11_drops_78 : decode cX11_drops 78 = .ok (.iconst 1, 1) := by decide +kernel
theorem dX11_drops_79 : decode cX11_drops 79 = .ok (.iadd, 1) := by decide +kernel
theorem dX11_drops_80 : decode cX11_drops 80 = .ok (.invokevirtual 195, 3) := by decide +kernel
theorem dX11_drops_83 : decode cX11_drops 83 = .ok (.iinc 4 1, 3) := by decide +kernel
theorem dX11_drops_86 : decode cX11_drops 86 = .ok (.goto (-31), 3) := by decide +kernel
theorem dX11_drops_89 : decode cX11_drops 89 = .ok (.aload_n 0, 1) := by decide +kernel
theorem dX11_drops_90 : decode cX11_drops 90 = .ok (.iload_n 1, 1) := by decide +kernel
theorem dX11_drops_91 : decode cX11_drops 91 = .ok (.iconst 1, 1) := by decide +kernel
theorem dX11_drops_92 : decode cX11_drops 92 = .ok (.ldc2_w 237, 3) := by decide +kernel
theorem dX11_drops_95 : decode cX11_drops 95 = .ok (.invokevirtual 130, 3) := by decide +kernel
theorem dX11_drops_98 : decode cX11_drops 98 = .ok (.aload_n 0, 1) := by decide +kernel
theorem dX11_drops_99 : decode cX11_drops 99 = .ok (.iload_n 1, 1) := by decide +kernel
theorem dX11_drops_100 : decode cX11_drops 100 = .ok (.iconst 3, 1) := by decide +kernel
theorem dX11_drops_101 : decode cX11_drops 101 = .ok (.lconst 1, 1) := by decide +kernel
theorem dX11_drops_102 : decode cX11_drops 102 = .ok (.invokevirtual 130, 3) := by decide +kernel
theorem dX11_drops_105 : decode cX11_drops 105 = .ok (.aload_n 0, 1) := by decide +kernel
theorem dX11_drops_106 : decode cX11_drops 106 = .ok (.iload_n 1, 1) := by decide +kernel
theorem dX11_drops_107 : decode cX11_drops 107 = .ok (.iconst 3, 1) := by decide +kernel
theorem dX11_drops_108 : decode cX11_drops 108 = .ok (.invokevirtual 89, 3) := by decide +kernel
theorem dX11_drops_111 : decode cX11_drops 111 = .ok (.aload_n 0, 1) := by decide +kernel
theorem dX11_drops_112 : decode cX11_drops 112 = .ok (.iload_n 1, 1) := by decide +kernel
theorem dX11_drops_113 : decode cX11_drops 113 = .ok (.iconst 2, 1) := by decide +kernel
theorem dX11_drops_114 : decode cX11_drops 114 = .ok (.invokevirtual 89, 3) := by decide +kernel
theorem dX11_drops_117 : decode cX11_drops 117 = .ok (.lcmp, 1) := by decide +kernel
theorem dX11_drops_118 : decode cX11_drops 118 = .ok (.ifCond .gt 5, 3) := by decide +kernel
theorem dX11_drops_121 : decode cX11_drops 121 = .ok (.iconst 1, 1) := by decide +kernel
theorem dX11_drops_122 : decode cX11_drops 122 = .ok (.ireturn, 1) := by decide +kernel
theorem dX11_drops_123 : decode cX11_drops 123 = .ok (.aload_n 0, 1) := by decide +kernel
theorem dX11_drops_124 : decode cX11_drops 124 = .ok (.iload_n 1, 1) := by decide +kernel
theorem dX11_drops_125 : decode cX11_drops 125 = .ok (.bipush 11, 2) := by decide +kernel
theorem dX11_drops_127 : decode cX11_drops 127 = .ok (.lconst 1, 1) := by decide +kernel
theorem dX11_drops_128 : decode cX11_drops 128 = .ok (.invokevirtual 130, 3) := by decide +kernel
theorem dX11_drops_131 : decode cX11_drops 131 = .ok (.aload_n 0, 1) := by decide +kernel
theorem dX11_drops_132 : decode cX11_drops 132 = .ok (.iload_n 1, 1) := by decide +kernel
theorem dX11_drops_133 : decode cX11_drops 133 = .ok (.invokevirtual 192, 3) := by decide +kernel
theorem dX11_drops_136 : decode cX11_drops 136 = .ok (.iconst 2, 1) := by decide +kernel
theorem dX11_drops_137 : decode cX11_drops 137 = .ok (.ireturn, 1) := by decide +kernel
theorem lN_m1 {n : Nat} (h : 0 < n) : lN n + (-1) = lN (n - 1) := by
  have e : lN n = lN (n - 1) + 1 := by
    rw [lN_1, show n - 1 + 1 = n by omega]
  rw [e, Int64.add_assoc, show (1 : Int64) + (-1) = 0 from by decide, Int64.add_zero]
theorem drop_R {k cn q y kx : Nat} {K : Nat → Nat} {fv gv : Nat → Int32} (hs : ∀ i j, i < j → j < cn → K i < K j) (hi : Shl k q y fv gv) (hq : q < cn) (hy : y + 1 = cn) (hx : K q = kx) : tabl (cn - 1) (delN K q) (fun j => gv (160 * k + j)) = dropL (tabl cn K (fun j => fv (160 * k + j))) kx := by
  rw [drop_at cn K _ q kx hs hq hx]
  refine tabl_eq (fun j hj => ⟨rfl, ?_⟩)
  unfold delV
  by_cases a : j < q
  · rw [if_pos a]
    exact hi.1 j a
  · rw [if_neg a]
    exact hi.2.1 j (by omega) (by omega)
def own_c_drops : List Cond := [.methodLink RX11 95 yX11_manyOf, .instanceMethod yX11_manyOf, .selects RX11 yX11_manyOf yX11_manyOf, .initialized RX11, .methodLink RX11 195 yX11_moves, .instanceMethod yX11_moves, .selects RX11 yX11_moves yX11_moves, .methodLink RX11 215 yX11_readsFor, .instanceMethod yX11_readsFor, .selects RX11 yX11_readsFor yX11_readsFor, .methodLink RX11 202 yX11_hasKey, .instanceMethod yX11_hasKey, .selects RX11 yX11_hasKey yX11_hasKey, .methodLink RX11 99 yX11_whereOf, .instanceMethod yX11_whereOf, .selects RX11 yX11_whereOf yX11_whereOf, .fieldLink RX11 33 "ClashFreeModel" "has" "[I", .fieldLink RX11 24 "ClashFreeModel" "inBucket" "[I", .constantLong RX11 237 (-1), .methodLink RX11 130 yX11_adds, .instanceMethod yX11_adds, .selects RX11 yX11_adds yX11_adds, .methodLink RX11 89 yX11_of, .instanceMethod yX11_of, .selects RX11 yX11_of yX11_of, .methodLink RX11 192 yX11_buildsAll, .instanceMethod yX11_buildsAll, .selects RX11 yX11_buildsAll yX11_buildsAll]
def wp_c_drops : List Cond := .code yX11_drops cX11_drops 5 (some .int) :: (own_c_drops ++ (wp_c_manyOf ++ (wp_c_moves ++ (wp_c_readsFor ++ (wp_c_hasKey ++ (wp_c_whereOf ++ (wp_c_adds ++ (wp_c_of ++ (wp_c_buildsAll ++ (wsX110 ++ ([] : List Cond)))))))))))
set_option maxRecDepth 20000 in
theorem inown_c_drops : ∀ w ∈ own_c_drops, w ∈ lw_tbl := mem_places [1396, 1398, 40, 115, 1509, 1511, 63, 1498, 1500, 61, 1477, 1479, 56, 1481, 1483, 57, 1225, 1222, 1526, 1458, 1460, 53, 1400, 1402, 41, 1392, 1394, 39] (by decide +kernel)
set_option maxRecDepth 20000 in
theorem in_c_drops : ∀ w ∈ wp_c_drops, w ∈ lw_tbl := List.forall_mem_cons.mpr ⟨List.mem_of_getElem? (i := 1525) (by decide +kernel), List.forall_mem_append.mpr ⟨inown_c_drops, List.forall_mem_append.mpr ⟨in_c_manyOf, List.forall_mem_append.mpr ⟨in_c_moves, List.forall_mem_append.mpr ⟨in_c_readsFor, List.forall_mem_append.mpr ⟨in_c_hasKey, List.forall_mem_append.mpr ⟨in_c_whereOf, List.forall_mem_append.mpr ⟨in_c_adds, List.forall_mem_append.mpr ⟨in_c_of, List.forall_mem_append.mpr ⟨in_c_buildsAll, List.forall_mem_append.mpr ⟨lwb_X11, fun _ h => absurd h List.not_mem_nil⟩⟩⟩⟩⟩⟩⟩⟩⟩⟩⟩
set_option maxRecDepth 20000 in
theorem good_c_drops : wp_c_drops.all goodWord = true := by decide +kernel
set_option maxRecDepth 20000 in
theorem g_c_drops_c_manyOf_95 : GoodIn wp_c_drops (wsV RX11 95 RX11 yX11_manyOf wp_c_manyOf) := goodIn_sub (List.forall_mem_append.mpr ⟨List.forall_mem_cons.mpr ⟨(List.mem_of_getElem? (i := 1) rfl), List.forall_mem_cons.mpr ⟨(List.mem_of_getElem? (i := 2) rfl), List.forall_mem_cons.mpr ⟨(List.mem_of_getElem? (i := 3) rfl), List.forall_mem_cons.mpr ⟨(List.mem_of_getElem? (i := 4) rfl), fun _ h => absurd h List.not_mem_nil⟩⟩⟩⟩, (fun _ h => (List.mem_cons_of_mem _ (List.mem_append_right _ (List.mem_append_left _ h))))⟩) (by decide +kernel)
set_option maxRecDepth 20000 in
theorem g_c_drops_c_moves_195 : GoodIn wp_c_drops (wsV RX11 195 RX11 yX11_moves wp_c_moves) := goodIn_sub (List.forall_mem_append.mpr ⟨List.forall_mem_cons.mpr ⟨(List.mem_of_getElem? (i := 5) rfl), List.forall_mem_cons.mpr ⟨(List.mem_of_getElem? (i := 6) rfl), List.forall_mem_cons.mpr ⟨(List.mem_of_getElem? (i := 7) rfl), List.forall_mem_cons.mpr ⟨(List.mem_of_getElem? (i := 4) rfl), fun _ h => absurd h List.not_mem_nil⟩⟩⟩⟩, (fun _ h => (List.mem_cons_of_mem _ (List.mem_append_right _ (List.mem_append_right _ (List.mem_append_left _ h)))))⟩) (by decide +kernel)
set_option maxRecDepth 20000 in
theorem g_c_drops_c_readsFor_215 : GoodIn wp_c_drops (wsV RX11 215 RX11 yX11_readsFor wp_c_readsFor) := goodIn_sub (List.forall_mem_append.mpr ⟨List.forall_mem_cons.mpr ⟨(List.mem_of_getElem? (i := 8) rfl), List.forall_mem_cons.mpr ⟨(List.mem_of_getElem? (i := 9) rfl), List.forall_mem_cons.mpr ⟨(List.mem_of_getElem? (i := 10) rfl), List.forall_mem_cons.mpr ⟨(List.mem_of_getElem? (i := 4) rfl), fun _ h => absurd h List.not_mem_nil⟩⟩⟩⟩, (fun _ h => (List.mem_cons_of_mem _ (List.mem_append_right _ (List.mem_append_right _ (List.mem_append_right _ (List.mem_append_left _ h))))))⟩) (by decide +kernel)
set_option maxRecDepth 20000 in
theorem g_c_drops_c_hasKey_202 : GoodIn wp_c_drops (wsV RX11 202 RX11 yX11_hasKey wp_c_hasKey) := goodIn_sub (List.forall_mem_append.mpr ⟨List.forall_mem_cons.mpr ⟨(List.mem_of_getElem? (i := 11) rfl), List.forall_mem_cons.mpr ⟨(List.mem_of_getElem? (i := 12) rfl), List.forall_mem_cons.mpr ⟨(List.mem_of_getElem? (i := 13) rfl), List.forall_mem_cons.mpr ⟨(List.mem_of_getElem? (i := 4) rfl), fun _ h => absurd h List.not_mem_nil⟩⟩⟩⟩, (fun _ h => (List.mem_cons_of_mem _ (List.mem_append_right _ (List.mem_append_right _ (List.mem_append_right _ (List.mem_append_right _ (List.mem_append_left _ h)))))))⟩) (by decide +kernel)
set_option maxRecDepth 20000 in
theorem g_c_drops_c_whereOf_99 : GoodIn wp_c_drops (wsV RX11 99 RX11 yX11_whereOf wp_c_whereOf) := goodIn_sub (List.forall_mem_append.mpr ⟨List.forall_mem_cons.mpr ⟨(List.mem_of_getElem? (i := 14) rfl), List.forall_mem_cons.mpr ⟨(List.mem_of_getElem? (i := 15) rfl), List.forall_mem_cons.mpr ⟨(List.mem_of_getElem? (i := 16) rfl), List.forall_mem_cons.mpr ⟨(List.mem_of_getElem? (i := 4) rfl), fun _ h => absurd h List.not_mem_nil⟩⟩⟩⟩, (fun _ h => (List.mem_cons_of_mem _ (List.mem_append_right _ (List.mem_append_right _ (List.mem_append_right _ (List.mem_append_right _ (List.mem_append_right _ (List.mem_append_left _ h))))))))⟩) (by decide +kernel)
set_option maxRecDepth 20000 in
theorem g_c_drops_c_adds_130 : GoodIn wp_c_drops (wsV RX11 130 RX11 yX11_adds wp_c_adds) := goodIn_sub (List.forall_mem_append.mpr ⟨List.forall_mem_cons.mpr ⟨(List.mem_of_getElem? (i := 20) rfl), List.forall_mem_cons.mpr ⟨(List.mem_of_getElem? (i := 21) rfl), List.forall_mem_cons.mpr ⟨(List.mem_of_getElem? (i := 22) rfl), List.forall_mem_cons.mpr ⟨(List.mem_of_getElem? (i := 4) rfl), fun _ h => absurd h List.not_mem_nil⟩⟩⟩⟩, (fun _ h => (List.mem_cons_of_mem _ (List.mem_append_right _ (List.mem_append_right _ (List.mem_append_right _ (List.mem_append_right _ (List.mem_append_right _ (List.mem_append_right _ (List.mem_append_left _ h)))))))))⟩) (by decide +kernel)
set_option maxRecDepth 20000 in
theorem g_c_drops_c_of_89 : GoodIn wp_c_drops (wsV RX11 89 RX11 yX11_of wp_c_of) := goodIn_sub (List.forall_mem_append.mpr ⟨List.forall_mem_cons.mpr ⟨(List.mem_of_getElem? (i := 23) rfl), List.forall_mem_cons.mpr ⟨(List.mem_of_getElem? (i := 24) rfl), List.forall_mem_cons.mpr ⟨(List.mem_of_getElem? (i := 25) rfl), List.forall_mem_cons.mpr ⟨(List.mem_of_getElem? (i := 4) rfl), fun _ h => absurd h List.not_mem_nil⟩⟩⟩⟩, (fun _ h => (List.mem_cons_of_mem _ (List.mem_append_right _ (List.mem_append_right _ (List.mem_append_right _ (List.mem_append_right _ (List.mem_append_right _ (List.mem_append_right _ (List.mem_append_right _ (List.mem_append_left _ h))))))))))⟩) (by decide +kernel)
set_option maxRecDepth 20000 in
theorem g_c_drops_c_buildsAll_192 : GoodIn wp_c_drops (wsV RX11 192 RX11 yX11_buildsAll wp_c_buildsAll) := goodIn_sub (List.forall_mem_append.mpr ⟨List.forall_mem_cons.mpr ⟨(List.mem_of_getElem? (i := 26) rfl), List.forall_mem_cons.mpr ⟨(List.mem_of_getElem? (i := 27) rfl), List.forall_mem_cons.mpr ⟨(List.mem_of_getElem? (i := 28) rfl), List.forall_mem_cons.mpr ⟨(List.mem_of_getElem? (i := 4) rfl), fun _ h => absurd h List.not_mem_nil⟩⟩⟩⟩, (fun _ h => (List.mem_cons_of_mem _ (List.mem_append_right _ (List.mem_append_right _ (List.mem_append_right _ (List.mem_append_right _ (List.mem_append_right _ (List.mem_append_right _ (List.mem_append_right _ (List.mem_append_right _ (List.mem_append_left _ h)))))))))))⟩) (by decide +kernel)
set_option maxHeartbeats 4000000 in
set_option maxRecDepth 100000 in
theorem lp_drops (l : Launch) {p : Program} {e : Env} {s : State} {m : MethodId} {args : Array Value} {below : List Frame} {meth : Method} {c : Code} {Q : State → Prop} {A : Nat → Prop} (D : va_G) (h0 : Nat) (a : Nat → Nat) (cm : Nat → ClassId) (i : Nat → Int32) (g : Nat → Int64) (fn : Nat → Int64) (fk : Nat → Int32) (fv : Nat → Int32) (fb : Nat → Int32) (fr : Nat → Int32) (ff : Nat → Int32) (fh : Nat → Int32) (fa : Nat → Int64) (fs : Nat → Int64) (k : Nat) (cn : Nat) (qi : Nat) (hk : k < 4) (h1 : fn (17 * k + 1) = lN cn) (hcn : cn ≤ 160) (hx : p.tables.exec = Jvm.exec) (hb : c.code = cX11_drops) (hml : c.maxLocals = 5) (hown : s.vm.findClass RX11 = some m.cls) (hts : ∀ w ∈ wp_c_drops, w.before args s = true) (hA : ∀ q, s.heap.size ≤ q → A q) (hK : va_K D vwCl [(cm 3, .long), (cm 4, .int), (cm 5, .int), (cm 6, .int), (cm 7, .int), (cm 8, .int), (cm 9, .int), (cm 10, .long), (cm 11, .long)] s) (kx89 : ∀ (y : Nat), ∀ (gk : Nat → Int32), ∀ (gv : Nat → Int32), ∀ (gb : Nat → Int32), ∀ (gr : Nat → Int32), (qi ≤ y) → (y < cn) → (Shl k qi y fk gk) → (Shl k qi y fv gv) → (Shl k qi y fb gb) → (Shl k qi y fr gr) → (cn ≤ y + 1) → ∀ (H : Heap) (locs : List Loc) (ls : Array Slot), va_P D vwCl [(h0, .inr (11, gM a i g)), (a 3, .inl (cm 3, 85, .inr (.inl fn))), (a 4, .inl (cm 4, 800, .inl gk)), (a 5, .inl (cm 5, 800, .inl gv)), (a 6, .inl (cm 6, 800, .inl gb)), (a 7, .inl (cm 7, 800, .inl gr)), (a 8, .inl (cm 8, 10240, .inl ff)), (a 9, .inl (cm 9, 10240, .inl fh)), (a 10, .inl (cm 10, 10240, .inr (.inl fa))), (a 11, .inl (cm 11, 10240, .inr (.inl fs)))] H → va_D A [(h0, .inr (11, gM a i g)), (a 3, .inl (cm 3, 85, .inr (.inl fn))), (a 4, .inl (cm 4, 800, .inl gk)), (a 5, .inl (cm 5, 800, .inl gv)), (a 6, .inl (cm 6, 800, .inl gb)), (a 7, .inl (cm 7, 800, .inl gr)), (a 8, .inl (cm 8, 10240, .inl ff)), (a 9, .inl (cm 9, 10240, .inl fh)), (a 10, .inl (cm 10, 10240, .inr (.inl fa))), (a 11, .inl (cm 11, 10240, .inr (.inl fs)))] → va_S A s.heap H locs → lv_has ls 5 [(0, .ref h0), (1, .int (nI k))] → W p l e ({ frames := 9, cells := 0, slots := 0, locals := 230 }) s m args below meth c H locs 0 0 Q (F0 m 89 ls [])) : ∀ (N : Nat), ∀ (y : Nat), ∀ (gk : Nat → Int32), ∀ (gv : Nat → Int32), ∀ (gb : Nat → Int32), ∀ (gr : Nat → Int32), (qi ≤ y) → (y < cn) → (Shl k qi y fk gk) → (Shl k qi y fv gv) → (Shl k qi y fb gb) → (Shl k qi y fr gr) → cn - y < N → ∀ (H : Heap) (locs : List Loc) (ls : Array Slot), va_P D vwCl [(h0, .inr (11, gM a i g)), (a 3, .inl (cm 3, 85, .inr (.inl fn))), (a 4, .inl (cm 4, 800, .inl gk)), (a 5, .inl (cm 5, 800, .inl gv)), (a 6, .inl (cm 6, 800, .inl gb)), (a 7, .inl (cm 7, 800, .inl gr)), (a 8, .inl (cm 8, 10240, .inl ff)), (a 9, .inl (cm 9, 10240, .inl fh)), (a 10, .inl (cm 10, 10240, .inr (.inl fa))), (a 11, .inl (cm 11, 10240, .inr (.inl fs)))] H → va_D A [(h0, .inr (11, gM a i g)), (a 3, .inl (cm 3, 85, .inr (.inl fn))), (a 4, .inl (cm 4, 800, .inl gk)), (a 5, .inl (cm 5, 800, .inl gv)), (a 6, .inl (cm 6, 800, .inl gb)), (a 7, .inl (cm 7, 800, .inl gr)), (a 8, .inl (cm 8, 10240, .inl ff)), (a 9, .inl (cm 9, 10240, .inl fh)), (a 10, .inl (cm 10, 10240, .inr (.inl fa))), (a 11, .inl (cm 11, 10240, .inr (.inl fs)))] → va_S A s.heap H locs → lv_has ls 5 [(4, .int (nI (160 * k + y))), (0, .ref h0), (1, .int (nI k))] → W p l e ({ frames := 9, cells := 0, slots := 0, locals := 230 }) s m args below meth c H locs 0 0 Q (F0 m 55 ls []) := by
  have hin_X11 : ∀ w ∈ wsX110, w ∈ wp_c_drops := fun _ h => (List.mem_cons_of_mem _ (List.mem_append_right _ (List.mem_append_right _ (List.mem_append_right _ (List.mem_append_right _ (List.mem_append_right _ (List.mem_append_right _ (List.mem_append_right _ (List.mem_append_right _ (List.mem_append_right _ (List.mem_append_left _ h)))))))))))
  intro N
  induction N with
  | zero =>
    intro y gk gv gb gr hy1 hy2 s1 s2 s3 s4 hm
    exact absurd hm (Nat.not_lt_zero _)
  | succ N ih =>
    intro y gk gv gb gr hy1 hy2 s1 s2 s3 s4 hm H locs ls hP hD hS hl
    refine lv_iload hx hb dX11_drops_55 (lv_at hl 0 rfl) ?_
    refine lv_iconst (v := 1) hx hb dX11_drops_57 (by decide) ?_
    refine lv_iadd hx hb dX11_drops_58 ?_
    refine lv_topi (fun v1 ev1 => ?_)
    obtain rfl : v1 = nI (160 * k + (y + 1)) := ev1.trans (nI_1 _)
    refine lv_sipush (v := 160) hx hb dX11_drops_59 (by decide) ?_
    refine lv_iload_n hx hb dX11_drops_62 rfl (lv_at hl 2 rfl) ?_
    refine lv_imul hx hb dX11_drops_63 ?_
    refine lv_aload_n hx hb dX11_drops_64 rfl (lv_at hl 1 rfl) ?_
    refine lv_iload_n hx hb dX11_drops_65 rfl (lv_at hl 2 rfl) ?_
    have hPc := hP.sub (ws' := [(h0, .inr (11, gM a i g)), (a 3, .inl (cm 3, 85, .inr (.inl fn)))]) [0, 1] rfl
    have hKc := hK.sub (tys' := [(cm 3, .long)]) [0] rfl
    have hFc := va_free0 hS hA
    refine va_calli (va_runV (As := [.int (nI k)]) (rest := [.int (160 * (nI k)), .int (nI (160 * k + (y + 1)))]) ⟨hx, hb, hml, hown, hts⟩ (c_manyOf l D _ h0 a cm i g fn k cn (by first | assumption | omega) h1) (cwV 1 hts g_c_drops_c_manyOf_95 rfl rfl rfl (by decide +kernel) ⟨(Nat.le_of_ble_eq_true rfl), (Nat.le_of_ble_eq_true rfl)⟩) (PcR_V (q0 := 0) hPc hKc rfl rfl) rfl rfl hl.1 rfl (lv_room (Nat.le_of_ble_eq_true rfl)) dX11_drops_66 ⟨(Nat.le_of_ble_eq_true rfl), (Nat.le_of_ble_eq_true rfl)⟩) hS (fun q _ h => hFc q h) hFc (fun r2 uu tt H locs htt hvm hw hB hz1 hk1 hS => ?_)
    have hP := va_keep hP hk1
    try dsimp only at hw
    clear hB hz1 hk1 hFc hPc hKc
    obtain rfl : r2 = nI cn := hw
    refine lv_iadd hx hb dX11_drops_69 ?_
    refine lv_topi (fun v3 ev3 => ?_)
    obtain rfl : v3 = nI (160 * k + cn) := ev3.trans (ix160 k _)
    refine lv_icmp_ge (tgt := 89) hx hb dX11_drops_70 (by decide) (fun hc4 => ?_) (fun hc4 => ?_)
    ·
      have hge_y : cn ≤ y + 1 := by
        have := (nI_leI (a := 160 * k + cn) (b := 160 * k + (y + 1)) (by omega) (by omega)).mp hc4
        omega
      exact kx89 y gk gv gb gr (hy1) (hy2) (s1) (s2) (s3) (s4) (by omega) H locs ls (hP.sub [0, 1, 2, 3, 4, 5, 6, 7, 8, 9] rfl) (hD.sub [0, 1, 2, 3, 4, 5, 6, 7, 8, 9] (by decide) rfl) hS (lv_sub hl [1, 2] rfl)
    ·
      have hlt_y : y + 1 < cn := by
        rcases Nat.lt_or_ge (y + 1) cn with z | z
        · exact z
        · exact absurd (nI_le (show 160 * k + cn ≤ 160 * k + (y + 1) by omega) (by omega)) hc4
      refine lv_aload_n hx hb dX11_drops_73 rfl (lv_at hl 1 rfl) ?_
      refine lv_iload hx hb dX11_drops_74 (lv_at hl 0 rfl) ?_
      refine lv_iload hx hb dX11_drops_76 (lv_at hl 0 rfl) ?_
      refine lv_iconst (v := 1) hx hb dX11_drops_78 (by decide) ?_
      refine lv_iadd hx hb dX11_drops_79 ?_
      refine lv_topi (fun v5 ev5 => ?_)
      obtain rfl : v5 = nI (160 * k + (y + 1)) := ev5.trans (nI_1 _)
      have hPc := hP.sub (ws' := [(h0, .inr (11, gM a i g)), (a 4, .inl (cm 4, 800, .inl gk)), (a 5, .inl (cm 5, 800, .inl gv)), (a 6, .inl (cm 6, 800, .inl gb)), (a 7, .inl (cm 7, 800, .inl gr))]) [0, 2, 3, 4, 5] rfl
      have hKc := hK.sub (tys' := [(cm 4, .int), (cm 5, .int), (cm 6, .int), (cm 7, .int)]) [1, 2, 3, 4] rfl
      have hDc := hD.sub (ws' := [(h0, .inr (11, gM a i g)), (a 4, .inl (cm 4, 800, .inl gk)), (a 5, .inl (cm 5, 800, .inl gv)), (a 6, .inl (cm 6, 800, .inl gb)), (a 7, .inl (cm 7, 800, .inl gr))]) [0, 2, 3, 4, 5] (by decide) rfl
      have hFc := va_free (wc := [(h0, .inr (11, gM a i g)), (a 4, .inl (cm 4, 800, .inl gk)), (a 5, .inl (cm 5, 800, .inl gv)), (a 6, .inl (cm 6, 800, .inl gb)), (a 7, .inl (cm 7, 800, .inl gr))]) hD hS hA [0, 2, 3, 4, 5] rfl
      refine va_callv (va_runV (As := [.int (nI (160 * k + y)), .int (nI (160 * k + (y + 1)))]) (rest := []) ⟨hx, hb, hml, hown, hts⟩ (c_moves l D _ h0 a cm i g gk gv gb gr (160 * k + y) (160 * k + (y + 1)) (by first | assumption | omega) (by first | assumption | omega)) (cwV 2 hts g_c_drops_c_moves_195 rfl rfl rfl (by decide +kernel) ⟨(Nat.le_of_ble_eq_true rfl), (Nat.le_of_ble_eq_true rfl)⟩) (PcW_V (q0 := 0) hPc hKc hDc rfl rfl) rfl rfl hl.1 rfl (lv_room (Nat.le_of_ble_eq_true rfl)) dX11_drops_80 ⟨(Nat.le_of_ble_eq_true rfl), (Nat.le_of_ble_eq_true rfl)⟩) hS (fun q _ h => hFc q h) hFc (fun uu tt H locs htt hvm hw hB hz1 hk1 hS => ?_)
      obtain ⟨w7, w8, w9, w10⟩ := uu
      obtain ⟨hP1, hK1, hD1⟩ := hB
      rw [htt] at hP1
      have hK1 := va_K.moved hvm.symm hK1
      have hP1 : va_P D vwCl [(h0, .inr (11, gM a i g)), (a 4, .inl (cm 4, 800, .inl w7)), (a 5, .inl (cm 5, 800, .inl w8)), (a 6, .inl (cm 6, 800, .inl w9)), (a 7, .inl (cm 7, 800, .inl w10))] H := hP1
      obtain ⟨hP, hD⟩ := va_join (wr := [(a 3, .inl (cm 3, 85, .inr (.inl fn))), (a 8, .inl (cm 8, 10240, .inl ff)), (a 9, .inl (cm 9, 10240, .inl fh)), (a 10, .inl (cm 10, 10240, .inr (.inl fa))), (a 11, .inl (cm 11, 10240, .inr (.inl fs)))]) (w1 := [(h0, .inr (11, gM a i g)), (a 4, .inl (cm 4, 800, .inl w7)), (a 5, .inl (cm 5, 800, .inl w8)), (a 6, .inl (cm 6, 800, .inl w9)), (a 7, .inl (cm 7, 800, .inl w10))]) hP hD [0, 2, 3, 4, 5] [1, 6, 7, 8, 9] rfl rfl (by decide) (by decide) hk1 hFc hP1 hD1
      have hP : va_P D vwCl [(a 3, .inl (cm 3, 85, .inr (.inl fn))), (a 8, .inl (cm 8, 10240, .inl ff)), (a 9, .inl (cm 9, 10240, .inl fh)), (a 10, .inl (cm 10, 10240, .inr (.inl fa))), (a 11, .inl (cm 11, 10240, .inr (.inl fs))), (h0, .inr (11, gM a i g)), (a 4, .inl (cm 4, 800, .inl w7)), (a 5, .inl (cm 5, 800, .inl w8)), (a 6, .inl (cm 6, 800, .inl w9)), (a 7, .inl (cm 7, 800, .inl w10))] H := hP
      have hD : va_D A [(a 3, .inl (cm 3, 85, .inr (.inl fn))), (a 8, .inl (cm 8, 10240, .inl ff)), (a 9, .inl (cm 9, 10240, .inl fh)), (a 10, .inl (cm 10, 10240, .inr (.inl fa))), (a 11, .inl (cm 11, 10240, .inr (.inl fs))), (h0, .inr (11, gM a i g)), (a 4, .inl (cm 4, 800, .inl w7)), (a 5, .inl (cm 5, 800, .inl w8)), (a 6, .inl (cm 6, 800, .inl w9)), (a 7, .inl (cm 7, 800, .inl w10))] := hD
      try dsimp only at hw
      clear hz1 hk1 hFc hPc hKc hDc
      obtain ⟨em11, em12, em13, em14⟩ := hw
      subst em11
      subst em12
      subst em13
      subst em14
      have hP : va_P D vwCl [(a 3, .inl (cm 3, 85, .inr (.inl fn))), (a 8, .inl (cm 8, 10240, .inl ff)), (a 9, .inl (cm 9, 10240, .inl fh)), (a 10, .inl (cm 10, 10240, .inr (.inl fa))), (a 11, .inl (cm 11, 10240, .inr (.inl fs))), (h0, .inr (11, gM a i g)), (a 4, .inl (cm 4, 800, .inl (upd gk (160 * k + y) (gk (160 * k + (y + 1)))))), (a 5, .inl (cm 5, 800, .inl (upd gv (160 * k + y) (gv (160 * k + (y + 1)))))), (a 6, .inl (cm 6, 800, .inl (upd gb (160 * k + y) (gb (160 * k + (y + 1)))))), (a 7, .inl (cm 7, 800, .inl (upd gr (160 * k + y) (gr (160 * k + (y + 1))))))] H := hP
      have hD : va_D A [(a 3, .inl (cm 3, 85, .inr (.inl fn))), (a 8, .inl (cm 8, 10240, .inl ff)), (a 9, .inl (cm 9, 10240, .inl fh)), (a 10, .inl (cm 10, 10240, .inr (.inl fa))), (a 11, .inl (cm 11, 10240, .inr (.inl fs))), (h0, .inr (11, gM a i g)), (a 4, .inl (cm 4, 800, .inl (upd gk (160 * k + y) (gk (160 * k + (y + 1)))))), (a 5, .inl (cm 5, 800, .inl (upd gv (160 * k + y) (gv (160 * k + (y + 1)))))), (a 6, .inl (cm 6, 800, .inl (upd gb (160 * k + y) (gb (160 * k + (y + 1)))))), (a 7, .inl (cm 7, 800, .inl (upd gr (160 * k + y) (gr (160 * k + (y + 1))))))] := hD
      refine lv_iinc (v := nI (160 * k + (y + 1))) (lv' := [(4, .int (nI (160 * k + (y + 1)))), (0, .ref h0), (1, .int (nI k))]) hx hb dX11_drops_83 hl (k := 0) rfl (nI_1 _) (by decide) rfl (fun ls hl => ?_)
      refine lv_goto (tgt := 55) hx hb dX11_drops_86 (by decide) ?_
      exact ih (y + 1) (upd gk (160 * k + y) (gk (160 * k + (y + 1)))) (upd gv (160 * k + y) (gv (160 * k + (y + 1)))) (upd gb (160 * k + y) (gb (160 * k + (y + 1)))) (upd gr (160 * k + y) (gr (160 * k + (y + 1)))) (by omega) (by omega) (Shl_step (by omega) (by omega) s1) (Shl_step (by omega) (by omega) s2) (Shl_step (by omega) (by omega) s3) (Shl_step (by omega) (by omega) s4) (by omega) H locs ls (hP.sub [5, 0, 6, 7, 8, 9, 1, 2, 3, 4] rfl) (hD.sub [5, 0, 6, 7, 8, 9, 1, 2, 3, 4] (by decide) rfl) hS (lv_sub hl [0, 1, 2] rfl)
set_option maxHeartbeats 4000000 in
set_option maxRecDepth 100000 in
theorem c_drops (l : Launch) (D : va_G) (sz : Nat) (h0 : Nat) (a : Nat → Nat) (cm : Nat → ClassId) (i : Nat → Int32) (g : Nat → Int64) (fn : Nat → Int64) (fk : Nat → Int32) (fv : Nat → Int32) (fb : Nat → Int32) (fr : Nat → Int32) (ff : Nat → Int32) (fh : Nat → Int32) (fa : Nat → Int64) (fs : Nat → Int64) (k : Nat) (cn : Nat) (nb : Nat) (K : Nat → Nat) (J : Nat → Nat) (kx : Nat) (hk : k < 4) (hT : TabS k cn nb K J fn fk fb ff fh) (hkx : kx < 2147483647) (hfa : RngL fa) (hfs : RngL fs) : Met l yX11_drops wp_c_drops ({ frames := 9, cells := 0, slots := 0, locals := 230 }) (PcW D [.ref h0, .int (nI k), .int (nI kx)] sz [(h0, .inr (11, gM a i g)), (a 3, .inl (cm 3, 85, .inr (.inl fn))), (a 4, .inl (cm 4, 800, .inl fk)), (a 5, .inl (cm 5, 800, .inl fv)), (a 6, .inl (cm 6, 800, .inl fb)), (a 7, .inl (cm 7, 800, .inl fr)), (a 8, .inl (cm 8, 10240, .inl ff)), (a 9, .inl (cm 9, 10240, .inl fh)), (a 10, .inl (cm 10, 10240, .inr (.inl fa))), (a 11, .inl (cm 11, 10240, .inr (.inl fs)))] [(cm 3, .long), (cm 4, .int), (cm 5, .int), (cm 6, .int), (cm 7, .int), (cm 8, .int), (cm 9, .int), (cm 10, .long), (cm 11, .long)]) (va_Qi (fun (r : Int32) (u : (Nat → Int64) × (Nat → Int32) × (Nat → Int32) × (Nat → Int32) × (Nat → Int32) × (Nat → Int32) × (Nat → Int32) × (Nat → Int64) × (Nat → Int64) × (Int64) × (Int64) × (Int64) × (Int32)) => (∃ cd nd Kd Jd, TabS k cd nd Kd Jd u.1 u.2.1 u.2.2.2.1 u.2.2.2.2.2.1 u.2.2.2.2.2.2.1 ∧ cd ≤ cn ∧ ((∃ q, q < cn ∧ K q = kx) → cd + 1 = cn)) ∧ RngL u.2.2.2.2.2.2.2.1 ∧ RngL u.2.2.2.2.2.2.2.2.1 ∧ (∀ x, (x < 17 * k ∨ 17 * k + 17 ≤ x) → u.1 x = fn x) ∧ u.1 (17 * k + 0) = fn (17 * k + 0) ∧ (∀ x, (x < 160 * k ∨ 160 * k + 160 ≤ x) → u.2.1 x = fk x) ∧ (∀ x, (x < 160 * k ∨ 160 * k + 160 ≤ x) → u.2.2.2.1 x = fb x) ∧ (∀ x, (x < 2048 * k ∨ 2048 * k + 2048 ≤ x) → u.2.2.2.2.2.1 x = ff x) ∧ (∀ x, (x < 2048 * k ∨ 2048 * k + 2048 ≤ x) → u.2.2.2.2.2.2.1 x = fh x) ∧ lsR u.1 u.2.1 u.2.2.1 = updS (lsR fn fk fv) k (dropL (lsR fn fk fv k) kx) ∧ dqP r cn K kx) (fun (u : (Nat → Int64) × (Nat → Int32) × (Nat → Int32) × (Nat → Int32) × (Nat → Int32) × (Nat → Int32) × (Nat → Int32) × (Nat → Int64) × (Nat → Int64) × (Int64) × (Int64) × (Int64) × (Int32)) t => va_P D vwCl [(h0, .inr (11, gM a (upd i 15 u.2.2.2.2.2.2.2.2.2.2.2.2) (vp_updL (vp_updL (vp_updL (fun _ => 0) 12 u.2.2.2.2.2.2.2.2.2.1) 13 u.2.2.2.2.2.2.2.2.2.2.1) 14 u.2.2.2.2.2.2.2.2.2.2.2.1))), (a 3, .inl (cm 3, 85, .inr (.inl u.1))), (a 4, .inl (cm 4, 800, .inl u.2.1)), (a 5, .inl (cm 5, 800, .inl u.2.2.1)), (a 6, .inl (cm 6, 800, .inl u.2.2.2.1)), (a 7, .inl (cm 7, 800, .inl u.2.2.2.2.1)), (a 8, .inl (cm 8, 10240, .inl u.2.2.2.2.2.1)), (a 9, .inl (cm 9, 10240, .inl u.2.2.2.2.2.2.1)), (a 10, .inl (cm 10, 10240, .inr (.inl u.2.2.2.2.2.2.2.1))), (a 11, .inl (cm 11, 10240, .inr (.inl u.2.2.2.2.2.2.2.2.1)))] t.heap ∧ va_K D vwCl [(cm 3, .long), (cm 4, .int), (cm 5, .int), (cm 6, .int), (cm 7, .int), (cm 8, .int), (cm 9, .int), (cm 10, .long), (cm 11, .long)] t ∧ va_D (va_A [(h0, .inr (11, gM a i g)), (a 3, .inl (cm 3, 85, .inr (.inl fn))), (a 4, .inl (cm 4, 800, .inl fk)), (a 5, .inl (cm 5, 800, .inl fv)), (a 6, .inl (cm 6, 800, .inl fb)), (a 7, .inl (cm 7, 800, .inl fr)), (a 8, .inl (cm 8, 10240, .inl ff)), (a 9, .inl (cm 9, 10240, .inl fh)), (a 10, .inl (cm 10, 10240, .inr (.inl fa))), (a 11, .inl (cm 11, 10240, .inr (.inl fs)))] sz) [(h0, .inr (11, gM a (upd i 15 u.2.2.2.2.2.2.2.2.2.2.2.2) (vp_updL (vp_updL (vp_updL (fun _ => 0) 12 u.2.2.2.2.2.2.2.2.2.1) 13 u.2.2.2.2.2.2.2.2.2.2.1) 14 u.2.2.2.2.2.2.2.2.2.2.2.1))), (a 3, .inl (cm 3, 85, .inr (.inl u.1))), (a 4, .inl (cm 4, 800, .inl u.2.1)), (a 5, .inl (cm 5, 800, .inl u.2.2.1)), (a 6, .inl (cm 6, 800, .inl u.2.2.2.1)), (a 7, .inl (cm 7, 800, .inl u.2.2.2.2.1)), (a 8, .inl (cm 8, 10240, .inl u.2.2.2.2.2.1)), (a 9, .inl (cm 9, 10240, .inl u.2.2.2.2.2.2.1)), (a 10, .inl (cm 10, 10240, .inr (.inl u.2.2.2.2.2.2.2.1))), (a 11, .inl (cm 11, 10240, .inr (.inl u.2.2.2.2.2.2.2.2.1)))]) (va_A [(h0, .inr (11, gM a i g)), (a 3, .inl (cm 3, 85, .inr (.inl fn))), (a 4, .inl (cm 4, 800, .inl fk)), (a 5, .inl (cm 5, 800, .inl fv)), (a 6, .inl (cm 6, 800, .inl fb)), (a 7, .inl (cm 7, 800, .inl fr)), (a 8, .inl (cm 8, 10240, .inl ff)), (a 9, .inl (cm 9, 10240, .inl fh)), (a 10, .inl (cm 10, 10240, .inr (.inl fa))), (a 11, .inl (cm 11, 10240, .inr (.inl fs)))] sz)) 0 0 (va_A [(h0, .inr (11, gM a i g)), (a 3, .inl (cm 3, 85, .inr (.inl fn))), (a 4, .inl (cm 4, 800, .inl fk)), (a 5, .inl (cm 5, 800, .inl fv)), (a 6, .inl (cm 6, 800, .inl fb)), (a 7, .inl (cm 7, 800, .inl fr)), (a 8, .inl (cm 8, 10240, .inl ff)), (a 9, .inl (cm 9, 10240, .inl fh)), (a 10, .inl (cm 10, 10240, .inr (.inl fa))), (a 11, .inl (cm 11, 10240, .inr (.inl fs)))] sz) := by
  refine Met.ofW (cc := cX11_drops) (maxL := 5) (ret := (some .int)) (by decide) rfl ?_
  intro p e s m args below meth c s₁ B hml hv
  obtain ⟨rfl, hsz, hP, hK, hD0⟩ := hv
  have hx := B.exec
  have hb := B.bytes
  have hr := B.returns
  have hts := atoms_spec (ws := wp_c_drops) B.pre
  have hin_X11 : ∀ w ∈ wsX110, w ∈ wp_c_drops := fun _ h => (List.mem_cons_of_mem _ (List.mem_append_right _ (List.mem_append_right _ (List.mem_append_right _ (List.mem_append_right _ (List.mem_append_right _ (List.mem_append_right _ (List.mem_append_right _ (List.mem_append_right _ (List.mem_append_right _ (List.mem_append_left _ h)))))))))))
  have hown : s.vm.findClass RX11 = some m.cls := findClass_of_methodNamed B.named
  have hlocks := B.notSynchronized
  subst hsz
  have hD := hD0.self (sz := s.heap.size)
  generalize hAe : va_A [(h0, .inr (11, gM a i g)), (a 3, .inl (cm 3, 85, .inr (.inl fn))), (a 4, .inl (cm 4, 800, .inl fk)), (a 5, .inl (cm 5, 800, .inl fv)), (a 6, .inl (cm 6, 800, .inl fb)), (a 7, .inl (cm 7, 800, .inl fr)), (a 8, .inl (cm 8, 10240, .inl ff)), (a 9, .inl (cm 9, 10240, .inl fh)), (a 10, .inl (cm 10, 10240, .inr (.inl fa))), (a 11, .inl (cm 11, 10240, .inr (.inl fs)))] s.heap.size = A at hD ⊢
  have hA : ∀ q : Nat, s.heap.size ≤ q → A q := fun q h => by rw [← hAe]; exact Or.inr h
  have hS : va_S A s.heap s.heap [] := va_S.rf
  have hP : va_P D vwCl [(h0, .inr (11, gM a i g)), (a 3, .inl (cm 3, 85, .inr (.inl fn))), (a 4, .inl (cm 4, 800, .inl fk)), (a 5, .inl (cm 5, 800, .inl fv)), (a 6, .inl (cm 6, 800, .inl fb)), (a 7, .inl (cm 7, 800, .inl fr)), (a 8, .inl (cm 8, 10240, .inl ff)), (a 9, .inl (cm 9, 10240, .inl fh)), (a 10, .inl (cm 10, 10240, .inr (.inl fa))), (a 11, .inl (cm 11, 10240, .inr (.inl fs)))] s.heap := hP
  have hl := lv_entry ([.ref h0, .int (nI k), .int (nI kx)]) (n := 5) (Nat.le_of_ble_eq_true rfl)
  rw [lg_entry_eq]
  generalize (lg_sl ([.ref h0, .int (nI k), .int (nI kx)]) ++ List.replicate (5 - (lg_sl ([.ref h0, .int (nI k), .int (nI kx)])).length) Slot.unset).toArray = ls at hl ⊢
  have hl : lv_has ls 5 [(0, .ref h0), (1, .int (nI k)), (2, .int (nI kx))] := hl
  obtain ⟨h1, hcn, h4, hn1, hn2, ⟨ka, kb, hka, hkb, h6, h7⟩, hKy, hBk, hHs, ⟨bn, ns, gr, h14, hbn, h15, hs1, hs2, h16, hgr⟩⟩ := id hT
  refine lv_aload_n hx hb dX11_drops_0 rfl (lv_at hl 0 rfl) ?_
  refine lv_iload_n hx hb dX11_drops_1 rfl (lv_at hl 1 rfl) ?_
  refine lv_iload_n hx hb dX11_drops_2 rfl (lv_at hl 2 rfl) ?_
  have hPc := hP.sub (ws' := [(h0, .inr (11, gM a i g)), (a 3, .inl (cm 3, 85, .inr (.inl fn))), (a 4, .inl (cm 4, 800, .inl fk)), (a 6, .inl (cm 6, 800, .inl fb)), (a 8, .inl (cm 8, 10240, .inl ff)), (a 9, .inl (cm 9, 10240, .inl fh))]) [0, 1, 2, 4, 6, 7] rfl
  have hKc := hK.sub (tys' := [(cm 3, .long), (cm 4, .int), (cm 6, .int), (cm 8, .int), (cm 9, .int)]) [0, 1, 3, 5, 6] rfl
  have hDc := hD.sub (ws' := [(h0, .inr (11, gM a i g)), (a 3, .inl (cm 3, 85, .inr (.inl fn))), (a 4, .inl (cm 4, 800, .inl fk)), (a 6, .inl (cm 6, 800, .inl fb)), (a 8, .inl (cm 8, 10240, .inl ff)), (a 9, .inl (cm 9, 10240, .inl fh))]) [0, 1, 2, 4, 6, 7] (by decide) rfl
  have hFc := va_free (wc := [(h0, .inr (11, gM a i g)), (a 3, .inl (cm 3, 85, .inr (.inl fn))), (a 4, .inl (cm 4, 800, .inl fk)), (a 6, .inl (cm 6, 800, .inl fb)), (a 8, .inl (cm 8, 10240, .inl ff)), (a 9, .inl (cm 9, 10240, .inl fh))]) hD hS hA [0, 1, 2, 4, 6, 7] rfl
  refine va_callv (va_runV (As := [.int (nI k), .int (nI kx)]) (rest := []) ⟨hx, hb, hml, hown, hts⟩ (c_readsFor l D _ h0 a cm i g fn fk fb ff fh k cn nb K J kx (by first | assumption | omega) hT (by first | assumption | omega)) (cwV 2 hts g_c_drops_c_readsFor_215 rfl rfl rfl (by decide +kernel) ⟨(Nat.le_of_ble_eq_true rfl), (Nat.le_of_ble_eq_true rfl)⟩) (PcW_V (q0 := 0) hPc hKc hDc rfl rfl) rfl rfl hl.1 rfl (lv_room (Nat.le_of_ble_eq_true rfl)) dX11_drops_3 ⟨(Nat.le_of_ble_eq_true rfl), (Nat.le_of_ble_eq_true rfl)⟩) hS (fun q _ h => hFc q h) hFc (fun uu tt H locs htt hvm hw hB hz1 hk1 hS => ?_)
  obtain ⟨w2, rfl⟩ : ∃ z, z = uu := ⟨_, rfl⟩
  obtain ⟨hP1, hK1, hD1⟩ := hB
  rw [htt] at hP1
  have hK1 := va_K.moved hvm.symm hK1
  have hP1 : va_P D vwCl [(h0, .inr (11, gM a i g)), (a 3, .inl (cm 3, 85, .inr (.inl w2))), (a 4, .inl (cm 4, 800, .inl fk)), (a 6, .inl (cm 6, 800, .inl fb)), (a 8, .inl (cm 8, 10240, .inl ff)), (a 9, .inl (cm 9, 10240, .inl fh))] H := hP1
  obtain ⟨hP, hD⟩ := va_join (wr := [(a 5, .inl (cm 5, 800, .inl fv)), (a 7, .inl (cm 7, 800, .inl fr)), (a 10, .inl (cm 10, 10240, .inr (.inl fa))), (a 11, .inl (cm 11, 10240, .inr (.inl fs)))]) (w1 := [(h0, .inr (11, gM a i g)), (a 3, .inl (cm 3, 85, .inr (.inl w2))), (a 4, .inl (cm 4, 800, .inl fk)), (a 6, .inl (cm 6, 800, .inl fb)), (a 8, .inl (cm 8, 10240, .inl ff)), (a 9, .inl (cm 9, 10240, .inl fh))]) hP hD [0, 1, 2, 4, 6, 7] [3, 5, 8, 9] rfl rfl (by decide) (by decide) hk1 hFc hP1 hD1
  have hP : va_P D vwCl [(a 5, .inl (cm 5, 800, .inl fv)), (a 7, .inl (cm 7, 800, .inl fr)), (a 10, .inl (cm 10, 10240, .inr (.inl fa))), (a 11, .inl (cm 11, 10240, .inr (.inl fs))), (h0, .inr (11, gM a i g)), (a 3, .inl (cm 3, 85, .inr (.inl w2))), (a 4, .inl (cm 4, 800, .inl fk)), (a 6, .inl (cm 6, 800, .inl fb)), (a 8, .inl (cm 8, 10240, .inl ff)), (a 9, .inl (cm 9, 10240, .inl fh))] H := hP
  have hD : va_D A [(a 5, .inl (cm 5, 800, .inl fv)), (a 7, .inl (cm 7, 800, .inl fr)), (a 10, .inl (cm 10, 10240, .inr (.inl fa))), (a 11, .inl (cm 11, 10240, .inr (.inl fs))), (h0, .inr (11, gM a i g)), (a 3, .inl (cm 3, 85, .inr (.inl w2))), (a 4, .inl (cm 4, 800, .inl fk)), (a 6, .inl (cm 6, 800, .inl fb)), (a 8, .inl (cm 8, 10240, .inl ff)), (a 9, .inl (cm 9, 10240, .inl fh))] := hD
  try dsimp only at hw
  clear hz1 hk1 hFc hPc hKc hDc
  have hR3 := hw
  refine lv_aload_n hx hb dX11_drops_6 rfl (lv_at hl 0 rfl) ?_
  refine lv_iload_n hx hb dX11_drops_7 rfl (lv_at hl 1 rfl) ?_
  refine lv_iload_n hx hb dX11_drops_8 rfl (lv_at hl 2 rfl) ?_
  have hPc := hP.sub (ws' := [(h0, .inr (11, gM a i g)), (a 3, .inl (cm 3, 85, .inr (.inl w2))), (a 4, .inl (cm 4, 800, .inl fk))]) [4, 5, 6] rfl
  have hKc := hK.sub (tys' := [(cm 3, .long), (cm 4, .int)]) [0, 1] rfl
  have hFc := va_free0 hS hA
  refine va_calli (va_runV (As := [.int (nI k), .int (nI kx)]) (rest := []) ⟨hx, hb, hml, hown, hts⟩ (c_hasKey l D _ h0 a cm i g w2 fk k cn K kx (by first | assumption | omega) ((hR3 _ (by omega)).trans h1) (by first | assumption | omega) hKy (by first | assumption | omega)) (cwV 2 hts g_c_drops_c_hasKey_202 rfl rfl rfl (by decide +kernel) ⟨(Nat.le_of_ble_eq_true rfl), (Nat.le_of_ble_eq_true rfl)⟩) (PcR_V (q0 := 0) hPc hKc rfl rfl) rfl rfl hl.1 rfl (lv_room (Nat.le_of_ble_eq_true rfl)) dX11_drops_9 ⟨(Nat.le_of_ble_eq_true rfl), (Nat.le_of_ble_eq_true rfl)⟩) hS (fun q _ h => hFc q h) hFc (fun r4 uu tt H locs htt hvm hw hB hz1 hk1 hS => ?_)
  have hP := va_keep hP hk1
  try dsimp only at hw
  clear hB hz1 hk1 hFc hPc hKc
  rcases hw with ⟨rfl, hA_r4⟩ | ⟨rfl, hA_r4⟩
  ·
    obtain ⟨j0, hj0, ej0⟩ := hA_r4
    refine lv_if_ne (tgt := 17) hx hb dX11_drops_12 (by decide) (fun hc => ?_) (fun hc => absurd hc (by decide))
    refine lv_sipush (v := 160) hx hb dX11_drops_17 (by decide) ?_
    refine lv_iload_n hx hb dX11_drops_20 rfl (lv_at hl 1 rfl) ?_
    refine lv_imul hx hb dX11_drops_21 ?_
    refine lv_aload_n hx hb dX11_drops_22 rfl (lv_at hl 0 rfl) ?_
    refine lv_iload_n hx hb dX11_drops_23 rfl (lv_at hl 1 rfl) ?_
    refine lv_iload_n hx hb dX11_drops_24 rfl (lv_at hl 2 rfl) ?_
    refine lv_i2l hx hb dX11_drops_25 rfl ?_
    refine lv_topl (fun v5 ev5 => ?_)
    obtain rfl : v5 = lN kx := ev5.trans (nI_l (by omega))
    have hPc := hP.sub (ws' := [(h0, .inr (11, gM a i g)), (a 3, .inl (cm 3, 85, .inr (.inl w2))), (a 4, .inl (cm 4, 800, .inl fk))]) [4, 5, 6] rfl
    have hKc := hK.sub (tys' := [(cm 3, .long), (cm 4, .int)]) [0, 1] rfl
    have hFc := va_free0 hS hA
    refine va_calli (va_runV (As := [.int (nI k), .long (lN kx)]) (rest := [.int (160 * (nI k))]) ⟨hx, hb, hml, hown, hts⟩ (c_whereOf l D _ h0 a cm i g w2 fk k cn K (lN kx) (by first | assumption | omega) ((hR3 _ (by omega)).trans h1) (by first | assumption | omega) hKy) (cwV 2 hts g_c_drops_c_whereOf_99 rfl rfl rfl (by decide +kernel) ⟨(Nat.le_of_ble_eq_true rfl), (Nat.le_of_ble_eq_true rfl)⟩) (PcR_V (q0 := 0) hPc hKc rfl rfl) rfl rfl hl.1 rfl (lv_room (Nat.le_of_ble_eq_true rfl)) dX11_drops_26 ⟨(Nat.le_of_ble_eq_true rfl), (Nat.le_of_ble_eq_true rfl)⟩) hS (fun q _ h => hFc q h) hFc (fun r6 uu tt H locs htt hvm hw hB hz1 hk1 hS => ?_)
    have hP := va_keep hP hk1
    try dsimp only at hw
    clear hB hz1 hk1 hFc hPc hKc
    obtain ⟨q7, hq7a, rfl, hq7b, hq7c⟩ := hw
    obtain ⟨hqlt, hqe⟩ := wh_at hkx (fun j a => (hKy.1 j a).2) hKy.2 hq7b hq7c hj0 ej0
    have hJq := (hBk _ hqlt).2
    obtain ⟨hq1, rf, hrf, hq2, hq3⟩ := hHs _ hJq
    have hcp := cnt_pos (J := J) _ hqlt
    refine lv_iadd hx hb dX11_drops_29 ?_
    refine lv_topi (fun v8 ev8 => ?_)
    obtain rfl : v8 = nI (160 * k + q7) := ev8.trans (ix160 k _)
    refine lv_istore_n (lv' := [(3, .int (nI (160 * k + q7))), (0, .ref h0), (1, .int (nI k)), (2, .int (nI kx))]) hx hb dX11_drops_30 rfl hl (by decide) rfl (fun ls hl => ?_)
    refine lv_aload_n hx hb dX11_drops_31 rfl (lv_at hl 1 rfl) ?_
    refine va_get (D := D) (ci := 11) (v := .ref (a 9)) (C := RX11) (T := TX11) (N := 47) hx hb hts hin_X11 hown hK hP 4 rfl rfl 9 (by decide) (hts (.fieldLink RX11 33 "ClashFreeModel" "has" "[I") (List.mem_of_getElem? (i := 17) rfl)) (fun _ h9 => h9) rfl dX11_drops_32 ?_
    refine lv_sipush (v := 2048) hx hb dX11_drops_35 (by decide) ?_
    refine lv_iload_n hx hb dX11_drops_38 rfl (lv_at hl 2 rfl) ?_
    refine lv_imul hx hb dX11_drops_39 ?_
    refine lv_aload_n hx hb dX11_drops_40 rfl (lv_at hl 1 rfl) ?_
    refine va_get (D := D) (ci := 11) (v := .ref (a 6)) (C := RX11) (T := TX11) (N := 47) hx hb hts hin_X11 hown hK hP 4 rfl rfl 6 (by decide) (hts (.fieldLink RX11 24 "ClashFreeModel" "inBucket" "[I") (List.mem_of_getElem? (i := 18) rfl)) (fun _ h9 => h9) rfl dX11_drops_41 ?_
    refine lv_iload_n hx hb dX11_drops_44 rfl (lv_at hl 0 rfl) ?_
    refine va_iald hx hb hK hP 7 3 rfl rfl (vp_in_nI (by omega) (by decide)) dX11_drops_45 ?_
    refine lv_topi (fun v9 ev9 => ?_)
    obtain rfl : v9 = nI (J q7) := ev9.trans (by rw [nI_clamp (by omega)]; exact (hBk _ hqlt).1)
    refine lv_iadd hx hb dX11_drops_46 ?_
    refine lv_topi (fun v10 ev10 => ?_)
    obtain rfl : v10 = nI (2048 * k + J q7) := ev10.trans (ix2048 k _)
    refine lv_dup2_11 hx hb dX11_drops_47 rfl rfl ?_
    refine va_iald hx hb hK hP 9 6 rfl rfl (vp_in_nI (by omega) (by decide)) dX11_drops_48 ?_
    refine lv_topi (fun v11 ev11 => ?_)
    obtain rfl : v11 = nI (cntJ J cn (J q7)) := ev11.trans (by rw [nI_clamp (by omega)]; exact hq1)
    refine lv_iconst (v := 1) hx hb dX11_drops_49 (by decide) ?_
    refine lv_isub hx hb dX11_drops_50 ?_
    refine lv_topi (fun v12 ev12 => ?_)
    obtain rfl : v12 = nI (cntJ J cn (J q7) - 1) := ev12.trans (pk_sub (b := 1) hcp)
    refine va_iast hx hb hK hP hD hS 9 6 rfl rfl (vp_in_nI (by omega) (by decide)) dX11_drops_51 (fun H locs hP hD hS => ?_)
    have hP : va_P D vwCl [(a 5, .inl (cm 5, 800, .inl fv)), (a 7, .inl (cm 7, 800, .inl fr)), (a 10, .inl (cm 10, 10240, .inr (.inl fa))), (a 11, .inl (cm 11, 10240, .inr (.inl fs))), (h0, .inr (11, gM a i g)), (a 3, .inl (cm 3, 85, .inr (.inl w2))), (a 4, .inl (cm 4, 800, .inl fk)), (a 6, .inl (cm 6, 800, .inl fb)), (a 8, .inl (cm 8, 10240, .inl ff)), (a 9, .inl (cm 9, 10240, .inl (upd fh (Int32.toNatClampNeg (nI (2048 * k + J q7))) (nI (cntJ J cn (J q7) - 1)))))] H := hP
    have hD : va_D A [(a 5, .inl (cm 5, 800, .inl fv)), (a 7, .inl (cm 7, 800, .inl fr)), (a 10, .inl (cm 10, 10240, .inr (.inl fa))), (a 11, .inl (cm 11, 10240, .inr (.inl fs))), (h0, .inr (11, gM a i g)), (a 3, .inl (cm 3, 85, .inr (.inl w2))), (a 4, .inl (cm 4, 800, .inl fk)), (a 6, .inl (cm 6, 800, .inl fb)), (a 8, .inl (cm 8, 10240, .inl ff)), (a 9, .inl (cm 9, 10240, .inl (upd fh (Int32.toNatClampNeg (nI (2048 * k + J q7))) (nI (cntJ J cn (J q7) - 1)))))] := hD
    rw [show (upd fh (Int32.toNatClampNeg (nI (2048 * k + J q7))) (nI (cntJ J cn (J q7) - 1))) = (upd fh (2048 * k + J q7) (nI (cntJ J cn (J q7) - 1))) from by rw [nI_clamp (by omega)]] at hP hD
    refine lv_iload_n hx hb dX11_drops_52 rfl (lv_at hl 0 rfl) ?_
    refine lv_istore (lv' := [(4, .int (nI (160 * k + q7))), (3, .int (nI (160 * k + q7))), (0, .ref h0), (1, .int (nI k)), (2, .int (nI kx))]) hx hb dX11_drops_53 hl (by decide) rfl (fun ls hl => ?_)
    refine lp_drops l D h0 a cm i g w2 fk fv fb fr ff (upd fh (2048 * k + J q7) (nI (cntJ J cn (J q7) - 1))) fa fs k cn q7 (hk) (((hR3 _ (by omega)).trans h1)) (hcn) hx hb hml hown hts hA (hK.sub [0, 1, 2, 3, 4, 5, 6, 7, 8] rfl) ?_ (cn + 1) q7 fk fv fb fr (Nat.le_refl _) (hqlt) (Shl_0 _ _ _) (Shl_0 _ _ _) (Shl_0 _ _ _) (Shl_0 _ _ _) (by omega) _ _ _ (hP.sub [4, 5, 6, 0, 7, 1, 8, 9, 2, 3] rfl) (hD.sub [4, 5, 6, 0, 7, 1, 8, 9, 2, 3] (by decide) rfl) hS (lv_sub hl [0, 2, 3] rfl)
    intro y_13 gk_14 gv_15 gb_16 gr_17 hy1_18 hy2_19 s1_20 s2_21 s3_22 s4_23 hx24 H locs ls hP hD hS hl
    have hyc : y_13 + 1 = cn := by omega
    refine lv_aload_n hx hb dX11_drops_89 rfl (lv_at hl 0 rfl) ?_
    refine lv_iload_n hx hb dX11_drops_90 rfl (lv_at hl 1 rfl) ?_
    refine lv_iconst (v := 1) hx hb dX11_drops_91 (by decide) ?_
    refine lv_ldc2 (v := (-1)) hx hb hown (hts (.constantLong RX11 237 (-1)) (List.mem_of_getElem? (i := 19) rfl)) dX11_drops_92 ?_
    have hPc := hP.sub (ws' := [(h0, .inr (11, gM a i g)), (a 3, .inl (cm 3, 85, .inr (.inl w2)))]) [0, 1] rfl
    have hKc := hK.sub (tys' := [(cm 3, .long)]) [0] rfl
    have hDc := hD.sub (ws' := [(h0, .inr (11, gM a i g)), (a 3, .inl (cm 3, 85, .inr (.inl w2)))]) [0, 1] (by decide) rfl
    have hFc := va_free (wc := [(h0, .inr (11, gM a i g)), (a 3, .inl (cm 3, 85, .inr (.inl w2)))]) hD hS hA [0, 1] rfl
    refine va_callv (va_runV (As := [.int (nI k), .int (nI 1), .long (-1)]) (rest := []) ⟨hx, hb, hml, hown, hts⟩ (c_adds l D _ h0 a cm i g w2 k 1 (-1) (by first | assumption | omega) (by first | assumption | omega)) (cwV 3 hts g_c_drops_c_adds_130 rfl rfl rfl (by decide +kernel) ⟨(Nat.le_of_ble_eq_true rfl), (Nat.le_of_ble_eq_true rfl)⟩) (PcW_V (q0 := 0) hPc hKc hDc rfl rfl) rfl rfl hl.1 rfl (lv_room (Nat.le_of_ble_eq_true rfl)) dX11_drops_95 ⟨(Nat.le_of_ble_eq_true rfl), (Nat.le_of_ble_eq_true rfl)⟩) hS (fun q _ h => hFc q h) hFc (fun uu tt H locs htt hvm hw hB hz1 hk1 hS => ?_)
    obtain ⟨w26, rfl⟩ : ∃ z, z = uu := ⟨_, rfl⟩
    obtain ⟨hP1, hK1, hD1⟩ := hB
    rw [htt] at hP1
    have hK1 := va_K.moved hvm.symm hK1
    have hP1 : va_P D vwCl [(h0, .inr (11, gM a i g)), (a 3, .inl (cm 3, 85, .inr (.inl w26)))] H := hP1
    obtain ⟨hP, hD⟩ := va_join (wr := [(a 4, .inl (cm 4, 800, .inl gk_14)), (a 5, .inl (cm 5, 800, .inl gv_15)), (a 6, .inl (cm 6, 800, .inl gb_16)), (a 7, .inl (cm 7, 800, .inl gr_17)), (a 8, .inl (cm 8, 10240, .inl ff)), (a 9, .inl (cm 9, 10240, .inl (upd fh (2048 * k + J q7) (nI (cntJ J cn (J q7) - 1))))), (a 10, .inl (cm 10, 10240, .inr (.inl fa))), (a 11, .inl (cm 11, 10240, .inr (.inl fs)))]) (w1 := [(h0, .inr (11, gM a i g)), (a 3, .inl (cm 3, 85, .inr (.inl w26)))]) hP hD [0, 1] [2, 3, 4, 5, 6, 7, 8, 9] rfl rfl (by decide) (by decide) hk1 hFc hP1 hD1
    have hP : va_P D vwCl [(a 4, .inl (cm 4, 800, .inl gk_14)), (a 5, .inl (cm 5, 800, .inl gv_15)), (a 6, .inl (cm 6, 800, .inl gb_16)), (a 7, .inl (cm 7, 800, .inl gr_17)), (a 8, .inl (cm 8, 10240, .inl ff)), (a 9, .inl (cm 9, 10240, .inl (upd fh (2048 * k + J q7) (nI (cntJ J cn (J q7) - 1))))), (a 10, .inl (cm 10, 10240, .inr (.inl fa))), (a 11, .inl (cm 11, 10240, .inr (.inl fs))), (h0, .inr (11, gM a i g)), (a 3, .inl (cm 3, 85, .inr (.inl w26)))] H := hP
    have hD : va_D A [(a 4, .inl (cm 4, 800, .inl gk_14)), (a 5, .inl (cm 5, 800, .inl gv_15)), (a 6, .inl (cm 6, 800, .inl gb_16)), (a 7, .inl (cm 7, 800, .inl gr_17)), (a 8, .inl (cm 8, 10240, .inl ff)), (a 9, .inl (cm 9, 10240, .inl (upd fh (2048 * k + J q7) (nI (cntJ J cn (J q7) - 1))))), (a 10, .inl (cm 10, 10240, .inr (.inl fa))), (a 11, .inl (cm 11, 10240, .inr (.inl fs))), (h0, .inr (11, gM a i g)), (a 3, .inl (cm 3, 85, .inr (.inl w26)))] := hD
    try dsimp only at hw
    clear hz1 hk1 hFc hPc hKc hDc
    have hL27 := hw
    have hKd := Ky_del hKy s1_20 hqlt hyc
    refine lv_aload_n hx hb dX11_drops_98 rfl (lv_at hl 0 rfl) ?_
    refine lv_iload_n hx hb dX11_drops_99 rfl (lv_at hl 1 rfl) ?_
    refine lv_iconst (v := 3) hx hb dX11_drops_100 (by decide) ?_
    refine lv_lconst (v := 1) hx hb dX11_drops_101 (by decide) ?_
    have hPc := hP.sub (ws' := [(h0, .inr (11, gM a i g)), (a 3, .inl (cm 3, 85, .inr (.inl w26)))]) [8, 9] rfl
    have hKc := hK.sub (tys' := [(cm 3, .long)]) [0] rfl
    have hDc := hD.sub (ws' := [(h0, .inr (11, gM a i g)), (a 3, .inl (cm 3, 85, .inr (.inl w26)))]) [8, 9] (by decide) rfl
    have hFc := va_free (wc := [(h0, .inr (11, gM a i g)), (a 3, .inl (cm 3, 85, .inr (.inl w26)))]) hD hS hA [8, 9] rfl
    refine va_callv (va_runV (As := [.int (nI k), .int (nI 3), .long 1]) (rest := []) ⟨hx, hb, hml, hown, hts⟩ (c_adds l D _ h0 a cm i g w26 k 3 1 (by first | assumption | omega) (by first | assumption | omega)) (cwV 3 hts g_c_drops_c_adds_130 rfl rfl rfl (by decide +kernel) ⟨(Nat.le_of_ble_eq_true rfl), (Nat.le_of_ble_eq_true rfl)⟩) (PcW_V (q0 := 0) hPc hKc hDc rfl rfl) rfl rfl hl.1 rfl (lv_room (Nat.le_of_ble_eq_true rfl)) dX11_drops_102 ⟨(Nat.le_of_ble_eq_true rfl), (Nat.le_of_ble_eq_true rfl)⟩) hS (fun q _ h => hFc q h) hFc (fun uu tt H locs htt hvm hw hB hz1 hk1 hS => ?_)
    obtain ⟨w29, rfl⟩ : ∃ z, z = uu := ⟨_, rfl⟩
    obtain ⟨hP1, hK1, hD1⟩ := hB
    rw [htt] at hP1
    have hK1 := va_K.moved hvm.symm hK1
    have hP1 : va_P D vwCl [(h0, .inr (11, gM a i g)), (a 3, .inl (cm 3, 85, .inr (.inl w29)))] H := hP1
    obtain ⟨hP, hD⟩ := va_join (wr := [(a 4, .inl (cm 4, 800, .inl gk_14)), (a 5, .inl (cm 5, 800, .inl gv_15)), (a 6, .inl (cm 6, 800, .inl gb_16)), (a 7, .inl (cm 7, 800, .inl gr_17)), (a 8, .inl (cm 8, 10240, .inl ff)), (a 9, .inl (cm 9, 10240, .inl (upd fh (2048 * k + J q7) (nI (cntJ J cn (J q7) - 1))))), (a 10, .inl (cm 10, 10240, .inr (.inl fa))), (a 11, .inl (cm 11, 10240, .inr (.inl fs)))]) (w1 := [(h0, .inr (11, gM a i g)), (a 3, .inl (cm 3, 85, .inr (.inl w29)))]) hP hD [8, 9] [0, 1, 2, 3, 4, 5, 6, 7] rfl rfl (by decide) (by decide) hk1 hFc hP1 hD1
    have hP : va_P D vwCl [(a 4, .inl (cm 4, 800, .inl gk_14)), (a 5, .inl (cm 5, 800, .inl gv_15)), (a 6, .inl (cm 6, 800, .inl gb_16)), (a 7, .inl (cm 7, 800, .inl gr_17)), (a 8, .inl (cm 8, 10240, .inl ff)), (a 9, .inl (cm 9, 10240, .inl (upd fh (2048 * k + J q7) (nI (cntJ J cn (J q7) - 1))))), (a 10, .inl (cm 10, 10240, .inr (.inl fa))), (a 11, .inl (cm 11, 10240, .inr (.inl fs))), (h0, .inr (11, gM a i g)), (a 3, .inl (cm 3, 85, .inr (.inl w29)))] H := hP
    have hD : va_D A [(a 4, .inl (cm 4, 800, .inl gk_14)), (a 5, .inl (cm 5, 800, .inl gv_15)), (a 6, .inl (cm 6, 800, .inl gb_16)), (a 7, .inl (cm 7, 800, .inl gr_17)), (a 8, .inl (cm 8, 10240, .inl ff)), (a 9, .inl (cm 9, 10240, .inl (upd fh (2048 * k + J q7) (nI (cntJ J cn (J q7) - 1))))), (a 10, .inl (cm 10, 10240, .inr (.inl fa))), (a 11, .inl (cm 11, 10240, .inr (.inl fs))), (h0, .inr (11, gM a i g)), (a 3, .inl (cm 3, 85, .inr (.inl w29)))] := hD
    try dsimp only at hw
    clear hz1 hk1 hFc hPc hKc hDc
    have hL30 := hw
    refine lv_aload_n hx hb dX11_drops_105 rfl (lv_at hl 0 rfl) ?_
    refine lv_iload_n hx hb dX11_drops_106 rfl (lv_at hl 1 rfl) ?_
    refine lv_iconst (v := 3) hx hb dX11_drops_107 (by decide) ?_
    have hPc := hP.sub (ws' := [(h0, .inr (11, gM a i g)), (a 3, .inl (cm 3, 85, .inr (.inl w29)))]) [8, 9] rfl
    have hKc := hK.sub (tys' := [(cm 3, .long)]) [0] rfl
    have hFc := va_free0 hS hA
    refine va_calll (va_runV (As := [.int (nI k), .int (nI 3)]) (rest := []) ⟨hx, hb, hml, hown, hts⟩ (c_of l D _ h0 a cm i g w29 k 3 (by first | assumption | omega) (by first | assumption | omega)) (cwV 2 hts g_c_drops_c_of_89 rfl rfl rfl (by decide +kernel) ⟨(Nat.le_of_ble_eq_true rfl), (Nat.le_of_ble_eq_true rfl)⟩) (PcR_V (q0 := 0) hPc hKc rfl rfl) rfl rfl hl.1 rfl (lv_room (Nat.le_of_ble_eq_true rfl)) dX11_drops_108 ⟨(Nat.le_of_ble_eq_true rfl), (Nat.le_of_ble_eq_true rfl)⟩) hS (fun q _ h => hFc q h) hFc (fun r31 uu tt H locs htt hvm hw hB hz1 hk1 hS => ?_)
    have hP := va_keep hP hk1
    try dsimp only at hw
    clear hB hz1 hk1 hFc hPc hKc
    obtain rfl : r31 = w29 (17 * k + 3) := hw
    refine lv_aload_n hx hb dX11_drops_111 rfl (lv_at hl 0 rfl) ?_
    refine lv_iload_n hx hb dX11_drops_112 rfl (lv_at hl 1 rfl) ?_
    refine lv_iconst (v := 2) hx hb dX11_drops_113 (by decide) ?_
    have hPc := hP.sub (ws' := [(h0, .inr (11, gM a i g)), (a 3, .inl (cm 3, 85, .inr (.inl w29)))]) [8, 9] rfl
    have hKc := hK.sub (tys' := [(cm 3, .long)]) [0] rfl
    have hFc := va_free0 hS hA
    refine va_calll (va_runV (As := [.int (nI k), .int (nI 2)]) (rest := [.long (w29 (17 * k + 3))]) ⟨hx, hb, hml, hown, hts⟩ (c_of l D _ h0 a cm i g w29 k 2 (by first | assumption | omega) (by first | assumption | omega)) (cwV 2 hts g_c_drops_c_of_89 rfl rfl rfl (by decide +kernel) ⟨(Nat.le_of_ble_eq_true rfl), (Nat.le_of_ble_eq_true rfl)⟩) (PcR_V (q0 := 0) hPc hKc rfl rfl) rfl rfl hl.1 rfl (lv_room (Nat.le_of_ble_eq_true rfl)) dX11_drops_114 ⟨(Nat.le_of_ble_eq_true rfl), (Nat.le_of_ble_eq_true rfl)⟩) hS (fun q _ h => hFc q h) hFc (fun r32 uu tt H locs htt hvm hw hB hz1 hk1 hS => ?_)
    have hP := va_keep hP hk1
    try dsimp only at hw
    clear hB hz1 hk1 hFc hPc hKc
    obtain rfl : r32 = w29 (17 * k + 2) := hw
    refine W.lcmp hx hb dX11_drops_117 ?_
    refine lv_if_gt (tgt := 123) hx hb dX11_drops_118 (by decide) (fun hc33 => ?_) (fun hc33 => ?_)
    ·
      refine lv_aload_n hx hb dX11_drops_123 rfl (lv_at hl 0 rfl) ?_
      refine lv_iload_n hx hb dX11_drops_124 rfl (lv_at hl 1 rfl) ?_
      refine lv_bipush (v := 11) hx hb dX11_drops_125 (by decide) ?_
      refine lv_lconst (v := 1) hx hb dX11_drops_127 (by decide) ?_
      have hPc := hP.sub (ws' := [(h0, .inr (11, gM a i g)), (a 3, .inl (cm 3, 85, .inr (.inl w29)))]) [8, 9] rfl
      have hKc := hK.sub (tys' := [(cm 3, .long)]) [0] rfl
      have hDc := hD.sub (ws' := [(h0, .inr (11, gM a i g)), (a 3, .inl (cm 3, 85, .inr (.inl w29)))]) [8, 9] (by decide) rfl
      have hFc := va_free (wc := [(h0, .inr (11, gM a i g)), (a 3, .inl (cm 3, 85, .inr (.inl w29)))]) hD hS hA [8, 9] rfl
      refine va_callv (va_runV (As := [.int (nI k), .int (nI 11), .long 1]) (rest := []) ⟨hx, hb, hml, hown, hts⟩ (c_adds l D _ h0 a cm i g w29 k 11 1 (by first | assumption | omega) (by first | assumption | omega)) (cwV 3 hts g_c_drops_c_adds_130 rfl rfl rfl (by decide +kernel) ⟨(Nat.le_of_ble_eq_true rfl), (Nat.le_of_ble_eq_true rfl)⟩) (PcW_V (q0 := 0) hPc hKc hDc rfl rfl) rfl rfl hl.1 rfl (lv_room (Nat.le_of_ble_eq_true rfl)) dX11_drops_128 ⟨(Nat.le_of_ble_eq_true rfl), (Nat.le_of_ble_eq_true rfl)⟩) hS (fun q _ h => hFc q h) hFc (fun uu tt H locs htt hvm hw hB hz1 hk1 hS => ?_)
      obtain ⟨w35, rfl⟩ : ∃ z, z = uu := ⟨_, rfl⟩
      obtain ⟨hP1, hK1, hD1⟩ := hB
      rw [htt] at hP1
      have hK1 := va_K.moved hvm.symm hK1
      have hP1 : va_P D vwCl [(h0, .inr (11, gM a i g)), (a 3, .inl (cm 3, 85, .inr (.inl w35)))] H := hP1
      obtain ⟨hP, hD⟩ := va_join (wr := [(a 4, .inl (cm 4, 800, .inl gk_14)), (a 5, .inl (cm 5, 800, .inl gv_15)), (a 6, .inl (cm 6, 800, .inl gb_16)), (a 7, .inl (cm 7, 800, .inl gr_17)), (a 8, .inl (cm 8, 10240, .inl ff)), (a 9, .inl (cm 9, 10240, .inl (upd fh (2048 * k + J q7) (nI (cntJ J cn (J q7) - 1))))), (a 10, .inl (cm 10, 10240, .inr (.inl fa))), (a 11, .inl (cm 11, 10240, .inr (.inl fs)))]) (w1 := [(h0, .inr (11, gM a i g)), (a 3, .inl (cm 3, 85, .inr (.inl w35)))]) hP hD [8, 9] [0, 1, 2, 3, 4, 5, 6, 7] rfl rfl (by decide) (by decide) hk1 hFc hP1 hD1
      have hP : va_P D vwCl [(a 4, .inl (cm 4, 800, .inl gk_14)), (a 5, .inl (cm 5, 800, .inl gv_15)), (a 6, .inl (cm 6, 800, .inl gb_16)), (a 7, .inl (cm 7, 800, .inl gr_17)), (a 8, .inl (cm 8, 10240, .inl ff)), (a 9, .inl (cm 9, 10240, .inl (upd fh (2048 * k + J q7) (nI (cntJ J cn (J q7) - 1))))), (a 10, .inl (cm 10, 10240, .inr (.inl fa))), (a 11, .inl (cm 11, 10240, .inr (.inl fs))), (h0, .inr (11, gM a i g)), (a 3, .inl (cm 3, 85, .inr (.inl w35)))] H := hP
      have hD : va_D A [(a 4, .inl (cm 4, 800, .inl gk_14)), (a 5, .inl (cm 5, 800, .inl gv_15)), (a 6, .inl (cm 6, 800, .inl gb_16)), (a 7, .inl (cm 7, 800, .inl gr_17)), (a 8, .inl (cm 8, 10240, .inl ff)), (a 9, .inl (cm 9, 10240, .inl (upd fh (2048 * k + J q7) (nI (cntJ J cn (J q7) - 1))))), (a 10, .inl (cm 10, 10240, .inr (.inl fa))), (a 11, .inl (cm 11, 10240, .inr (.inl fs))), (h0, .inr (11, gM a i g)), (a 3, .inl (cm 3, 85, .inr (.inl w35)))] := hD
      try dsimp only at hw
      clear hz1 hk1 hFc hPc hKc hDc
      have hL36 := hw
      refine lv_aload_n hx hb dX11_drops_131 rfl (lv_at hl 0 rfl) ?_
      refine lv_iload_n hx hb dX11_drops_132 rfl (lv_at hl 1 rfl) ?_
      have hPc := hP.sub (ws' := [(h0, .inr (11, gM a i g)), (a 3, .inl (cm 3, 85, .inr (.inl w35))), (a 4, .inl (cm 4, 800, .inl gk_14)), (a 6, .inl (cm 6, 800, .inl gb_16)), (a 7, .inl (cm 7, 800, .inl gr_17)), (a 8, .inl (cm 8, 10240, .inl ff)), (a 9, .inl (cm 9, 10240, .inl (upd fh (2048 * k + J q7) (nI (cntJ J cn (J q7) - 1))))), (a 10, .inl (cm 10, 10240, .inr (.inl fa))), (a 11, .inl (cm 11, 10240, .inr (.inl fs)))]) [8, 9, 0, 2, 3, 4, 5, 6, 7] rfl
      have hKc := hK.sub (tys' := [(cm 3, .long), (cm 4, .int), (cm 6, .int), (cm 7, .int), (cm 8, .int), (cm 9, .int), (cm 10, .long), (cm 11, .long)]) [0, 1, 3, 4, 5, 6, 7, 8] rfl
      have hDc := hD.sub (ws' := [(h0, .inr (11, gM a i g)), (a 3, .inl (cm 3, 85, .inr (.inl w35))), (a 4, .inl (cm 4, 800, .inl gk_14)), (a 6, .inl (cm 6, 800, .inl gb_16)), (a 7, .inl (cm 7, 800, .inl gr_17)), (a 8, .inl (cm 8, 10240, .inl ff)), (a 9, .inl (cm 9, 10240, .inl (upd fh (2048 * k + J q7) (nI (cntJ J cn (J q7) - 1))))), (a 10, .inl (cm 10, 10240, .inr (.inl fa))), (a 11, .inl (cm 11, 10240, .inr (.inl fs)))]) [8, 9, 0, 2, 3, 4, 5, 6, 7] (by decide) rfl
      have hFc := va_free (wc := [(h0, .inr (11, gM a i g)), (a 3, .inl (cm 3, 85, .inr (.inl w35))), (a 4, .inl (cm 4, 800, .inl gk_14)), (a 6, .inl (cm 6, 800, .inl gb_16)), (a 7, .inl (cm 7, 800, .inl gr_17)), (a 8, .inl (cm 8, 10240, .inl ff)), (a 9, .inl (cm 9, 10240, .inl (upd fh (2048 * k + J q7) (nI (cntJ J cn (J q7) - 1))))), (a 10, .inl (cm 10, 10240, .inr (.inl fa))), (a 11, .inl (cm 11, 10240, .inr (.inl fs)))]) hD hS hA [8, 9, 0, 2, 3, 4, 5, 6, 7] rfl
      refine va_callv (va_runV (As := [.int (nI k)]) (rest := []) ⟨hx, hb, hml, hown, hts⟩ (c_buildsAll l D _ h0 a cm i g w35 gk_14 gb_16 gr_17 ff (upd fh (2048 * k + J q7) (nI (cntJ J cn (J q7) - 1))) fa fs k (cn - 1) (delN K q7) bn ns gr (by first | assumption | omega) ((hL36.2 _ (by omega)).trans ((hL30.2 _ (by omega)).trans (hL27.1.trans (by rw [((hR3 _ (by omega)).trans h1)]; exact lN_m1 (by omega))))) (by first | assumption | omega) hKd ((hL36.2 _ (by omega)).trans ((hL30.2 _ (by omega)).trans ((hL27.2 _ (by omega)).trans ((hR3 _ (by omega)).trans h14)))) (by first | assumption | omega) ((hL36.2 _ (by omega)).trans ((hL30.2 _ (by omega)).trans ((hL27.2 _ (by omega)).trans ((hR3 _ (by omega)).trans h15)))) (by first | assumption | omega) (by first | assumption | omega) ((hL36.2 _ (by omega)).trans ((hL30.2 _ (by omega)).trans ((hL27.2 _ (by omega)).trans ((hR3 _ (by omega)).trans h16)))) (by first | assumption | omega) (by first | assumption | omega) (by first | assumption | omega)) (cwV 1 hts g_c_drops_c_buildsAll_192 rfl rfl rfl (by decide +kernel) ⟨(Nat.le_of_ble_eq_true rfl), (Nat.le_of_ble_eq_true rfl)⟩) (PcW_V (q0 := 0) hPc hKc hDc rfl rfl) rfl rfl hl.1 rfl (lv_room (Nat.le_of_ble_eq_true rfl)) dX11_drops_133 ⟨(Nat.le_of_ble_eq_true rfl), (Nat.le_of_ble_eq_true rfl)⟩) hS (fun q _ h => hFc q h) hFc (fun uu tt H locs htt hvm hw hB hz1 hk1 hS => ?_)
      obtain ⟨w38, w39, w40, w41, w42, w43, w44, w45, w46, w47, w48⟩ := uu
      obtain ⟨hP1, hK1, hD1⟩ := hB
      rw [htt] at hP1
      have hK1 := va_K.moved hvm.symm hK1
      have hP1 : va_P D vwCl [(h0, .inr (11, gM a (upd i 15 w48) (vp_updL (vp_updL (vp_updL (fun _ => 0) 12 w45) 13 w46) 14 w47))), (a 3, .inl (cm 3, 85, .inr (.inl w38))), (a 4, .inl (cm 4, 800, .inl gk_14)), (a 6, .inl (cm 6, 800, .inl w39)), (a 7, .inl (cm 7, 800, .inl w40)), (a 8, .inl (cm 8, 10240, .inl w41)), (a 9, .inl (cm 9, 10240, .inl w42)), (a 10, .inl (cm 10, 10240, .inr (.inl w43))), (a 11, .inl (cm 11, 10240, .inr (.inl w44)))] H := hP1
      obtain ⟨hP, hD⟩ := va_join (wr := [(a 5, .inl (cm 5, 800, .inl gv_15))]) (w1 := [(h0, .inr (11, gM a (upd i 15 w48) (vp_updL (vp_updL (vp_updL (fun _ => 0) 12 w45) 13 w46) 14 w47))), (a 3, .inl (cm 3, 85, .inr (.inl w38))), (a 4, .inl (cm 4, 800, .inl gk_14)), (a 6, .inl (cm 6, 800, .inl w39)), (a 7, .inl (cm 7, 800, .inl w40)), (a 8, .inl (cm 8, 10240, .inl w41)), (a 9, .inl (cm 9, 10240, .inl w42)), (a 10, .inl (cm 10, 10240, .inr (.inl w43))), (a 11, .inl (cm 11, 10240, .inr (.inl w44)))]) hP hD [8, 9, 0, 2, 3, 4, 5, 6, 7] [1] rfl rfl (by decide) (by decide) hk1 hFc hP1 hD1
      have hP : va_P D vwCl [(a 5, .inl (cm 5, 800, .inl gv_15)), (h0, .inr (11, gM a (upd i 15 w48) (vp_updL (vp_updL (vp_updL (fun _ => 0) 12 w45) 13 w46) 14 w47))), (a 3, .inl (cm 3, 85, .inr (.inl w38))), (a 4, .inl (cm 4, 800, .inl gk_14)), (a 6, .inl (cm 6, 800, .inl w39)), (a 7, .inl (cm 7, 800, .inl w40)), (a 8, .inl (cm 8, 10240, .inl w41)), (a 9, .inl (cm 9, 10240, .inl w42)), (a 10, .inl (cm 10, 10240, .inr (.inl w43))), (a 11, .inl (cm 11, 10240, .inr (.inl w44)))] H := hP
      have hD : va_D A [(a 5, .inl (cm 5, 800, .inl gv_15)), (h0, .inr (11, gM a (upd i 15 w48) (vp_updL (vp_updL (vp_updL (fun _ => 0) 12 w45) 13 w46) 14 w47))), (a 3, .inl (cm 3, 85, .inr (.inl w38))), (a 4, .inl (cm 4, 800, .inl gk_14)), (a 6, .inl (cm 6, 800, .inl w39)), (a 7, .inl (cm 7, 800, .inl w40)), (a 8, .inl (cm 8, 10240, .inl w41)), (a 9, .inl (cm 9, 10240, .inl w42)), (a 10, .inl (cm 10, 10240, .inr (.inl w43))), (a 11, .inl (cm 11, 10240, .inr (.inl w44)))] := hD
      try dsimp only at hw
      clear hz1 hk1 hFc hPc hKc hDc
      obtain ⟨⟨hb49_n, hb49_J, hb49_T⟩, hb49_a, hb49_s, hb49_r, hb49_0, hb49_f1, hb49_f2, hb49_f3⟩ := hw
      refine lv_iconst (v := 2) hx hb dX11_drops_136 (by decide) ?_
      have hTz := hb49_T
      exact W.iret (v := 2) hx hb hr (fun t ht hW => ⟨⟨2, (w38, gk_14, gv_15, w39, w40, w41, w42, w43, w44, w45, w46, w47, w48), rfl, ⟨⟨_, _, _, _, hb49_T, by omega, fun _ => by omega⟩, hb49_a, hb49_s, fun x e => (hb49_r x e).trans ((hL36.2 x (by omega)).trans ((hL30.2 x (by omega)).trans ((hL27.2 x (by omega)).trans ((hR3 x (by omega)))))), hb49_0.trans ((hL36.2 _ (by omega)).trans ((hL30.2 _ (by omega)).trans ((hL27.2 _ (by omega)).trans ((hR3 _ (by omega)).trans rfl)))), s1_20.2.2.2, fun x e => (hb49_f1 x e).trans (s3_22.2.2.2 x e), hb49_f2, fun x e => (hb49_f3 x e).trans (pk_un (by omega)), lsR_upd (fun x e => (hb49_r x e).trans ((hL36.2 x (by omega)).trans ((hL30.2 x (by omega)).trans ((hL27.2 x (by omega)).trans ((hR3 x (by omega))))))) (s1_20.2.2.2) (s2_21.2.2.2) ((lsR_T hk hTz _).trans ((drop_R hKy.2 s2_21 hqlt hyc hqe).trans (congrArg (dropL · kx) (lsR_T hk hT _).symm))), Or.inr ⟨by decide, _, hqlt, hqe⟩⟩, by rw [ht]; exact hP.sub [1, 2, 3, 0, 4, 5, 6, 7, 8, 9] rfl, va_K.moved hW.alike (hK.sub [0, 1, 2, 3, 4, 5, 6, 7, 8] rfl), hD.sub [1, 2, 3, 0, 4, 5, 6, 7, 8, 9] (by decide) rfl⟩, hS.F ht⟩) hS.2.2 dX11_drops_137
    ·
      refine lv_iconst (v := 1) hx hb dX11_drops_121 (by decide) ?_
      have hTz : TabS k (cn - 1) nb (delN K q7) (delN J q7) w29 gk_14 gb_16 ff (upd fh (2048 * k + J q7) (nI (cntJ J cn (J q7) - 1))) := ⟨((hL30.2 _ (by omega)).trans (hL27.1.trans (by rw [((hR3 _ (by omega)).trans h1)]; exact lN_m1 (by omega)))), (by omega), ((hL30.2 _ (by omega)).trans ((hL27.2 _ (by omega)).trans ((hR3 _ (by omega)).trans h4))), hn1, hn2, ⟨ka, kb, hka, hkb, ((hL30.2 _ (by omega)).trans ((hL27.2 _ (by omega)).trans ((hR3 _ (by omega)).trans h6))), ((hL30.2 _ (by omega)).trans ((hL27.2 _ (by omega)).trans ((hR3 _ (by omega)).trans h7)))⟩, hKd, Bk_del hBk s3_22 hqlt hyc, Hs_del hHs hqlt hJq, ⟨bn, ns, gr, ((hL30.2 _ (by omega)).trans ((hL27.2 _ (by omega)).trans ((hR3 _ (by omega)).trans h14))), hbn, ((hL30.2 _ (by omega)).trans ((hL27.2 _ (by omega)).trans ((hR3 _ (by omega)).trans h15))), hs1, hs2, ((hL30.2 _ (by omega)).trans ((hL27.2 _ (by omega)).trans ((hR3 _ (by omega)).trans h16))), hgr⟩⟩
      exact W.iret (v := 1) hx hb hr (fun t ht hW => ⟨⟨1, (w29, gk_14, gv_15, gb_16, gr_17, ff, (upd fh (2048 * k + J q7) (nI (cntJ J cn (J q7) - 1))), fa, fs, (g 12), (g 13), (g 14), (i 15)), rfl, ⟨⟨_, _, _, _, hTz, by omega, fun _ => by omega⟩, hfa, hfs, fun x e => (hL30.2 x (by omega)).trans ((hL27.2 x (by omega)).trans ((hR3 x (by omega)))), ((hL30.2 _ (by omega)).trans ((hL27.2 _ (by omega)).trans ((hR3 _ (by omega)).trans rfl))), s1_20.2.2.2, s3_22.2.2.2, fun _ _ => rfl, fun x e => pk_un (by omega), lsR_upd (fun x e => (hL30.2 x (by omega)).trans ((hL27.2 x (by omega)).trans ((hR3 x (by omega))))) (s1_20.2.2.2) (s2_21.2.2.2) ((lsR_T hk hTz _).trans ((drop_R hKy.2 s2_21 hqlt hyc hqe).trans (congrArg (dropL · kx) (lsR_T hk hT _).symm))), Or.inr ⟨by decide, _, hqlt, hqe⟩⟩, by rw [ht]; exact hP.sub [8, 9, 0, 1, 2, 3, 4, 5, 6, 7] rfl, va_K.moved hW.alike (hK.sub [0, 1, 2, 3, 4, 5, 6, 7, 8] rfl), hD.sub [8, 9, 0, 1, 2, 3, 4, 5, 6, 7] (by decide) rfl⟩, hS.F ht⟩) hS.2.2 dX11_drops_122
  ·
    refine lv_if_ne (tgt := 17) hx hb dX11_drops_12 (by decide) (fun hc => absurd (by decide) hc) (fun hc => ?_)
    refine lv_iconst (v := (-1)) hx hb dX11_drops_15 (by decide) ?_
    have hTz : TabS k cn nb K J w2 fk fb ff fh := ⟨((hR3 _ (by omega)).trans h1), hcn, ((hR3 _ (by omega)).trans h4), hn1, hn2, ⟨ka, kb, hka, hkb, ((hR3 _ (by omega)).trans h6), ((hR3 _ (by omega)).trans h7)⟩, hKy, hBk, hHs, ⟨bn, ns, gr, ((hR3 _ (by omega)).trans h14), hbn, ((hR3 _ (by omega)).trans h15), hs1, hs2, ((hR3 _ (by omega)).trans h16), hgr⟩⟩
    exact W.iret (v := (-1)) hx hb hr (fun t ht hW => ⟨⟨(-1), (w2, fk, fv, fb, fr, ff, fh, fa, fs, (g 12), (g 13), (g 14), (i 15)), rfl, ⟨⟨cn, nb, K, J, hTz, Nat.le_refl _, fun ⟨q, a, b⟩ => absurd b (hA_r4 q a)⟩, hfa, hfs, fun x e => (hR3 x (by omega)), ((hR3 _ (by omega)).trans rfl), fun _ _ => rfl, fun _ _ => rfl, fun _ _ => rfl, fun _ _ => rfl, lsR_upd (fun x e => (hR3 x (by omega))) (fun _ _ => rfl) (fun _ _ => rfl) ((lsR_T hk hTz _).trans (((drop_no cn K _ kx hA_r4).symm).trans (congrArg (dropL · kx) (lsR_T hk hT _).symm))), Or.inl ⟨rfl, hA_r4⟩⟩, by rw [ht]; exact hP.sub [4, 5, 6, 0, 7, 1, 8, 9, 2, 3] rfl, va_K.moved hW.alike (hK.sub [0, 1, 2, 3, 4, 5, 6, 7, 8] rfl), hD.sub [4, 5, 6, 0, 7, 1, 8, 9, 2, 3] (by decide) rfl⟩, hS.F ht⟩) hS.2.2 dX11_drops_16

