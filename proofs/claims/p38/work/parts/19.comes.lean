theorem dX11_comes_0 : decode cX11_comes 0 = .ok (.sipush 160, 3) := by decide +kernel
theorem dX11_comes_3 : decode cX11_comes 3 = .ok (.iload_n 1, 1) := by decide +kernel
theorem dX11_comes_4 : decode cX11_comes 4 = .ok (.imul, 1) := by decide +kernel
theorem dX11_comes_5 : decode cX11_comes 5 = .ok (.aload_n 0, 1) := by decide +kernel
theorem dX11_comes_6 : decode cX11_comes 6 = .ok (.iload_n 1, 1) := by decide +kernel
theorem dX11_comes_7 : decode cX11_comes 7 = .ok (.iload_n 2, 1) := by decide +kernel
theorem dX11_comes_8 : decode cX11_comes 8 = .ok (.i2l, 1) := by decide +kernel
theorem dX11_comes_9 : decode cX11_comes 9 = .ok (.invokevirtual 99, 3) := by decide +kernel
theorem dX11_comes_12 : decode cX11_comes 12 = .ok (.iadd, 1) := by decide +kernel
theorem dX11_comes_13 : decode cX11_comes 13 = .ok (.istore 4, 2) := by decide +kernel
theorem dX11_comes_15 : decode cX11_comes 15 = .ok (.sipush 160, 3) := by decide +kernel
theorem dX11_comes_18 : decode cX11_comes 18 = .ok (.iload_n 1, 1) := by decide +kernel
theorem dX11_comes_19 : decode cX11_comes 19 = .ok (.imul, 1) := by decide +kernel
theorem dX11_comes_20 : decode cX11_comes 20 = .ok (.aload_n 0, 1) := by decide +kernel
theorem dX11_comes_21 : decode cX11_comes 21 = .ok (.iload_n 1, 1) := by decide +kernel
theorem dX11_comes_22 : decode cX11_comes 22 = .ok (.invokevirtual 95, 3) := by decide +kernel
theorem dX11_comes_25 : decode cX11_comes 25 = .ok (.iadd, 1) := by decide +kernel
theorem dX11_comes_26 : decode cX11_comes 26 = .ok (.istore 5, 2) := by decide +kernel
theorem dX11_comes_28 : decode cX11_comes 28 = .ok (.iload 5, 2) := by decide +kernel
theorem dX11_comes_30 : decode cX11_comes 30 = .ok (.iload 4, 2) := by decide +kernel
theorem dX11_comes_32 : decode cX11_comes 32 = .ok (.if_icmp .le 19, 3) := by decide +kernel
theorem dX11_comes_35 : decode cX11_comes 35 = .ok (.aload_n 0, 1) := by decide +kernel
theorem dX11_comes_36 : decode cX11_comes 36 = .ok (.iload 5, 2) := by decide +kernel
theorem dX11_comes_38 : decode cX11_comes 38 = .ok (.iload 5, 2) := by decide +kernel
theorem dX11_comes_40 : decode cX11_comes 40 = .ok (.iconst 1, 1) := by decide +kernel
theorem dX11_comes_41 : decode cX11_comes 41 = .ok (.isub, 1) := by decide +kernel
theorem dX11_comes_42 : decode cX11_comes 42 = .ok (.invokevirtual 195, 3) := by decide +kernel
theorem dX11_comes_45 : decode cX11_comes 45 = .ok (.iinc 5 (-1), 3) := by decide +kernel
theorem dX11_comes_48 : decode cX11_comes 48 = .ok (.goto (-20), 3) := by decide +kernel
theorem dX11_comes_51 : decode cX11_comes 51 = .ok (.aload_n 0, 1) := by decide +kernel
theorem dX11_comes_52 : decode cX11_comes 52 = .ok (.getfield 17, 3) := by decide +kernel
theorem dX11_comes_55 : decode cX11_comes 55 = .ok (.iload 4, 2) := by decide +kernel
theorem dX11_comes_57 : decode cX11_comes 57 = .ok (.iload_n 2, 1) := by decide +kernel
theorem dX11_comes_58 : decode cX11_comes 58 = .ok (.iastore, 1) := by decide +kernel
theorem dX11_comes_59 : decode cX11_comes 59 = .ok (.aload_n 0, 1) := by decide +kernel
theorem dX11_comes_60 : decode cX11_comes 60 = .ok (.getfield 21, 3) := by decide +kernel
theorem dX11_comes_63 : decode cX11_comes 63 = .ok (.iload 4, 2) := by decide +kernel
theorem dX11_comes_65 : decode cX11_comes 65 = .ok (.iload_n 3, 1) := by decide +kernel
theorem dX11_comes_66 : decode cX11_comes 66 = .ok (.iastore, 1) := by decide +kernel
theorem dX11_comes_67 : decode cX11_comes 67 = .ok (.aload_n 0, 1) := by decide +kernel
theorem dX11_comes_68 : decode cX11_comes 68 = .ok (.getfield 24, 3) := by decide +kernel
theorem dX11_comes_71 : decode cX11_comes 71 = .ok (.iload 4, 2) := by decide +kernel
theorem dX11_comes_73 : decode cX11_comes 73 = .ok (.aload_n 0, 1) := by decide +kernel
theorem dX11_comes_74 : decode cX11_comes 74 = .ok (.iload_n 1, 1) := by decide +kernel
theorem dX11_comes_75 : decode cX11_comes 75 = .ok (.iload_n 2, 1) := by decide +kernel
theorem dX11_comes_76 : decode cX11_comes 76 = .ok (.invokevirtual 155, 3) := by decide +kernel
theorem dX11_comes_79 : decode cX11_comes 79 = .ok (.iastore, 1) := by decide +kernel
theorem dX11_comes_80 : decode cX11_comes 80 = .ok (.aload_n 0, 1) := by decide +kernel
theorem dX11_comes_81 : decode cX11_comes 81 = .ok (.iload_n 1, 1) := by decide +kernel
theorem dX11_comes_82 : decode cX11_comes 82 = .ok (.iconst 1, 1) := by decide +kernel
theorem dX11_comes_83 : decode cX11_comes 83 = .ok (.lconst 1, 1) := by decide +kernel
theorem dX11_comes_84 : decode cX11_comes 84 = .ok (.invokevirtual 130, 3) := by decide +kernel
theorem dX11_comes_87 : decode cX11_comes 87 = .ok (.return_, 1) := by decide +kernel
def own_c_comes : List Cond := [.methodLink RX11 195 yX11_moves, .instanceMethod yX11_moves, .selects RX11 yX11_moves yX11_moves, .initialized RX11, .methodLink RX11 99 yX11_whereOf, .instanceMethod yX11_whereOf, .selects RX11 yX11_whereOf yX11_whereOf, .methodLink RX11 95 yX11_manyOf, .instanceMethod yX11_manyOf, .selects RX11 yX11_manyOf yX11_manyOf, .fieldLink RX11 17 "ClashFreeModel" "keys" "[I", .fieldLink RX11 21 "ClashFreeModel" "values" "[I", .fieldLink RX11 24 "ClashFreeModel" "inBucket" "[I", .methodLink RX11 155 yX11_bucketOf, .instanceMethod yX11_bucketOf, .selects RX11 yX11_bucketOf yX11_bucketOf, .methodLink RX11 130 yX11_adds, .instanceMethod yX11_adds, .selects RX11 yX11_adds yX11_adds]
def wp_c_comes : List Cond := .code yX11_comes cX11_comes 6 none :: (own_c_comes ++ (wp_c_moves ++ (wp_c_whereOf ++ (wp_c_manyOf ++ (wp_c_bucketOf ++ (wp_c_adds ++ (wsX110 ++ ([] : List Cond))))))))
set_option maxRecDepth 20000 in
theorem inown_c_comes : ∀ w ∈ own_c_comes, w ∈ lw_tbl := mem_places [1509, 1511, 63, 115, 1481, 1483, 57, 1396, 1398, 40, 1220, 1221, 1222, 1430, 1432, 47, 1458, 1460, 53] (by decide +kernel)
set_option maxRecDepth 20000 in
theorem in_c_comes : ∀ w ∈ wp_c_comes, w ∈ lw_tbl := List.forall_mem_cons.mpr ⟨List.mem_of_getElem? (i := 1508) (by decide +kernel), List.forall_mem_append.mpr ⟨inown_c_comes, List.forall_mem_append.mpr ⟨in_c_moves, List.forall_mem_append.mpr ⟨in_c_whereOf, List.forall_mem_append.mpr ⟨in_c_manyOf, List.forall_mem_append.mpr ⟨in_c_bucketOf, List.forall_mem_append.mpr ⟨in_c_adds, List.forall_mem_append.mpr ⟨lwb_X11, fun _ h => absurd h List.not_mem_nil⟩⟩⟩⟩⟩⟩⟩⟩
set_option maxRecDepth 20000 in
theorem good_c_comes : wp_c_comes.all goodWord = true := by decide +kernel
set_option maxRecDepth 20000 in
theorem g_c_comes_c_moves_195 : GoodIn wp_c_comes (wsV RX11 195 RX11 yX11_moves wp_c_moves) := goodIn_sub (List.forall_mem_append.mpr ⟨List.forall_mem_cons.mpr ⟨(List.mem_of_getElem? (i := 1) rfl), List.forall_mem_cons.mpr ⟨(List.mem_of_getElem? (i := 2) rfl), List.forall_mem_cons.mpr ⟨(List.mem_of_getElem? (i := 3) rfl), List.forall_mem_cons.mpr ⟨(List.mem_of_getElem? (i := 4) rfl), fun _ h => absurd h List.not_mem_nil⟩⟩⟩⟩, (fun _ h => (List.mem_cons_of_mem _ (List.mem_append_right _ (List.mem_append_left _ h))))⟩) (by decide +kernel)
set_option maxRecDepth 20000 in
theorem g_c_comes_c_whereOf_99 : GoodIn wp_c_comes (wsV RX11 99 RX11 yX11_whereOf wp_c_whereOf) := goodIn_sub (List.forall_mem_append.mpr ⟨List.forall_mem_cons.mpr ⟨(List.mem_of_getElem? (i := 5) rfl), List.forall_mem_cons.mpr ⟨(List.mem_of_getElem? (i := 6) rfl), List.forall_mem_cons.mpr ⟨(List.mem_of_getElem? (i := 7) rfl), List.forall_mem_cons.mpr ⟨(List.mem_of_getElem? (i := 4) rfl), fun _ h => absurd h List.not_mem_nil⟩⟩⟩⟩, (fun _ h => (List.mem_cons_of_mem _ (List.mem_append_right _ (List.mem_append_right _ (List.mem_append_left _ h)))))⟩) (by decide +kernel)
set_option maxRecDepth 20000 in
theorem g_c_comes_c_manyOf_95 : GoodIn wp_c_comes (wsV RX11 95 RX11 yX11_manyOf wp_c_manyOf) := goodIn_sub (List.forall_mem_append.mpr ⟨List.forall_mem_cons.mpr ⟨(List.mem_of_getElem? (i := 8) rfl), List.forall_mem_cons.mpr ⟨(List.mem_of_getElem? (i := 9) rfl), List.forall_mem_cons.mpr ⟨(List.mem_of_getElem? (i := 10) rfl), List.forall_mem_cons.mpr ⟨(List.mem_of_getElem? (i := 4) rfl), fun _ h => absurd h List.not_mem_nil⟩⟩⟩⟩, (fun _ h => (List.mem_cons_of_mem _ (List.mem_append_right _ (List.mem_append_right _ (List.mem_append_right _ (List.mem_append_left _ h))))))⟩) (by decide +kernel)
set_option maxRecDepth 20000 in
theorem g_c_comes_c_bucketOf_155 : GoodIn wp_c_comes (wsV RX11 155 RX11 yX11_bucketOf wp_c_bucketOf) := goodIn_sub (List.forall_mem_append.mpr ⟨List.forall_mem_cons.mpr ⟨(List.mem_of_getElem? (i := 14) rfl), List.forall_mem_cons.mpr ⟨(List.mem_of_getElem? (i := 15) rfl), List.forall_mem_cons.mpr ⟨(List.mem_of_getElem? (i := 16) rfl), List.forall_mem_cons.mpr ⟨(List.mem_of_getElem? (i := 4) rfl), fun _ h => absurd h List.not_mem_nil⟩⟩⟩⟩, (fun _ h => (List.mem_cons_of_mem _ (List.mem_append_right _ (List.mem_append_right _ (List.mem_append_right _ (List.mem_append_right _ (List.mem_append_left _ h)))))))⟩) (by decide +kernel)
set_option maxRecDepth 20000 in
theorem g_c_comes_c_adds_130 : GoodIn wp_c_comes (wsV RX11 130 RX11 yX11_adds wp_c_adds) := goodIn_sub (List.forall_mem_append.mpr ⟨List.forall_mem_cons.mpr ⟨(List.mem_of_getElem? (i := 17) rfl), List.forall_mem_cons.mpr ⟨(List.mem_of_getElem? (i := 18) rfl), List.forall_mem_cons.mpr ⟨(List.mem_of_getElem? (i := 19) rfl), List.forall_mem_cons.mpr ⟨(List.mem_of_getElem? (i := 4) rfl), fun _ h => absurd h List.not_mem_nil⟩⟩⟩⟩, (fun _ h => (List.mem_cons_of_mem _ (List.mem_append_right _ (List.mem_append_right _ (List.mem_append_right _ (List.mem_append_right _ (List.mem_append_right _ (List.mem_append_left _ h))))))))⟩) (by decide +kernel)
set_option maxHeartbeats 4000000 in
set_option maxRecDepth 100000 in
theorem lp_comes (l : Launch) {p : Program} {e : Env} {s : State} {m : MethodId} {args : Array Value} {below : List Frame} {meth : Method} {c : Code} {Q : State → Prop} {A : Nat → Prop} (D : va_G) (h0 : Nat) (a : Nat → Nat) (cm : Nat → ClassId) (i : Nat → Int32) (g : Nat → Int64) (fn : Nat → Int64) (fk : Nat → Int32) (fv : Nat → Int32) (fb : Nat → Int32) (fr : Nat → Int32) (k : Nat) (cn : Nat) (K : Nat → Nat) (kx : Nat) (z3 : Int32) (ka : Nat) (kb : Nat) (nb : Nat) (qi : Nat) (hk : k < 5) (h1 : fn (17 * k + 1) = lN cn) (hcn : cn < 160) (hKy : KyS k fk cn K) (hkx : kx < 2147483647) (h6 : fn (17 * k + 6) = lN ka) (h7 : fn (17 * k + 7) = lN kb) (h4 : fn (17 * k + 4) = lN nb) (hka : ka < 2147483647) (hkb : kb < 2147483647) (hn1 : 1 ≤ nb) (hn2 : nb ≤ 2048) (hqi : qi ≤ cn) (hx : p.tables.exec = Jvm.exec) (hb : c.code = cX11_comes) (hml : c.maxLocals = 6) (hown : s.vm.findClass RX11 = some m.cls) (hts : ∀ w ∈ wp_c_comes, w.before args s = true) (hA : ∀ q, s.heap.size ≤ q → A q) (hK : va_K D vwCl [(cm 3, .long), (cm 4, .int), (cm 5, .int), (cm 6, .int), (cm 7, .int)] s) (kx51 : ∀ (y : Nat), ∀ (gk : Nat → Int32), ∀ (gv : Nat → Int32), ∀ (gb : Nat → Int32), ∀ (gr : Nat → Int32), (qi ≤ y) → (y ≤ cn) → (Shf k y cn fk gk) → (Shf k y cn fv gv) → (Shf k y cn fb gb) → (Shf k y cn fr gr) → (y ≤ qi) → ∀ (H : Heap) (locs : List Loc) (ls : Array Slot), va_P D vwCl [(h0, .inr (11, gM a i g)), (a 3, .inl (cm 3, 85, .inr (.inl fn))), (a 4, .inl (cm 4, 800, .inl gk)), (a 5, .inl (cm 5, 800, .inl gv)), (a 6, .inl (cm 6, 800, .inl gb)), (a 7, .inl (cm 7, 800, .inl gr))] H → va_D A [(h0, .inr (11, gM a i g)), (a 3, .inl (cm 3, 85, .inr (.inl fn))), (a 4, .inl (cm 4, 800, .inl gk)), (a 5, .inl (cm 5, 800, .inl gv)), (a 6, .inl (cm 6, 800, .inl gb)), (a 7, .inl (cm 7, 800, .inl gr))] → va_S A s.heap H locs → lv_has ls 6 [(4, .int (nI (160 * k + qi))), (0, .ref h0), (1, .int (nI k)), (2, .int (nI kx)), (3, .int z3)] → W p l e ({ frames := 4, cells := 0, slots := 0, locals := 110 }) s m args below meth c H locs 0 0 Q (F0 m 51 ls [])) : ∀ (N : Nat), ∀ (y : Nat), ∀ (gk : Nat → Int32), ∀ (gv : Nat → Int32), ∀ (gb : Nat → Int32), ∀ (gr : Nat → Int32), (qi ≤ y) → (y ≤ cn) → (Shf k y cn fk gk) → (Shf k y cn fv gv) → (Shf k y cn fb gb) → (Shf k y cn fr gr) → y < N → ∀ (H : Heap) (locs : List Loc) (ls : Array Slot), va_P D vwCl [(h0, .inr (11, gM a i g)), (a 3, .inl (cm 3, 85, .inr (.inl fn))), (a 4, .inl (cm 4, 800, .inl gk)), (a 5, .inl (cm 5, 800, .inl gv)), (a 6, .inl (cm 6, 800, .inl gb)), (a 7, .inl (cm 7, 800, .inl gr))] H → va_D A [(h0, .inr (11, gM a i g)), (a 3, .inl (cm 3, 85, .inr (.inl fn))), (a 4, .inl (cm 4, 800, .inl gk)), (a 5, .inl (cm 5, 800, .inl gv)), (a 6, .inl (cm 6, 800, .inl gb)), (a 7, .inl (cm 7, 800, .inl gr))] → va_S A s.heap H locs → lv_has ls 6 [(5, .int (nI (160 * k + y))), (4, .int (nI (160 * k + qi))), (0, .ref h0), (1, .int (nI k)), (2, .int (nI kx)), (3, .int z3)] → W p l e ({ frames := 4, cells := 0, slots := 0, locals := 110 }) s m args below meth c H locs 0 0 Q (F0 m 28 ls []) := by
  have hin_X11 : ∀ w ∈ wsX110, w ∈ wp_c_comes := fun _ h => (List.mem_cons_of_mem _ (List.mem_append_right _ (List.mem_append_right _ (List.mem_append_right _ (List.mem_append_right _ (List.mem_append_right _ (List.mem_append_right _ (List.mem_append_left _ h))))))))
  intro N
  induction N with
  | zero =>
    intro y gk gv gb gr hy1 hy2 s1 s2 s3 s4 hm
    exact absurd hm (Nat.not_lt_zero _)
  | succ N ih =>
    intro y gk gv gb gr hy1 hy2 s1 s2 s3 s4 hm H locs ls hP hD hS hl
    refine lv_iload hx hb dX11_comes_28 (lv_at hl 0 rfl) ?_
    refine lv_iload hx hb dX11_comes_30 (lv_at hl 1 rfl) ?_
    refine lv_icmp_le (tgt := 51) hx hb dX11_comes_32 (by decide) (fun hc1 => ?_) (fun hc1 => ?_)
    ·
      have hle_y : y ≤ qi := by
        have := (nI_leI (a := 160 * k + y) (b := 160 * k + qi) (by omega) (by omega)).mp hc1
        omega
      exact kx51 y gk gv gb gr (hy1) (hy2) (s1) (s2) (s3) (s4) (by omega) H locs ls (hP.sub [0, 1, 2, 3, 4, 5] rfl) (hD.sub [0, 1, 2, 3, 4, 5] (by decide) rfl) hS (lv_sub hl [1, 2, 3, 4, 5] rfl)
    ·
      have hlt_y : qi < y := by
        rcases Nat.lt_or_ge qi y with z | z
        · exact z
        · exact absurd (nI_le (show 160 * k + y ≤ 160 * k + qi by omega) (by omega)) hc1
      refine lv_aload_n hx hb dX11_comes_35 rfl (lv_at hl 2 rfl) ?_
      refine lv_iload hx hb dX11_comes_36 (lv_at hl 0 rfl) ?_
      refine lv_iload hx hb dX11_comes_38 (lv_at hl 0 rfl) ?_
      refine lv_iconst (v := 1) hx hb dX11_comes_40 (by decide) ?_
      refine lv_isub hx hb dX11_comes_41 ?_
      refine lv_topi (fun v2 ev2 => ?_)
      obtain rfl : v2 = nI (160 * k + (y - 1)) := ev2.trans (sub1 (by omega))
      have hPc := hP.sub (ws' := [(h0, .inr (11, gM a i g)), (a 4, .inl (cm 4, 800, .inl gk)), (a 5, .inl (cm 5, 800, .inl gv)), (a 6, .inl (cm 6, 800, .inl gb)), (a 7, .inl (cm 7, 800, .inl gr))]) [0, 2, 3, 4, 5] rfl
      have hKc := hK.sub (tys' := [(cm 4, .int), (cm 5, .int), (cm 6, .int), (cm 7, .int)]) [1, 2, 3, 4] rfl
      have hDc := hD.sub (ws' := [(h0, .inr (11, gM a i g)), (a 4, .inl (cm 4, 800, .inl gk)), (a 5, .inl (cm 5, 800, .inl gv)), (a 6, .inl (cm 6, 800, .inl gb)), (a 7, .inl (cm 7, 800, .inl gr))]) [0, 2, 3, 4, 5] (by decide) rfl
      have hFc := va_free (wc := [(h0, .inr (11, gM a i g)), (a 4, .inl (cm 4, 800, .inl gk)), (a 5, .inl (cm 5, 800, .inl gv)), (a 6, .inl (cm 6, 800, .inl gb)), (a 7, .inl (cm 7, 800, .inl gr))]) hD hS hA [0, 2, 3, 4, 5] rfl
      refine va_callv (va_runV (As := [.int (nI (160 * k + y)), .int (nI (160 * k + (y - 1)))]) (rest := []) ⟨hx, hb, hml, hown, hts⟩ (c_moves l D _ h0 a cm i g gk gv gb gr (160 * k + y) (160 * k + (y - 1)) (by first | assumption | omega) (by first | assumption | omega)) (cwV 2 hts g_c_comes_c_moves_195 rfl rfl rfl (by decide +kernel) ⟨(Nat.le_of_ble_eq_true rfl), (Nat.le_of_ble_eq_true rfl)⟩) (PcW_V (q0 := 0) hPc hKc hDc rfl rfl) rfl rfl hl.1 rfl (lv_room (Nat.le_of_ble_eq_true rfl)) dX11_comes_42 ⟨(Nat.le_of_ble_eq_true rfl), (Nat.le_of_ble_eq_true rfl)⟩) hS (fun q _ h => hFc q h) hFc (fun uu tt H locs htt hvm hw hB hz1 hk1 hS => ?_)
      obtain ⟨w4, w5, w6, w7⟩ := uu
      obtain ⟨hP1, hK1, hD1⟩ := hB
      rw [htt] at hP1
      have hK1 := va_K.moved hvm.symm hK1
      have hP1 : va_P D vwCl [(h0, .inr (11, gM a i g)), (a 4, .inl (cm 4, 800, .inl w4)), (a 5, .inl (cm 5, 800, .inl w5)), (a 6, .inl (cm 6, 800, .inl w6)), (a 7, .inl (cm 7, 800, .inl w7))] H := hP1
      obtain ⟨hP, hD⟩ := va_join (wr := [(a 3, .inl (cm 3, 85, .inr (.inl fn)))]) (w1 := [(h0, .inr (11, gM a i g)), (a 4, .inl (cm 4, 800, .inl w4)), (a 5, .inl (cm 5, 800, .inl w5)), (a 6, .inl (cm 6, 800, .inl w6)), (a 7, .inl (cm 7, 800, .inl w7))]) hP hD [0, 2, 3, 4, 5] [1] rfl rfl (by decide) (by decide) hk1 hFc hP1 hD1
      have hP : va_P D vwCl [(a 3, .inl (cm 3, 85, .inr (.inl fn))), (h0, .inr (11, gM a i g)), (a 4, .inl (cm 4, 800, .inl w4)), (a 5, .inl (cm 5, 800, .inl w5)), (a 6, .inl (cm 6, 800, .inl w6)), (a 7, .inl (cm 7, 800, .inl w7))] H := hP
      have hD : va_D A [(a 3, .inl (cm 3, 85, .inr (.inl fn))), (h0, .inr (11, gM a i g)), (a 4, .inl (cm 4, 800, .inl w4)), (a 5, .inl (cm 5, 800, .inl w5)), (a 6, .inl (cm 6, 800, .inl w6)), (a 7, .inl (cm 7, 800, .inl w7))] := hD
      try dsimp only at hw
      clear hz1 hk1 hFc hPc hKc hDc
      obtain ⟨em8, em9, em10, em11⟩ := hw
      subst em8
      subst em9
      subst em10
      subst em11
      have hP : va_P D vwCl [(a 3, .inl (cm 3, 85, .inr (.inl fn))), (h0, .inr (11, gM a i g)), (a 4, .inl (cm 4, 800, .inl (upd gk (160 * k + y) (gk (160 * k + (y - 1)))))), (a 5, .inl (cm 5, 800, .inl (upd gv (160 * k + y) (gv (160 * k + (y - 1)))))), (a 6, .inl (cm 6, 800, .inl (upd gb (160 * k + y) (gb (160 * k + (y - 1)))))), (a 7, .inl (cm 7, 800, .inl (upd gr (160 * k + y) (gr (160 * k + (y - 1))))))] H := hP
      have hD : va_D A [(a 3, .inl (cm 3, 85, .inr (.inl fn))), (h0, .inr (11, gM a i g)), (a 4, .inl (cm 4, 800, .inl (upd gk (160 * k + y) (gk (160 * k + (y - 1)))))), (a 5, .inl (cm 5, 800, .inl (upd gv (160 * k + y) (gv (160 * k + (y - 1)))))), (a 6, .inl (cm 6, 800, .inl (upd gb (160 * k + y) (gb (160 * k + (y - 1)))))), (a 7, .inl (cm 7, 800, .inl (upd gr (160 * k + y) (gr (160 * k + (y - 1))))))] := hD
      refine lv_iinc (v := nI (160 * k + (y - 1))) (lv' := [(5, .int (nI (160 * k + (y - 1)))), (4, .int (nI (160 * k + qi))), (0, .ref h0), (1, .int (nI k)), (2, .int (nI kx)), (3, .int z3)]) hx hb dX11_comes_45 hl (k := 0) rfl (dec1 (by omega)) (by decide) rfl (fun ls hl => ?_)
      refine lv_goto (tgt := 28) hx hb dX11_comes_48 (by decide) ?_
      exact ih (y - 1) (upd gk (160 * k + y) (gk (160 * k + (y - 1)))) (upd gv (160 * k + y) (gv (160 * k + (y - 1)))) (upd gb (160 * k + y) (gb (160 * k + (y - 1)))) (upd gr (160 * k + y) (gr (160 * k + (y - 1)))) (by omega) (by omega) (Shf_step (by omega) (by omega) s1) (Shf_step (by omega) (by omega) s2) (Shf_step (by omega) (by omega) s3) (Shf_step (by omega) (by omega) s4) (by omega) H locs ls (hP.sub [1, 0, 2, 3, 4, 5] rfl) (hD.sub [1, 0, 2, 3, 4, 5] (by decide) rfl) hS (lv_sub hl [0, 1, 2, 3, 4, 5] rfl)
set_option maxHeartbeats 4000000 in
set_option maxRecDepth 100000 in
theorem c_comes (l : Launch) (D : va_G) (sz : Nat) (h0 : Nat) (a : Nat → Nat) (cm : Nat → ClassId) (i : Nat → Int32) (g : Nat → Int64) (fn : Nat → Int64) (fk : Nat → Int32) (fv : Nat → Int32) (fb : Nat → Int32) (fr : Nat → Int32) (k : Nat) (cn : Nat) (K : Nat → Nat) (kx : Nat) (z3 : Int32) (ka : Nat) (kb : Nat) (nb : Nat) (hk : k < 5) (h1 : fn (17 * k + 1) = lN cn) (hcn : cn < 160) (hKy : KyS k fk cn K) (hkx : kx < 2147483647) (h6 : fn (17 * k + 6) = lN ka) (h7 : fn (17 * k + 7) = lN kb) (h4 : fn (17 * k + 4) = lN nb) (hka : ka < 2147483647) (hkb : kb < 2147483647) (hn1 : 1 ≤ nb) (hn2 : nb ≤ 2048) : Met l yX11_comes wp_c_comes ({ frames := 4, cells := 0, slots := 0, locals := 110 }) (PcW D [.ref h0, .int (nI k), .int (nI kx), .int z3] sz [(h0, .inr (11, gM a i g)), (a 3, .inl (cm 3, 85, .inr (.inl fn))), (a 4, .inl (cm 4, 800, .inl fk)), (a 5, .inl (cm 5, 800, .inl fv)), (a 6, .inl (cm 6, 800, .inl fb)), (a 7, .inl (cm 7, 800, .inl fr))] [(cm 3, .long), (cm 4, .int), (cm 5, .int), (cm 6, .int), (cm 7, .int)]) (va_Qv (fun (u : (Nat → Int64) × (Nat → Int32) × (Nat → Int32) × (Nat → Int32) × (Nat → Int32)) => ∃ q, q ≤ cn ∧ (∀ j, j < q → lN (K j) < lN kx) ∧ (∀ j, q ≤ j → j < cn → ¬ lN (K j) < lN kx) ∧ Ins k q cn fk u.2.1 (nI kx) ∧ Ins k q cn fv u.2.2.1 z3 ∧ Ins k q cn fb u.2.2.2.1 (nI ((ka * kx + kb) % 2147483647 % nb)) ∧ u.1 (17 * k + 1) = lN (cn + 1) ∧ ∀ x, x ≠ 17 * k + 1 → u.1 x = fn x) (fun (u : (Nat → Int64) × (Nat → Int32) × (Nat → Int32) × (Nat → Int32) × (Nat → Int32)) t => va_P D vwCl [(h0, .inr (11, gM a i g)), (a 3, .inl (cm 3, 85, .inr (.inl u.1))), (a 4, .inl (cm 4, 800, .inl u.2.1)), (a 5, .inl (cm 5, 800, .inl u.2.2.1)), (a 6, .inl (cm 6, 800, .inl u.2.2.2.1)), (a 7, .inl (cm 7, 800, .inl u.2.2.2.2))] t.heap ∧ va_K D vwCl [(cm 3, .long), (cm 4, .int), (cm 5, .int), (cm 6, .int), (cm 7, .int)] t ∧ va_D (va_A [(h0, .inr (11, gM a i g)), (a 3, .inl (cm 3, 85, .inr (.inl fn))), (a 4, .inl (cm 4, 800, .inl fk)), (a 5, .inl (cm 5, 800, .inl fv)), (a 6, .inl (cm 6, 800, .inl fb)), (a 7, .inl (cm 7, 800, .inl fr))] sz) [(h0, .inr (11, gM a i g)), (a 3, .inl (cm 3, 85, .inr (.inl u.1))), (a 4, .inl (cm 4, 800, .inl u.2.1)), (a 5, .inl (cm 5, 800, .inl u.2.2.1)), (a 6, .inl (cm 6, 800, .inl u.2.2.2.1)), (a 7, .inl (cm 7, 800, .inl u.2.2.2.2))]) (va_A [(h0, .inr (11, gM a i g)), (a 3, .inl (cm 3, 85, .inr (.inl fn))), (a 4, .inl (cm 4, 800, .inl fk)), (a 5, .inl (cm 5, 800, .inl fv)), (a 6, .inl (cm 6, 800, .inl fb)), (a 7, .inl (cm 7, 800, .inl fr))] sz)) 0 0 (va_A [(h0, .inr (11, gM a i g)), (a 3, .inl (cm 3, 85, .inr (.inl fn))), (a 4, .inl (cm 4, 800, .inl fk)), (a 5, .inl (cm 5, 800, .inl fv)), (a 6, .inl (cm 6, 800, .inl fb)), (a 7, .inl (cm 7, 800, .inl fr))] sz) := by
  refine Met.ofW (cc := cX11_comes) (maxL := 6) (ret := none) (by decide) rfl ?_
  intro p e s m args below meth c s₁ B hml hv
  obtain ⟨rfl, hsz, hP, hK, hD0⟩ := hv
  have hx := B.exec
  have hb := B.bytes
  have hr := B.returns
  have hts := atoms_spec (ws := wp_c_comes) B.pre
  have hin_X11 : ∀ w ∈ wsX110, w ∈ wp_c_comes := fun _ h => (List.mem_cons_of_mem _ (List.mem_append_right _ (List.mem_append_right _ (List.mem_append_right _ (List.mem_append_right _ (List.mem_append_right _ (List.mem_append_right _ (List.mem_append_left _ h))))))))
  have hown : s.vm.findClass RX11 = some m.cls := findClass_of_methodNamed B.named
  have hlocks := B.notSynchronized
  subst hsz
  have hD := hD0.self (sz := s.heap.size)
  generalize hAe : va_A [(h0, .inr (11, gM a i g)), (a 3, .inl (cm 3, 85, .inr (.inl fn))), (a 4, .inl (cm 4, 800, .inl fk)), (a 5, .inl (cm 5, 800, .inl fv)), (a 6, .inl (cm 6, 800, .inl fb)), (a 7, .inl (cm 7, 800, .inl fr))] s.heap.size = A at hD ⊢
  have hA : ∀ q : Nat, s.heap.size ≤ q → A q := fun q h => by rw [← hAe]; exact Or.inr h
  have hS : va_S A s.heap s.heap [] := va_S.rf
  have hP : va_P D vwCl [(h0, .inr (11, gM a i g)), (a 3, .inl (cm 3, 85, .inr (.inl fn))), (a 4, .inl (cm 4, 800, .inl fk)), (a 5, .inl (cm 5, 800, .inl fv)), (a 6, .inl (cm 6, 800, .inl fb)), (a 7, .inl (cm 7, 800, .inl fr))] s.heap := hP
  have hl := lv_entry ([.ref h0, .int (nI k), .int (nI kx), .int z3]) (n := 6) (Nat.le_of_ble_eq_true rfl)
  rw [lg_entry_eq]
  generalize (lg_sl ([.ref h0, .int (nI k), .int (nI kx), .int z3]) ++ List.replicate (6 - (lg_sl ([.ref h0, .int (nI k), .int (nI kx), .int z3])).length) Slot.unset).toArray = ls at hl ⊢
  have hl : lv_has ls 6 [(0, .ref h0), (1, .int (nI k)), (2, .int (nI kx)), (3, .int z3)] := hl
  refine lv_sipush (v := 160) hx hb dX11_comes_0 (by decide) ?_
  refine lv_iload_n hx hb dX11_comes_3 rfl (lv_at hl 1 rfl) ?_
  refine lv_imul hx hb dX11_comes_4 ?_
  refine lv_aload_n hx hb dX11_comes_5 rfl (lv_at hl 0 rfl) ?_
  refine lv_iload_n hx hb dX11_comes_6 rfl (lv_at hl 1 rfl) ?_
  refine lv_iload_n hx hb dX11_comes_7 rfl (lv_at hl 2 rfl) ?_
  refine lv_i2l hx hb dX11_comes_8 rfl ?_
  refine lv_topl (fun v1 ev1 => ?_)
  obtain rfl : v1 = lN kx := ev1.trans (nI_l (by omega))
  have hPc := hP.sub (ws' := [(h0, .inr (11, gM a i g)), (a 3, .inl (cm 3, 85, .inr (.inl fn))), (a 4, .inl (cm 4, 800, .inl fk))]) [0, 1, 2] rfl
  have hKc := hK.sub (tys' := [(cm 3, .long), (cm 4, .int)]) [0, 1] rfl
  have hFc := va_free0 hS hA
  refine va_calli (va_runV (As := [.int (nI k), .long (lN kx)]) (rest := [.int (160 * (nI k))]) ⟨hx, hb, hml, hown, hts⟩ (c_whereOf l D _ h0 a cm i g fn fk k cn K (lN kx) (by first | assumption | omega) h1 (by first | assumption | omega) hKy) (cwV 2 hts g_c_comes_c_whereOf_99 rfl rfl rfl (by decide +kernel) ⟨(Nat.le_of_ble_eq_true rfl), (Nat.le_of_ble_eq_true rfl)⟩) (PcR_V (q0 := 0) hPc hKc rfl rfl) rfl rfl hl.1 rfl (lv_room (Nat.le_of_ble_eq_true rfl)) dX11_comes_9 ⟨(Nat.le_of_ble_eq_true rfl), (Nat.le_of_ble_eq_true rfl)⟩) hS (fun q _ h => hFc q h) hFc (fun r2 uu tt H locs htt hvm hw hB hz1 hk1 hS => ?_)
  have hP := va_keep hP hk1
  try dsimp only at hw
  clear hB hz1 hk1 hFc hPc hKc
  obtain ⟨q3, hq3a, rfl, hq3b, hq3c⟩ := hw
  refine lv_iadd hx hb dX11_comes_12 ?_
  refine lv_topi (fun v4 ev4 => ?_)
  obtain rfl : v4 = nI (160 * k + q3) := ev4.trans (ix160 k _)
  refine lv_istore (lv' := [(4, .int (nI (160 * k + q3))), (0, .ref h0), (1, .int (nI k)), (2, .int (nI kx)), (3, .int z3)]) hx hb dX11_comes_13 hl (by decide) rfl (fun ls hl => ?_)
  refine lv_sipush (v := 160) hx hb dX11_comes_15 (by decide) ?_
  refine lv_iload_n hx hb dX11_comes_18 rfl (lv_at hl 2 rfl) ?_
  refine lv_imul hx hb dX11_comes_19 ?_
  refine lv_aload_n hx hb dX11_comes_20 rfl (lv_at hl 1 rfl) ?_
  refine lv_iload_n hx hb dX11_comes_21 rfl (lv_at hl 2 rfl) ?_
  have hPc := hP.sub (ws' := [(h0, .inr (11, gM a i g)), (a 3, .inl (cm 3, 85, .inr (.inl fn)))]) [0, 1] rfl
  have hKc := hK.sub (tys' := [(cm 3, .long)]) [0] rfl
  have hFc := va_free0 hS hA
  refine va_calli (va_runV (As := [.int (nI k)]) (rest := [.int (160 * (nI k))]) ⟨hx, hb, hml, hown, hts⟩ (c_manyOf l D _ h0 a cm i g fn k cn (by first | assumption | omega) h1) (cwV 1 hts g_c_comes_c_manyOf_95 rfl rfl rfl (by decide +kernel) ⟨(Nat.le_of_ble_eq_true rfl), (Nat.le_of_ble_eq_true rfl)⟩) (PcR_V (q0 := 0) hPc hKc rfl rfl) rfl rfl hl.1 rfl (lv_room (Nat.le_of_ble_eq_true rfl)) dX11_comes_22 ⟨(Nat.le_of_ble_eq_true rfl), (Nat.le_of_ble_eq_true rfl)⟩) hS (fun q _ h => hFc q h) hFc (fun r5 uu tt H locs htt hvm hw hB hz1 hk1 hS => ?_)
  have hP := va_keep hP hk1
  try dsimp only at hw
  clear hB hz1 hk1 hFc hPc hKc
  obtain rfl : r5 = nI cn := hw
  refine lv_iadd hx hb dX11_comes_25 ?_
  refine lv_topi (fun v6 ev6 => ?_)
  obtain rfl : v6 = nI (160 * k + cn) := ev6.trans (ix160 k _)
  refine lv_istore (lv' := [(5, .int (nI (160 * k + cn))), (4, .int (nI (160 * k + q3))), (0, .ref h0), (1, .int (nI k)), (2, .int (nI kx)), (3, .int z3)]) hx hb dX11_comes_26 hl (by decide) rfl (fun ls hl => ?_)
  refine lp_comes l D h0 a cm i g fn fk fv fb fr k cn K kx z3 ka kb nb q3 (hk) (h1) (hcn) (hKy) (hkx) (h6) (h7) (h4) (hka) (hkb) (hn1) (hn2) (hq3a) hx hb hml hown hts hA (hK.sub [0, 1, 2, 3, 4] rfl) ?_ (cn + 1) cn fk fv fb fr (hq3a) (Nat.le_refl _) (Shf_0 _ _ _) (Shf_0 _ _ _) (Shf_0 _ _ _) (Shf_0 _ _ _) (by omega) _ _ _ (hP.sub [0, 1, 2, 3, 4, 5] rfl) (hD.sub [0, 1, 2, 3, 4, 5] (by decide) rfl) hS (lv_sub hl [0, 1, 2, 3, 4, 5] rfl)
  intro y_7 gk_8 gv_9 gb_10 gr_11 hy1_12 hy2_13 s1_14 s2_15 s3_16 s4_17 hx18 H locs ls hP hD hS hl
  refine lv_aload_n hx hb dX11_comes_51 rfl (lv_at hl 1 rfl) ?_
  refine va_get (D := D) (ci := 11) (v := .ref (a 4)) (C := RX11) (T := TX11) (N := 47) hx hb hts hin_X11 hown hK hP 0 rfl rfl 4 (by decide) (hts (.fieldLink RX11 17 "ClashFreeModel" "keys" "[I") (List.mem_of_getElem? (i := 11) rfl)) (fun _ h9 => h9) rfl dX11_comes_52 ?_
  refine lv_iload hx hb dX11_comes_55 (lv_at hl 0 rfl) ?_
  refine lv_iload_n hx hb dX11_comes_57 rfl (lv_at hl 3 rfl) ?_
  refine va_iast hx hb hK hP hD hS 2 1 rfl rfl (vp_in_nI (by omega) (by decide)) dX11_comes_58 (fun H locs hP hD hS => ?_)
  have hP : va_P D vwCl [(h0, .inr (11, gM a i g)), (a 3, .inl (cm 3, 85, .inr (.inl fn))), (a 4, .inl (cm 4, 800, .inl (upd gk_8 (Int32.toNatClampNeg (nI (160 * k + q3))) (nI kx)))), (a 5, .inl (cm 5, 800, .inl gv_9)), (a 6, .inl (cm 6, 800, .inl gb_10)), (a 7, .inl (cm 7, 800, .inl gr_11))] H := hP
  have hD : va_D A [(h0, .inr (11, gM a i g)), (a 3, .inl (cm 3, 85, .inr (.inl fn))), (a 4, .inl (cm 4, 800, .inl (upd gk_8 (Int32.toNatClampNeg (nI (160 * k + q3))) (nI kx)))), (a 5, .inl (cm 5, 800, .inl gv_9)), (a 6, .inl (cm 6, 800, .inl gb_10)), (a 7, .inl (cm 7, 800, .inl gr_11))] := hD
  refine lv_aload_n hx hb dX11_comes_59 rfl (lv_at hl 1 rfl) ?_
  refine va_get (D := D) (ci := 11) (v := .ref (a 5)) (C := RX11) (T := TX11) (N := 47) hx hb hts hin_X11 hown hK hP 0 rfl rfl 5 (by decide) (hts (.fieldLink RX11 21 "ClashFreeModel" "values" "[I") (List.mem_of_getElem? (i := 12) rfl)) (fun _ h9 => h9) rfl dX11_comes_60 ?_
  refine lv_iload hx hb dX11_comes_63 (lv_at hl 0 rfl) ?_
  refine lv_iload_n hx hb dX11_comes_65 rfl (lv_at hl 4 rfl) ?_
  refine va_iast hx hb hK hP hD hS 3 2 rfl rfl (vp_in_nI (by omega) (by decide)) dX11_comes_66 (fun H locs hP hD hS => ?_)
  have hP : va_P D vwCl [(h0, .inr (11, gM a i g)), (a 3, .inl (cm 3, 85, .inr (.inl fn))), (a 4, .inl (cm 4, 800, .inl (upd gk_8 (Int32.toNatClampNeg (nI (160 * k + q3))) (nI kx)))), (a 5, .inl (cm 5, 800, .inl (upd gv_9 (Int32.toNatClampNeg (nI (160 * k + q3))) z3))), (a 6, .inl (cm 6, 800, .inl gb_10)), (a 7, .inl (cm 7, 800, .inl gr_11))] H := hP
  have hD : va_D A [(h0, .inr (11, gM a i g)), (a 3, .inl (cm 3, 85, .inr (.inl fn))), (a 4, .inl (cm 4, 800, .inl (upd gk_8 (Int32.toNatClampNeg (nI (160 * k + q3))) (nI kx)))), (a 5, .inl (cm 5, 800, .inl (upd gv_9 (Int32.toNatClampNeg (nI (160 * k + q3))) z3))), (a 6, .inl (cm 6, 800, .inl gb_10)), (a 7, .inl (cm 7, 800, .inl gr_11))] := hD
  refine lv_aload_n hx hb dX11_comes_67 rfl (lv_at hl 1 rfl) ?_
  refine va_get (D := D) (ci := 11) (v := .ref (a 6)) (C := RX11) (T := TX11) (N := 47) hx hb hts hin_X11 hown hK hP 0 rfl rfl 6 (by decide) (hts (.fieldLink RX11 24 "ClashFreeModel" "inBucket" "[I") (List.mem_of_getElem? (i := 13) rfl)) (fun _ h9 => h9) rfl dX11_comes_68 ?_
  refine lv_iload hx hb dX11_comes_71 (lv_at hl 0 rfl) ?_
  refine lv_aload_n hx hb dX11_comes_73 rfl (lv_at hl 1 rfl) ?_
  refine lv_iload_n hx hb dX11_comes_74 rfl (lv_at hl 2 rfl) ?_
  refine lv_iload_n hx hb dX11_comes_75 rfl (lv_at hl 3 rfl) ?_
  have hPc := hP.sub (ws' := [(h0, .inr (11, gM a i g)), (a 3, .inl (cm 3, 85, .inr (.inl fn)))]) [0, 1] rfl
  have hKc := hK.sub (tys' := [(cm 3, .long)]) [0] rfl
  have hFc := va_free0 hS hA
  refine va_calli (va_runV (As := [.int (nI k), .int (nI kx)]) (rest := [.int (nI (160 * k + q3)), .ref (a 6)]) ⟨hx, hb, hml, hown, hts⟩ (c_bucketOf l D _ h0 a cm i g fn k kx ka kb nb (by first | assumption | omega) (by first | assumption | omega | exact hKl _ (by omega)) h6 h7 h4 (by first | assumption | omega) (by first | assumption | omega) (by first | assumption | omega) (by first | assumption | omega)) (cwV 2 hts g_c_comes_c_bucketOf_155 rfl rfl rfl (by decide +kernel) ⟨(Nat.le_of_ble_eq_true rfl), (Nat.le_of_ble_eq_true rfl)⟩) (PcR_V (q0 := 0) hPc hKc rfl rfl) rfl rfl hl.1 rfl (lv_room (Nat.le_of_ble_eq_true rfl)) dX11_comes_76 ⟨(Nat.le_of_ble_eq_true rfl), (Nat.le_of_ble_eq_true rfl)⟩) hS (fun q _ h => hFc q h) hFc (fun r19 uu tt H locs htt hvm hw hB hz1 hk1 hS => ?_)
  have hP := va_keep hP hk1
  try dsimp only at hw
  clear hB hz1 hk1 hFc hPc hKc
  obtain rfl : r19 = nI ((ka * kx + kb) % 2147483647 % nb) := hw
  refine va_iast hx hb hK hP hD hS 4 3 rfl rfl (vp_in_nI (by omega) (by decide)) dX11_comes_79 (fun H locs hP hD hS => ?_)
  have hP : va_P D vwCl [(h0, .inr (11, gM a i g)), (a 3, .inl (cm 3, 85, .inr (.inl fn))), (a 4, .inl (cm 4, 800, .inl (upd gk_8 (Int32.toNatClampNeg (nI (160 * k + q3))) (nI kx)))), (a 5, .inl (cm 5, 800, .inl (upd gv_9 (Int32.toNatClampNeg (nI (160 * k + q3))) z3))), (a 6, .inl (cm 6, 800, .inl (upd gb_10 (Int32.toNatClampNeg (nI (160 * k + q3))) (nI ((ka * kx + kb) % 2147483647 % nb))))), (a 7, .inl (cm 7, 800, .inl gr_11))] H := hP
  have hD : va_D A [(h0, .inr (11, gM a i g)), (a 3, .inl (cm 3, 85, .inr (.inl fn))), (a 4, .inl (cm 4, 800, .inl (upd gk_8 (Int32.toNatClampNeg (nI (160 * k + q3))) (nI kx)))), (a 5, .inl (cm 5, 800, .inl (upd gv_9 (Int32.toNatClampNeg (nI (160 * k + q3))) z3))), (a 6, .inl (cm 6, 800, .inl (upd gb_10 (Int32.toNatClampNeg (nI (160 * k + q3))) (nI ((ka * kx + kb) % 2147483647 % nb))))), (a 7, .inl (cm 7, 800, .inl gr_11))] := hD
  have hyq : y_7 = q3 := by omega
  refine lv_aload_n hx hb dX11_comes_80 rfl (lv_at hl 1 rfl) ?_
  refine lv_iload_n hx hb dX11_comes_81 rfl (lv_at hl 2 rfl) ?_
  refine lv_iconst (v := 1) hx hb dX11_comes_82 (by decide) ?_
  refine lv_lconst (v := 1) hx hb dX11_comes_83 (by decide) ?_
  have hPc := hP.sub (ws' := [(h0, .inr (11, gM a i g)), (a 3, .inl (cm 3, 85, .inr (.inl fn)))]) [0, 1] rfl
  have hKc := hK.sub (tys' := [(cm 3, .long)]) [0] rfl
  have hDc := hD.sub (ws' := [(h0, .inr (11, gM a i g)), (a 3, .inl (cm 3, 85, .inr (.inl fn)))]) [0, 1] (by decide) rfl
  have hFc := va_free (wc := [(h0, .inr (11, gM a i g)), (a 3, .inl (cm 3, 85, .inr (.inl fn)))]) hD hS hA [0, 1] rfl
  refine va_callv (va_runV (As := [.int (nI k), .int (nI 1), .long 1]) (rest := []) ⟨hx, hb, hml, hown, hts⟩ (c_adds l D _ h0 a cm i g fn k 1 1 (by first | assumption | omega) (by first | assumption | omega)) (cwV 3 hts g_c_comes_c_adds_130 rfl rfl rfl (by decide +kernel) ⟨(Nat.le_of_ble_eq_true rfl), (Nat.le_of_ble_eq_true rfl)⟩) (PcW_V (q0 := 0) hPc hKc hDc rfl rfl) rfl rfl hl.1 rfl (lv_room (Nat.le_of_ble_eq_true rfl)) dX11_comes_84 ⟨(Nat.le_of_ble_eq_true rfl), (Nat.le_of_ble_eq_true rfl)⟩) hS (fun q _ h => hFc q h) hFc (fun uu tt H locs htt hvm hw hB hz1 hk1 hS => ?_)
  obtain ⟨w21, rfl⟩ : ∃ z, z = uu := ⟨_, rfl⟩
  obtain ⟨hP1, hK1, hD1⟩ := hB
  rw [htt] at hP1
  have hK1 := va_K.moved hvm.symm hK1
  have hP1 : va_P D vwCl [(h0, .inr (11, gM a i g)), (a 3, .inl (cm 3, 85, .inr (.inl w21)))] H := hP1
  obtain ⟨hP, hD⟩ := va_join (wr := [(a 4, .inl (cm 4, 800, .inl (upd gk_8 (Int32.toNatClampNeg (nI (160 * k + q3))) (nI kx)))), (a 5, .inl (cm 5, 800, .inl (upd gv_9 (Int32.toNatClampNeg (nI (160 * k + q3))) z3))), (a 6, .inl (cm 6, 800, .inl (upd gb_10 (Int32.toNatClampNeg (nI (160 * k + q3))) (nI ((ka * kx + kb) % 2147483647 % nb))))), (a 7, .inl (cm 7, 800, .inl gr_11))]) (w1 := [(h0, .inr (11, gM a i g)), (a 3, .inl (cm 3, 85, .inr (.inl w21)))]) hP hD [0, 1] [2, 3, 4, 5] rfl rfl (by decide) (by decide) hk1 hFc hP1 hD1
  have hP : va_P D vwCl [(a 4, .inl (cm 4, 800, .inl (upd gk_8 (Int32.toNatClampNeg (nI (160 * k + q3))) (nI kx)))), (a 5, .inl (cm 5, 800, .inl (upd gv_9 (Int32.toNatClampNeg (nI (160 * k + q3))) z3))), (a 6, .inl (cm 6, 800, .inl (upd gb_10 (Int32.toNatClampNeg (nI (160 * k + q3))) (nI ((ka * kx + kb) % 2147483647 % nb))))), (a 7, .inl (cm 7, 800, .inl gr_11)), (h0, .inr (11, gM a i g)), (a 3, .inl (cm 3, 85, .inr (.inl w21)))] H := hP
  have hD : va_D A [(a 4, .inl (cm 4, 800, .inl (upd gk_8 (Int32.toNatClampNeg (nI (160 * k + q3))) (nI kx)))), (a 5, .inl (cm 5, 800, .inl (upd gv_9 (Int32.toNatClampNeg (nI (160 * k + q3))) z3))), (a 6, .inl (cm 6, 800, .inl (upd gb_10 (Int32.toNatClampNeg (nI (160 * k + q3))) (nI ((ka * kx + kb) % 2147483647 % nb))))), (a 7, .inl (cm 7, 800, .inl gr_11)), (h0, .inr (11, gM a i g)), (a 3, .inl (cm 3, 85, .inr (.inl w21)))] := hD
  try dsimp only at hw
  clear hz1 hk1 hFc hPc hKc hDc
  have hL22 := hw
  exact W.vret hx hb hr (fun t ht hW => ⟨⟨(w21, (upd gk_8 (Int32.toNatClampNeg (nI (160 * k + q3))) (nI kx)), (upd gv_9 (Int32.toNatClampNeg (nI (160 * k + q3))) z3), (upd gb_10 (Int32.toNatClampNeg (nI (160 * k + q3))) (nI ((ka * kx + kb) % 2147483647 % nb))), gr_11), rfl, ⟨q3, hq3a, hq3b, hq3c, by rw [nI_clamp (by omega)]; exact Ins_of (by omega) (by rw [← hyq]; exact s1_14), by rw [nI_clamp (by omega)]; exact Ins_of (by omega) (by rw [← hyq]; exact s2_15), by rw [nI_clamp (by omega)]; exact Ins_of (by omega) (by rw [← hyq]; exact s3_16), (hL22.1).trans (by rw [h1]; exact lN_1 cn), hL22.2⟩, by rw [ht]; exact hP.sub [4, 5, 0, 1, 2, 3] rfl, va_K.moved hW.alike (hK.sub [0, 1, 2, 3, 4] rfl), hD.sub [4, 5, 0, 1, 2, 3] (by decide) rfl⟩, hS.F ht⟩) hS.2.2 dX11_comes_87

