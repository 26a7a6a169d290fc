theorem dX11_clashes_0 : decode cX11_clashes 0 = .ok (.aload_n 0, 1) := by decide +kernel
theorem dX11_clashes_1 : decode cX11_clashes 1 = .ok (.iload_n 1, 1) := by decide +kernel
theorem dX11_clashes_2 : decode cX11_clashes 2 = .ok (.iload_n 2, 1) := by decide +kernel
theorem dX11_clashes_3 : decode cX11_clashes 3 = .ok (.invokevirtual 137, 3) := by decide +kernel
theorem dX11_clashes_6 : decode cX11_clashes 6 = .ok (.istore 7, 2) := by decide +kernel
theorem dX11_clashes_8 : decode cX11_clashes 8 = .ok (.iconst 0, 1) := by decide +kernel
theorem dX11_clashes_9 : decode cX11_clashes 9 = .ok (.istore 8, 2) := by decide +kernel
theorem dX11_clashes_11 : decode cX11_clashes 11 = .ok (.sipush 160, 3) := by decide +kernel
theorem dX11_clashes_14 : decode cX11_clashes 14 = .ok (.iload_n 1, 1) := by decide +kernel
theorem dX11_clashes_15 : decode cX11_clashes 15 = .ok (.imul, 1) := by decide +kernel
theorem dX11_clashes_16 : decode cX11_clashes 16 = .ok (.istore 9, 2) := by decide +kernel
theorem dX11_clashes_18 : decode cX11_clashes 18 = .ok (.iload 9, 2) := by decide +kernel
theorem dX11_clashes_20 : decode cX11_clashes 20 = .ok (.sipush 160, 3) := by decide +kernel
theorem dX11_clashes_23 : decode cX11_clashes 23 = .ok (.iload_n 1, 1) := by decide +kernel
theorem dX11_clashes_24 : decode cX11_clashes 24 = .ok (.imul, 1) := by decide +kernel
theorem dX11_clashes_25 : decode cX11_clashes 25 = .ok (.aload_n 0, 1) := by decide +kernel
theorem dX11_clashes_26 : decode cX11_clashes 26 = .ok (.iload_n 1, 1) := by decide +kernel
theorem dX11_clashes_27 : decode cX11_clashes 27 = .ok (.invokevirtual 95, 3) := by decide +kernel
theorem dX11_clashes_30 : decode cX11_clashes 30 = .ok (.iadd, 1) := by decide +kernel
theorem dX11_clashes_31 : decode cX11_clashes 31 = .ok (.if_icmp .ge 106, 3) := by decide +kernel
theorem dX11_clashes_34 : decode cX11_clashes 34 = .ok (.aload_n 0, 1) := by decide +kernel
theorem dX11_clashes_35 : decode cX11_clashes 35 = .ok (.getfield 24, 3) := by decide +kernel
theorem dX11_clashes_38 : decode cX11_clashes 38 = .ok (.iload 9, 2) := by decide +kernel
theorem dX11_clashes_40 : decode cX11_clashes 40 = .ok (.iaload, 1) := by decide +kernel
theorem dX11_clashes_41 : decode cX11_clashes 41 = .ok (.iload_n 2, 1) := by decide +kernel
theorem dX11_clashes_42 : decode cX11_clashes 42 = .ok (.if_icmp .eq 6, 3) := by decide +kernel
theorem dX11_clashes_45 : decode cX11_clashes 45 = .ok (.goto 86, 3) := by decide +kernel
theorem dX11_clashes_48 : decode cX11_clashes 48 = .ok (.lload_n 3, 1) := by decide +kernel
theorem dX11_clashes_49 : decode cX11_clashes 49 = .ok (.lload 5, 2) := by decide +kernel
theorem dX11_clashes_51 : decode cX11_clashes 51 = .ok (.aload_n 0, 1) := by decide +kernel
theorem dX11_clashes_52 : decode cX11_clashes 52 = .ok (.getfield 17, 3) := by decide +kernel
theorem dX11_clashes_55 : decode cX11_clashes 55 = .ok (.iload 9, 2) := by decide +kernel
theorem dX11_clashes_57 : decode cX11_clashes 57 = .ok (.iaload, 1) := by decide +kernel
theorem dX11_clashes_58 : decode cX11_clashes 58 = .ok (.i2l, 1) := by decide +kernel
theorem dX11_clashes_59 : decode cX11_clashes 59 = .ok (.iload 7, 2) := by decide +kernel
theorem dX11_clashes_61 : decode cX11_clashes 61 = .ok (.i2l, 1) := by decide +kernel
theorem dX11_clashes_62 : decode cX11_clashes 62 = .ok (.invokestatic 133, 3) := by decide +kernel
theorem dX11_clashes_65 : decode cX11_clashes 65 = .ok (.istore 10, 2) := by decide +kernel
theorem dX11_clashes_67 : decode cX11_clashes 67 = .ok (.iload 9, 2) := by decide +kernel
theorem dX11_clashes_69 : decode cX11_clashes 69 = .ok (.iconst 1, 1) := by decide +kernel
theorem dX11_clashes_70 : decode cX11_clashes 70 = .ok (.iadd, 1) := by decide +kernel
theorem dX11_clashes_71 : decode cX11_clashes 71 = .ok (.istore 11, 2) := by decide +kernel
theorem dX11_clashes_73 : decode cX11_clashes 73 = .ok (.iload 11, 2) := by decide +kernel
theorem dX11_clashes_75 : decode cX11_clashes 75 = .ok (.sipush 160, 3) := by decide +kernel
theorem dX11_clashes_78 : decode cX11_clashes 78 = .ok (.iload_n 1, 1) := by decide +kernel
theorem dX11_clashes_79 : decode cX11_clashes 79 = .ok (.imul, 1) := by decide +kernel
theorem dX11_clashes_80 : decode cX11_clashes 80 = .ok (.aload_n 0, 1) := by decide +kernel
theorem dX11_clashes_81 : decode cX11_clashes 81 = .ok (.iload_n 1, 1) := by decide +kernel
theorem dX11_clashes_82 : decode cX11_clashes 82 = .ok (.invokevirtual 95, 3) := by decide +kernel
theorem dX11_clashes_85 : decode cX11_clashes 85 = .ok (.iadd, 1) := by decide +kernel
theorem dX11_clashes_86 : decode cX11_clashes 86 = .ok (.if_icmp .ge 45, 3) := by decide +kernel
theorem dX11_clashes_89 : decode cX11_clashes 89 = .ok (.aload_n 0, 1) := by decide +kernel
theorem dX11_clashes_90 : decode cX11_clashes 90 = .ok (.getfield 24, 3) := by decide +kernel
theorem dX11_clashes_93 : decode cX11_clashes 93 = .ok (.iload 11, 2) := by decide +kernel
theorem dX11_clashes_95 : decode cX11_clashes 95 = .ok (.iaload, 1) := by decide +kernel
theorem dX11_clashes_96 : decode cX11_clashes 96 = .ok (.iload_n 2, 1) := by decide +kernel
theorem dX11_clashes_97 : decode cX11_clashes 97 = .ok (.if_icmp .ne 28, 3) := by decide +kernel
theorem dX11_clashes_100 : decode cX11_clashes 100 = .ok (.lload_n 3, 1) := by decide +kernel
theorem dX11_clashes_101 : decode cX11_clashes 101 = .ok (.lload 5, 2) := by decide +kernel
theorem dX11_clashes_103 : decode cX11_clashes 103 = .ok (.aload_n 0, 1) := by decide +kernel
theorem dX11_clashes_104 : decode cX11_clashes 104 = .ok (.getfield 17, 3) := by decide +kernel
theorem dX11_clashes_107 : decode cX11_clashes 107 = .ok (.iload 11, 2) := by decide +kernel
theorem dX11_clashes_109 : decode cX11_clashes 109 = .ok (.iaload, 1) := by decide +kernel
theorem dX11_clashes_110 : decode cX11_clashes 110 = .ok (.i2l, 1) := by decide +kernel
theorem dX11_clashes_111 : decode cX11_clashes 111 = .ok (.iload 7, 2) := by decide +kernel
theorem dX11_clashes_113 : decode cX11_clashes 113 = .ok (.i2l, 1) := by decide +kernel
theorem dX11_clashes_114 : decode cX11_clashes 114 = .ok (.invokestatic 133, 3) := by decide +kernel
theorem dX11_clashes_117 : decode cX11_clashes 117 = .ok (.iload 10, 2) := by decide +kernel
theorem dX11_clashes_119 : decode cX11_clashes 119 = .ok (.if_icmp .ne 6, 3) := by decide +kernel
theorem dX11_clashes_122 : decode cX11_clashes 122 = .ok (.iinc 8 1, 3) := by decide +kernel
theorem dX11_clashes_125 : decode cX11_clashes 125 = .ok (.iinc 11 1, 3) := by decide +kernel
theorem dX11_clashes_128 : decode cX11_clashes 128 = .ok (.goto (-55), 3) := by decide +kernel
theorem dX11_clashes_131 : decode cX11_clashes 131 = .ok (.iinc 9 1, 3) := by decide +kernel
theorem dX11_clashes_134 : decode cX11_clashes 134 = .ok (.goto (-116), 3) := by decide +kernel
theorem dX11_clashes_137 : decode cX11_clashes 137 = .ok (.iload 8, 2) := by decide +kernel
theorem dX11_clashes_139 : decode cX11_clashes 139 = .ok (.ireturn, 1) := by decide +kernel
def NCl (K J : Nat → Nat) (cn j ka kb q : Nat) : Prop := ∀ x y, x < y → y < cn → J x = j → J y = j → (ka * K x + kb) % 2147483647 % q ≠ (ka * K y + kb) % 2147483647 % q
theorem bb_nc {K J : Nat → Nat} {cn j cc kb q : Nat} (hm : ∀ x y, x < y → y < cn → K x < K y) (h : ∀ x y, x < y → y < cn → J x = j → J y = j → badA q (K y - K x) cc = false) : NCl K J cn j (cc + 1) kb q := fun x y hxy hy hx hj => no_clash (hm x y hxy hy) (h x y hxy hy hx hj)
theorem nc_lt {q n : Nat} (h0 : 0 < q) (h1 : q ≤ 320 * 320) : n % q < 2 ^ 31 := by
  have := Nat.mod_lt n h0
  have e : 2 ^ 31 = 2147483648 := by decide
  omega
theorem jy_eq {x j : Nat} (hx : x < 2048) (hj : j < 2048) (h : nI x = nI j) : x = j := (nI_eq (by omega) (by omega)).mp h
def own_c_clashes : List Cond := [.methodLink RX11 95 yX11_manyOf, .instanceMethod yX11_manyOf, .selects RX11 yX11_manyOf yX11_manyOf, .initialized RX11, .fieldLink RX11 24 "ClashFreeModel" "inBucket" "[I", .fieldLink RX11 17 "ClashFreeModel" "keys" "[I", .methodLink RX11 133 yX11_placeOf, .static yX11_placeOf, .methodLink RX11 137 yX11_roomsOf, .instanceMethod yX11_roomsOf, .selects RX11 yX11_roomsOf yX11_roomsOf]
def wp_c_clashes : List Cond := .code yX11_clashes cX11_clashes 12 (some .int) :: (own_c_clashes ++ (wp_c_manyOf ++ (wp_c_placeOf ++ (wp_c_roomsOf ++ (wsX110 ++ ([] : List Cond))))))
set_option maxRecDepth 20000 in
theorem inown_c_clashes : ∀ w ∈ own_c_clashes, w ∈ lw_tbl := mem_places [1396, 1398, 40, 115, 1222, 1220, 1434, 1435, 1437, 1439, 48] (by decide +kernel)
set_option maxRecDepth 20000 in
theorem in_c_clashes : ∀ w ∈ wp_c_clashes, w ∈ lw_tbl := List.forall_mem_cons.mpr ⟨List.mem_of_getElem? (i := 1449) (by decide +kernel), List.forall_mem_append.mpr ⟨inown_c_clashes, List.forall_mem_append.mpr ⟨in_c_manyOf, List.forall_mem_append.mpr ⟨in_c_placeOf, List.forall_mem_append.mpr ⟨in_c_roomsOf, List.forall_mem_append.mpr ⟨lwb_X11, fun _ h => absurd h List.not_mem_nil⟩⟩⟩⟩⟩⟩
set_option maxRecDepth 20000 in
theorem good_c_clashes : wp_c_clashes.all goodWord = true := by decide +kernel
set_option maxRecDepth 20000 in
theorem g_c_clashes_c_manyOf_95 : GoodIn wp_c_clashes (wsV RX11 95 RX11 yX11_manyOf wp_c_manyOf) := goodIn_sub (List.forall_mem_append.mpr ⟨List.forall_mem_cons.mpr ⟨(List.mem_of_getElem? (i := 1) rfl), List.forall_mem_cons.mpr ⟨(List.mem_of_getElem? (i := 2) rfl), List.forall_mem_cons.mpr ⟨(List.mem_of_getElem? (i := 3) rfl), List.forall_mem_cons.mpr ⟨(List.mem_of_getElem? (i := 4) rfl), fun _ h => absurd h List.not_mem_nil⟩⟩⟩⟩, (fun _ h => (List.mem_cons_of_mem _ (List.mem_append_right _ (List.mem_append_left _ h))))⟩) (by decide +kernel)
set_option maxRecDepth 20000 in
theorem g_c_clashes_c_placeOf_133 : GoodIn wp_c_clashes (va_wsS RX11 133 yX11_placeOf wp_c_placeOf) := goodIn_sub (List.forall_mem_append.mpr ⟨List.forall_mem_cons.mpr ⟨(List.mem_of_getElem? (i := 7) rfl), List.forall_mem_cons.mpr ⟨(List.mem_of_getElem? (i := 8) rfl), List.forall_mem_cons.mpr ⟨(List.mem_of_getElem? (i := 4) rfl), fun _ h => absurd h List.not_mem_nil⟩⟩⟩, (fun _ h => (List.mem_cons_of_mem _ (List.mem_append_right _ (List.mem_append_right _ (List.mem_append_left _ h)))))⟩) (by decide +kernel)
set_option maxRecDepth 20000 in
theorem g_c_clashes_c_roomsOf_137 : GoodIn wp_c_clashes (wsV RX11 137 RX11 yX11_roomsOf wp_c_roomsOf) := goodIn_sub (List.forall_mem_append.mpr ⟨List.forall_mem_cons.mpr ⟨(List.mem_of_getElem? (i := 9) rfl), List.forall_mem_cons.mpr ⟨(List.mem_of_getElem? (i := 10) rfl), List.forall_mem_cons.mpr ⟨(List.mem_of_getElem? (i := 11) rfl), List.forall_mem_cons.mpr ⟨(List.mem_of_getElem? (i := 4) rfl), fun _ h => absurd h List.not_mem_nil⟩⟩⟩⟩, (fun _ h => (List.mem_cons_of_mem _ (List.mem_append_right _ (List.mem_append_right _ (List.mem_append_right _ (List.mem_append_left _ h))))))⟩) (by decide +kernel)
set_option maxHeartbeats 4000000 in
set_option maxRecDepth 100000 in
theorem lp_clashes2 (l : Launch) {p : Program} {e : Env} {s : State} {m : MethodId} {args : Array Value} {below : List Frame} {meth : Method} {c : Code} {Q : State → Prop} {A : Nat → Prop} (D : va_G) (h0 : Nat) (a : Nat → Nat) (cm : Nat → ClassId) (i : Nat → Int32) (g : Nat → Int64) (fn : Nat → Int64) (fk : Nat → Int32) (fb : Nat → Int32) (ff : Nat → Int32) (k : Nat) (j : Nat) (cn : Nat) (K : Nat → Nat) (J : Nat → Nat) (rf : Nat) (ka : Nat) (kb : Nat) (x : Nat) (hk : k < 5) (hj : j < 2048) (h1 : fn (17 * k + 1) = lN cn) (hcn : cn ≤ 160) (hKy : KyS k fk cn K) (hBk : BkS k fb cn 2048 J) (hrf : ff (2048 * k + j) = nI rf) (hr0 : 0 < rf) (hr1 : rf ≤ 320) (hka : ka < 2147483647) (hkb : kb < 2147483647) (hx1 : x < cn) (hxj : J x = j) (hx : p.tables.exec = Jvm.exec) (hb : c.code = cX11_clashes) (hml : c.maxLocals = 12) (hown : s.vm.findClass RX11 = some m.cls) (hts : ∀ w ∈ wp_c_clashes, w.before args s = true) (hA : ∀ q, s.heap.size ≤ q → A q) (hK : va_K D vwCl [(cm 3, .long), (cm 4, .int), (cm 6, .int), (cm 8, .int)] s) (kx131 : ∀ (y : Nat), ∀ (su : Int32), (x < y) → (y ≤ cn) → (NCl K J cn j ka kb (rf * rf) → su = 0) → ∀ (H : Heap) (locs : List Loc) (ls : Array Slot), va_P D vwCl [(h0, .inr (11, gM a i g)), (a 3, .inl (cm 3, 85, .inr (.inl fn))), (a 4, .inl (cm 4, 800, .inl fk)), (a 6, .inl (cm 6, 800, .inl fb)), (a 8, .inl (cm 8, 10240, .inl ff))] H → va_S A s.heap H locs → lv_has ls 12 [(9, .int (nI (160 * k + x))), (8, .int su), (7, .int (nI (rf * rf))), (0, .ref h0), (1, .int (nI k)), (2, .int (nI j)), (3, .long (lN ka)), (5, .long (lN kb))] → W p l e ({ frames := 3, cells := 0, slots := 0, locals := 80 }) s m args below meth c H locs 0 0 Q (F0 m 131 ls [])) : ∀ (N : Nat), ∀ (y : Nat), ∀ (su : Int32), (x < y) → (y ≤ cn) → (NCl K J cn j ka kb (rf * rf) → su = 0) → cn - y < N → ∀ (H : Heap) (locs : List Loc) (ls : Array Slot), va_P D vwCl [(h0, .inr (11, gM a i g)), (a 3, .inl (cm 3, 85, .inr (.inl fn))), (a 4, .inl (cm 4, 800, .inl fk)), (a 6, .inl (cm 6, 800, .inl fb)), (a 8, .inl (cm 8, 10240, .inl ff))] H → va_S A s.heap H locs → lv_has ls 12 [(11, .int (nI (160 * k + y))), (10, .int (nI ((ka * K x + kb) % 2147483647 % (rf * rf)))), (9, .int (nI (160 * k + x))), (8, .int su), (7, .int (nI (rf * rf))), (0, .ref h0), (1, .int (nI k)), (2, .int (nI j)), (3, .long (lN ka)), (5, .long (lN kb))] → W p l e ({ frames := 3, cells := 0, slots := 0, locals := 80 }) s m args below meth c H locs 0 0 Q (F0 m 73 ls []) := by
  have hin_X11 : ∀ w ∈ wsX110, w ∈ wp_c_clashes := fun _ h => (List.mem_cons_of_mem _ (List.mem_append_right _ (List.mem_append_right _ (List.mem_append_right _ (List.mem_append_right _ (List.mem_append_left _ h))))))
  intro N
  induction N with
  | zero =>
    intro y su hy1 hy2 hs hm
    exact absurd hm (Nat.not_lt_zero _)
  | succ N ih =>
    intro y su hy1 hy2 hs hm H locs ls hP hS hl
    have hq0 : 0 < rf * rf := Nat.mul_pos hr0 hr0
    have hq1 : rf * rf ≤ 320 * 320 := Nat.mul_le_mul hr1 hr1
    have hKl : ∀ z, z < cn → K z < 2147483648 := fun z a => Nat.lt_trans (hKy.1 z a).2 (by decide)
    refine lv_iload hx hb dX11_clashes_73 (lv_at hl 0 rfl) ?_
    refine lv_sipush (v := 160) hx hb dX11_clashes_75 (by decide) ?_
    refine lv_iload_n hx hb dX11_clashes_78 rfl (lv_at hl 6 rfl) ?_
    refine lv_imul hx hb dX11_clashes_79 ?_
    refine lv_aload_n hx hb dX11_clashes_80 rfl (lv_at hl 5 rfl) ?_
    refine lv_iload_n hx hb dX11_clashes_81 rfl (lv_at hl 6 rfl) ?_
    have hPc := hP.sub (ws' := [(h0, .inr (11, gM a i g)), (a 3, .inl (cm 3, 85, .inr (.inl fn)))]) [0, 1] rfl
    have hKc := hK.sub (tys' := [(cm 3, .long)]) [0] rfl
    have hFc := va_free0 hS hA
    refine va_calli (va_runV (As := [.int (nI k)]) (rest := [.int (160 * (nI k)), .int (nI (160 * k + y))]) ⟨hx, hb, hml, hown, hts⟩ (c_manyOf l D _ h0 a cm i g fn k cn (by first | assumption | omega) h1) (cwV 1 hts g_c_clashes_c_manyOf_95 rfl rfl rfl (by decide +kernel) ⟨(Nat.le_of_ble_eq_true rfl), (Nat.le_of_ble_eq_true rfl)⟩) (PcR_V (q0 := 0) hPc hKc rfl rfl) rfl rfl hl.1 rfl (lv_room (Nat.le_of_ble_eq_true rfl)) dX11_clashes_82 ⟨(Nat.le_of_ble_eq_true rfl), (Nat.le_of_ble_eq_true rfl)⟩) hS (fun q _ h => hFc q h) hFc (fun r1 uu tt H locs htt hvm hw hB hz1 hk1 hS => ?_)
    have hP := va_keep hP hk1
    try dsimp only at hw
    clear hB hz1 hk1 hFc hPc hKc
    obtain rfl : r1 = nI cn := hw
    refine lv_iadd hx hb dX11_clashes_85 ?_
    refine lv_topi (fun v2 ev2 => ?_)
    obtain rfl : v2 = nI (160 * k + cn) := ev2.trans (ix160 k _)
    refine lv_icmp_ge (tgt := 131) hx hb dX11_clashes_86 (by decide) (fun hc3 => ?_) (fun hc3 => ?_)
    ·
      have hge_y : cn ≤ y := by
        have := (nI_leI (a := 160 * k + cn) (b := 160 * k + y) (by omega) (by omega)).mp hc3
        omega
      exact kx131 y su (hy1) (hy2) (hs) H locs ls (hP.sub [0, 1, 2, 3, 4] rfl) hS (lv_sub hl [2, 3, 4, 5, 6, 7, 8, 9] rfl)
    ·
      have hlt_y : y < cn := by
        rcases Nat.lt_or_ge y cn with z | z
        · exact z
        · exact absurd (nI_le (show 160 * k + cn ≤ 160 * k + y by omega) (by omega)) hc3
      refine lv_aload_n hx hb dX11_clashes_89 rfl (lv_at hl 5 rfl) ?_
      refine va_get (D := D) (ci := 11) (v := .ref (a 6)) (C := RX11) (T := TX11) (N := 47) hx hb hts hin_X11 hown hK hP 0 rfl rfl 6 (by decide) (hts (.fieldLink RX11 24 "ClashFreeModel" "inBucket" "[I") (List.mem_of_getElem? (i := 5) rfl)) (fun _ h9 => h9) rfl dX11_clashes_90 ?_
      refine lv_iload hx hb dX11_clashes_93 (lv_at hl 0 rfl) ?_
      refine va_iald hx hb hK hP 3 2 rfl rfl (vp_in_nI (by omega) (by decide)) dX11_clashes_95 ?_
      refine lv_topi (fun v4 ev4 => ?_)
      obtain rfl : v4 = nI (J y) := ev4.trans (by rw [nI_clamp (by omega)]; exact (hBk _ (by omega)).1)
      refine lv_iload_n hx hb dX11_clashes_96 rfl (lv_at hl 7 rfl) ?_
      refine lv_icmp_ne (tgt := 125) hx hb dX11_clashes_97 (by decide) (fun hc5 => ?_) (fun hc5 => ?_)
      ·
        refine lv_iinc (v := nI (160 * k + (y + 1))) (lv' := [(11, .int (nI (160 * k + (y + 1)))), (10, .int (nI ((ka * K x + kb) % 2147483647 % (rf * rf)))), (9, .int (nI (160 * k + x))), (8, .int su), (7, .int (nI (rf * rf))), (0, .ref h0), (1, .int (nI k)), (2, .int (nI j)), (3, .long (lN ka)), (5, .long (lN kb))]) hx hb dX11_clashes_125 hl (k := 0) rfl (nI_1 _) (by decide) rfl (fun ls hl => ?_)
        refine lv_goto (tgt := 73) hx hb dX11_clashes_128 (by decide) ?_
        exact ih (y + 1) su (by omega) (by omega) (hs) (by omega) H locs ls (hP.sub [0, 1, 2, 3, 4] rfl) hS (lv_sub hl [0, 1, 2, 3, 4, 5, 6, 7, 8, 9] rfl)
      ·
        refine lv_lload_n hx hb dX11_clashes_100 rfl (lv_at hl 8 rfl) ?_
        refine lv_lload hx hb dX11_clashes_101 (lv_at hl 9 rfl) ?_
        refine lv_aload_n hx hb dX11_clashes_103 rfl (lv_at hl 5 rfl) ?_
        refine va_get (D := D) (ci := 11) (v := .ref (a 4)) (C := RX11) (T := TX11) (N := 47) hx hb hts hin_X11 hown hK hP 0 rfl rfl 4 (by decide) (hts (.fieldLink RX11 17 "ClashFreeModel" "keys" "[I") (List.mem_of_getElem? (i := 6) rfl)) (fun _ h9 => h9) rfl dX11_clashes_104 ?_
        refine lv_iload hx hb dX11_clashes_107 (lv_at hl 0 rfl) ?_
        refine va_iald hx hb hK hP 2 1 rfl rfl (vp_in_nI (by omega) (by decide)) dX11_clashes_109 ?_
        refine lv_topi (fun v6 ev6 => ?_)
        obtain rfl : v6 = nI (K y) := ev6.trans (by rw [nI_clamp (by omega)]; exact (hKy.1 _ (by omega)).1)
        refine lv_i2l hx hb dX11_clashes_110 rfl ?_
        refine lv_topl (fun v7 ev7 => ?_)
        obtain rfl : v7 = lN (K y) := ev7.trans (nI_l (Nat.lt_trans (hKy.1 _ (by omega)).2 (by decide)))
        refine lv_iload hx hb dX11_clashes_111 (lv_at hl 4 rfl) ?_
        refine lv_i2l hx hb dX11_clashes_113 rfl ?_
        refine lv_topl (fun v8 ev8 => ?_)
        obtain rfl : v8 = lN (rf * rf) := ev8.trans (nI_l (by omega))
        have hPc := hP.sub (ws' := []) [] rfl
        have hKc := hK.sub (tys' := []) [] rfl
        have hFc := va_free0 hS hA
        refine va_calli (va_runS (As := [.long (lN ka), .long (lN kb), .long (lN (K y)), .long (lN (rf * rf))]) (rest := []) ⟨hx, hb, hml, hown, hts⟩ (c_placeOf l D _ ka kb (K y) (rf * rf) (by first | assumption | omega) (by first | assumption | omega) (by first | assumption | omega | exact hKl _ (by omega)) (by first | assumption | omega) (by first | assumption | omega)) (va_cwS 4 hts g_c_clashes_c_placeOf_133 rfl rfl rfl (by decide +kernel) ⟨(Nat.le_of_ble_eq_true rfl), (Nat.le_of_ble_eq_true rfl)⟩) (PcR_S hPc hKc) rfl rfl hl.1 rfl (lv_room (Nat.le_of_ble_eq_true rfl)) dX11_clashes_114 ⟨(Nat.le_of_ble_eq_true rfl), (Nat.le_of_ble_eq_true rfl)⟩) hS (fun q _ h => hFc q h) hFc (fun r9 uu tt H locs htt hvm hw hB hz1 hk1 hS => ?_)
        have hP := va_keep hP hk1
        try dsimp only at hw
        clear hB hz1 hk1 hFc hPc hKc
        obtain rfl : r9 = nI ((ka * (K y) + kb) % 2147483647 % (rf * rf)) := hw
        refine lv_iload hx hb dX11_clashes_117 (lv_at hl 1 rfl) ?_
        refine lv_icmp_ne (tgt := 125) hx hb dX11_clashes_119 (by decide) (fun hc10 => ?_) (fun hc10 => ?_)
        ·
          refine lv_iinc (v := nI (160 * k + (y + 1))) (lv' := [(11, .int (nI (160 * k + (y + 1)))), (10, .int (nI ((ka * K x + kb) % 2147483647 % (rf * rf)))), (9, .int (nI (160 * k + x))), (8, .int su), (7, .int (nI (rf * rf))), (0, .ref h0), (1, .int (nI k)), (2, .int (nI j)), (3, .long (lN ka)), (5, .long (lN kb))]) hx hb dX11_clashes_125 hl (k := 0) rfl (nI_1 _) (by decide) rfl (fun ls hl => ?_)
          refine lv_goto (tgt := 73) hx hb dX11_clashes_128 (by decide) ?_
          exact ih (y + 1) su (by omega) (by omega) (hs) (by omega) H locs ls (hP.sub [0, 1, 2, 3, 4] rfl) hS (lv_sub hl [0, 1, 2, 3, 4, 5, 6, 7, 8, 9] rfl)
        ·
          obtain ⟨v11, ev11⟩ : ∃ y : Int32, y = su + 1 := ⟨_, rfl⟩
          refine lv_iinc (v := v11) (lv' := [(8, .int v11), (11, .int (nI (160 * k + y))), (10, .int (nI ((ka * K x + kb) % 2147483647 % (rf * rf)))), (9, .int (nI (160 * k + x))), (7, .int (nI (rf * rf))), (0, .ref h0), (1, .int (nI k)), (2, .int (nI j)), (3, .long (lN ka)), (5, .long (lN kb))]) hx hb dX11_clashes_122 hl (k := 3) rfl (by rw [ev11]; rfl) (by decide) rfl (fun ls hl => ?_)
          refine lv_iinc (v := nI (160 * k + (y + 1))) (lv' := [(11, .int (nI (160 * k + (y + 1)))), (8, .int v11), (10, .int (nI ((ka * K x + kb) % 2147483647 % (rf * rf)))), (9, .int (nI (160 * k + x))), (7, .int (nI (rf * rf))), (0, .ref h0), (1, .int (nI k)), (2, .int (nI j)), (3, .long (lN ka)), (5, .long (lN kb))]) hx hb dX11_clashes_125 hl (k := 1) rfl (nI_1 _) (by decide) rfl (fun ls hl => ?_)
          refine lv_goto (tgt := 73) hx hb dX11_clashes_128 (by decide) ?_
          exact ih (y + 1) v11 (by omega) (by omega) (fun nc => absurd ((nI_eq (nc_lt hq0 hq1) (nc_lt hq0 hq1)).mp hc10).symm (nc x y hy1 (by omega) hxj (jy_eq (hBk _ (by omega)).2 hj hc5))) (by omega) H locs ls (hP.sub [0, 1, 2, 3, 4] rfl) hS (lv_sub hl [0, 2, 3, 1, 4, 5, 6, 7, 8, 9] rfl)
set_option maxHeartbeats 4000000 in
set_option maxRecDepth 100000 in
theorem lp_clashes1 (l : Launch) {p : Program} {e : Env} {s : State} {m : MethodId} {args : Array Value} {below : List Frame} {meth : Method} {c : Code} {Q : State → Prop} {A : Nat → Prop} (D : va_G) (h0 : Nat) (a : Nat → Nat) (cm : Nat → ClassId) (i : Nat → Int32) (g : Nat → Int64) (fn : Nat → Int64) (fk : Nat → Int32) (fb : Nat → Int32) (ff : Nat → Int32) (k : Nat) (j : Nat) (cn : Nat) (K : Nat → Nat) (J : Nat → Nat) (rf : Nat) (ka : Nat) (kb : Nat) (hk : k < 5) (hj : j < 2048) (h1 : fn (17 * k + 1) = lN cn) (hcn : cn ≤ 160) (hKy : KyS k fk cn K) (hBk : BkS k fb cn 2048 J) (hrf : ff (2048 * k + j) = nI rf) (hr0 : 0 < rf) (hr1 : rf ≤ 320) (hka : ka < 2147483647) (hkb : kb < 2147483647) (hx : p.tables.exec = Jvm.exec) (hb : c.code = cX11_clashes) (hml : c.maxLocals = 12) (hown : s.vm.findClass RX11 = some m.cls) (hts : ∀ w ∈ wp_c_clashes, w.before args s = true) (hA : ∀ q, s.heap.size ≤ q → A q) (hK : va_K D vwCl [(cm 3, .long), (cm 4, .int), (cm 6, .int), (cm 8, .int)] s) (kx137 : ∀ (x : Nat), ∀ (su : Int32), (x ≤ cn) → (NCl K J cn j ka kb (rf * rf) → su = 0) → ∀ (H : Heap) (locs : List Loc) (ls : Array Slot), va_P D vwCl [(h0, .inr (11, gM a i g)), (a 3, .inl (cm 3, 85, .inr (.inl fn))), (a 4, .inl (cm 4, 800, .inl fk)), (a 6, .inl (cm 6, 800, .inl fb)), (a 8, .inl (cm 8, 10240, .inl ff))] H → va_S A s.heap H locs → lv_has ls 12 [(8, .int su)] → W p l e ({ frames := 3, cells := 0, slots := 0, locals := 80 }) s m args below meth c H locs 0 0 Q (F0 m 137 ls [])) : ∀ (N : Nat), ∀ (x : Nat), ∀ (su : Int32), (x ≤ cn) → (NCl K J cn j ka kb (rf * rf) → su = 0) → cn - x < N → ∀ (H : Heap) (locs : List Loc) (ls : Array Slot), va_P D vwCl [(h0, .inr (11, gM a i g)), (a 3, .inl (cm 3, 85, .inr (.inl fn))), (a 4, .inl (cm 4, 800, .inl fk)), (a 6, .inl (cm 6, 800, .inl fb)), (a 8, .inl (cm 8, 10240, .inl ff))] H → va_S A s.heap H locs → lv_has ls 12 [(9, .int (nI (160 * k + x))), (8, .int su), (7, .int (nI (rf * rf))), (0, .ref h0), (1, .int (nI k)), (2, .int (nI j)), (3, .long (lN ka)), (5, .long (lN kb))] → W p l e ({ frames := 3, cells := 0, slots := 0, locals := 80 }) s m args below meth c H locs 0 0 Q (F0 m 18 ls []) := by
  have hin_X11 : ∀ w ∈ wsX110, w ∈ wp_c_clashes := fun _ h => (List.mem_cons_of_mem _ (List.mem_append_right _ (List.mem_append_right _ (List.mem_append_right _ (List.mem_append_right _ (List.mem_append_left _ h))))))
  intro N
  induction N with
  | zero =>
    intro x su hx2 hs hm
    exact absurd hm (Nat.not_lt_zero _)
  | succ N ih =>
    intro x su hx2 hs hm H locs ls hP hS hl
    have hq0 : 0 < rf * rf := Nat.mul_pos hr0 hr0
    have hq1 : rf * rf ≤ 320 * 320 := Nat.mul_le_mul hr1 hr1
    have hKl : ∀ z, z < cn → K z < 2147483648 := fun z a => Nat.lt_trans (hKy.1 z a).2 (by decide)
    refine lv_iload hx hb dX11_clashes_18 (lv_at hl 0 rfl) ?_
    refine lv_sipush (v := 160) hx hb dX11_clashes_20 (by decide) ?_
    refine lv_iload_n hx hb dX11_clashes_23 rfl (lv_at hl 4 rfl) ?_
    refine lv_imul hx hb dX11_clashes_24 ?_
    refine lv_aload_n hx hb dX11_clashes_25 rfl (lv_at hl 3 rfl) ?_
    refine lv_iload_n hx hb dX11_clashes_26 rfl (lv_at hl 4 rfl) ?_
    have hPc := hP.sub (ws' := [(h0, .inr (11, gM a i g)), (a 3, .inl (cm 3, 85, .inr (.inl fn)))]) [0, 1] rfl
    have hKc := hK.sub (tys' := [(cm 3, .long)]) [0] rfl
    have hFc := va_free0 hS hA
    refine va_calli (va_runV (As := [.int (nI k)]) (rest := [.int (160 * (nI k)), .int (nI (160 * k + x))]) ⟨hx, hb, hml, hown, hts⟩ (c_manyOf l D _ h0 a cm i g fn k cn (by first | assumption | omega) h1) (cwV 1 hts g_c_clashes_c_manyOf_95 rfl rfl rfl (by decide +kernel) ⟨(Nat.le_of_ble_eq_true rfl), (Nat.le_of_ble_eq_true rfl)⟩) (PcR_V (q0 := 0) hPc hKc rfl rfl) rfl rfl hl.1 rfl (lv_room (Nat.le_of_ble_eq_true rfl)) dX11_clashes_27 ⟨(Nat.le_of_ble_eq_true rfl), (Nat.le_of_ble_eq_true rfl)⟩) hS (fun q _ h => hFc q h) hFc (fun r1 uu tt H locs htt hvm hw hB hz1 hk1 hS => ?_)
    have hP := va_keep hP hk1
    try dsimp only at hw
    clear hB hz1 hk1 hFc hPc hKc
    obtain rfl : r1 = nI cn := hw
    refine lv_iadd hx hb dX11_clashes_30 ?_
    refine lv_topi (fun v2 ev2 => ?_)
    obtain rfl : v2 = nI (160 * k + cn) := ev2.trans (ix160 k _)
    refine lv_icmp_ge (tgt := 137) hx hb dX11_clashes_31 (by decide) (fun hc3 => ?_) (fun hc3 => ?_)
    ·
      have hge_x : cn ≤ x := by
        have := (nI_leI (a := 160 * k + cn) (b := 160 * k + x) (by omega) (by omega)).mp hc3
        omega
      exact kx137 x su (hx2) (hs) H locs ls (hP.sub [0, 1, 2, 3, 4] rfl) hS (lv_sub hl [1] rfl)
    ·
      have hlt_x : x < cn := by
        rcases Nat.lt_or_ge x cn with z | z
        · exact z
        · exact absurd (nI_le (show 160 * k + cn ≤ 160 * k + x by omega) (by omega)) hc3
      refine lv_aload_n hx hb dX11_clashes_34 rfl (lv_at hl 3 rfl) ?_
      refine va_get (D := D) (ci := 11) (v := .ref (a 6)) (C := RX11) (T := TX11) (N := 47) hx hb hts hin_X11 hown hK hP 0 rfl rfl 6 (by decide) (hts (.fieldLink RX11 24 "ClashFreeModel" "inBucket" "[I") (List.mem_of_getElem? (i := 5) rfl)) (fun _ h9 => h9) rfl dX11_clashes_35 ?_
      refine lv_iload hx hb dX11_clashes_38 (lv_at hl 0 rfl) ?_
      refine va_iald hx hb hK hP 3 2 rfl rfl (vp_in_nI (by omega) (by decide)) dX11_clashes_40 ?_
      refine lv_topi (fun v4 ev4 => ?_)
      obtain rfl : v4 = nI (J x) := ev4.trans (by rw [nI_clamp (by omega)]; exact (hBk _ (by omega)).1)
      refine lv_iload_n hx hb dX11_clashes_41 rfl (lv_at hl 5 rfl) ?_
      refine lv_icmp_eq (tgt := 48) hx hb dX11_clashes_42 (by decide) (fun hc5 => ?_) (fun hc5 => ?_)
      ·
        refine lv_lload_n hx hb dX11_clashes_48 rfl (lv_at hl 6 rfl) ?_
        refine lv_lload hx hb dX11_clashes_49 (lv_at hl 7 rfl) ?_
        refine lv_aload_n hx hb dX11_clashes_51 rfl (lv_at hl 3 rfl) ?_
        refine va_get (D := D) (ci := 11) (v := .ref (a 4)) (C := RX11) (T := TX11) (N := 47) hx hb hts hin_X11 hown hK hP 0 rfl rfl 4 (by decide) (hts (.fieldLink RX11 17 "ClashFreeModel" "keys" "[I") (List.mem_of_getElem? (i := 6) rfl)) (fun _ h9 => h9) rfl dX11_clashes_52 ?_
        refine lv_iload hx hb dX11_clashes_55 (lv_at hl 0 rfl) ?_
        refine va_iald hx hb hK hP 2 1 rfl rfl (vp_in_nI (by omega) (by decide)) dX11_clashes_57 ?_
        refine lv_topi (fun v6 ev6 => ?_)
        obtain rfl : v6 = nI (K x) := ev6.trans (by rw [nI_clamp (by omega)]; exact (hKy.1 _ (by omega)).1)
        refine lv_i2l hx hb dX11_clashes_58 rfl ?_
        refine lv_topl (fun v7 ev7 => ?_)
        obtain rfl : v7 = lN (K x) := ev7.trans (nI_l (Nat.lt_trans (hKy.1 _ (by omega)).2 (by decide)))
        refine lv_iload hx hb dX11_clashes_59 (lv_at hl 2 rfl) ?_
        refine lv_i2l hx hb dX11_clashes_61 rfl ?_
        refine lv_topl (fun v8 ev8 => ?_)
        obtain rfl : v8 = lN (rf * rf) := ev8.trans (nI_l (by omega))
        have hPc := hP.sub (ws' := []) [] rfl
        have hKc := hK.sub (tys' := []) [] rfl
        have hFc := va_free0 hS hA
        refine va_calli (va_runS (As := [.long (lN ka), .long (lN kb), .long (lN (K x)), .long (lN (rf * rf))]) (rest := []) ⟨hx, hb, hml, hown, hts⟩ (c_placeOf l D _ ka kb (K x) (rf * rf) (by first | assumption | omega) (by first | assumption | omega) (by first | assumption | omega | exact hKl _ (by omega)) (by first | assumption | omega) (by first | assumption | omega)) (va_cwS 4 hts g_c_clashes_c_placeOf_133 rfl rfl rfl (by decide +kernel) ⟨(Nat.le_of_ble_eq_true rfl), (Nat.le_of_ble_eq_true rfl)⟩) (PcR_S hPc hKc) rfl rfl hl.1 rfl (lv_room (Nat.le_of_ble_eq_true rfl)) dX11_clashes_62 ⟨(Nat.le_of_ble_eq_true rfl), (Nat.le_of_ble_eq_true rfl)⟩) hS (fun q _ h => hFc q h) hFc (fun r9 uu tt H locs htt hvm hw hB hz1 hk1 hS => ?_)
        have hP := va_keep hP hk1
        try dsimp only at hw
        clear hB hz1 hk1 hFc hPc hKc
        obtain rfl : r9 = nI ((ka * (K x) + kb) % 2147483647 % (rf * rf)) := hw
        refine lv_istore (lv' := [(10, .int (nI ((ka * (K x) + kb) % 2147483647 % (rf * rf)))), (9, .int (nI (160 * k + x))), (8, .int su), (7, .int (nI (rf * rf))), (0, .ref h0), (1, .int (nI k)), (2, .int (nI j)), (3, .long (lN ka)), (5, .long (lN kb))]) hx hb dX11_clashes_65 hl (by decide) rfl (fun ls hl => ?_)
        refine lv_iload hx hb dX11_clashes_67 (lv_at hl 1 rfl) ?_
        refine lv_iconst (v := 1) hx hb dX11_clashes_69 (by decide) ?_
        refine lv_iadd hx hb dX11_clashes_70 ?_
        refine lv_topi (fun v10 ev10 => ?_)
        obtain rfl : v10 = nI (160 * k + (x + 1)) := ev10.trans (nI_1 _)
        refine lv_istore (lv' := [(11, .int (nI (160 * k + (x + 1)))), (10, .int (nI ((ka * (K x) + kb) % 2147483647 % (rf * rf)))), (9, .int (nI (160 * k + x))), (8, .int su), (7, .int (nI (rf * rf))), (0, .ref h0), (1, .int (nI k)), (2, .int (nI j)), (3, .long (lN ka)), (5, .long (lN kb))]) hx hb dX11_clashes_71 hl (by decide) rfl (fun ls hl => ?_)
        refine lp_clashes2 l D h0 a cm i g fn fk fb ff k j cn K J rf ka kb x (hk) (hj) (h1) (hcn) (hKy) (hBk) (hrf) (hr0) (hr1) (hka) (hkb) (hlt_x) (jy_eq (hBk _ (by omega)).2 hj hc5) hx hb hml hown hts hA (hK.sub [0, 1, 2, 3] rfl) ?_ (cn + 1) (x + 1) su (by omega) (by omega) (hs) (by omega) _ _ _ (hP.sub [0, 1, 2, 3, 4] rfl) hS (lv_sub hl [0, 1, 2, 3, 4, 5, 6, 7, 8, 9] rfl)
        intro y_11 su_12 hy1_13 hy2_14 hs_15 H locs ls hP hS hl
        refine lv_iinc (v := nI (160 * k + (x + 1))) (lv' := [(9, .int (nI (160 * k + (x + 1)))), (8, .int su_12), (7, .int (nI (rf * rf))), (0, .ref h0), (1, .int (nI k)), (2, .int (nI j)), (3, .long (lN ka)), (5, .long (lN kb))]) hx hb dX11_clashes_131 hl (k := 0) rfl (nI_1 _) (by decide) rfl (fun ls hl => ?_)
        refine lv_goto (tgt := 18) hx hb dX11_clashes_134 (by decide) ?_
        exact ih (x + 1) su_12 (by omega) (hs_15) (by omega) H locs ls (hP.sub [0, 1, 2, 3, 4] rfl) hS (lv_sub hl [0, 1, 2, 3, 4, 5, 6, 7] rfl)
      ·
        refine lv_goto (tgt := 131) hx hb dX11_clashes_45 (by decide) ?_
        refine lv_iinc (v := nI (160 * k + (x + 1))) (lv' := [(9, .int (nI (160 * k + (x + 1)))), (8, .int su), (7, .int (nI (rf * rf))), (0, .ref h0), (1, .int (nI k)), (2, .int (nI j)), (3, .long (lN ka)), (5, .long (lN kb))]) hx hb dX11_clashes_131 hl (k := 0) rfl (nI_1 _) (by decide) rfl (fun ls hl => ?_)
        refine lv_goto (tgt := 18) hx hb dX11_clashes_134 (by decide) ?_
        exact ih (x + 1) su (by omega) (hs) (by omega) H locs ls (hP.sub [0, 1, 2, 3, 4] rfl) hS (lv_sub hl [0, 1, 2, 3, 4, 5, 6, 7] rfl)
set_option maxHeartbeats 4000000 in
set_option maxRecDepth 100000 in
theorem c_clashes (l : Launch) (D : va_G) (sz : Nat) (h0 : Nat) (a : Nat → Nat) (cm : Nat → ClassId) (i : Nat → Int32) (g : Nat → Int64) (fn : Nat → Int64) (fk : Nat → Int32) (fb : Nat → Int32) (ff : Nat → Int32) (k : Nat) (j : Nat) (cn : Nat) (K : Nat → Nat) (J : Nat → Nat) (rf : Nat) (ka : Nat) (kb : Nat) (hk : k < 5) (hj : j < 2048) (h1 : fn (17 * k + 1) = lN cn) (hcn : cn ≤ 160) (hKy : KyS k fk cn K) (hBk : BkS k fb cn 2048 J) (hrf : ff (2048 * k + j) = nI rf) (hr0 : 0 < rf) (hr1 : rf ≤ 320) (hka : ka < 2147483647) (hkb : kb < 2147483647) : Met l yX11_clashes wp_c_clashes ({ frames := 3, cells := 0, slots := 0, locals := 80 }) (PcR D [.ref h0, .int (nI k), .int (nI j), .long (lN ka), .long (lN kb)] sz [(h0, .inr (11, gM a i g)), (a 3, .inl (cm 3, 85, .inr (.inl fn))), (a 4, .inl (cm 4, 800, .inl fk)), (a 6, .inl (cm 6, 800, .inl fb)), (a 8, .inl (cm 8, 10240, .inl ff))] [(cm 3, .long), (cm 4, .int), (cm 6, .int), (cm 8, .int)]) (va_Qi (fun (r : Int32) (u : Unit) => NCl K J cn j ka kb (rf * rf) → r = 0) (fun (_ : Unit) _ => True) (va_A [] sz)) 0 0 (va_A [] sz) := by
  refine Met.ofW (cc := cX11_clashes) (maxL := 12) (ret := (some .int)) (by decide) rfl ?_
  intro p e s m args below meth c s₁ B hml hv
  obtain ⟨rfl, hsz, hP, hK⟩ := hv
  have hx := B.exec
  have hb := B.bytes
  have hr := B.returns
  have hts := atoms_spec (ws := wp_c_clashes) B.pre
  have hin_X11 : ∀ w ∈ wsX110, w ∈ wp_c_clashes := fun _ h => (List.mem_cons_of_mem _ (List.mem_append_right _ (List.mem_append_right _ (List.mem_append_right _ (List.mem_append_right _ (List.mem_append_left _ h))))))
  have hown : s.vm.findClass RX11 = some m.cls := findClass_of_methodNamed B.named
  have hlocks := B.notSynchronized
  subst hsz
  generalize hAe : va_A [] s.heap.size = A at ⊢
  have hA : ∀ q : Nat, s.heap.size ≤ q → A q := fun q h => by rw [← hAe]; exact Or.inr h
  have hS : va_S A s.heap s.heap [] := va_S.rf
  have hP : va_P D vwCl [(h0, .inr (11, gM a i g)), (a 3, .inl (cm 3, 85, .inr (.inl fn))), (a 4, .inl (cm 4, 800, .inl fk)), (a 6, .inl (cm 6, 800, .inl fb)), (a 8, .inl (cm 8, 10240, .inl ff))] s.heap := hP
  have hl := lv_entry ([.ref h0, .int (nI k), .int (nI j), .long (lN ka), .long (lN kb)]) (n := 12) (Nat.le_of_ble_eq_true rfl)
  rw [lg_entry_eq]
  generalize (lg_sl ([.ref h0, .int (nI k), .int (nI j), .long (lN ka), .long (lN kb)]) ++ List.replicate (12 - (lg_sl ([.ref h0, .int (nI k), .int (nI j), .long (lN ka), .long (lN kb)])).length) Slot.unset).toArray = ls at hl ⊢
  have hl : lv_has ls 12 [(0, .ref h0), (1, .int (nI k)), (2, .int (nI j)), (3, .long (lN ka)), (5, .long (lN kb))] := hl
  refine lv_aload_n hx hb dX11_clashes_0 rfl (lv_at hl 0 rfl) ?_
  refine lv_iload_n hx hb dX11_clashes_1 rfl (lv_at hl 1 rfl) ?_
  refine lv_iload_n hx hb dX11_clashes_2 rfl (lv_at hl 2 rfl) ?_
  have hPc := hP.sub (ws' := [(h0, .inr (11, gM a i g)), (a 8, .inl (cm 8, 10240, .inl ff))]) [0, 4] rfl
  have hKc := hK.sub (tys' := [(cm 8, .int)]) [3] rfl
  have hFc := va_free0 hS hA
  refine va_calli (va_runV (As := [.int (nI k), .int (nI j)]) (rest := []) ⟨hx, hb, hml, hown, hts⟩ (c_roomsOf l D _ h0 a cm i g ff k j rf (by first | assumption | omega) (by first | assumption | omega) hrf) (cwV 2 hts g_c_clashes_c_roomsOf_137 rfl rfl rfl (by decide +kernel) ⟨(Nat.le_of_ble_eq_true rfl), (Nat.le_of_ble_eq_true rfl)⟩) (PcR_V (q0 := 0) hPc hKc rfl rfl) rfl rfl hl.1 rfl (lv_room (Nat.le_of_ble_eq_true rfl)) dX11_clashes_3 ⟨(Nat.le_of_ble_eq_true rfl), (Nat.le_of_ble_eq_true rfl)⟩) hS (fun q _ h => hFc q h) hFc (fun r1 uu tt H locs htt hvm hw hB hz1 hk1 hS => ?_)
  have hP := va_keep hP hk1
  try dsimp only at hw
  clear hB hz1 hk1 hFc hPc hKc
  obtain rfl : r1 = nI (rf * rf) := hw
  refine lv_istore (lv' := [(7, .int (nI (rf * rf))), (0, .ref h0), (1, .int (nI k)), (2, .int (nI j)), (3, .long (lN ka)), (5, .long (lN kb))]) hx hb dX11_clashes_6 hl (by decide) rfl (fun ls hl => ?_)
  refine lv_iconst (v := 0) hx hb dX11_clashes_8 (by decide) ?_
  refine lv_istore (lv' := [(8, .int 0), (7, .int (nI (rf * rf))), (0, .ref h0), (1, .int (nI k)), (2, .int (nI j)), (3, .long (lN ka)), (5, .long (lN kb))]) hx hb dX11_clashes_9 hl (by decide) rfl (fun ls hl => ?_)
  refine lv_sipush (v := 160) hx hb dX11_clashes_11 (by decide) ?_
  refine lv_iload_n hx hb dX11_clashes_14 rfl (lv_at hl 3 rfl) ?_
  refine lv_imul hx hb dX11_clashes_15 ?_
  refine lv_topi (fun v2 ev2 => ?_)
  obtain rfl : v2 = nI (160 * k + 0) := ev2.trans (pk_mul 160 k)
  refine lv_istore (lv' := [(9, .int (nI (160 * k + 0))), (8, .int 0), (7, .int (nI (rf * rf))), (0, .ref h0), (1, .int (nI k)), (2, .int (nI j)), (3, .long (lN ka)), (5, .long (lN kb))]) hx hb dX11_clashes_16 hl (by decide) rfl (fun ls hl => ?_)
  refine lp_clashes1 l D h0 a cm i g fn fk fb ff k j cn K J rf ka kb (hk) (hj) (h1) (hcn) (hKy) (hBk) (hrf) (hr0) (hr1) (hka) (hkb) hx hb hml hown hts hA (hK.sub [0, 1, 2, 3] rfl) ?_ (cn + 1) 0 0 (Nat.zero_le _) (fun _ => rfl) (by omega) _ _ _ (hP.sub [0, 1, 2, 3, 4] rfl) hS (lv_sub hl [0, 1, 2, 3, 4, 5, 6, 7] rfl)
  intro x_3 su_4 hx2_5 hs_6 H locs ls hP hS hl
  refine lv_iload hx hb dX11_clashes_137 (lv_at hl 0 rfl) ?_
  exact W.iret (v := su_4) hx hb hr (fun t ht hW => ⟨⟨su_4, (), rfl, hs_6, trivial⟩, hS.F ht⟩) hS.2.2 dX11_clashes_139

