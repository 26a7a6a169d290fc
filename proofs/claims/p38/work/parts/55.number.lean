theorem dX11_number_0 : decode cX11_number 0 = .ok (.aload_n 0, 1) := by decide +kernel
theorem dX11_number_1 : decode cX11_number 1 = .ok (.invokevirtual 306, 3) := by decide +kernel
theorem dX11_number_4 : decode cX11_number 4 = .ok (.istore_n 2, 1) := by decide +kernel
theorem dX11_number_5 : decode cX11_number 5 = .ok (.iconst 0, 1) := by decide +kernel
theorem dX11_number_6 : decode cX11_number 6 = .ok (.istore_n 3, 1) := by decide +kernel
theorem dX11_number_7 : decode cX11_number 7 = .ok (.aload_n 0, 1) := by decide +kernel
theorem dX11_number_8 : decode cX11_number 8 = .ok (.iload_n 2, 1) := by decide +kernel
theorem dX11_number_9 : decode cX11_number 9 = .ok (.iload_n 3, 1) := by decide +kernel
theorem dX11_number_10 : decode cX11_number 10 = .ok (.iadd, 1) := by decide +kernel
theorem dX11_number_11 : decode cX11_number 11 = .ok (.invokevirtual 332, 3) := by decide +kernel
theorem dX11_number_14 : decode cX11_number 14 = .ok (.ifCond .eq 9, 3) := by decide +kernel
theorem dX11_number_17 : decode cX11_number 17 = .ok (.iinc 3 1, 3) := by decide +kernel
theorem dX11_number_20 : decode cX11_number 20 = .ok (.goto (-13), 3) := by decide +kernel
theorem dX11_number_23 : decode cX11_number 23 = .ok (.aload_n 0, 1) := by decide +kernel
theorem dX11_number_24 : decode cX11_number 24 = .ok (.invokevirtual 313, 3) := by decide +kernel
theorem dX11_number_27 : decode cX11_number 27 = .ok (.ifCond .eq 25, 3) := by decide +kernel
theorem dX11_number_30 : decode cX11_number 30 = .ok (.iload_n 3, 1) := by decide +kernel
theorem dX11_number_31 : decode cX11_number 31 = .ok (.ifCond .eq 17, 3) := by decide +kernel
theorem dX11_number_34 : decode cX11_number 34 = .ok (.iload_n 3, 1) := by decide +kernel
theorem dX11_number_35 : decode cX11_number 35 = .ok (.bipush 6, 2) := by decide +kernel
theorem dX11_number_37 : decode cX11_number 37 = .ok (.if_icmp .gt 11, 3) := by decide +kernel
theorem dX11_number_40 : decode cX11_number 40 = .ok (.iload_n 2, 1) := by decide +kernel
theorem dX11_number_41 : decode cX11_number 41 = .ok (.aload_n 0, 1) := by decide +kernel
theorem dX11_number_42 : decode cX11_number 42 = .ok (.getfield 326, 3) := by decide +kernel
theorem dX11_number_45 : decode cX11_number 45 = .ok (.if_icmp .ne 7, 3) := by decide +kernel
theorem dX11_number_48 : decode cX11_number 48 = .ok (.aload_n 0, 1) := by decide +kernel
theorem dX11_number_49 : decode cX11_number 49 = .ok (.invokevirtual 320, 3) := by decide +kernel
theorem dX11_number_52 : decode cX11_number 52 = .ok (.aload_n 0, 1) := by decide +kernel
theorem dX11_number_53 : decode cX11_number 53 = .ok (.invokevirtual 313, 3) := by decide +kernel
theorem dX11_number_56 : decode cX11_number 56 = .ok (.ifCond .ne 5, 3) := by decide +kernel
theorem dX11_number_59 : decode cX11_number 59 = .ok (.iconst 0, 1) := by decide +kernel
theorem dX11_number_60 : decode cX11_number 60 = .ok (.ireturn, 1) := by decide +kernel
theorem dX11_number_61 : decode cX11_number 61 = .ok (.iconst 0, 1) := by decide +kernel
theorem dX11_number_62 : decode cX11_number 62 = .ok (.istore 4, 2) := by decide +kernel
theorem dX11_number_64 : decode cX11_number 64 = .ok (.iconst 0, 1) := by decide +kernel
theorem dX11_number_65 : decode cX11_number 65 = .ok (.istore 5, 2) := by decide +kernel
theorem dX11_number_67 : decode cX11_number 67 = .ok (.iload 5, 2) := by decide +kernel
theorem dX11_number_69 : decode cX11_number 69 = .ok (.iload_n 3, 1) := by decide +kernel
theorem dX11_number_70 : decode cX11_number 70 = .ok (.if_icmp .ge 29, 3) := by decide +kernel
theorem dX11_number_73 : decode cX11_number 73 = .ok (.bipush 10, 2) := by decide +kernel
theorem dX11_number_75 : decode cX11_number 75 = .ok (.iload 4, 2) := by decide +kernel
theorem dX11_number_77 : decode cX11_number 77 = .ok (.imul, 1) := by decide +kernel
theorem dX11_number_78 : decode cX11_number 78 = .ok (.aload_n 0, 1) := by decide +kernel
theorem dX11_number_79 : decode cX11_number 79 = .ok (.getfield 7, 3) := by decide +kernel
theorem dX11_number_82 : decode cX11_number 82 = .ok (.iload_n 2, 1) := by decide +kernel
theorem dX11_number_83 : decode cX11_number 83 = .ok (.iload 5, 2) := by decide +kernel
theorem dX11_number_85 : decode cX11_number 85 = .ok (.iadd, 1) := by decide +kernel
theorem dX11_number_86 : decode cX11_number 86 = .ok (.baload, 1) := by decide +kernel
theorem dX11_number_87 : decode cX11_number 87 = .ok (.iadd, 1) := by decide +kernel
theorem dX11_number_88 : decode cX11_number 88 = .ok (.bipush 48, 2) := by decide +kernel
theorem dX11_number_90 : decode cX11_number 90 = .ok (.isub, 1) := by decide +kernel
theorem dX11_number_91 : decode cX11_number 91 = .ok (.istore 4, 2) := by decide +kernel
theorem dX11_number_93 : decode cX11_number 93 = .ok (.iinc 5 1, 3) := by decide +kernel
theorem dX11_number_96 : decode cX11_number 96 = .ok (.goto (-29), 3) := by decide +kernel
theorem dX11_number_99 : decode cX11_number 99 = .ok (.aload_n 0, 1) := by decide +kernel
theorem dX11_number_100 : decode cX11_number 100 = .ok (.iload_n 2, 1) := by decide +kernel
theorem dX11_number_101 : decode cX11_number 101 = .ok (.iload_n 3, 1) := by decide +kernel
theorem dX11_number_102 : decode cX11_number 102 = .ok (.iadd, 1) := by decide +kernel
theorem dX11_number_103 : decode cX11_number 103 = .ok (.putfield 303, 3) := by decide +kernel
theorem dX11_number_106 : decode cX11_number 106 = .ok (.aload_n 0, 1) := by decide +kernel
theorem dX11_number_107 : decode cX11_number 107 = .ok (.aload_n 0, 1) := by decide +kernel
theorem dX11_number_108 : decode cX11_number 108 = .ok (.getfield 303, 3) := by decide +kernel
theorem dX11_number_111 : decode cX11_number 111 = .ok (.putfield 326, 3) := by decide +kernel
theorem dX11_number_114 : decode cX11_number 114 = .ok (.iload 4, 2) := by decide +kernel
theorem dX11_number_116 : decode cX11_number 116 = .ok (.iload_n 1, 1) := by decide +kernel
theorem dX11_number_117 : decode cX11_number 117 = .ok (.if_icmp .le 9, 3) := by decide +kernel
theorem dX11_number_120 : decode cX11_number 120 = .ok (.aload_n 0, 1) := by decide +kernel
theorem dX11_number_121 : decode cX11_number 121 = .ok (.iconst 2, 1) := by decide +kernel
theorem dX11_number_122 : decode cX11_number 122 = .ok (.iload_n 2, 1) := by decide +kernel
theorem dX11_number_123 : decode cX11_number 123 = .ok (.invokevirtual 310, 3) := by decide +kernel
theorem dX11_number_126 : decode cX11_number 126 = .ok (.iload 4, 2) := by decide +kernel
theorem dX11_number_128 : decode cX11_number 128 = .ok (.ireturn, 1) := by decide +kernel
def own_c_number : List Cond := [.methodLink RX11 332 yX11_isDigit, .instanceMethod yX11_isDigit, .selects RX11 yX11_isDigit yX11_isDigit, .initialized RX11, .fieldLink RX11 7 "ClashFreeModel" "tape" "[B", .methodLink RX11 306 yX11_next, .instanceMethod yX11_next, .selects RX11 yX11_next yX11_next, .methodLink RX11 313 yX11_isFine, .instanceMethod yX11_isFine, .selects RX11 yX11_isFine yX11_isFine, .methodLink RX11 320 yX11_unlike, .instanceMethod yX11_unlike, .selects RX11 yX11_unlike yX11_unlike, .fieldLink RX11 326 "ClashFreeModel" "ended" "I", .fieldLink RX11 303 "ClashFreeModel" "at" "I", .methodLink RX11 310 yX11_fail, .instanceMethod yX11_fail, .selects RX11 yX11_fail yX11_fail]
def wp_c_number : List Cond := .code yX11_number cX11_number 6 (some .int) :: (own_c_number ++ (wp_c_isDigit ++ (wp_c_next ++ (wp_c_isFine ++ (wp_c_unlike ++ (wp_c_fail ++ (wsX110 ++ ([] : List Cond))))))))
set_option maxRecDepth 20000 in
theorem inown_c_number : ∀ w ∈ own_c_number, w ∈ lw_tbl := mem_places [1724, 1726, 87, 115, 1217, 1673, 1675, 75, 1669, 1671, 74, 1693, 1695, 80, 1239, 1238, 1665, 1667, 73] (by decide +kernel)
set_option maxRecDepth 20000 in
theorem in_c_number : ∀ w ∈ wp_c_number, w ∈ lw_tbl := List.forall_mem_cons.mpr ⟨List.mem_of_getElem? (i := 1723) (by decide +kernel), List.forall_mem_append.mpr ⟨inown_c_number, List.forall_mem_append.mpr ⟨in_c_isDigit, List.forall_mem_append.mpr ⟨in_c_next, List.forall_mem_append.mpr ⟨in_c_isFine, List.forall_mem_append.mpr ⟨in_c_unlike, List.forall_mem_append.mpr ⟨in_c_fail, List.forall_mem_append.mpr ⟨lwb_X11, fun _ h => absurd h List.not_mem_nil⟩⟩⟩⟩⟩⟩⟩⟩
set_option maxRecDepth 20000 in
theorem good_c_number : wp_c_number.all goodWord = true := by decide +kernel
set_option maxRecDepth 20000 in
theorem g_c_number_c_isDigit_332 : GoodIn wp_c_number (wsV RX11 332 RX11 yX11_isDigit wp_c_isDigit) := goodIn_sub (List.forall_mem_append.mpr ⟨List.forall_mem_cons.mpr ⟨(List.mem_of_getElem? (i := 1) rfl), List.forall_mem_cons.mpr ⟨(List.mem_of_getElem? (i := 2) rfl), List.forall_mem_cons.mpr ⟨(List.mem_of_getElem? (i := 3) rfl), List.forall_mem_cons.mpr ⟨(List.mem_of_getElem? (i := 4) rfl), fun _ h => absurd h List.not_mem_nil⟩⟩⟩⟩, (fun _ h => (List.mem_cons_of_mem _ (List.mem_append_right _ (List.mem_append_left _ h))))⟩) (by decide +kernel)
set_option maxRecDepth 20000 in
theorem g_c_number_c_next_306 : GoodIn wp_c_number (wsV RX11 306 RX11 yX11_next wp_c_next) := goodIn_sub (List.forall_mem_append.mpr ⟨List.forall_mem_cons.mpr ⟨(List.mem_of_getElem? (i := 6) rfl), List.forall_mem_cons.mpr ⟨(List.mem_of_getElem? (i := 7) rfl), List.forall_mem_cons.mpr ⟨(List.mem_of_getElem? (i := 8) rfl), List.forall_mem_cons.mpr ⟨(List.mem_of_getElem? (i := 4) rfl), fun _ h => absurd h List.not_mem_nil⟩⟩⟩⟩, (fun _ h => (List.mem_cons_of_mem _ (List.mem_append_right _ (List.mem_append_right _ (List.mem_append_left _ h)))))⟩) (by decide +kernel)
set_option maxRecDepth 20000 in
theorem g_c_number_c_isFine_313 : GoodIn wp_c_number (wsV RX11 313 RX11 yX11_isFine wp_c_isFine) := goodIn_sub (List.forall_mem_append.mpr ⟨List.forall_mem_cons.mpr ⟨(List.mem_of_getElem? (i := 9) rfl), List.forall_mem_cons.mpr ⟨(List.mem_of_getElem? (i := 10) rfl), List.forall_mem_cons.mpr ⟨(List.mem_of_getElem? (i := 11) rfl), List.forall_mem_cons.mpr ⟨(List.mem_of_getElem? (i := 4) rfl), fun _ h => absurd h List.not_mem_nil⟩⟩⟩⟩, (fun _ h => (List.mem_cons_of_mem _ (List.mem_append_right _ (List.mem_append_right _ (List.mem_append_right _ (List.mem_append_left _ h))))))⟩) (by decide +kernel)
set_option maxRecDepth 20000 in
theorem g_c_number_c_unlike_320 : GoodIn wp_c_number (wsV RX11 320 RX11 yX11_unlike wp_c_unlike) := goodIn_sub (List.forall_mem_append.mpr ⟨List.forall_mem_cons.mpr ⟨(List.mem_of_getElem? (i := 12) rfl), List.forall_mem_cons.mpr ⟨(List.mem_of_getElem? (i := 13) rfl), List.forall_mem_cons.mpr ⟨(List.mem_of_getElem? (i := 14) rfl), List.forall_mem_cons.mpr ⟨(List.mem_of_getElem? (i := 4) rfl), fun _ h => absurd h List.not_mem_nil⟩⟩⟩⟩, (fun _ h => (List.mem_cons_of_mem _ (List.mem_append_right _ (List.mem_append_right _ (List.mem_append_right _ (List.mem_append_right _ (List.mem_append_left _ h)))))))⟩) (by decide +kernel)
set_option maxRecDepth 20000 in
theorem g_c_number_c_fail_310 : GoodIn wp_c_number (wsV RX11 310 RX11 yX11_fail wp_c_fail) := goodIn_sub (List.forall_mem_append.mpr ⟨List.forall_mem_cons.mpr ⟨(List.mem_of_getElem? (i := 17) rfl), List.forall_mem_cons.mpr ⟨(List.mem_of_getElem? (i := 18) rfl), List.forall_mem_cons.mpr ⟨(List.mem_of_getElem? (i := 19) rfl), List.forall_mem_cons.mpr ⟨(List.mem_of_getElem? (i := 4) rfl), fun _ h => absurd h List.not_mem_nil⟩⟩⟩⟩, (fun _ h => (List.mem_cons_of_mem _ (List.mem_append_right _ (List.mem_append_right _ (List.mem_append_right _ (List.mem_append_right _ (List.mem_append_right _ (List.mem_append_left _ h))))))))⟩) (by decide +kernel)
set_option maxHeartbeats 4000000 in
set_option maxRecDepth 100000 in
theorem lp_nu1 (l : Launch) {p : Program} {e : Env} {s : State} {m : MethodId} {args : Array Value} {below : List Frame} {meth : Method} {c : Code} {Q : State → Prop} {A : Nat → Prop} (D : va_G) (h0 : Nat) (a : Nat → Nat) (cm : Nat → ClassId) (i : Nat → Int32) (g : Nat → Int64) (fT : Nat → Int32) (cd : Nat) (zs : Nat) (en : Int32) (bd : Int32) (bp : Int32) (bq : Int32) (bk : Nat) (pl : Nat) (br : Int32) (z1 : Int32) (bt : Nat → Nat) (y0 : Nat) (hzs : zs ≤ 1400) (hbt : TieB fT bt) (hx : p.tables.exec = Jvm.exec) (hb : c.code = cX11_number) (hml : c.maxLocals = 6) (hown : s.vm.findClass RX11 = some m.cls) (hts : ∀ w ∈ wp_c_number, w.before args s = true) (hA : ∀ q, s.heap.size ≤ q → A q) (hK : va_K D vwCl [(cm 1, .byte)] s) (kx23 : ∀ (y : Nat), (y0 + y ≤ zs) → (spE (dgB bt) zs y0 = spE (dgB bt) zs (y0 + y)) → (spE (dgB bt) zs (y0 + y) = y0 + y) → ∀ (H : Heap) (locs : List Loc) (ls : Array Slot), va_P D vwCl [(h0, .inr (11, gP a i g (nI cd) (nI zs) (nI y0) en bd bp bq (nI bk) (nI pl) br)), (a 1, .inl (cm 1, 1400, .inl fT))] H → va_D A [(h0, .inr (11, gP a i g (nI cd) (nI zs) (nI y0) en bd bp bq (nI bk) (nI pl) br)), (a 1, .inl (cm 1, 1400, .inl fT))] → va_S A s.heap H locs → lv_has ls 6 [(3, .int (nI y)), (2, .int (nI y0)), (0, .ref h0), (1, .int z1)] → W p l e ({ frames := 4, cells := 0, slots := 0, locals := 110 }) s m args below meth c H locs 0 0 Q (F0 m 23 ls [])) : ∀ (N : Nat), ∀ (y : Nat), (y0 + y ≤ zs) → (spE (dgB bt) zs y0 = spE (dgB bt) zs (y0 + y)) → zs - (y0 + y) < N → ∀ (H : Heap) (locs : List Loc) (ls : Array Slot), va_P D vwCl [(h0, .inr (11, gP a i g (nI cd) (nI zs) (nI y0) en bd bp bq (nI bk) (nI pl) br)), (a 1, .inl (cm 1, 1400, .inl fT))] H → va_D A [(h0, .inr (11, gP a i g (nI cd) (nI zs) (nI y0) en bd bp bq (nI bk) (nI pl) br)), (a 1, .inl (cm 1, 1400, .inl fT))] → va_S A s.heap H locs → lv_has ls 6 [(3, .int (nI y)), (2, .int (nI y0)), (0, .ref h0), (1, .int z1)] → W p l e ({ frames := 4, cells := 0, slots := 0, locals := 110 }) s m args below meth c H locs 0 0 Q (F0 m 7 ls []) := by
  have hin_X11 : ∀ w ∈ wsX110, w ∈ wp_c_number := fun _ h => (List.mem_cons_of_mem _ (List.mem_append_right _ (List.mem_append_right _ (List.mem_append_right _ (List.mem_append_right _ (List.mem_append_right _ (List.mem_append_right _ (List.mem_append_left _ h))))))))
  intro N
  induction N with
  | zero =>
    intro y hyz hsp hm
    exact absurd hm (Nat.not_lt_zero _)
  | succ N ih =>
    intro y hyz hsp hm H locs ls hP hD hS hl
    refine lv_aload_n hx hb dX11_number_7 rfl (lv_at hl 2 rfl) ?_
    refine lv_iload_n hx hb dX11_number_8 rfl (lv_at hl 1 rfl) ?_
    refine lv_iload_n hx hb dX11_number_9 rfl (lv_at hl 0 rfl) ?_
    refine lv_iadd hx hb dX11_number_10 ?_
    refine lv_topi (fun v1 ev1 => ?_)
    obtain rfl : v1 = nI (y0 + y) := ev1.trans (nI_add _ _)
    have hPc := hP.sub (ws' := [(h0, .inr (11, gP a i g (nI cd) (nI zs) (nI y0) en bd bp bq (nI bk) (nI pl) br)), (a 1, .inl (cm 1, 1400, .inl fT))]) [0, 1] rfl
    have hKc := hK.sub (tys' := [(cm 1, .byte)]) [0] rfl
    have hFc := va_free0 hS hA
    refine va_calli (va_runV (As := [.int (nI (y0 + y))]) (rest := []) ⟨hx, hb, hml, hown, hts⟩ (c_isDigit l D _ h0 a cm i g fT cd zs y0 en bd bp bq bk pl br (y0 + y) (by first | assumption | omega) (by first | assumption | omega)) (cwV 1 hts g_c_number_c_isDigit_332 rfl rfl rfl (by decide +kernel) ⟨(Nat.le_of_ble_eq_true rfl), (Nat.le_of_ble_eq_true rfl)⟩) (PcR_V (q0 := 0) hPc hKc rfl rfl) rfl rfl hl.1 rfl (lv_room (Nat.le_of_ble_eq_true rfl)) dX11_number_11 ⟨(Nat.le_of_ble_eq_true rfl), (Nat.le_of_ble_eq_true rfl)⟩) hS (fun q _ h => hFc q h) hFc (fun r2 uu tt H locs htt hvm hw hB hz1 hk1 hS => ?_)
    have hP := va_keep hP hk1
    try dsimp only at hw
    clear hB hz1 hk1 hFc hPc hKc
    rcases hw with ⟨rfl, hA_r2⟩ | ⟨rfl, hA_r2⟩
    ·
      obtain ⟨hlt, hdb⟩ := (digP hbt).mp hA_r2
      refine lv_if_eq (tgt := 23) hx hb dX11_number_14 (by decide) (fun hc => absurd hc (by decide)) (fun hc => ?_)
      refine lv_iinc (v := nI (y + 1)) (lv' := [(3, .int (nI (y + 1))), (2, .int (nI y0)), (0, .ref h0), (1, .int z1)]) hx hb dX11_number_17 hl (k := 0) rfl (nI_1 _) (by decide) rfl (fun ls hl => ?_)
      refine lv_goto (tgt := 7) hx hb dX11_number_20 (by decide) ?_
      exact ih (y + 1) (by omega) (hsp.trans (sp_T hlt hdb)) (by omega) H locs ls (hP.sub [0, 1] rfl) (hD.sub [0, 1] (by decide) rfl) hS (lv_sub hl [0, 1, 2, 3] rfl)
    ·
      have hE : spE (dgB bt) zs (y0 + y) = y0 + y := sp_F (fun q => hA_r2 ((digP hbt).mpr q))
      refine lv_if_eq (tgt := 23) hx hb dX11_number_14 (by decide) (fun hc => ?_) (fun hc => absurd (by decide) hc)
      exact kx23 y (hyz) (hsp) (hE) H locs ls (hP.sub [0, 1] rfl) (hD.sub [0, 1] (by decide) rfl) hS (lv_sub hl [0, 1, 2, 3] rfl)
set_option maxHeartbeats 4000000 in
set_option maxRecDepth 100000 in
theorem lp_nu2 (l : Launch) {p : Program} {e : Env} {s : State} {m : MethodId} {args : Array Value} {below : List Frame} {meth : Method} {c : Code} {Q : State → Prop} {A : Nat → Prop} (D : va_G) (h0 : Nat) (a : Nat → Nat) (cm : Nat → ClassId) (i : Nat → Int32) (g : Nat → Int64) (fT : Nat → Int32) (cd : Nat) (zs : Nat) (en : Int32) (bd : Int32) (bp : Int32) (bq : Int32) (bk : Nat) (pl : Nat) (br : Int32) (z1 : Int32) (bt : Nat → Nat) (y0 : Nat) (y : Nat) (hzs : zs ≤ 1400) (hbt : TieB fT bt) (hyz : y0 + y ≤ zs) (hall : ∀ j, j < y → dgB bt (y0 + j) = true) (hx : p.tables.exec = Jvm.exec) (hb : c.code = cX11_number) (hml : c.maxLocals = 6) (hown : s.vm.findClass RX11 = some m.cls) (hts : ∀ w ∈ wp_c_number, w.before args s = true) (hA : ∀ q, s.heap.size ≤ q → A q) (hK : va_K D vwCl [(cm 1, .byte)] s) (kx99 : ∀ (x : Nat), ∀ (su : Int32), (x ≤ y) → (su = nI (nmN bt y0 x)) → (y ≤ x) → ∀ (H : Heap) (locs : List Loc) (ls : Array Slot), va_P D vwCl [(h0, .inr (11, gP a i g (nI cd) (nI zs) (nI y0) en bd bp bq (nI bk) (nI pl) br)), (a 1, .inl (cm 1, 1400, .inl fT))] H → va_D A [(h0, .inr (11, gP a i g (nI cd) (nI zs) (nI y0) en bd bp bq (nI bk) (nI pl) br)), (a 1, .inl (cm 1, 1400, .inl fT))] → va_S A s.heap H locs → lv_has ls 6 [(4, .int su), (3, .int (nI y)), (2, .int (nI y0)), (0, .ref h0), (1, .int z1)] → W p l e ({ frames := 4, cells := 0, slots := 0, locals := 110 }) s m args below meth c H locs 0 0 Q (F0 m 99 ls [])) : ∀ (N : Nat), ∀ (x : Nat), ∀ (su : Int32), (x ≤ y) → (su = nI (nmN bt y0 x)) → y - x < N → ∀ (H : Heap) (locs : List Loc) (ls : Array Slot), va_P D vwCl [(h0, .inr (11, gP a i g (nI cd) (nI zs) (nI y0) en bd bp bq (nI bk) (nI pl) br)), (a 1, .inl (cm 1, 1400, .inl fT))] H → va_D A [(h0, .inr (11, gP a i g (nI cd) (nI zs) (nI y0) en bd bp bq (nI bk) (nI pl) br)), (a 1, .inl (cm 1, 1400, .inl fT))] → va_S A s.heap H locs → lv_has ls 6 [(5, .int (nI x)), (4, .int su), (3, .int (nI y)), (2, .int (nI y0)), (0, .ref h0), (1, .int z1)] → W p l e ({ frames := 4, cells := 0, slots := 0, locals := 110 }) s m args below meth c H locs 0 0 Q (F0 m 67 ls []) := by
  have hin_X11 : ∀ w ∈ wsX110, w ∈ wp_c_number := fun _ h => (List.mem_cons_of_mem _ (List.mem_append_right _ (List.mem_append_right _ (List.mem_append_right _ (List.mem_append_right _ (List.mem_append_right _ (List.mem_append_right _ (List.mem_append_left _ h))))))))
  intro N
  induction N with
  | zero =>
    intro x su hx1 hsu hm
    exact absurd hm (Nat.not_lt_zero _)
  | succ N ih =>
    intro x su hx1 hsu hm H locs ls hP hD hS hl
    refine lv_iload hx hb dX11_number_67 (lv_at hl 0 rfl) ?_
    refine lv_iload_n hx hb dX11_number_69 rfl (lv_at hl 2 rfl) ?_
    refine lv_icmp_ge (tgt := 99) hx hb dX11_number_70 (by decide) (fun hc1 => ?_) (fun hc1 => ?_)
    ·
      have hlt : y ≤ x := (nI_leI (by omega) (by omega)).mp hc1
      exact kx99 x su (hx1) (hsu) (hlt) H locs ls (hP.sub [0, 1] rfl) (hD.sub [0, 1] (by decide) rfl) hS (lv_sub hl [1, 2, 3, 4, 5] rfl)
    ·
      have hlt : x < y := by
        rcases Nat.lt_or_ge x (y) with z | z
        · exact z
        · exact absurd (nI_le z (by omega)) hc1
      have hb9 := of_decide_eq_true (hall x hlt)
      refine lv_bipush (v := 10) hx hb dX11_number_73 (by decide) ?_
      refine lv_iload hx hb dX11_number_75 (lv_at hl 1 rfl) ?_
      refine lv_imul hx hb dX11_number_77 ?_
      refine lv_aload_n hx hb dX11_number_78 rfl (lv_at hl 4 rfl) ?_
      refine va_get (D := D) (ci := 11) (v := .ref (a 1)) (C := RX11) (T := TX11) (N := 47) hx hb hts hin_X11 hown hK hP 0 rfl rfl 1 (by decide) (hts (.fieldLink RX11 7 "ClashFreeModel" "tape" "[B") (List.mem_of_getElem? (i := 5) rfl)) (fun _ h9 => h9) rfl dX11_number_79 ?_
      refine lv_iload_n hx hb dX11_number_82 rfl (lv_at hl 3 rfl) ?_
      refine lv_iload hx hb dX11_number_83 (lv_at hl 0 rfl) ?_
      refine lv_iadd hx hb dX11_number_85 ?_
      refine lv_topi (fun v2 ev2 => ?_)
      obtain rfl : v2 = nI (y0 + x) := ev2.trans (nI_add _ _)
      refine va_bald hx hb hK hP 1 0 rfl rfl (vp_in_nI (by omega) (by decide)) dX11_number_86 ?_
      refine lv_topi (fun v3 ev3 => ?_)
      obtain rfl : v3 = nI (bt (y0 + x)) := ev3.trans (by rw [nI_clamp (by omega)]; exact (hbt _).1 (by omega))
      refine lv_iadd hx hb dX11_number_87 ?_
      refine lv_bipush (v := 48) hx hb dX11_number_88 (by decide) ?_
      refine lv_isub hx hb dX11_number_90 ?_
      refine lv_topi (fun v4 ev4 => ?_)
      obtain rfl : v4 = nI (nmN bt y0 (x + 1)) := ev4.trans (by rw [hsu]; exact nm_step (by omega))
      refine lv_istore (lv' := [(4, .int (nI (nmN bt y0 (x + 1)))), (5, .int (nI x)), (3, .int (nI y)), (2, .int (nI y0)), (0, .ref h0), (1, .int z1)]) hx hb dX11_number_91 hl (by decide) rfl (fun ls hl => ?_)
      refine lv_iinc (v := nI (x + 1)) (lv' := [(5, .int (nI (x + 1))), (4, .int (nI (nmN bt y0 (x + 1)))), (3, .int (nI y)), (2, .int (nI y0)), (0, .ref h0), (1, .int z1)]) hx hb dX11_number_93 hl (k := 1) rfl (nI_1 _) (by decide) rfl (fun ls hl => ?_)
      refine lv_goto (tgt := 67) hx hb dX11_number_96 (by decide) ?_
      exact ih (x + 1) (nI (nmN bt y0 (x + 1))) (by omega) (rfl) (by omega) H locs ls (hP.sub [0, 1] rfl) (hD.sub [0, 1] (by decide) rfl) hS (lv_sub hl [0, 1, 2, 3, 4, 5] rfl)
set_option maxHeartbeats 4000000 in
set_option maxRecDepth 100000 in
theorem c_number (l : Launch) (D : va_G) (sz : Nat) (h0 : Nat) (a : Nat → Nat) (cm : Nat → ClassId) (i : Nat → Int32) (g : Nat → Int64) (fT : Nat → Int32) (cd : Nat) (zs : Nat) (ta : Nat) (en : Int32) (bd : Int32) (bp : Int32) (bq : Int32) (bk : Nat) (pl : Nat) (br : Int32) (z1 : Int32) (mx : Nat) (bt : Nat → Nat) (hzs : zs ≤ 1400) (hta : ta ≤ zs) (hbt : TieB fT bt) (hz : z1 = nI mx) (hmx : mx ≤ 999999) : Met l yX11_number wp_c_number ({ frames := 4, cells := 0, slots := 0, locals := 110 }) (PcW D [.ref h0, .int z1] sz [(h0, .inr (11, gP a i g (nI cd) (nI zs) (nI ta) en bd bp bq (nI bk) (nI pl) br)), (a 1, .inl (cm 1, 1400, .inl fT))] [(cm 1, .byte)]) (va_Qi (fun (r : Int32) (u : (Nat) × (Int32) × (Int32) × (Int32) × (Int32)) => ta ≤ u.1 ∧ u.1 ≤ zs ∧ (u.2.2.1 = 0 → bd = 0 ∧ ta + 1 ≤ u.1) ∧ (u.2.2.1 = 0 → NmP bt zs ta en ∧ nmN bt (tkA bt zs ta) (spE (dgB bt) zs (tkA bt zs ta) - tkA bt zs ta) ≤ mx ∧ r = nI (nmN bt (tkA bt zs ta) (spE (dgB bt) zs (tkA bt zs ta) - tkA bt zs ta)) ∧ u.1 = spE (dgB bt) zs (tkA bt zs ta) ∧ u.2.1 = nI u.1) ∧ (bd = 0 → ¬ u.2.2.1 = 0 → ¬ NmP bt zs ta en ∨ mx < nmN bt (tkA bt zs ta) (spE (dgB bt) zs (tkA bt zs ta) - tkA bt zs ta))) (fun (u : (Nat) × (Int32) × (Int32) × (Int32) × (Int32)) t => va_P D vwCl [(h0, .inr (11, gP a i g (nI cd) (nI zs) (nI u.1) u.2.1 u.2.2.1 u.2.2.2.1 u.2.2.2.2 (nI bk) (nI pl) br)), (a 1, .inl (cm 1, 1400, .inl fT))] t.heap ∧ va_K D vwCl [(cm 1, .byte)] t ∧ va_D (va_A [(h0, .inr (11, gP a i g (nI cd) (nI zs) (nI ta) en bd bp bq (nI bk) (nI pl) br)), (a 1, .inl (cm 1, 1400, .inl fT))] sz) [(h0, .inr (11, gP a i g (nI cd) (nI zs) (nI u.1) u.2.1 u.2.2.1 u.2.2.2.1 u.2.2.2.2 (nI bk) (nI pl) br)), (a 1, .inl (cm 1, 1400, .inl fT))]) (va_A [(h0, .inr (11, gP a i g (nI cd) (nI zs) (nI ta) en bd bp bq (nI bk) (nI pl) br)), (a 1, .inl (cm 1, 1400, .inl fT))] sz)) 0 0 (va_A [(h0, .inr (11, gP a i g (nI cd) (nI zs) (nI ta) en bd bp bq (nI bk) (nI pl) br)), (a 1, .inl (cm 1, 1400, .inl fT))] sz) := by
  refine Met.ofW (cc := cX11_number) (maxL := 6) (ret := (some .int)) (by decide) rfl ?_
  intro p e s m args below meth c s₁ B hml hv
  obtain ⟨rfl, hsz, hP, hK, hD0⟩ := hv
  have hx := B.exec
  have hb := B.bytes
  have hr := B.returns
  have hts := atoms_spec (ws := wp_c_number) B.pre
  have hin_X11 : ∀ w ∈ wsX110, w ∈ wp_c_number := fun _ h => (List.mem_cons_of_mem _ (List.mem_append_right _ (List.mem_append_right _ (List.mem_append_right _ (List.mem_append_right _ (List.mem_append_right _ (List.mem_append_right _ (List.mem_append_left _ h))))))))
  have hown : s.vm.findClass RX11 = some m.cls := findClass_of_methodNamed B.named
  have hlocks := B.notSynchronized
  subst hsz
  have hD := hD0.self (sz := s.heap.size)
  generalize hAe : va_A [(h0, .inr (11, gP a i g (nI cd) (nI zs) (nI ta) en bd bp bq (nI bk) (nI pl) br)), (a 1, .inl (cm 1, 1400, .inl fT))] s.heap.size = A at hD ⊢
  have hA : ∀ q : Nat, s.heap.size ≤ q → A q := fun q h => by rw [← hAe]; exact Or.inr h
  have hS : va_S A s.heap s.heap [] := va_S.rf
  have hP : va_P D vwCl [(h0, .inr (11, gP a i g (nI cd) (nI zs) (nI ta) en bd bp bq (nI bk) (nI pl) br)), (a 1, .inl (cm 1, 1400, .inl fT))] s.heap := hP
  have hl := lv_entry ([.ref h0, .int z1]) (n := 6) (Nat.le_of_ble_eq_true rfl)
  rw [lg_entry_eq]
  generalize (lg_sl ([.ref h0, .int z1]) ++ List.replicate (6 - (lg_sl ([.ref h0, .int z1])).length) Slot.unset).toArray = ls at hl ⊢
  have hl : lv_has ls 6 [(0, .ref h0), (1, .int z1)] := hl
  refine lv_aload_n hx hb dX11_number_0 rfl (lv_at hl 0 rfl) ?_
  have hPc := hP.sub (ws' := [(h0, .inr (11, gP a i g (nI cd) (nI zs) (nI ta) en bd bp bq (nI bk) (nI pl) br)), (a 1, .inl (cm 1, 1400, .inl fT))]) [0, 1] rfl
  have hKc := hK.sub (tys' := [(cm 1, .byte)]) [0] rfl
  have hDc := hD.sub (ws' := [(h0, .inr (11, gP a i g (nI cd) (nI zs) (nI ta) en bd bp bq (nI bk) (nI pl) br)), (a 1, .inl (cm 1, 1400, .inl fT))]) [0, 1] (by decide) rfl
  have hFc := va_free (wc := [(h0, .inr (11, gP a i g (nI cd) (nI zs) (nI ta) en bd bp bq (nI bk) (nI pl) br)), (a 1, .inl (cm 1, 1400, .inl fT))]) hD hS hA [0, 1] rfl
  refine va_calli (va_runV (As := []) (rest := []) ⟨hx, hb, hml, hown, hts⟩ (c_next l D _ h0 a cm i g fT cd zs ta en bd bp bq bk pl br bt (by omega) (by omega) hbt) (cwV 0 hts g_c_number_c_next_306 rfl rfl rfl (by decide +kernel) ⟨(Nat.le_of_ble_eq_true rfl), (Nat.le_of_ble_eq_true rfl)⟩) (PcW_V (q0 := 0) hPc hKc hDc rfl rfl) rfl rfl hl.1 rfl (lv_room (Nat.le_of_ble_eq_true rfl)) dX11_number_1 ⟨(Nat.le_of_ble_eq_true rfl), (Nat.le_of_ble_eq_true rfl)⟩) hS (fun q _ h => hFc q h) hFc (fun r1 uu tt H locs htt hvm hw hB hz1 hk1 hS => ?_)
  obtain ⟨w2, rfl⟩ : ∃ z, z = uu := ⟨_, rfl⟩
  obtain ⟨hP1, hK1, hD1⟩ := hB
  rw [htt] at hP1
  have hK1 := va_K.moved hvm.symm hK1
  have hP1 : va_P D vwCl [(h0, .inr (11, gP a i g (nI cd) (nI zs) (nI w2) en bd bp bq (nI bk) (nI pl) br)), (a 1, .inl (cm 1, 1400, .inl fT))] H := hP1
  obtain ⟨hP, hD⟩ := va_join (wr := []) (w1 := [(h0, .inr (11, gP a i g (nI cd) (nI zs) (nI w2) en bd bp bq (nI bk) (nI pl) br)), (a 1, .inl (cm 1, 1400, .inl fT))]) hP hD [0, 1] [] rfl rfl (by decide) (by decide) hk1 hFc hP1 hD1
  have hP : va_P D vwCl [(h0, .inr (11, gP a i g (nI cd) (nI zs) (nI w2) en bd bp bq (nI bk) (nI pl) br)), (a 1, .inl (cm 1, 1400, .inl fT))] H := hP
  have hD : va_D A [(h0, .inr (11, gP a i g (nI cd) (nI zs) (nI w2) en bd bp bq (nI bk) (nI pl) br)), (a 1, .inl (cm 1, 1400, .inl fT))] := hD
  try dsimp only at hw
  clear hz1 hk1 hFc hPc hKc hDc
  obtain ⟨rfl, hn3_1, hn3_2, hn3_e⟩ := hw
  refine lv_istore_n (lv' := [(2, .int (nI w2)), (0, .ref h0), (1, .int z1)]) hx hb dX11_number_4 rfl hl (by decide) rfl (fun ls hl => ?_)
  refine lv_iconst (v := 0) hx hb dX11_number_5 (by decide) ?_
  refine lv_istore_n (lv' := [(3, .int 0), (2, .int (nI w2)), (0, .ref h0), (1, .int z1)]) hx hb dX11_number_6 rfl hl (by decide) rfl (fun ls hl => ?_)
  refine lp_nu1 l D h0 a cm i g fT cd zs en bd bp bq bk pl br z1 bt w2 (hzs) (hbt) hx hb hml hown hts hA (hK.sub [0] rfl) ?_ (zs + 1) 0 (by omega) (rfl) (by omega) _ _ _ (hP.sub [0, 1] rfl) (hD.sub [0, 1] (by decide) rfl) hS (lv_sub hl [0, 1, 2, 3] rfl)
  intro y_4 hyz_5 hsp_6 hx7 H locs ls hP hD hS hl
  have hSP : spE (dgB bt) zs w2 = w2 + y_4 := hsp_6.trans hx7
  have hall : ∀ j, j < y_4 → dgB bt (w2 + j) = true := fun j hj => sp_all (f := dgB bt) (p := w2) (n := zs) (by omega) (w2 + j) (by omega) (by rw [hSP]; omega)
  refine lv_aload_n hx hb dX11_number_23 rfl (lv_at hl 2 rfl) ?_
  have hPc := hP.sub (ws' := [(h0, .inr (11, gP a i g (nI cd) (nI zs) (nI w2) en bd bp bq (nI bk) (nI pl) br))]) [0] rfl
  have hKc := hK.sub (tys' := []) [] rfl
  have hFc := va_free0 hS hA
  refine va_calli (va_runV (As := []) (rest := []) ⟨hx, hb, hml, hown, hts⟩ (c_isFine l D _ h0 a cm i g cd zs w2 en bd bp bq bk pl br) (cwV 0 hts g_c_number_c_isFine_313 rfl rfl rfl (by decide +kernel) ⟨(Nat.le_of_ble_eq_true rfl), (Nat.le_of_ble_eq_true rfl)⟩) (PcR_V (q0 := 0) hPc hKc rfl rfl) rfl rfl hl.1 rfl (lv_room (Nat.le_of_ble_eq_true rfl)) dX11_number_24 ⟨(Nat.le_of_ble_eq_true rfl), (Nat.le_of_ble_eq_true rfl)⟩) hS (fun q _ h => hFc q h) hFc (fun r8 uu tt H locs htt hvm hw hB hz1 hk1 hS => ?_)
  have hP := va_keep hP hk1
  try dsimp only at hw
  clear hB hz1 hk1 hFc hPc hKc
  rcases hw with ⟨rfl, hA_r8⟩ | ⟨rfl, hA_r8⟩
  ·
    refine lv_if_eq (tgt := 52) hx hb dX11_number_27 (by decide) (fun hc => absurd hc (by decide)) (fun hc => ?_)
    refine lv_iload_n hx hb dX11_number_30 rfl (lv_at hl 0 rfl) ?_
    refine lv_if_eq (tgt := 48) hx hb dX11_number_31 (by decide) (fun hc9 => ?_) (fun hc9 => ?_)
    ·
      have hy0 : y_4 = 0 := (nI_eq (b := 0) (by omega) (by decide)).mp hc9
      refine lv_aload_n hx hb dX11_number_48 rfl (lv_at hl 2 rfl) ?_
      have hPc := hP.sub (ws' := [(h0, .inr (11, gP a i g (nI cd) (nI zs) (nI w2) en bd bp bq (nI bk) (nI pl) br)), (a 1, .inl (cm 1, 1400, .inl fT))]) [0, 1] rfl
      have hKc := hK.sub (tys' := [(cm 1, .byte)]) [0] rfl
      have hDc := hD.sub (ws' := [(h0, .inr (11, gP a i g (nI cd) (nI zs) (nI w2) en bd bp bq (nI bk) (nI pl) br)), (a 1, .inl (cm 1, 1400, .inl fT))]) [0, 1] (by decide) rfl
      have hFc := va_free (wc := [(h0, .inr (11, gP a i g (nI cd) (nI zs) (nI w2) en bd bp bq (nI bk) (nI pl) br)), (a 1, .inl (cm 1, 1400, .inl fT))]) hD hS hA [0, 1] rfl
      refine va_callv (va_runV (As := []) (rest := []) ⟨hx, hb, hml, hown, hts⟩ (c_unlike l D _ h0 a cm i g fT cd zs w2 en bd bp bq bk pl br bt (by omega) (by omega) hbt) (cwV 0 hts g_c_number_c_unlike_320 rfl rfl rfl (by decide +kernel) ⟨(Nat.le_of_ble_eq_true rfl), (Nat.le_of_ble_eq_true rfl)⟩) (PcW_V (q0 := 0) hPc hKc hDc rfl rfl) rfl rfl hl.1 rfl (lv_room (Nat.le_of_ble_eq_true rfl)) dX11_number_49 ⟨(Nat.le_of_ble_eq_true rfl), (Nat.le_of_ble_eq_true rfl)⟩) hS (fun q _ h => hFc q h) hFc (fun uu tt H locs htt hvm hw hB hz1 hk1 hS => ?_)
      obtain ⟨w11, w12, w13, w14⟩ := uu
      obtain ⟨hP1, hK1, hD1⟩ := hB
      rw [htt] at hP1
      have hK1 := va_K.moved hvm.symm hK1
      have hP1 : va_P D vwCl [(h0, .inr (11, gP a i g (nI cd) (nI zs) (nI w11) en w12 w13 w14 (nI bk) (nI pl) br)), (a 1, .inl (cm 1, 1400, .inl fT))] H := hP1
      obtain ⟨hP, hD⟩ := va_join (wr := []) (w1 := [(h0, .inr (11, gP a i g (nI cd) (nI zs) (nI w11) en w12 w13 w14 (nI bk) (nI pl) br)), (a 1, .inl (cm 1, 1400, .inl fT))]) hP hD [0, 1] [] rfl rfl (by decide) (by decide) hk1 hFc hP1 hD1
      have hP : va_P D vwCl [(h0, .inr (11, gP a i g (nI cd) (nI zs) (nI w11) en w12 w13 w14 (nI bk) (nI pl) br)), (a 1, .inl (cm 1, 1400, .inl fT))] H := hP
      have hD : va_D A [(h0, .inr (11, gP a i g (nI cd) (nI zs) (nI w11) en w12 w13 w14 (nI bk) (nI pl) br)), (a 1, .inl (cm 1, 1400, .inl fT))] := hD
      try dsimp only at hw
      clear hz1 hk1 hFc hPc hKc hDc
      obtain ⟨hb15_b, hb15_1, hb15_2⟩ := hw
      refine lv_aload_n hx hb dX11_number_52 rfl (lv_at hl 2 rfl) ?_
      have hPc := hP.sub (ws' := [(h0, .inr (11, gP a i g (nI cd) (nI zs) (nI w11) en w12 w13 w14 (nI bk) (nI pl) br))]) [0] rfl
      have hKc := hK.sub (tys' := []) [] rfl
      have hFc := va_free0 hS hA
      refine va_calli (va_runV (As := []) (rest := []) ⟨hx, hb, hml, hown, hts⟩ (c_isFine l D _ h0 a cm i g cd zs w11 en w12 w13 w14 bk pl br) (cwV 0 hts g_c_number_c_isFine_313 rfl rfl rfl (by decide +kernel) ⟨(Nat.le_of_ble_eq_true rfl), (Nat.le_of_ble_eq_true rfl)⟩) (PcR_V (q0 := 0) hPc hKc rfl rfl) rfl rfl hl.1 rfl (lv_room (Nat.le_of_ble_eq_true rfl)) dX11_number_53 ⟨(Nat.le_of_ble_eq_true rfl), (Nat.le_of_ble_eq_true rfl)⟩) hS (fun q _ h => hFc q h) hFc (fun r16 uu tt H locs htt hvm hw hB hz1 hk1 hS => ?_)
      have hP := va_keep hP hk1
      try dsimp only at hw
      clear hB hz1 hk1 hFc hPc hKc
      rcases hw with ⟨rfl, hA_r16⟩ | ⟨rfl, hA_r16⟩
      ·
        exact absurd hA_r16 hb15_b
      ·
        refine lv_if_ne (tgt := 61) hx hb dX11_number_56 (by decide) (fun hc => absurd (by decide) hc) (fun hc => ?_)
        refine lv_iconst (v := 0) hx hb dX11_number_59 (by decide) ?_
        exact W.iret (v := 0) hx hb hr (fun t ht hW => ⟨⟨0, (w11, en, w12, w13, w14), rfl, (by (try dsimp only); exact ⟨by omega, by omega, fun z => absurd z hA_r16, fun z => absurd z hA_r16, fun _ _ => Or.inl (fun q => by
            unfold NmP at q
            rw [← hn3_e] at q
            exact absurd q.2.1 (fun z => absurd (sp_gt q.1 z) (by rw [hSP]; omega)))⟩), by rw [ht]; exact hP.sub [0, 1] rfl, va_K.moved hW.alike (hK.sub [0] rfl), hD.sub [0, 1] (by decide) rfl⟩, hS.F ht⟩) hS.2.2 dX11_number_60
    ·
      have hyp : 1 ≤ y_4 := by
        rcases Nat.eq_zero_or_pos y_4 with z | z
        · exact absurd (by rw [z]; rfl) hc9
        · exact z
      refine lv_iload_n hx hb dX11_number_34 rfl (lv_at hl 0 rfl) ?_
      refine lv_bipush (v := 6) hx hb dX11_number_35 (by decide) ?_
      refine lv_icmp_gt (tgt := 48) hx hb dX11_number_37 (by decide) (fun hc17 => ?_) (fun hc17 => ?_)
      ·
        have hy6 : 6 < y_4 := (nI_ltI (a := 6) (by decide) (by omega)).mp hc17
        refine lv_aload_n hx hb dX11_number_48 rfl (lv_at hl 2 rfl) ?_
        have hPc := hP.sub (ws' := [(h0, .inr (11, gP a i g (nI cd) (nI zs) (nI w2) en bd bp bq (nI bk) (nI pl) br)), (a 1, .inl (cm 1, 1400, .inl fT))]) [0, 1] rfl
        have hKc := hK.sub (tys' := [(cm 1, .byte)]) [0] rfl
        have hDc := hD.sub (ws' := [(h0, .inr (11, gP a i g (nI cd) (nI zs) (nI w2) en bd bp bq (nI bk) (nI pl) br)), (a 1, .inl (cm 1, 1400, .inl fT))]) [0, 1] (by decide) rfl
        have hFc := va_free (wc := [(h0, .inr (11, gP a i g (nI cd) (nI zs) (nI w2) en bd bp bq (nI bk) (nI pl) br)), (a 1, .inl (cm 1, 1400, .inl fT))]) hD hS hA [0, 1] rfl
        refine va_callv (va_runV (As := []) (rest := []) ⟨hx, hb, hml, hown, hts⟩ (c_unlike l D _ h0 a cm i g fT cd zs w2 en bd bp bq bk pl br bt (by omega) (by omega) hbt) (cwV 0 hts g_c_number_c_unlike_320 rfl rfl rfl (by decide +kernel) ⟨(Nat.le_of_ble_eq_true rfl), (Nat.le_of_ble_eq_true rfl)⟩) (PcW_V (q0 := 0) hPc hKc hDc rfl rfl) rfl rfl hl.1 rfl (lv_room (Nat.le_of_ble_eq_true rfl)) dX11_number_49 ⟨(Nat.le_of_ble_eq_true rfl), (Nat.le_of_ble_eq_true rfl)⟩) hS (fun q _ h => hFc q h) hFc (fun uu tt H locs htt hvm hw hB hz1 hk1 hS => ?_)
        obtain ⟨w19, w20, w21, w22⟩ := uu
        obtain ⟨hP1, hK1, hD1⟩ := hB
        rw [htt] at hP1
        have hK1 := va_K.moved hvm.symm hK1
        have hP1 : va_P D vwCl [(h0, .inr (11, gP a i g (nI cd) (nI zs) (nI w19) en w20 w21 w22 (nI bk) (nI pl) br)), (a 1, .inl (cm 1, 1400, .inl fT))] H := hP1
        obtain ⟨hP, hD⟩ := va_join (wr := []) (w1 := [(h0, .inr (11, gP a i g (nI cd) (nI zs) (nI w19) en w20 w21 w22 (nI bk) (nI pl) br)), (a 1, .inl (cm 1, 1400, .inl fT))]) hP hD [0, 1] [] rfl rfl (by decide) (by decide) hk1 hFc hP1 hD1
        have hP : va_P D vwCl [(h0, .inr (11, gP a i g (nI cd) (nI zs) (nI w19) en w20 w21 w22 (nI bk) (nI pl) br)), (a 1, .inl (cm 1, 1400, .inl fT))] H := hP
        have hD : va_D A [(h0, .inr (11, gP a i g (nI cd) (nI zs) (nI w19) en w20 w21 w22 (nI bk) (nI pl) br)), (a 1, .inl (cm 1, 1400, .inl fT))] := hD
        try dsimp only at hw
        clear hz1 hk1 hFc hPc hKc hDc
        obtain ⟨hb23_b, hb23_1, hb23_2⟩ := hw
        refine lv_aload_n hx hb dX11_number_52 rfl (lv_at hl 2 rfl) ?_
        have hPc := hP.sub (ws' := [(h0, .inr (11, gP a i g (nI cd) (nI zs) (nI w19) en w20 w21 w22 (nI bk) (nI pl) br))]) [0] rfl
        have hKc := hK.sub (tys' := []) [] rfl
        have hFc := va_free0 hS hA
        refine va_calli (va_runV (As := []) (rest := []) ⟨hx, hb, hml, hown, hts⟩ (c_isFine l D _ h0 a cm i g cd zs w19 en w20 w21 w22 bk pl br) (cwV 0 hts g_c_number_c_isFine_313 rfl rfl rfl (by decide +kernel) ⟨(Nat.le_of_ble_eq_true rfl), (Nat.le_of_ble_eq_true rfl)⟩) (PcR_V (q0 := 0) hPc hKc rfl rfl) rfl rfl hl.1 rfl (lv_room (Nat.le_of_ble_eq_true rfl)) dX11_number_53 ⟨(Nat.le_of_ble_eq_true rfl), (Nat.le_of_ble_eq_true rfl)⟩) hS (fun q _ h => hFc q h) hFc (fun r24 uu tt H locs htt hvm hw hB hz1 hk1 hS => ?_)
        have hP := va_keep hP hk1
        try dsimp only at hw
        clear hB hz1 hk1 hFc hPc hKc
        rcases hw with ⟨rfl, hA_r24⟩ | ⟨rfl, hA_r24⟩
        ·
          exact absurd hA_r24 hb23_b
        ·
          refine lv_if_ne (tgt := 61) hx hb dX11_number_56 (by decide) (fun hc => absurd (by decide) hc) (fun hc => ?_)
          refine lv_iconst (v := 0) hx hb dX11_number_59 (by decide) ?_
          exact W.iret (v := 0) hx hb hr (fun t ht hW => ⟨⟨0, (w19, en, w20, w21, w22), rfl, (by (try dsimp only); exact ⟨by omega, by omega, fun z => absurd z hA_r24, fun z => absurd z hA_r24, fun _ _ => Or.inl (fun q => by
              unfold NmP at q
              rw [← hn3_e] at q
              exact absurd q.2.2.2 (by rw [hSP, Nat.add_sub_cancel_left]; omega))⟩), by rw [ht]; exact hP.sub [0, 1] rfl, va_K.moved hW.alike (hK.sub [0] rfl), hD.sub [0, 1] (by decide) rfl⟩, hS.F ht⟩) hS.2.2 dX11_number_60
      ·
        have hy6 : y_4 ≤ 6 := by
          rcases Nat.lt_or_ge 6 y_4 with z | z
          · exact absurd (nI_lt (a := 6) z (by omega)) hc17
          · exact z
        refine lv_iload_n hx hb dX11_number_40 rfl (lv_at hl 1 rfl) ?_
        refine lv_aload_n hx hb dX11_number_41 rfl (lv_at hl 2 rfl) ?_
        refine va_get (D := D) (ci := 11) (v := .int en) (C := RX11) (T := TX11) (N := 47) hx hb hts hin_X11 hown hK hP 0 rfl rfl 23 (by decide) (hts (.fieldLink RX11 326 "ClashFreeModel" "ended" "I") (List.mem_of_getElem? (i := 15) rfl)) (fun _ h9 => h9) rfl dX11_number_42 ?_
        refine lv_icmp_ne (tgt := 52) hx hb dX11_number_45 (by decide) (fun hc25 => ?_) (fun hc25 => ?_)
        ·
          refine lv_aload_n hx hb dX11_number_52 rfl (lv_at hl 2 rfl) ?_
          have hPc := hP.sub (ws' := [(h0, .inr (11, gP a i g (nI cd) (nI zs) (nI w2) en bd bp bq (nI bk) (nI pl) br))]) [0] rfl
          have hKc := hK.sub (tys' := []) [] rfl
          have hFc := va_free0 hS hA
          refine va_calli (va_runV (As := []) (rest := []) ⟨hx, hb, hml, hown, hts⟩ (c_isFine l D _ h0 a cm i g cd zs w2 en bd bp bq bk pl br) (cwV 0 hts g_c_number_c_isFine_313 rfl rfl rfl (by decide +kernel) ⟨(Nat.le_of_ble_eq_true rfl), (Nat.le_of_ble_eq_true rfl)⟩) (PcR_V (q0 := 0) hPc hKc rfl rfl) rfl rfl hl.1 rfl (lv_room (Nat.le_of_ble_eq_true rfl)) dX11_number_53 ⟨(Nat.le_of_ble_eq_true rfl), (Nat.le_of_ble_eq_true rfl)⟩) hS (fun q _ h => hFc q h) hFc (fun r26 uu tt H locs htt hvm hw hB hz1 hk1 hS => ?_)
          have hP := va_keep hP hk1
          try dsimp only at hw
          clear hB hz1 hk1 hFc hPc hKc
          rcases hw with ⟨rfl, hA_r26⟩ | ⟨rfl, hA_r26⟩
          ·
            refine lv_if_ne (tgt := 61) hx hb dX11_number_56 (by decide) (fun hc => ?_) (fun hc => absurd hc (by decide))
            refine lv_iconst (v := 0) hx hb dX11_number_61 (by decide) ?_
            refine lv_istore (lv' := [(4, .int 0), (3, .int (nI y_4)), (2, .int (nI w2)), (0, .ref h0), (1, .int z1)]) hx hb dX11_number_62 hl (by decide) rfl (fun ls hl => ?_)
            refine lv_iconst (v := 0) hx hb dX11_number_64 (by decide) ?_
            refine lv_istore (lv' := [(5, .int 0), (4, .int 0), (3, .int (nI y_4)), (2, .int (nI w2)), (0, .ref h0), (1, .int z1)]) hx hb dX11_number_65 hl (by decide) rfl (fun ls hl => ?_)
            refine lp_nu2 l D h0 a cm i g fT cd zs en bd bp bq bk pl br z1 bt w2 y_4 (hzs) (hbt) (by omega) (hall) hx hb hml hown hts hA (hK.sub [0] rfl) ?_ (y_4 + 1) 0 0 (Nat.zero_le _) (rfl) (by omega) _ _ _ (hP.sub [0, 1] rfl) (hD.sub [0, 1] (by decide) rfl) hS (lv_sub hl [0, 1, 2, 3, 4, 5] rfl)
            intro x_27 su_28 hx1_29 hsu_30 hx31 H locs ls hP hD hS hl
            refine lv_aload_n hx hb dX11_number_99 rfl (lv_at hl 3 rfl) ?_
            refine lv_iload_n hx hb dX11_number_100 rfl (lv_at hl 2 rfl) ?_
            refine lv_iload_n hx hb dX11_number_101 rfl (lv_at hl 1 rfl) ?_
            refine lv_iadd hx hb dX11_number_102 ?_
            refine lv_topi (fun v32 ev32 => ?_)
            obtain rfl : v32 = nI (w2 + y_4) := ev32.trans (nI_add _ _)
            refine va_put (D := D) (ci := 11) (v := .int (nI (w2 + y_4))) (ty := .int) (C := RX11) (T := TX11) (N := 47) hx hb hts hin_X11 tyX11 tyX11_ok nmX11 hown hK hP hD hS 0 rfl rfl 22 (by decide) (hts (.fieldLink RX11 303 "ClashFreeModel" "at" "I") (List.mem_of_getElem? (i := 16) rfl)) (fun _ h9 => h9) rfl (by decide +kernel) rfl rfl (Nat.le_of_ble_eq_true rfl) dX11_number_103 (fun H locs hP hD hS => ?_)
            have hP : va_P D vwCl [(h0, .inr (11, gP a i g (nI cd) (nI zs) (nI (w2 + y_4)) en bd bp bq (nI bk) (nI pl) br)), (a 1, .inl (cm 1, 1400, .inl fT))] H := hP
            have hD : va_D A [(h0, .inr (11, gP a i g (nI cd) (nI zs) (nI (w2 + y_4)) en bd bp bq (nI bk) (nI pl) br)), (a 1, .inl (cm 1, 1400, .inl fT))] := hD
            refine lv_aload_n hx hb dX11_number_106 rfl (lv_at hl 3 rfl) ?_
            refine lv_aload_n hx hb dX11_number_107 rfl (lv_at hl 3 rfl) ?_
            refine va_get (D := D) (ci := 11) (v := .int (nI (w2 + y_4))) (C := RX11) (T := TX11) (N := 47) hx hb hts hin_X11 hown hK hP 0 rfl rfl 22 (by decide) (hts (.fieldLink RX11 303 "ClashFreeModel" "at" "I") (List.mem_of_getElem? (i := 16) rfl)) (fun _ h9 => h9) rfl dX11_number_108 ?_
            refine va_put (D := D) (ci := 11) (v := .int (nI (w2 + y_4))) (ty := .int) (C := RX11) (T := TX11) (N := 47) hx hb hts hin_X11 tyX11 tyX11_ok nmX11 hown hK hP hD hS 0 rfl rfl 23 (by decide) (hts (.fieldLink RX11 326 "ClashFreeModel" "ended" "I") (List.mem_of_getElem? (i := 15) rfl)) (fun _ h9 => h9) rfl (by decide +kernel) rfl rfl (Nat.le_of_ble_eq_true rfl) dX11_number_111 (fun H locs hP hD hS => ?_)
            have hP : va_P D vwCl [(h0, .inr (11, gP a i g (nI cd) (nI zs) (nI (w2 + y_4)) (nI (w2 + y_4)) bd bp bq (nI bk) (nI pl) br)), (a 1, .inl (cm 1, 1400, .inl fT))] H := hP
            have hD : va_D A [(h0, .inr (11, gP a i g (nI cd) (nI zs) (nI (w2 + y_4)) (nI (w2 + y_4)) bd bp bq (nI bk) (nI pl) br)), (a 1, .inl (cm 1, 1400, .inl fT))] := hD
            have hval : su_28 = nI (nmN bt w2 y_4) := by
              rw [hsu_30, show x_27 = y_4 by omega]
            have hNV : nmN bt (tkA bt zs ta) (spE (dgB bt) zs (tkA bt zs ta) - tkA bt zs ta) = nmN bt w2 y_4 := by rw [← hn3_e, hSP, Nat.add_sub_cancel_left]
            have hnb := nm_b hall hy6
            have hNm : NmP bt zs ta en := by
              unfold NmP
              rw [← hn3_e, hSP, Nat.add_sub_cancel_left]
              exact ⟨by omega, hall 0 (by omega), hc25, hy6⟩
            refine lv_iload hx hb dX11_number_114 (lv_at hl 0 rfl) ?_
            refine lv_iload_n hx hb dX11_number_116 rfl (lv_at hl 4 rfl) ?_
            refine lv_icmp_le (tgt := 126) hx hb dX11_number_117 (by decide) (fun hc33 => ?_) (fun hc33 => ?_)
            ·
              have hvQ : nmN bt w2 y_4 ≤ mx := (nI_leI (by omega) (by omega)).mp (by rw [← hval, ← hz]; exact hc33)
              refine lv_iload hx hb dX11_number_126 (lv_at hl 0 rfl) ?_
              exact W.iret (v := su_28) hx hb hr (fun t ht hW => ⟨⟨su_28, ((w2 + y_4), (nI (w2 + y_4)), bd, bp, bq), rfl, (by (try dsimp only); exact ⟨by omega, by omega, fun _ => ⟨hA_r26, by omega⟩, fun _ => ⟨hNm, by rw [hNV]; exact hvQ, by rw [hNV]; exact hval, by rw [← hn3_e]; exact hSP.symm, rfl⟩, fun _ z => absurd hA_r26 z⟩), by rw [ht]; exact hP.sub [0, 1] rfl, va_K.moved hW.alike (hK.sub [0] rfl), hD.sub [0, 1] (by decide) rfl⟩, hS.F ht⟩) hS.2.2 dX11_number_128
            ·
              have hvQ : mx < nmN bt w2 y_4 := by
                rcases Nat.lt_or_ge mx (nmN bt w2 y_4) with z | z
                · exact z
                · exact absurd (by rw [hval, hz]; exact nI_le z (by omega)) hc33
              refine lv_aload_n hx hb dX11_number_120 rfl (lv_at hl 3 rfl) ?_
              refine lv_iconst (v := 2) hx hb dX11_number_121 (by decide) ?_
              refine lv_iload_n hx hb dX11_number_122 rfl (lv_at hl 2 rfl) ?_
              have hPc := hP.sub (ws' := [(h0, .inr (11, gP a i g (nI cd) (nI zs) (nI (w2 + y_4)) (nI (w2 + y_4)) bd bp bq (nI bk) (nI pl) br))]) [0] rfl
              have hKc := hK.sub (tys' := []) [] rfl
              have hDc := hD.sub (ws' := [(h0, .inr (11, gP a i g (nI cd) (nI zs) (nI (w2 + y_4)) (nI (w2 + y_4)) bd bp bq (nI bk) (nI pl) br))]) [0] (by decide) rfl
              have hFc := va_free (wc := [(h0, .inr (11, gP a i g (nI cd) (nI zs) (nI (w2 + y_4)) (nI (w2 + y_4)) bd bp bq (nI bk) (nI pl) br))]) hD hS hA [0] rfl
              refine va_callv (va_runV (As := [.int 2, .int (nI w2)]) (rest := []) ⟨hx, hb, hml, hown, hts⟩ (c_fail l D _ h0 a cm i g cd zs (w2 + y_4) (nI (w2 + y_4)) bd bp bq bk pl br 2 (nI w2) (by decide)) (cwV 2 hts g_c_number_c_fail_310 rfl rfl rfl (by decide +kernel) ⟨(Nat.le_of_ble_eq_true rfl), (Nat.le_of_ble_eq_true rfl)⟩) (PcW_V (q0 := 0) hPc hKc hDc rfl rfl) rfl rfl hl.1 rfl (lv_room (Nat.le_of_ble_eq_true rfl)) dX11_number_123 ⟨(Nat.le_of_ble_eq_true rfl), (Nat.le_of_ble_eq_true rfl)⟩) hS (fun q _ h => hFc q h) hFc (fun uu tt H locs htt hvm hw hB hz1 hk1 hS => ?_)
              obtain ⟨w35, w36, w37⟩ := uu
              obtain ⟨hP1, hK1, hD1⟩ := hB
              rw [htt] at hP1
              have hK1 := va_K.moved hvm.symm hK1
              have hP1 : va_P D vwCl [(h0, .inr (11, gP a i g (nI cd) (nI zs) (nI (w2 + y_4)) (nI (w2 + y_4)) w35 w36 w37 (nI bk) (nI pl) br))] H := hP1
              obtain ⟨hP, hD⟩ := va_join (wr := [(a 1, .inl (cm 1, 1400, .inl fT))]) (w1 := [(h0, .inr (11, gP a i g (nI cd) (nI zs) (nI (w2 + y_4)) (nI (w2 + y_4)) w35 w36 w37 (nI bk) (nI pl) br))]) hP hD [0] [1] rfl rfl (by decide) (by decide) hk1 hFc hP1 hD1
              have hP : va_P D vwCl [(a 1, .inl (cm 1, 1400, .inl fT)), (h0, .inr (11, gP a i g (nI cd) (nI zs) (nI (w2 + y_4)) (nI (w2 + y_4)) w35 w36 w37 (nI bk) (nI pl) br))] H := hP
              have hD : va_D A [(a 1, .inl (cm 1, 1400, .inl fT)), (h0, .inr (11, gP a i g (nI cd) (nI zs) (nI (w2 + y_4)) (nI (w2 + y_4)) w35 w36 w37 (nI bk) (nI pl) br))] := hD
              try dsimp only at hw
              clear hz1 hk1 hFc hPc hKc hDc
              have hb38_b := hw
              refine lv_iload hx hb dX11_number_126 (lv_at hl 0 rfl) ?_
              exact W.iret (v := su_28) hx hb hr (fun t ht hW => ⟨⟨su_28, ((w2 + y_4), (nI (w2 + y_4)), w35, w36, w37), rfl, (by (try dsimp only); exact ⟨by omega, by omega, fun z => absurd z hb38_b, fun z => absurd z hb38_b, fun _ _ => Or.inr (by rw [hNV]; exact hvQ)⟩), by rw [ht]; exact hP.sub [1, 0] rfl, va_K.moved hW.alike (hK.sub [0] rfl), hD.sub [1, 0] (by decide) rfl⟩, hS.F ht⟩) hS.2.2 dX11_number_128
          ·
            exact absurd hA_r8 hA_r26
        ·
          refine lv_aload_n hx hb dX11_number_48 rfl (lv_at hl 2 rfl) ?_
          have hPc := hP.sub (ws' := [(h0, .inr (11, gP a i g (nI cd) (nI zs) (nI w2) en bd bp bq (nI bk) (nI pl) br)), (a 1, .inl (cm 1, 1400, .inl fT))]) [0, 1] rfl
          have hKc := hK.sub (tys' := [(cm 1, .byte)]) [0] rfl
          have hDc := hD.sub (ws' := [(h0, .inr (11, gP a i g (nI cd) (nI zs) (nI w2) en bd bp bq (nI bk) (nI pl) br)), (a 1, .inl (cm 1, 1400, .inl fT))]) [0, 1] (by decide) rfl
          have hFc := va_free (wc := [(h0, .inr (11, gP a i g (nI cd) (nI zs) (nI w2) en bd bp bq (nI bk) (nI pl) br)), (a 1, .inl (cm 1, 1400, .inl fT))]) hD hS hA [0, 1] rfl
          refine va_callv (va_runV (As := []) (rest := []) ⟨hx, hb, hml, hown, hts⟩ (c_unlike l D _ h0 a cm i g fT cd zs w2 en bd bp bq bk pl br bt (by omega) (by omega) hbt) (cwV 0 hts g_c_number_c_unlike_320 rfl rfl rfl (by decide +kernel) ⟨(Nat.le_of_ble_eq_true rfl), (Nat.le_of_ble_eq_true rfl)⟩) (PcW_V (q0 := 0) hPc hKc hDc rfl rfl) rfl rfl hl.1 rfl (lv_room (Nat.le_of_ble_eq_true rfl)) dX11_number_49 ⟨(Nat.le_of_ble_eq_true rfl), (Nat.le_of_ble_eq_true rfl)⟩) hS (fun q _ h => hFc q h) hFc (fun uu tt H locs htt hvm hw hB hz1 hk1 hS => ?_)
          obtain ⟨w40, w41, w42, w43⟩ := uu
          obtain ⟨hP1, hK1, hD1⟩ := hB
          rw [htt] at hP1
          have hK1 := va_K.moved hvm.symm hK1
          have hP1 : va_P D vwCl [(h0, .inr (11, gP a i g (nI cd) (nI zs) (nI w40) en w41 w42 w43 (nI bk) (nI pl) br)), (a 1, .inl (cm 1, 1400, .inl fT))] H := hP1
          obtain ⟨hP, hD⟩ := va_join (wr := []) (w1 := [(h0, .inr (11, gP a i g (nI cd) (nI zs) (nI w40) en w41 w42 w43 (nI bk) (nI pl) br)), (a 1, .inl (cm 1, 1400, .inl fT))]) hP hD [0, 1] [] rfl rfl (by decide) (by decide) hk1 hFc hP1 hD1
          have hP : va_P D vwCl [(h0, .inr (11, gP a i g (nI cd) (nI zs) (nI w40) en w41 w42 w43 (nI bk) (nI pl) br)), (a 1, .inl (cm 1, 1400, .inl fT))] H := hP
          have hD : va_D A [(h0, .inr (11, gP a i g (nI cd) (nI zs) (nI w40) en w41 w42 w43 (nI bk) (nI pl) br)), (a 1, .inl (cm 1, 1400, .inl fT))] := hD
          try dsimp only at hw
          clear hz1 hk1 hFc hPc hKc hDc
          obtain ⟨hb44_b, hb44_1, hb44_2⟩ := hw
          refine lv_aload_n hx hb dX11_number_52 rfl (lv_at hl 2 rfl) ?_
          have hPc := hP.sub (ws' := [(h0, .inr (11, gP a i g (nI cd) (nI zs) (nI w40) en w41 w42 w43 (nI bk) (nI pl) br))]) [0] rfl
          have hKc := hK.sub (tys' := []) [] rfl
          have hFc := va_free0 hS hA
          refine va_calli (va_runV (As := []) (rest := []) ⟨hx, hb, hml, hown, hts⟩ (c_isFine l D _ h0 a cm i g cd zs w40 en w41 w42 w43 bk pl br) (cwV 0 hts g_c_number_c_isFine_313 rfl rfl rfl (by decide +kernel) ⟨(Nat.le_of_ble_eq_true rfl), (Nat.le_of_ble_eq_true rfl)⟩) (PcR_V (q0 := 0) hPc hKc rfl rfl) rfl rfl hl.1 rfl (lv_room (Nat.le_of_ble_eq_true rfl)) dX11_number_53 ⟨(Nat.le_of_ble_eq_true rfl), (Nat.le_of_ble_eq_true rfl)⟩) hS (fun q _ h => hFc q h) hFc (fun r45 uu tt H locs htt hvm hw hB hz1 hk1 hS => ?_)
          have hP := va_keep hP hk1
          try dsimp only at hw
          clear hB hz1 hk1 hFc hPc hKc
          rcases hw with ⟨rfl, hA_r45⟩ | ⟨rfl, hA_r45⟩
          ·
            exact absurd hA_r45 hb44_b
          ·
            refine lv_if_ne (tgt := 61) hx hb dX11_number_56 (by decide) (fun hc => absurd (by decide) hc) (fun hc => ?_)
            refine lv_iconst (v := 0) hx hb dX11_number_59 (by decide) ?_
            exact W.iret (v := 0) hx hb hr (fun t ht hW => ⟨⟨0, (w40, en, w41, w42, w43), rfl, (by (try dsimp only); exact ⟨by omega, by omega, fun z => absurd z hA_r45, fun z => absurd z hA_r45, fun _ _ => Or.inl (fun q => by
                unfold NmP at q
                rw [← hn3_e] at q
                exact q.2.2.1 hc25)⟩), by rw [ht]; exact hP.sub [0, 1] rfl, va_K.moved hW.alike (hK.sub [0] rfl), hD.sub [0, 1] (by decide) rfl⟩, hS.F ht⟩) hS.2.2 dX11_number_60
  ·
    refine lv_if_eq (tgt := 52) hx hb dX11_number_27 (by decide) (fun hc => ?_) (fun hc => absurd (by decide) hc)
    refine lv_aload_n hx hb dX11_number_52 rfl (lv_at hl 2 rfl) ?_
    have hPc := hP.sub (ws' := [(h0, .inr (11, gP a i g (nI cd) (nI zs) (nI w2) en bd bp bq (nI bk) (nI pl) br))]) [0] rfl
    have hKc := hK.sub (tys' := []) [] rfl
    have hFc := va_free0 hS hA
    refine va_calli (va_runV (As := []) (rest := []) ⟨hx, hb, hml, hown, hts⟩ (c_isFine l D _ h0 a cm i g cd zs w2 en bd bp bq bk pl br) (cwV 0 hts g_c_number_c_isFine_313 rfl rfl rfl (by decide +kernel) ⟨(Nat.le_of_ble_eq_true rfl), (Nat.le_of_ble_eq_true rfl)⟩) (PcR_V (q0 := 0) hPc hKc rfl rfl) rfl rfl hl.1 rfl (lv_room (Nat.le_of_ble_eq_true rfl)) dX11_number_53 ⟨(Nat.le_of_ble_eq_true rfl), (Nat.le_of_ble_eq_true rfl)⟩) hS (fun q _ h => hFc q h) hFc (fun r46 uu tt H locs htt hvm hw hB hz1 hk1 hS => ?_)
    have hP := va_keep hP hk1
    try dsimp only at hw
    clear hB hz1 hk1 hFc hPc hKc
    rcases hw with ⟨rfl, hA_r46⟩ | ⟨rfl, hA_r46⟩
    ·
      exact absurd hA_r46 hA_r8
    ·
      refine lv_if_ne (tgt := 61) hx hb dX11_number_56 (by decide) (fun hc => absurd (by decide) hc) (fun hc => ?_)
      refine lv_iconst (v := 0) hx hb dX11_number_59 (by decide) ?_
      exact W.iret (v := 0) hx hb hr (fun t ht hW => ⟨⟨0, (w2, en, bd, bp, bq), rfl, (by (try dsimp only); exact ⟨by omega, by omega, fun z => absurd z hA_r46, fun z => absurd z hA_r46, fun z => absurd z hA_r46⟩), by rw [ht]; exact hP.sub [0, 1] rfl, va_K.moved hW.alike (hK.sub [0] rfl), hD.sub [0, 1] (by decide) rfl⟩, hS.F ht⟩) hS.2.2 dX11_number_60

