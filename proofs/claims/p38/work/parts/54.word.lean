theorem dX11_takesWord_0 : decode cX11_takesWord 0 = .ok (.aload_n 0, 1) := by decide +kernel
theorem dX11_takesWord_1 : decode cX11_takesWord 1 = .ok (.invokevirtual 306, 3) := by decide +kernel
theorem dX11_takesWord_4 : decode cX11_takesWord 4 = .ok (.istore_n 2, 1) := by decide +kernel
theorem dX11_takesWord_5 : decode cX11_takesWord 5 = .ok (.aload_n 0, 1) := by decide +kernel
theorem dX11_takesWord_6 : decode cX11_takesWord 6 = .ok (.invokevirtual 313, 3) := by decide +kernel
theorem dX11_takesWord_9 : decode cX11_takesWord 9 = .ok (.ifCond .eq 19, 3) := by decide +kernel
theorem dX11_takesWord_12 : decode cX11_takesWord 12 = .ok (.aload_n 0, 1) := by decide +kernel
theorem dX11_takesWord_13 : decode cX11_takesWord 13 = .ok (.iload_n 2, 1) := by decide +kernel
theorem dX11_takesWord_14 : decode cX11_takesWord 14 = .ok (.invokevirtual 323, 3) := by decide +kernel
theorem dX11_takesWord_17 : decode cX11_takesWord 17 = .ok (.ifCond .eq 11, 3) := by decide +kernel
theorem dX11_takesWord_20 : decode cX11_takesWord 20 = .ok (.iload_n 2, 1) := by decide +kernel
theorem dX11_takesWord_21 : decode cX11_takesWord 21 = .ok (.aload_n 0, 1) := by decide +kernel
theorem dX11_takesWord_22 : decode cX11_takesWord 22 = .ok (.getfield 326, 3) := by decide +kernel
theorem dX11_takesWord_25 : decode cX11_takesWord 25 = .ok (.if_icmp .ne 5, 3) := by decide +kernel
theorem dX11_takesWord_28 : decode cX11_takesWord 28 = .ok (.iconst 0, 1) := by decide +kernel
theorem dX11_takesWord_29 : decode cX11_takesWord 29 = .ok (.ireturn, 1) := by decide +kernel
theorem dX11_takesWord_30 : decode cX11_takesWord 30 = .ok (.iconst 0, 1) := by decide +kernel
theorem dX11_takesWord_31 : decode cX11_takesWord 31 = .ok (.istore_n 3, 1) := by decide +kernel
theorem dX11_takesWord_32 : decode cX11_takesWord 32 = .ok (.iconst 0, 1) := by decide +kernel
theorem dX11_takesWord_33 : decode cX11_takesWord 33 = .ok (.istore 4, 2) := by decide +kernel
theorem dX11_takesWord_35 : decode cX11_takesWord 35 = .ok (.aload_n 0, 1) := by decide +kernel
theorem dX11_takesWord_36 : decode cX11_takesWord 36 = .ok (.iload_n 2, 1) := by decide +kernel
theorem dX11_takesWord_37 : decode cX11_takesWord 37 = .ok (.iload 4, 2) := by decide +kernel
theorem dX11_takesWord_39 : decode cX11_takesWord 39 = .ok (.iadd, 1) := by decide +kernel
theorem dX11_takesWord_40 : decode cX11_takesWord 40 = .ok (.invokevirtual 323, 3) := by decide +kernel
theorem dX11_takesWord_43 : decode cX11_takesWord 43 = .ok (.ifCond .eq 37, 3) := by decide +kernel
theorem dX11_takesWord_46 : decode cX11_takesWord 46 = .ok (.iload 4, 2) := by decide +kernel
theorem dX11_takesWord_48 : decode cX11_takesWord 48 = .ok (.iconst 5, 1) := by decide +kernel
theorem dX11_takesWord_49 : decode cX11_takesWord 49 = .ok (.if_icmp .ge 23, 3) := by decide +kernel
theorem dX11_takesWord_52 : decode cX11_takesWord 52 = .ok (.bipush 32, 2) := by decide +kernel
theorem dX11_takesWord_54 : decode cX11_takesWord 54 = .ok (.iload_n 3, 1) := by decide +kernel
theorem dX11_takesWord_55 : decode cX11_takesWord 55 = .ok (.imul, 1) := by decide +kernel
theorem dX11_takesWord_56 : decode cX11_takesWord 56 = .ok (.aload_n 0, 1) := by decide +kernel
theorem dX11_takesWord_57 : decode cX11_takesWord 57 = .ok (.getfield 7, 3) := by decide +kernel
theorem dX11_takesWord_60 : decode cX11_takesWord 60 = .ok (.iload_n 2, 1) := by decide +kernel
theorem dX11_takesWord_61 : decode cX11_takesWord 61 = .ok (.iload 4, 2) := by decide +kernel
theorem dX11_takesWord_63 : decode cX11_takesWord 63 = .ok (.iadd, 1) := by decide +kernel
theorem dX11_takesWord_64 : decode cX11_takesWord 64 = .ok (.baload, 1) := by decide +kernel
theorem dX11_takesWord_65 : decode cX11_takesWord 65 = .ok (.iadd, 1) := by decide +kernel
theorem dX11_takesWord_66 : decode cX11_takesWord 66 = .ok (.bipush 96, 2) := by decide +kernel
theorem dX11_takesWord_68 : decode cX11_takesWord 68 = .ok (.isub, 1) := by decide +kernel
theorem dX11_takesWord_69 : decode cX11_takesWord 69 = .ok (.goto 4, 3) := by decide +kernel
theorem dX11_takesWord_72 : decode cX11_takesWord 72 = .ok (.iconst (-1), 1) := by decide +kernel
theorem dX11_takesWord_73 : decode cX11_takesWord 73 = .ok (.istore_n 3, 1) := by decide +kernel
theorem dX11_takesWord_74 : decode cX11_takesWord 74 = .ok (.iinc 4 1, 3) := by decide +kernel
theorem dX11_takesWord_77 : decode cX11_takesWord 77 = .ok (.goto (-42), 3) := by decide +kernel
theorem dX11_takesWord_80 : decode cX11_takesWord 80 = .ok (.iload_n 3, 1) := by decide +kernel
theorem dX11_takesWord_81 : decode cX11_takesWord 81 = .ok (.iload_n 1, 1) := by decide +kernel
theorem dX11_takesWord_82 : decode cX11_takesWord 82 = .ok (.if_icmp .ne 9, 3) := by decide +kernel
theorem dX11_takesWord_85 : decode cX11_takesWord 85 = .ok (.iload 4, 2) := by decide +kernel
theorem dX11_takesWord_87 : decode cX11_takesWord 87 = .ok (.iconst 5, 1) := by decide +kernel
theorem dX11_takesWord_88 : decode cX11_takesWord 88 = .ok (.if_icmp .le 5, 3) := by decide +kernel
theorem dX11_takesWord_91 : decode cX11_takesWord 91 = .ok (.iconst 0, 1) := by decide +kernel
theorem dX11_takesWord_92 : decode cX11_takesWord 92 = .ok (.ireturn, 1) := by decide +kernel
theorem dX11_takesWord_93 : decode cX11_takesWord 93 = .ok (.aload_n 0, 1) := by decide +kernel
theorem dX11_takesWord_94 : decode cX11_takesWord 94 = .ok (.iload_n 2, 1) := by decide +kernel
theorem dX11_takesWord_95 : decode cX11_takesWord 95 = .ok (.iload 4, 2) := by decide +kernel
theorem dX11_takesWord_97 : decode cX11_takesWord 97 = .ok (.iadd, 1) := by decide +kernel
theorem dX11_takesWord_98 : decode cX11_takesWord 98 = .ok (.putfield 303, 3) := by decide +kernel
theorem dX11_takesWord_101 : decode cX11_takesWord 101 = .ok (.aload_n 0, 1) := by decide +kernel
theorem dX11_takesWord_102 : decode cX11_takesWord 102 = .ok (.aload_n 0, 1) := by decide +kernel
theorem dX11_takesWord_103 : decode cX11_takesWord 103 = .ok (.getfield 303, 3) := by decide +kernel
theorem dX11_takesWord_106 : decode cX11_takesWord 106 = .ok (.putfield 326, 3) := by decide +kernel
theorem dX11_takesWord_109 : decode cX11_takesWord 109 = .ok (.iconst 1, 1) := by decide +kernel
theorem dX11_takesWord_110 : decode cX11_takesWord 110 = .ok (.ireturn, 1) := by decide +kernel
theorem dX11_asks_0 : decode cX11_asks 0 = .ok (.aload_n 0, 1) := by decide +kernel
theorem dX11_asks_1 : decode cX11_asks 1 = .ok (.invokevirtual 313, 3) := by decide +kernel
theorem dX11_asks_4 : decode cX11_asks 4 = .ok (.ifCond .eq 15, 3) := by decide +kernel
theorem dX11_asks_7 : decode cX11_asks 7 = .ok (.aload_n 0, 1) := by decide +kernel
theorem dX11_asks_8 : decode cX11_asks 8 = .ok (.iload_n 1, 1) := by decide +kernel
theorem dX11_asks_9 : decode cX11_asks 9 = .ok (.invokevirtual 329, 3) := by decide +kernel
theorem dX11_asks_12 : decode cX11_asks 12 = .ok (.ifCond .ne 7, 3) := by decide +kernel
theorem dX11_asks_15 : decode cX11_asks 15 = .ok (.aload_n 0, 1) := by decide +kernel
theorem dX11_asks_16 : decode cX11_asks 16 = .ok (.invokevirtual 320, 3) := by decide +kernel
theorem dX11_asks_19 : decode cX11_asks 19 = .ok (.return_, 1) := by decide +kernel
theorem wc_b {bt : Nat → Nat} {p L : Nat} (h : ∀ j, j < L → ltB bt (p + j) = true) (h5 : L ≤ 5) : wcN bt p L < 33554432 := by
  have a := wc_hi (bt := bt) (p := p) L (fun j hj => (of_decide_eq_true (h j hj)).2)
  have b : 32 ^ L ≤ 32 ^ 5 := Nat.pow_le_pow_right (by decide) h5
  have c : (32 : Nat) ^ 5 = 33554432 := by decide
  omega
theorem wcK_b (k : Nat) : wcK k ≤ 150000 := by
  unfold wcK
  repeat' split
  all_goals decide
theorem nm_b {bt : Nat → Nat} {p L : Nat} (h : ∀ j, j < L → dgB bt (p + j) = true) (h5 : L ≤ 6) : nmN bt p L < 1000000 := by
  have a := nm_lt (bt := bt) (p := p) L (fun j hj => (of_decide_eq_true (h j hj)).2)
  have b : 10 ^ L ≤ 10 ^ 6 := Nat.pow_le_pow_right (by decide) h5
  have c : (10 : Nat) ^ 6 = 1000000 := by decide
  omega
def own_c_takesWord : List Cond := [.methodLink RX11 323 yX11_isLetter, .instanceMethod yX11_isLetter, .selects RX11 yX11_isLetter yX11_isLetter, .initialized RX11, .fieldLink RX11 7 "ClashFreeModel" "tape" "[B", .methodLink RX11 306 yX11_next, .instanceMethod yX11_next, .selects RX11 yX11_next yX11_next, .methodLink RX11 313 yX11_isFine, .instanceMethod yX11_isFine, .selects RX11 yX11_isFine yX11_isFine, .fieldLink RX11 326 "ClashFreeModel" "ended" "I", .fieldLink RX11 303 "ClashFreeModel" "at" "I"]
def wp_c_takesWord : List Cond := .code yX11_takesWord cX11_takesWord 5 (some .boolean) :: (own_c_takesWord ++ (wp_c_isLetter ++ (wp_c_next ++ (wp_c_isFine ++ (wsX110 ++ ([] : List Cond))))))
set_option maxRecDepth 20000 in
theorem inown_c_takesWord : ∀ w ∈ own_c_takesWord, w ∈ lw_tbl := mem_places [1705, 1707, 83, 115, 1217, 1673, 1675, 75, 1669, 1671, 74, 1239, 1238] (by decide +kernel)
set_option maxRecDepth 20000 in
theorem in_c_takesWord : ∀ w ∈ wp_c_takesWord, w ∈ lw_tbl := List.forall_mem_cons.mpr ⟨List.mem_of_getElem? (i := 1704) (by decide +kernel), List.forall_mem_append.mpr ⟨inown_c_takesWord, List.forall_mem_append.mpr ⟨in_c_isLetter, List.forall_mem_append.mpr ⟨in_c_next, List.forall_mem_append.mpr ⟨in_c_isFine, List.forall_mem_append.mpr ⟨lwb_X11, fun _ h => absurd h List.not_mem_nil⟩⟩⟩⟩⟩⟩
set_option maxRecDepth 20000 in
theorem good_c_takesWord : wp_c_takesWord.all goodWord = true := by decide +kernel
set_option maxRecDepth 20000 in
theorem g_c_takesWord_c_isLetter_323 : GoodIn wp_c_takesWord (wsV RX11 323 RX11 yX11_isLetter wp_c_isLetter) := goodIn_sub (List.forall_mem_append.mpr ⟨List.forall_mem_cons.mpr ⟨(List.mem_of_getElem? (i := 1) rfl), List.forall_mem_cons.mpr ⟨(List.mem_of_getElem? (i := 2) rfl), List.forall_mem_cons.mpr ⟨(List.mem_of_getElem? (i := 3) rfl), List.forall_mem_cons.mpr ⟨(List.mem_of_getElem? (i := 4) rfl), fun _ h => absurd h List.not_mem_nil⟩⟩⟩⟩, (fun _ h => (List.mem_cons_of_mem _ (List.mem_append_right _ (List.mem_append_left _ h))))⟩) (by decide +kernel)
set_option maxRecDepth 20000 in
theorem g_c_takesWord_c_next_306 : GoodIn wp_c_takesWord (wsV RX11 306 RX11 yX11_next wp_c_next) := goodIn_sub (List.forall_mem_append.mpr ⟨List.forall_mem_cons.mpr ⟨(List.mem_of_getElem? (i := 6) rfl), List.forall_mem_cons.mpr ⟨(List.mem_of_getElem? (i := 7) rfl), List.forall_mem_cons.mpr ⟨(List.mem_of_getElem? (i := 8) rfl), List.forall_mem_cons.mpr ⟨(List.mem_of_getElem? (i := 4) rfl), fun _ h => absurd h List.not_mem_nil⟩⟩⟩⟩, (fun _ h => (List.mem_cons_of_mem _ (List.mem_append_right _ (List.mem_append_right _ (List.mem_append_left _ h)))))⟩) (by decide +kernel)
set_option maxRecDepth 20000 in
theorem g_c_takesWord_c_isFine_313 : GoodIn wp_c_takesWord (wsV RX11 313 RX11 yX11_isFine wp_c_isFine) := goodIn_sub (List.forall_mem_append.mpr ⟨List.forall_mem_cons.mpr ⟨(List.mem_of_getElem? (i := 9) rfl), List.forall_mem_cons.mpr ⟨(List.mem_of_getElem? (i := 10) rfl), List.forall_mem_cons.mpr ⟨(List.mem_of_getElem? (i := 11) rfl), List.forall_mem_cons.mpr ⟨(List.mem_of_getElem? (i := 4) rfl), fun _ h => absurd h List.not_mem_nil⟩⟩⟩⟩, (fun _ h => (List.mem_cons_of_mem _ (List.mem_append_right _ (List.mem_append_right _ (List.mem_append_right _ (List.mem_append_left _ h))))))⟩) (by decide +kernel)
set_option maxHeartbeats 4000000 in
set_option maxRecDepth 100000 in
theorem lp_tw (l : Launch) {p : Program} {e : Env} {s : State} {m : MethodId} {args : Array Value} {below : List Frame} {meth : Method} {c : Code} {Q : State → Prop} {A : Nat → Prop} (D : va_G) (h0 : Nat) (a : Nat → Nat) (cm : Nat → ClassId) (i : Nat → Int32) (g : Nat → Int64) (fT : Nat → Int32) (cd : Nat) (zs : Nat) (en : Int32) (bd : Int32) (bp : Int32) (bq : Int32) (bk : Nat) (pl : Nat) (br : Int32) (z1 : Int32) (bt : Nat → Nat) (y0 : Nat) (hzs : zs ≤ 1400) (hbt : TieB fT bt) (hL0 : LetP fT zs y0) (hx : p.tables.exec = Jvm.exec) (hb : c.code = cX11_takesWord) (hml : c.maxLocals = 5) (hown : s.vm.findClass RX11 = some m.cls) (hts : ∀ w ∈ wp_c_takesWord, w.before args s = true) (hA : ∀ q, s.heap.size ≤ q → A q) (hK : va_K D vwCl [(cm 1, .byte)] s) (kx80 : ∀ (y : Nat), ∀ (su : Int32), (y0 + y ≤ zs) → (spE (ltB bt) zs y0 = spE (ltB bt) zs (y0 + y)) → ((y ≤ 5 → su = nI (wcN bt y0 y)) ∧ (5 < y → su = -1)) → (1 ≤ y) → (spE (ltB bt) zs (y0 + y) = y0 + y) → ∀ (H : Heap) (locs : List Loc) (ls : Array Slot), va_P D vwCl [(h0, .inr (11, gP a i g (nI cd) (nI zs) (nI y0) en bd bp bq (nI bk) (nI pl) br)), (a 1, .inl (cm 1, 1400, .inl fT))] H → va_D A [(h0, .inr (11, gP a i g (nI cd) (nI zs) (nI y0) en bd bp bq (nI bk) (nI pl) br)), (a 1, .inl (cm 1, 1400, .inl fT))] → va_S A s.heap H locs → lv_has ls 5 [(4, .int (nI y)), (3, .int su), (2, .int (nI y0)), (0, .ref h0), (1, .int z1)] → W p l e ({ frames := 4, cells := 0, slots := 0, locals := 110 }) s m args below meth c H locs 0 0 Q (F0 m 80 ls [])) : ∀ (N : Nat), ∀ (y : Nat), ∀ (su : Int32), (y0 + y ≤ zs) → (spE (ltB bt) zs y0 = spE (ltB bt) zs (y0 + y)) → ((y ≤ 5 → su = nI (wcN bt y0 y)) ∧ (5 < y → su = -1)) → zs - (y0 + y) < N → ∀ (H : Heap) (locs : List Loc) (ls : Array Slot), va_P D vwCl [(h0, .inr (11, gP a i g (nI cd) (nI zs) (nI y0) en bd bp bq (nI bk) (nI pl) br)), (a 1, .inl (cm 1, 1400, .inl fT))] H → va_D A [(h0, .inr (11, gP a i g (nI cd) (nI zs) (nI y0) en bd bp bq (nI bk) (nI pl) br)), (a 1, .inl (cm 1, 1400, .inl fT))] → va_S A s.heap H locs → lv_has ls 5 [(4, .int (nI y)), (3, .int su), (2, .int (nI y0)), (0, .ref h0), (1, .int z1)] → W p l e ({ frames := 4, cells := 0, slots := 0, locals := 110 }) s m args below meth c H locs 0 0 Q (F0 m 35 ls []) := by
  have hin_X11 : ∀ w ∈ wsX110, w ∈ wp_c_takesWord := fun _ h => (List.mem_cons_of_mem _ (List.mem_append_right _ (List.mem_append_right _ (List.mem_append_right _ (List.mem_append_right _ (List.mem_append_left _ h))))))
  intro N
  induction N with
  | zero =>
    intro y su hyz hsp hsu hm
    exact absurd hm (Nat.not_lt_zero _)
  | succ N ih =>
    intro y su hyz hsp hsu hm H locs ls hP hD hS hl
    refine lv_aload_n hx hb dX11_takesWord_35 rfl (lv_at hl 3 rfl) ?_
    refine lv_iload_n hx hb dX11_takesWord_36 rfl (lv_at hl 2 rfl) ?_
    refine lv_iload hx hb dX11_takesWord_37 (lv_at hl 0 rfl) ?_
    refine lv_iadd hx hb dX11_takesWord_39 ?_
    refine lv_topi (fun v1 ev1 => ?_)
    obtain rfl : v1 = nI (y0 + y) := ev1.trans (nI_add _ _)
    have hPc := hP.sub (ws' := [(h0, .inr (11, gP a i g (nI cd) (nI zs) (nI y0) en bd bp bq (nI bk) (nI pl) br)), (a 1, .inl (cm 1, 1400, .inl fT))]) [0, 1] rfl
    have hKc := hK.sub (tys' := [(cm 1, .byte)]) [0] rfl
    have hFc := va_free0 hS hA
    refine va_calli (va_runV (As := [.int (nI (y0 + y))]) (rest := []) ⟨hx, hb, hml, hown, hts⟩ (c_isLetter l D _ h0 a cm i g fT cd zs y0 en bd bp bq bk pl br (y0 + y) (by first | assumption | omega) (by first | assumption | omega)) (cwV 1 hts g_c_takesWord_c_isLetter_323 rfl rfl rfl (by decide +kernel) ⟨(Nat.le_of_ble_eq_true rfl), (Nat.le_of_ble_eq_true rfl)⟩) (PcR_V (q0 := 0) hPc hKc rfl rfl) rfl rfl hl.1 rfl (lv_room (Nat.le_of_ble_eq_true rfl)) dX11_takesWord_40 ⟨(Nat.le_of_ble_eq_true rfl), (Nat.le_of_ble_eq_true rfl)⟩) hS (fun q _ h => hFc q h) hFc (fun r2 uu tt H locs htt hvm hw hB hz1 hk1 hS => ?_)
    have hP := va_keep hP hk1
    try dsimp only at hw
    clear hB hz1 hk1 hFc hPc hKc
    rcases hw with ⟨rfl, hA_r2⟩ | ⟨rfl, hA_r2⟩
    ·
      obtain ⟨hlt, hlb⟩ := (letP hbt).mp hA_r2
      have hb9 := of_decide_eq_true hlb
      refine lv_if_eq (tgt := 80) hx hb dX11_takesWord_43 (by decide) (fun hc => absurd hc (by decide)) (fun hc => ?_)
      refine lv_iload hx hb dX11_takesWord_46 (lv_at hl 0 rfl) ?_
      refine lv_iconst (v := 5) hx hb dX11_takesWord_48 (by decide) ?_
      refine lv_icmp_ge (tgt := 72) hx hb dX11_takesWord_49 (by decide) (fun hc3 => ?_) (fun hc3 => ?_)
      ·
        have hy5 : 5 ≤ y := (nI_leI (a := 5) (by decide) (by omega)).mp hc3
        refine lv_iconst (v := (-1)) hx hb dX11_takesWord_72 (by decide) ?_
        refine lv_istore_n (lv' := [(3, .int (-1)), (4, .int (nI y)), (2, .int (nI y0)), (0, .ref h0), (1, .int z1)]) hx hb dX11_takesWord_73 rfl hl (by decide) rfl (fun ls hl => ?_)
        refine lv_iinc (v := nI (y + 1)) (lv' := [(4, .int (nI (y + 1))), (3, .int (-1)), (2, .int (nI y0)), (0, .ref h0), (1, .int z1)]) hx hb dX11_takesWord_74 hl (k := 1) rfl (nI_1 _) (by decide) rfl (fun ls hl => ?_)
        refine lv_goto (tgt := 35) hx hb dX11_takesWord_77 (by decide) ?_
        exact ih (y + 1) (-1) (by omega) (hsp.trans (sp_T hlt hlb)) (⟨fun q => absurd q (by omega), fun _ => rfl⟩) (by omega) H locs ls (hP.sub [0, 1] rfl) (hD.sub [0, 1] (by decide) rfl) hS (lv_sub hl [0, 1, 2, 3, 4] rfl)
      ·
        have hy5 : y < 5 := by
          rcases Nat.lt_or_ge y 5 with z | z
          · exact z
          · exact absurd (nI_le (a := 5) z (by omega)) hc3
        refine lv_bipush (v := 32) hx hb dX11_takesWord_52 (by decide) ?_
        refine lv_iload_n hx hb dX11_takesWord_54 rfl (lv_at hl 1 rfl) ?_
        refine lv_imul hx hb dX11_takesWord_55 ?_
        refine lv_aload_n hx hb dX11_takesWord_56 rfl (lv_at hl 3 rfl) ?_
        refine va_get (D := D) (ci := 11) (v := .ref (a 1)) (C := RX11) (T := TX11) (N := 47) hx hb hts hin_X11 hown hK hP 0 rfl rfl 1 (by decide) (hts (.fieldLink RX11 7 "ClashFreeModel" "tape" "[B") (List.mem_of_getElem? (i := 5) rfl)) (fun _ h9 => h9) rfl dX11_takesWord_57 ?_
        refine lv_iload_n hx hb dX11_takesWord_60 rfl (lv_at hl 2 rfl) ?_
        refine lv_iload hx hb dX11_takesWord_61 (lv_at hl 0 rfl) ?_
        refine lv_iadd hx hb dX11_takesWord_63 ?_
        refine lv_topi (fun v4 ev4 => ?_)
        obtain rfl : v4 = nI (y0 + y) := ev4.trans (nI_add _ _)
        refine va_bald hx hb hK hP 1 0 rfl rfl (vp_in_nI (by omega) (by decide)) dX11_takesWord_64 ?_
        refine lv_topi (fun v5 ev5 => ?_)
        obtain rfl : v5 = nI (bt (y0 + y)) := ev5.trans (by rw [nI_clamp (by omega)]; exact (hbt _).1 (by omega))
        refine lv_iadd hx hb dX11_takesWord_65 ?_
        refine lv_bipush (v := 96) hx hb dX11_takesWord_66 (by decide) ?_
        refine lv_isub hx hb dX11_takesWord_68 ?_
        refine lv_topi (fun v6 ev6 => ?_)
        obtain rfl : v6 = nI (wcN bt y0 (y + 1)) := ev6.trans (by rw [hsu.1 (by omega)]; exact wc_step (by omega))
        refine lv_goto (tgt := 73) hx hb dX11_takesWord_69 (by decide) ?_
        refine lv_istore_n (lv' := [(3, .int (nI (wcN bt y0 (y + 1)))), (4, .int (nI y)), (2, .int (nI y0)), (0, .ref h0), (1, .int z1)]) hx hb dX11_takesWord_73 rfl hl (by decide) rfl (fun ls hl => ?_)
        refine lv_iinc (v := nI (y + 1)) (lv' := [(4, .int (nI (y + 1))), (3, .int (nI (wcN bt y0 (y + 1)))), (2, .int (nI y0)), (0, .ref h0), (1, .int z1)]) hx hb dX11_takesWord_74 hl (k := 1) rfl (nI_1 _) (by decide) rfl (fun ls hl => ?_)
        refine lv_goto (tgt := 35) hx hb dX11_takesWord_77 (by decide) ?_
        exact ih (y + 1) (nI (wcN bt y0 (y + 1))) (by omega) (hsp.trans (sp_T hlt hlb)) (⟨fun _ => rfl, fun q => absurd q (by omega)⟩) (by omega) H locs ls (hP.sub [0, 1] rfl) (hD.sub [0, 1] (by decide) rfl) hS (lv_sub hl [0, 1, 2, 3, 4] rfl)
    ·
      have hy1 : 1 ≤ y := by
        rcases Nat.eq_zero_or_pos y with z | z
        · subst z
          exact absurd hL0 hA_r2
        · exact z
      have hE : spE (ltB bt) zs (y0 + y) = y0 + y := sp_F (fun q => hA_r2 ((letP hbt).mpr q))
      refine lv_if_eq (tgt := 80) hx hb dX11_takesWord_43 (by decide) (fun hc => ?_) (fun hc => absurd (by decide) hc)
      exact kx80 y su (hyz) (hsp) (hsu) (hy1) (hE) H locs ls (hP.sub [0, 1] rfl) (hD.sub [0, 1] (by decide) rfl) hS (lv_sub hl [0, 1, 2, 3, 4] rfl)
set_option maxHeartbeats 4000000 in
set_option maxRecDepth 100000 in
theorem c_takesWord (l : Launch) (D : va_G) (sz : Nat) (h0 : Nat) (a : Nat → Nat) (cm : Nat → ClassId) (i : Nat → Int32) (g : Nat → Int64) (fT : Nat → Int32) (cd : Nat) (zs : Nat) (ta : Nat) (en : Int32) (bd : Int32) (bp : Int32) (bq : Int32) (bk : Nat) (pl : Nat) (br : Int32) (z1 : Int32) (kk : Nat) (bt : Nat → Nat) (hzs : zs ≤ 1400) (hta : ta ≤ zs) (hbt : TieB fT bt) (hz : z1 = nI (wcK kk)) : Met l yX11_takesWord wp_c_takesWord ({ frames := 4, cells := 0, slots := 0, locals := 110 }) (PcW D [.ref h0, .int z1] sz [(h0, .inr (11, gP a i g (nI cd) (nI zs) (nI ta) en bd bp bq (nI bk) (nI pl) br)), (a 1, .inl (cm 1, 1400, .inl fT))] [(cm 1, .byte)]) (va_Qi (fun (r : Int32) (u : (Nat) × (Int32)) => (r = 1 ∧ bd = 0 ∧ ta + 1 ≤ u.1 ∧ u.1 ≤ zs ∧ u.1 = spE (ltB bt) zs (tkA bt zs ta) ∧ u.2 = nI u.1 ∧ WdP bt zs ta en kk) ∨ (r = 0 ∧ ta ≤ u.1 ∧ u.1 ≤ zs ∧ u.1 = tkA bt zs ta ∧ u.2 = en ∧ (bd = 0 → ¬ WdP bt zs ta en kk))) (fun (u : (Nat) × (Int32)) t => va_P D vwCl [(h0, .inr (11, gP a i g (nI cd) (nI zs) (nI u.1) u.2 bd bp bq (nI bk) (nI pl) br)), (a 1, .inl (cm 1, 1400, .inl fT))] t.heap ∧ va_K D vwCl [(cm 1, .byte)] t ∧ va_D (va_A [(h0, .inr (11, gP a i g (nI cd) (nI zs) (nI ta) en bd bp bq (nI bk) (nI pl) br)), (a 1, .inl (cm 1, 1400, .inl fT))] sz) [(h0, .inr (11, gP a i g (nI cd) (nI zs) (nI u.1) u.2 bd bp bq (nI bk) (nI pl) br)), (a 1, .inl (cm 1, 1400, .inl fT))]) (va_A [(h0, .inr (11, gP a i g (nI cd) (nI zs) (nI ta) en bd bp bq (nI bk) (nI pl) br)), (a 1, .inl (cm 1, 1400, .inl fT))] sz)) 0 0 (va_A [(h0, .inr (11, gP a i g (nI cd) (nI zs) (nI ta) en bd bp bq (nI bk) (nI pl) br)), (a 1, .inl (cm 1, 1400, .inl fT))] sz) := by
  refine Met.ofW (cc := cX11_takesWord) (maxL := 5) (ret := (some .boolean)) (by decide) rfl ?_
  intro p e s m args below meth c s₁ B hml hv
  obtain ⟨rfl, hsz, hP, hK, hD0⟩ := hv
  have hx := B.exec
  have hb := B.bytes
  have hr := B.returns
  have hts := atoms_spec (ws := wp_c_takesWord) B.pre
  have hin_X11 : ∀ w ∈ wsX110, w ∈ wp_c_takesWord := fun _ h => (List.mem_cons_of_mem _ (List.mem_append_right _ (List.mem_append_right _ (List.mem_append_right _ (List.mem_append_right _ (List.mem_append_left _ h))))))
  have hown : s.vm.findClass RX11 = some m.cls := findClass_of_methodNamed B.named
  have hlocks := B.notSynchronized
  subst hsz
  have hD := hD0.self (sz := s.heap.size)
  generalize hAe : va_A [(h0, .inr (11, gP a i g (nI cd) (nI zs) (nI ta) en bd bp bq (nI bk) (nI pl) br)), (a 1, .inl (cm 1, 1400, .inl fT))] s.heap.size = A at hD ⊢
  have hA : ∀ q : Nat, s.heap.size ≤ q → A q := fun q h => by rw [← hAe]; exact Or.inr h
  have hS : va_S A s.heap s.heap [] := va_S.rf
  have hP : va_P D vwCl [(h0, .inr (11, gP a i g (nI cd) (nI zs) (nI ta) en bd bp bq (nI bk) (nI pl) br)), (a 1, .inl (cm 1, 1400, .inl fT))] s.heap := hP
  have hl := lv_entry ([.ref h0, .int z1]) (n := 5) (Nat.le_of_ble_eq_true rfl)
  rw [lg_entry_eq]
  generalize (lg_sl ([.ref h0, .int z1]) ++ List.replicate (5 - (lg_sl ([.ref h0, .int z1])).length) Slot.unset).toArray = ls at hl ⊢
  have hl : lv_has ls 5 [(0, .ref h0), (1, .int z1)] := hl
  refine lv_aload_n hx hb dX11_takesWord_0 rfl (lv_at hl 0 rfl) ?_
  have hPc := hP.sub (ws' := [(h0, .inr (11, gP a i g (nI cd) (nI zs) (nI ta) en bd bp bq (nI bk) (nI pl) br)), (a 1, .inl (cm 1, 1400, .inl fT))]) [0, 1] rfl
  have hKc := hK.sub (tys' := [(cm 1, .byte)]) [0] rfl
  have hDc := hD.sub (ws' := [(h0, .inr (11, gP a i g (nI cd) (nI zs) (nI ta) en bd bp bq (nI bk) (nI pl) br)), (a 1, .inl (cm 1, 1400, .inl fT))]) [0, 1] (by decide) rfl
  have hFc := va_free (wc := [(h0, .inr (11, gP a i g (nI cd) (nI zs) (nI ta) en bd bp bq (nI bk) (nI pl) br)), (a 1, .inl (cm 1, 1400, .inl fT))]) hD hS hA [0, 1] rfl
  refine va_calli (va_runV (As := []) (rest := []) ⟨hx, hb, hml, hown, hts⟩ (c_next l D _ h0 a cm i g fT cd zs ta en bd bp bq bk pl br bt (by omega) (by omega) hbt) (cwV 0 hts g_c_takesWord_c_next_306 rfl rfl rfl (by decide +kernel) ⟨(Nat.le_of_ble_eq_true rfl), (Nat.le_of_ble_eq_true rfl)⟩) (PcW_V (q0 := 0) hPc hKc hDc rfl rfl) rfl rfl hl.1 rfl (lv_room (Nat.le_of_ble_eq_true rfl)) dX11_takesWord_1 ⟨(Nat.le_of_ble_eq_true rfl), (Nat.le_of_ble_eq_true rfl)⟩) hS (fun q _ h => hFc q h) hFc (fun r1 uu tt H locs htt hvm hw hB hz1 hk1 hS => ?_)
  obtain ⟨w2, rfl⟩ : ∃ z, z = uu := ⟨_, rfl⟩
  obtain ⟨hP1, hK1, hD1⟩ := hB
  rw [htt] at hP1
  have hK1 := va_K.moved hvm.symm hK1
  have hP1 : va_P D vwCl [(h0, .inr (11, gP a i g (nI cd) (nI zs) (nI w2) en bd bp bq (nI bk) (nI pl) br)), (a 1, .inl (cm 1, 1400, .inl fT))] H := hP1
  obtain ⟨hP, hD⟩ := va_join (wr := []) (w1 := [(h0, .inr (11, gP a i g (nI cd) (nI zs) (nI w2) en bd bp bq (nI bk) (nI pl) br)), (a 1, .inl (cm 1, 1400, .inl fT))]) hP hD [0, 1] [] rfl rfl (by decide) (by decide) hk1 hFc hP1 hD1
  have hP : va_P D vwCl [(h0, .inr (11, gP a i g (nI cd) (nI zs) (nI w2) en bd bp bq (nI bk) (nI pl) br)), (a 1, .inl (cm 1, 1400, .inl fT))] H := hP
  have hD : va_D A [(h0, .inr (11, gP a i g (nI cd) (nI zs) (nI w2) en bd bp bq (nI bk) (nI pl) br)), (a 1, .inl (cm 1, 1400, .inl fT))] := hD
  try dsimp only at hw
  clear hz1 hk1 hFc hPc hKc hDc
  obtain ⟨rfl, hn3_1, hn3_2, hn3_e⟩ := hw
  refine lv_istore_n (lv' := [(2, .int (nI w2)), (0, .ref h0), (1, .int z1)]) hx hb dX11_takesWord_4 rfl hl (by decide) rfl (fun ls hl => ?_)
  refine lv_aload_n hx hb dX11_takesWord_5 rfl (lv_at hl 1 rfl) ?_
  have hPc := hP.sub (ws' := [(h0, .inr (11, gP a i g (nI cd) (nI zs) (nI w2) en bd bp bq (nI bk) (nI pl) br))]) [0] rfl
  have hKc := hK.sub (tys' := []) [] rfl
  have hFc := va_free0 hS hA
  refine va_calli (va_runV (As := []) (rest := []) ⟨hx, hb, hml, hown, hts⟩ (c_isFine l D _ h0 a cm i g cd zs w2 en bd bp bq bk pl br) (cwV 0 hts g_c_takesWord_c_isFine_313 rfl rfl rfl (by decide +kernel) ⟨(Nat.le_of_ble_eq_true rfl), (Nat.le_of_ble_eq_true rfl)⟩) (PcR_V (q0 := 0) hPc hKc rfl rfl) rfl rfl hl.1 rfl (lv_room (Nat.le_of_ble_eq_true rfl)) dX11_takesWord_6 ⟨(Nat.le_of_ble_eq_true rfl), (Nat.le_of_ble_eq_true rfl)⟩) hS (fun q _ h => hFc q h) hFc (fun r4 uu tt H locs htt hvm hw hB hz1 hk1 hS => ?_)
  have hP := va_keep hP hk1
  try dsimp only at hw
  clear hB hz1 hk1 hFc hPc hKc
  rcases hw with ⟨rfl, hA_r4⟩ | ⟨rfl, hA_r4⟩
  ·
    refine lv_if_eq (tgt := 28) hx hb dX11_takesWord_9 (by decide) (fun hc => absurd hc (by decide)) (fun hc => ?_)
    refine lv_aload_n hx hb dX11_takesWord_12 rfl (lv_at hl 1 rfl) ?_
    refine lv_iload_n hx hb dX11_takesWord_13 rfl (lv_at hl 0 rfl) ?_
    have hPc := hP.sub (ws' := [(h0, .inr (11, gP a i g (nI cd) (nI zs) (nI w2) en bd bp bq (nI bk) (nI pl) br)), (a 1, .inl (cm 1, 1400, .inl fT))]) [0, 1] rfl
    have hKc := hK.sub (tys' := [(cm 1, .byte)]) [0] rfl
    have hFc := va_free0 hS hA
    refine va_calli (va_runV (As := [.int (nI w2)]) (rest := []) ⟨hx, hb, hml, hown, hts⟩ (c_isLetter l D _ h0 a cm i g fT cd zs w2 en bd bp bq bk pl br w2 (by first | assumption | omega) (by first | assumption | omega)) (cwV 1 hts g_c_takesWord_c_isLetter_323 rfl rfl rfl (by decide +kernel) ⟨(Nat.le_of_ble_eq_true rfl), (Nat.le_of_ble_eq_true rfl)⟩) (PcR_V (q0 := 0) hPc hKc rfl rfl) rfl rfl hl.1 rfl (lv_room (Nat.le_of_ble_eq_true rfl)) dX11_takesWord_14 ⟨(Nat.le_of_ble_eq_true rfl), (Nat.le_of_ble_eq_true rfl)⟩) hS (fun q _ h => hFc q h) hFc (fun r5 uu tt H locs htt hvm hw hB hz1 hk1 hS => ?_)
    have hP := va_keep hP hk1
    try dsimp only at hw
    clear hB hz1 hk1 hFc hPc hKc
    rcases hw with ⟨rfl, hA_r5⟩ | ⟨rfl, hA_r5⟩
    ·
      refine lv_if_eq (tgt := 28) hx hb dX11_takesWord_17 (by decide) (fun hc => absurd hc (by decide)) (fun hc => ?_)
      refine lv_iload_n hx hb dX11_takesWord_20 rfl (lv_at hl 0 rfl) ?_
      refine lv_aload_n hx hb dX11_takesWord_21 rfl (lv_at hl 1 rfl) ?_
      refine va_get (D := D) (ci := 11) (v := .int en) (C := RX11) (T := TX11) (N := 47) hx hb hts hin_X11 hown hK hP 0 rfl rfl 23 (by decide) (hts (.fieldLink RX11 326 "ClashFreeModel" "ended" "I") (List.mem_of_getElem? (i := 12) rfl)) (fun _ h9 => h9) rfl dX11_takesWord_22 ?_
      refine lv_icmp_ne (tgt := 30) hx hb dX11_takesWord_25 (by decide) (fun hc6 => ?_) (fun hc6 => ?_)
      ·
        refine lv_iconst (v := 0) hx hb dX11_takesWord_30 (by decide) ?_
        refine lv_istore_n (lv' := [(3, .int 0), (2, .int (nI w2)), (0, .ref h0), (1, .int z1)]) hx hb dX11_takesWord_31 rfl hl (by decide) rfl (fun ls hl => ?_)
        refine lv_iconst (v := 0) hx hb dX11_takesWord_32 (by decide) ?_
        refine lv_istore (lv' := [(4, .int 0), (3, .int 0), (2, .int (nI w2)), (0, .ref h0), (1, .int z1)]) hx hb dX11_takesWord_33 hl (by decide) rfl (fun ls hl => ?_)
        refine lp_tw l D h0 a cm i g fT cd zs en bd bp bq bk pl br z1 bt w2 (hzs) (hbt) (hA_r5) hx hb hml hown hts hA (hK.sub [0] rfl) ?_ (zs + 1) 0 0 (by have := (hA_r5).1; omega) (rfl) (⟨fun _ => rfl, fun q => absurd q (by omega)⟩) (by omega) _ _ _ (hP.sub [0, 1] rfl) (hD.sub [0, 1] (by decide) rfl) hS (lv_sub hl [0, 1, 2, 3, 4] rfl)
        intro y_7 su_8 hyz_9 hsp_10 hsu_11 hx12 hx13 H locs ls hP hD hS hl
        refine lv_iload_n hx hb dX11_takesWord_80 rfl (lv_at hl 1 rfl) ?_
        refine lv_iload_n hx hb dX11_takesWord_81 rfl (lv_at hl 4 rfl) ?_
        refine lv_icmp_ne (tgt := 91) hx hb dX11_takesWord_82 (by decide) (fun hc14 => ?_) (fun hc14 => ?_)
        ·
          refine lv_iconst (v := 0) hx hb dX11_takesWord_91 (by decide) ?_
          have hSP : spE (ltB bt) zs w2 = w2 + y_7 := hsp_10.trans hx13
          exact W.zret (v := 0) hx hb hr rfl (fun t ht hW => ⟨⟨0, (w2, en), rfl, (by (try dsimp only); exact Or.inr ⟨rfl, by omega, by omega, hn3_e, rfl, fun _ q => by
              unfold WdP at q
              rw [← hn3_e, hSP, Nat.add_sub_cancel_left] at q
              exact hc14 ((hsu_11.1 q.2.2.2.1).trans ((congrArg nI q.2.2.2.2).trans hz.symm))⟩), by rw [ht]; exact hP.sub [0, 1] rfl, va_K.moved hW.alike (hK.sub [0] rfl), hD.sub [0, 1] (by decide) rfl⟩, hS.F ht⟩) hS.2.2 dX11_takesWord_92
        ·
          refine lv_iload hx hb dX11_takesWord_85 (lv_at hl 0 rfl) ?_
          refine lv_iconst (v := 5) hx hb dX11_takesWord_87 (by decide) ?_
          refine lv_icmp_le (tgt := 93) hx hb dX11_takesWord_88 (by decide) (fun hc15 => ?_) (fun hc15 => ?_)
          ·
            have hle5 : y_7 ≤ 5 := (nI_leI (b := 5) (by omega) (by decide)).mp hc15
            refine lv_aload_n hx hb dX11_takesWord_93 rfl (lv_at hl 3 rfl) ?_
            refine lv_iload_n hx hb dX11_takesWord_94 rfl (lv_at hl 2 rfl) ?_
            refine lv_iload hx hb dX11_takesWord_95 (lv_at hl 0 rfl) ?_
            refine lv_iadd hx hb dX11_takesWord_97 ?_
            refine lv_topi (fun v16 ev16 => ?_)
            obtain rfl : v16 = nI (w2 + y_7) := ev16.trans (nI_add _ _)
            refine va_put (D := D) (ci := 11) (v := .int (nI (w2 + y_7))) (ty := .int) (C := RX11) (T := TX11) (N := 47) hx hb hts hin_X11 tyX11 tyX11_ok nmX11 hown hK hP hD hS 0 rfl rfl 22 (by decide) (hts (.fieldLink RX11 303 "ClashFreeModel" "at" "I") (List.mem_of_getElem? (i := 13) rfl)) (fun _ h9 => h9) rfl (by decide +kernel) rfl rfl (Nat.le_of_ble_eq_true rfl) dX11_takesWord_98 (fun H locs hP hD hS => ?_)
            have hP : va_P D vwCl [(h0, .inr (11, gP a i g (nI cd) (nI zs) (nI (w2 + y_7)) en bd bp bq (nI bk) (nI pl) br)), (a 1, .inl (cm 1, 1400, .inl fT))] H := hP
            have hD : va_D A [(h0, .inr (11, gP a i g (nI cd) (nI zs) (nI (w2 + y_7)) en bd bp bq (nI bk) (nI pl) br)), (a 1, .inl (cm 1, 1400, .inl fT))] := hD
            refine lv_aload_n hx hb dX11_takesWord_101 rfl (lv_at hl 3 rfl) ?_
            refine lv_aload_n hx hb dX11_takesWord_102 rfl (lv_at hl 3 rfl) ?_
            refine va_get (D := D) (ci := 11) (v := .int (nI (w2 + y_7))) (C := RX11) (T := TX11) (N := 47) hx hb hts hin_X11 hown hK hP 0 rfl rfl 22 (by decide) (hts (.fieldLink RX11 303 "ClashFreeModel" "at" "I") (List.mem_of_getElem? (i := 13) rfl)) (fun _ h9 => h9) rfl dX11_takesWord_103 ?_
            refine va_put (D := D) (ci := 11) (v := .int (nI (w2 + y_7))) (ty := .int) (C := RX11) (T := TX11) (N := 47) hx hb hts hin_X11 tyX11 tyX11_ok nmX11 hown hK hP hD hS 0 rfl rfl 23 (by decide) (hts (.fieldLink RX11 326 "ClashFreeModel" "ended" "I") (List.mem_of_getElem? (i := 12) rfl)) (fun _ h9 => h9) rfl (by decide +kernel) rfl rfl (Nat.le_of_ble_eq_true rfl) dX11_takesWord_106 (fun H locs hP hD hS => ?_)
            have hP : va_P D vwCl [(h0, .inr (11, gP a i g (nI cd) (nI zs) (nI (w2 + y_7)) (nI (w2 + y_7)) bd bp bq (nI bk) (nI pl) br)), (a 1, .inl (cm 1, 1400, .inl fT))] H := hP
            have hD : va_D A [(h0, .inr (11, gP a i g (nI cd) (nI zs) (nI (w2 + y_7)) (nI (w2 + y_7)) bd bp bq (nI bk) (nI pl) br)), (a 1, .inl (cm 1, 1400, .inl fT))] := hD
            refine lv_iconst (v := 1) hx hb dX11_takesWord_109 (by decide) ?_
            have hSP : spE (ltB bt) zs w2 = w2 + y_7 := hsp_10.trans hx13
            have hall : ∀ j, j < y_7 → ltB bt (w2 + j) = true := fun j hj => sp_all (f := ltB bt) (p := w2) (n := zs) (by omega) (w2 + j) (by omega) (by rw [hSP]; omega)
            have hb1 := wc_b hall hle5
            have hb2 := wcK_b kk
            have hWd : WdP bt zs ta en kk := by
              unfold WdP
              rw [← hn3_e, hSP, Nat.add_sub_cancel_left]
              exact ⟨((letP hbt).mp hA_r5).1, ((letP hbt).mp hA_r5).2, hc6, hle5, (nI_eq (by omega) (by omega)).mp ((hsu_11.1 hle5).symm.trans (hc14.trans hz))⟩
            exact W.zret (v := 1) hx hb hr rfl (fun t ht hW => ⟨⟨1, ((w2 + y_7), (nI (w2 + y_7))), rfl, (by (try dsimp only); exact Or.inl ⟨rfl, hA_r4, by omega, by omega, by rw [← hn3_e]; exact hSP.symm, rfl, hWd⟩), by rw [ht]; exact hP.sub [0, 1] rfl, va_K.moved hW.alike (hK.sub [0] rfl), hD.sub [0, 1] (by decide) rfl⟩, hS.F ht⟩) hS.2.2 dX11_takesWord_110
          ·
            have hgt5 : 5 < y_7 := by
              rcases Nat.lt_or_ge 5 y_7 with z | z
              · exact z
              · exact absurd (nI_le (b := 5) z (by decide)) hc15
            refine lv_iconst (v := 0) hx hb dX11_takesWord_91 (by decide) ?_
            have hSP : spE (ltB bt) zs w2 = w2 + y_7 := hsp_10.trans hx13
            exact W.zret (v := 0) hx hb hr rfl (fun t ht hW => ⟨⟨0, (w2, en), rfl, (by (try dsimp only); exact Or.inr ⟨rfl, by omega, by omega, hn3_e, rfl, fun _ q => by
                unfold WdP at q
                rw [← hn3_e, hSP, Nat.add_sub_cancel_left] at q
                exact absurd q.2.2.2.1 (by omega)⟩), by rw [ht]; exact hP.sub [0, 1] rfl, va_K.moved hW.alike (hK.sub [0] rfl), hD.sub [0, 1] (by decide) rfl⟩, hS.F ht⟩) hS.2.2 dX11_takesWord_92
      ·
        refine lv_iconst (v := 0) hx hb dX11_takesWord_28 (by decide) ?_
        exact W.zret (v := 0) hx hb hr rfl (fun t ht hW => ⟨⟨0, (w2, en), rfl, (by (try dsimp only); exact Or.inr ⟨rfl, by omega, by omega, hn3_e, rfl, fun _ q => by
            unfold WdP at q
            rw [← hn3_e] at q
            exact q.2.2.1 hc6⟩), by rw [ht]; exact hP.sub [0, 1] rfl, va_K.moved hW.alike (hK.sub [0] rfl), hD.sub [0, 1] (by decide) rfl⟩, hS.F ht⟩) hS.2.2 dX11_takesWord_29
    ·
      refine lv_if_eq (tgt := 28) hx hb dX11_takesWord_17 (by decide) (fun hc => ?_) (fun hc => absurd (by decide) hc)
      refine lv_iconst (v := 0) hx hb dX11_takesWord_28 (by decide) ?_
      exact W.zret (v := 0) hx hb hr rfl (fun t ht hW => ⟨⟨0, (w2, en), rfl, (by (try dsimp only); exact Or.inr ⟨rfl, by omega, by omega, hn3_e, rfl, fun _ q => by
          unfold WdP at q
          rw [← hn3_e] at q
          exact hA_r5 ((letP hbt).mpr ⟨q.1, q.2.1⟩)⟩), by rw [ht]; exact hP.sub [0, 1] rfl, va_K.moved hW.alike (hK.sub [0] rfl), hD.sub [0, 1] (by decide) rfl⟩, hS.F ht⟩) hS.2.2 dX11_takesWord_29
  ·
    refine lv_if_eq (tgt := 28) hx hb dX11_takesWord_9 (by decide) (fun hc => ?_) (fun hc => absurd (by decide) hc)
    refine lv_iconst (v := 0) hx hb dX11_takesWord_28 (by decide) ?_
    exact W.zret (v := 0) hx hb hr rfl (fun t ht hW => ⟨⟨0, (w2, en), rfl, (by (try dsimp only); exact Or.inr ⟨rfl, by omega, by omega, hn3_e, rfl, fun z => absurd z hA_r4⟩), by rw [ht]; exact hP.sub [0, 1] rfl, va_K.moved hW.alike (hK.sub [0] rfl), hD.sub [0, 1] (by decide) rfl⟩, hS.F ht⟩) hS.2.2 dX11_takesWord_29

def own_c_asks : List Cond := [.methodLink RX11 313 yX11_isFine, .instanceMethod yX11_isFine, .selects RX11 yX11_isFine yX11_isFine, .initialized RX11, .methodLink RX11 329 yX11_takesWord, .instanceMethod yX11_takesWord, .selects RX11 yX11_takesWord yX11_takesWord, .methodLink RX11 320 yX11_unlike, .instanceMethod yX11_unlike, .selects RX11 yX11_unlike yX11_unlike]
def wp_c_asks : List Cond := .code yX11_asks cX11_asks 2 none :: (own_c_asks ++ (wp_c_isFine ++ (wp_c_takesWord ++ (wp_c_unlike ++ ([] : List Cond)))))
set_option maxRecDepth 20000 in
theorem inown_c_asks : ∀ w ∈ own_c_asks, w ∈ lw_tbl := mem_places [1669, 1671, 74, 115, 1701, 1703, 82, 1693, 1695, 80] (by decide +kernel)
set_option maxRecDepth 20000 in
theorem in_c_asks : ∀ w ∈ wp_c_asks, w ∈ lw_tbl := List.forall_mem_cons.mpr ⟨List.mem_of_getElem? (i := 1745) (by decide +kernel), List.forall_mem_append.mpr ⟨inown_c_asks, List.forall_mem_append.mpr ⟨in_c_isFine, List.forall_mem_append.mpr ⟨in_c_takesWord, List.forall_mem_append.mpr ⟨in_c_unlike, fun _ h => absurd h List.not_mem_nil⟩⟩⟩⟩⟩
set_option maxRecDepth 20000 in
theorem good_c_asks : wp_c_asks.all goodWord = true := by decide +kernel
set_option maxRecDepth 20000 in
theorem g_c_asks_c_isFine_313 : GoodIn wp_c_asks (wsV RX11 313 RX11 yX11_isFine wp_c_isFine) := goodIn_sub (List.forall_mem_append.mpr ⟨List.forall_mem_cons.mpr ⟨(List.mem_of_getElem? (i := 1) rfl), List.forall_mem_cons.mpr ⟨(List.mem_of_getElem? (i := 2) rfl), List.forall_mem_cons.mpr ⟨(List.mem_of_getElem? (i := 3) rfl), List.forall_mem_cons.mpr ⟨(List.mem_of_getElem? (i := 4) rfl), fun _ h => absurd h List.not_mem_nil⟩⟩⟩⟩, (fun _ h => (List.mem_cons_of_mem _ (List.mem_append_right _ (List.mem_append_left _ h))))⟩) (by decide +kernel)
set_option maxRecDepth 20000 in
theorem g_c_asks_c_takesWord_329 : GoodIn wp_c_asks (wsV RX11 329 RX11 yX11_takesWord wp_c_takesWord) := goodIn_sub (List.forall_mem_append.mpr ⟨List.forall_mem_cons.mpr ⟨(List.mem_of_getElem? (i := 5) rfl), List.forall_mem_cons.mpr ⟨(List.mem_of_getElem? (i := 6) rfl), List.forall_mem_cons.mpr ⟨(List.mem_of_getElem? (i := 7) rfl), List.forall_mem_cons.mpr ⟨(List.mem_of_getElem? (i := 4) rfl), fun _ h => absurd h List.not_mem_nil⟩⟩⟩⟩, (fun _ h => (List.mem_cons_of_mem _ (List.mem_append_right _ (List.mem_append_right _ (List.mem_append_left _ h)))))⟩) (by decide +kernel)
set_option maxRecDepth 20000 in
theorem g_c_asks_c_unlike_320 : GoodIn wp_c_asks (wsV RX11 320 RX11 yX11_unlike wp_c_unlike) := goodIn_sub (List.forall_mem_append.mpr ⟨List.forall_mem_cons.mpr ⟨(List.mem_of_getElem? (i := 8) rfl), List.forall_mem_cons.mpr ⟨(List.mem_of_getElem? (i := 9) rfl), List.forall_mem_cons.mpr ⟨(List.mem_of_getElem? (i := 10) rfl), List.forall_mem_cons.mpr ⟨(List.mem_of_getElem? (i := 4) rfl), fun _ h => absurd h List.not_mem_nil⟩⟩⟩⟩, (fun _ h => (List.mem_cons_of_mem _ (List.mem_append_right _ (List.mem_append_right _ (List.mem_append_right _ (List.mem_append_left _ h))))))⟩) (by decide +kernel)
set_option maxHeartbeats 4000000 in
set_option maxRecDepth 100000 in
theorem c_asks (l : Launch) (D : va_G) (sz : Nat) (h0 : Nat) (a : Nat → Nat) (cm : Nat → ClassId) (i : Nat → Int32) (g : Nat → Int64) (fT : Nat → Int32) (cd : Nat) (zs : Nat) (ta : Nat) (en : Int32) (bd : Int32) (bp : Int32) (bq : Int32) (bk : Nat) (pl : Nat) (br : Int32) (bt : Nat → Nat) (fc : Nat → Int32) (fo : Nat → Int32) (vz : Option (SM × RC)) (hzs : zs ≤ 1400) (hta : ta ≤ zs) (hbt : TieB fT bt) (hV : bd = 0 → SR bt zs vz 3 cd fc bk fo ta en) (hVn : ¬ bd = 0 → vz = none) : Met l yX11_asks wp_c_asks ({ frames := 5, cells := 0, slots := 0, locals := 134 }) (PcW D [.ref h0, .int 51] sz [(h0, .inr (11, gP a i g (nI cd) (nI zs) (nI ta) en bd bp bq (nI bk) (nI pl) br)), (a 1, .inl (cm 1, 1400, .inl fT))] [(cm 1, .byte)]) (va_Qv (fun (u : (Nat) × (Int32) × (Int32) × (Int32) × (Int32)) => ta ≤ u.1 ∧ u.1 ≤ zs ∧ (u.2.2.1 = 0 → bd = 0) ∧ (u.2.2.1 = 0 → TR bt zs vz 1 4 cd fc bk fo u.1 u.2.1) ∧ (¬ u.2.2.1 = 0 → vz = none)) (fun (u : (Nat) × (Int32) × (Int32) × (Int32) × (Int32)) t => va_P D vwCl [(h0, .inr (11, gP a i g (nI cd) (nI zs) (nI u.1) u.2.1 u.2.2.1 u.2.2.2.1 u.2.2.2.2 (nI bk) (nI pl) br)), (a 1, .inl (cm 1, 1400, .inl fT))] t.heap ∧ va_K D vwCl [(cm 1, .byte)] t ∧ va_D (va_A [(h0, .inr (11, gP a i g (nI cd) (nI zs) (nI ta) en bd bp bq (nI bk) (nI pl) br)), (a 1, .inl (cm 1, 1400, .inl fT))] sz) [(h0, .inr (11, gP a i g (nI cd) (nI zs) (nI u.1) u.2.1 u.2.2.1 u.2.2.2.1 u.2.2.2.2 (nI bk) (nI pl) br)), (a 1, .inl (cm 1, 1400, .inl fT))]) (va_A [(h0, .inr (11, gP a i g (nI cd) (nI zs) (nI ta) en bd bp bq (nI bk) (nI pl) br)), (a 1, .inl (cm 1, 1400, .inl fT))] sz)) 0 0 (va_A [(h0, .inr (11, gP a i g (nI cd) (nI zs) (nI ta) en bd bp bq (nI bk) (nI pl) br)), (a 1, .inl (cm 1, 1400, .inl fT))] sz) := by
  refine Met.ofW (cc := cX11_asks) (maxL := 2) (ret := none) (by decide) rfl ?_
  intro p e s m args below meth c s₁ B hml hv
  obtain ⟨rfl, hsz, hP, hK, hD0⟩ := hv
  have hx := B.exec
  have hb := B.bytes
  have hr := B.returns
  have hts := atoms_spec (ws := wp_c_asks) B.pre
  have hown : s.vm.findClass RX11 = some m.cls := findClass_of_methodNamed B.named
  have hlocks := B.notSynchronized
  subst hsz
  have hD := hD0.self (sz := s.heap.size)
  generalize hAe : va_A [(h0, .inr (11, gP a i g (nI cd) (nI zs) (nI ta) en bd bp bq (nI bk) (nI pl) br)), (a 1, .inl (cm 1, 1400, .inl fT))] s.heap.size = A at hD ⊢
  have hA : ∀ q : Nat, s.heap.size ≤ q → A q := fun q h => by rw [← hAe]; exact Or.inr h
  have hS : va_S A s.heap s.heap [] := va_S.rf
  have hP : va_P D vwCl [(h0, .inr (11, gP a i g (nI cd) (nI zs) (nI ta) en bd bp bq (nI bk) (nI pl) br)), (a 1, .inl (cm 1, 1400, .inl fT))] s.heap := hP
  have hl := lv_entry ([.ref h0, .int 51]) (n := 2) (Nat.le_of_ble_eq_true rfl)
  rw [lg_entry_eq]
  generalize (lg_sl ([.ref h0, .int 51]) ++ List.replicate (2 - (lg_sl ([.ref h0, .int 51])).length) Slot.unset).toArray = ls at hl ⊢
  have hl : lv_has ls 2 [(0, .ref h0), (1, .int 51)] := hl
  refine lv_aload_n hx hb dX11_asks_0 rfl (lv_at hl 0 rfl) ?_
  have hPc := hP.sub (ws' := [(h0, .inr (11, gP a i g (nI cd) (nI zs) (nI ta) en bd bp bq (nI bk) (nI pl) br))]) [0] rfl
  have hKc := hK.sub (tys' := []) [] rfl
  have hFc := va_free0 hS hA
  refine va_calli (va_runV (As := []) (rest := []) ⟨hx, hb, hml, hown, hts⟩ (c_isFine l D _ h0 a cm i g cd zs ta en bd bp bq bk pl br) (cwV 0 hts g_c_asks_c_isFine_313 rfl rfl rfl (by decide +kernel) ⟨(Nat.le_of_ble_eq_true rfl), (Nat.le_of_ble_eq_true rfl)⟩) (PcR_V (q0 := 0) hPc hKc rfl rfl) rfl rfl hl.1 rfl (lv_room (Nat.le_of_ble_eq_true rfl)) dX11_asks_1 ⟨(Nat.le_of_ble_eq_true rfl), (Nat.le_of_ble_eq_true rfl)⟩) hS (fun q _ h => hFc q h) hFc (fun r1 uu tt H locs htt hvm hw hB hz1 hk1 hS => ?_)
  have hP := va_keep hP hk1
  try dsimp only at hw
  clear hB hz1 hk1 hFc hPc hKc
  rcases hw with ⟨rfl, hA_r1⟩ | ⟨rfl, hA_r1⟩
  ·
    refine lv_if_eq (tgt := 19) hx hb dX11_asks_4 (by decide) (fun hc => absurd hc (by decide)) (fun hc => ?_)
    refine lv_aload_n hx hb dX11_asks_7 rfl (lv_at hl 0 rfl) ?_
    refine lv_iload_n hx hb dX11_asks_8 rfl (lv_at hl 1 rfl) ?_
    have hPc := hP.sub (ws' := [(h0, .inr (11, gP a i g (nI cd) (nI zs) (nI ta) en bd bp bq (nI bk) (nI pl) br)), (a 1, .inl (cm 1, 1400, .inl fT))]) [0, 1] rfl
    have hKc := hK.sub (tys' := [(cm 1, .byte)]) [0] rfl
    have hDc := hD.sub (ws' := [(h0, .inr (11, gP a i g (nI cd) (nI zs) (nI ta) en bd bp bq (nI bk) (nI pl) br)), (a 1, .inl (cm 1, 1400, .inl fT))]) [0, 1] (by decide) rfl
    have hFc := va_free (wc := [(h0, .inr (11, gP a i g (nI cd) (nI zs) (nI ta) en bd bp bq (nI bk) (nI pl) br)), (a 1, .inl (cm 1, 1400, .inl fT))]) hD hS hA [0, 1] rfl
    refine va_calli (va_runV (As := [.int 51]) (rest := []) ⟨hx, hb, hml, hown, hts⟩ (c_takesWord l D _ h0 a cm i g fT cd zs ta en bd bp bq bk pl br 51 4 bt (by omega) (by omega) hbt rfl) (cwV 1 hts g_c_asks_c_takesWord_329 rfl rfl rfl (by decide +kernel) ⟨(Nat.le_of_ble_eq_true rfl), (Nat.le_of_ble_eq_true rfl)⟩) (PcW_V (q0 := 0) hPc hKc hDc rfl rfl) rfl rfl hl.1 rfl (lv_room (Nat.le_of_ble_eq_true rfl)) dX11_asks_9 ⟨(Nat.le_of_ble_eq_true rfl), (Nat.le_of_ble_eq_true rfl)⟩) hS (fun q _ h => hFc q h) hFc (fun r2 uu tt H locs htt hvm hw hB hz1 hk1 hS => ?_)
    obtain ⟨w3, w4⟩ := uu
    obtain ⟨hP1, hK1, hD1⟩ := hB
    rw [htt] at hP1
    have hK1 := va_K.moved hvm.symm hK1
    have hP1 : va_P D vwCl [(h0, .inr (11, gP a i g (nI cd) (nI zs) (nI w3) w4 bd bp bq (nI bk) (nI pl) br)), (a 1, .inl (cm 1, 1400, .inl fT))] H := hP1
    obtain ⟨hP, hD⟩ := va_join (wr := []) (w1 := [(h0, .inr (11, gP a i g (nI cd) (nI zs) (nI w3) w4 bd bp bq (nI bk) (nI pl) br)), (a 1, .inl (cm 1, 1400, .inl fT))]) hP hD [0, 1] [] rfl rfl (by decide) (by decide) hk1 hFc hP1 hD1
    have hP : va_P D vwCl [(h0, .inr (11, gP a i g (nI cd) (nI zs) (nI w3) w4 bd bp bq (nI bk) (nI pl) br)), (a 1, .inl (cm 1, 1400, .inl fT))] H := hP
    have hD : va_D A [(h0, .inr (11, gP a i g (nI cd) (nI zs) (nI w3) w4 bd bp bq (nI bk) (nI pl) br)), (a 1, .inl (cm 1, 1400, .inl fT))] := hD
    try dsimp only at hw
    clear hz1 hk1 hFc hPc hKc hDc
    rcases hw with ⟨rfl, hA_r2⟩ | ⟨rfl, hA_r2⟩
    ·
      obtain ⟨hA_r2_0, hA_r2_1, hA_r2_2, hA_r2_e, hA_r2_n, hA_r2_w⟩ := hA_r2
      refine lv_if_ne (tgt := 19) hx hb dX11_asks_12 (by decide) (fun hc => ?_) (fun hc => absurd hc (by decide))
      exact W.vret hx hb hr (fun t ht hW => ⟨⟨(w3, w4, bd, bp, bq), rfl, (by (try dsimp only); exact ⟨by omega, by omega, fun _ => hA_r1, fun _ => by rw [hA_r2_n, hA_r2_e]; exact ((hV hA_r1).as hzs).1 hA_r2_w, fun z => absurd hA_r1 z⟩), by rw [ht]; exact hP.sub [0, 1] rfl, va_K.moved hW.alike (hK.sub [0] rfl), hD.sub [0, 1] (by decide) rfl⟩, hS.F ht⟩) hS.2.2 dX11_asks_19
    ·
      obtain ⟨hA_r2_1, hA_r2_2, hA_r2_e, hA_r2_n, hA_r2_w⟩ := hA_r2
      refine lv_if_ne (tgt := 19) hx hb dX11_asks_12 (by decide) (fun hc => absurd (by decide) hc) (fun hc => ?_)
      refine lv_aload_n hx hb dX11_asks_15 rfl (lv_at hl 0 rfl) ?_
      have hPc := hP.sub (ws' := [(h0, .inr (11, gP a i g (nI cd) (nI zs) (nI w3) w4 bd bp bq (nI bk) (nI pl) br)), (a 1, .inl (cm 1, 1400, .inl fT))]) [0, 1] rfl
      have hKc := hK.sub (tys' := [(cm 1, .byte)]) [0] rfl
      have hDc := hD.sub (ws' := [(h0, .inr (11, gP a i g (nI cd) (nI zs) (nI w3) w4 bd bp bq (nI bk) (nI pl) br)), (a 1, .inl (cm 1, 1400, .inl fT))]) [0, 1] (by decide) rfl
      have hFc := va_free (wc := [(h0, .inr (11, gP a i g (nI cd) (nI zs) (nI w3) w4 bd bp bq (nI bk) (nI pl) br)), (a 1, .inl (cm 1, 1400, .inl fT))]) hD hS hA [0, 1] rfl
      refine va_callv (va_runV (As := []) (rest := []) ⟨hx, hb, hml, hown, hts⟩ (c_unlike l D _ h0 a cm i g fT cd zs w3 w4 bd bp bq bk pl br bt (by omega) (by omega) hbt) (cwV 0 hts g_c_asks_c_unlike_320 rfl rfl rfl (by decide +kernel) ⟨(Nat.le_of_ble_eq_true rfl), (Nat.le_of_ble_eq_true rfl)⟩) (PcW_V (q0 := 0) hPc hKc hDc rfl rfl) rfl rfl hl.1 rfl (lv_room (Nat.le_of_ble_eq_true rfl)) dX11_asks_16 ⟨(Nat.le_of_ble_eq_true rfl), (Nat.le_of_ble_eq_true rfl)⟩) hS (fun q _ h => hFc q h) hFc (fun uu tt H locs htt hvm hw hB hz1 hk1 hS => ?_)
      obtain ⟨w6, w7, w8, w9⟩ := uu
      obtain ⟨hP1, hK1, hD1⟩ := hB
      rw [htt] at hP1
      have hK1 := va_K.moved hvm.symm hK1
      have hP1 : va_P D vwCl [(h0, .inr (11, gP a i g (nI cd) (nI zs) (nI w6) w4 w7 w8 w9 (nI bk) (nI pl) br)), (a 1, .inl (cm 1, 1400, .inl fT))] H := hP1
      obtain ⟨hP, hD⟩ := va_join (wr := []) (w1 := [(h0, .inr (11, gP a i g (nI cd) (nI zs) (nI w6) w4 w7 w8 w9 (nI bk) (nI pl) br)), (a 1, .inl (cm 1, 1400, .inl fT))]) hP hD [0, 1] [] rfl rfl (by decide) (by decide) hk1 hFc hP1 hD1
      have hP : va_P D vwCl [(h0, .inr (11, gP a i g (nI cd) (nI zs) (nI w6) w4 w7 w8 w9 (nI bk) (nI pl) br)), (a 1, .inl (cm 1, 1400, .inl fT))] H := hP
      have hD : va_D A [(h0, .inr (11, gP a i g (nI cd) (nI zs) (nI w6) w4 w7 w8 w9 (nI bk) (nI pl) br)), (a 1, .inl (cm 1, 1400, .inl fT))] := hD
      try dsimp only at hw
      clear hz1 hk1 hFc hPc hKc hDc
      obtain ⟨hb10_b, hb10_1, hb10_2⟩ := hw
      exact W.vret hx hb hr (fun t ht hW => ⟨⟨(w6, w4, w7, w8, w9), rfl, (by (try dsimp only); exact ⟨by omega, by omega, fun z => absurd z hb10_b, fun z => absurd z hb10_b, fun _ => ((hV hA_r1).as hzs).2 (hA_r2_w hA_r1)⟩), by rw [ht]; exact hP.sub [0, 1] rfl, va_K.moved hW.alike (hK.sub [0] rfl), hD.sub [0, 1] (by decide) rfl⟩, hS.F ht⟩) hS.2.2 dX11_asks_19
  ·
    refine lv_if_eq (tgt := 19) hx hb dX11_asks_4 (by decide) (fun hc => ?_) (fun hc => absurd (by decide) hc)
    exact W.vret hx hb hr (fun t ht hW => ⟨⟨(ta, en, bd, bp, bq), rfl, (by (try dsimp only); exact ⟨by omega, by omega, fun z => absurd z hA_r1, fun z => absurd z hA_r1, hVn⟩), by rw [ht]; exact hP.sub [0, 1] rfl, va_K.moved hW.alike (hK.sub [0] rfl), hD.sub [0, 1] (by decide) rfl⟩, hS.F ht⟩) hS.2.2 dX11_asks_19

