theorem dX11_sum_0 : decode cX11_sum 0 = .ok (.aload_n 0, 1) := by decide +kernel
theorem dX11_sum_1 : decode cX11_sum 1 = .ok (.iconst 0, 1) := by decide +kernel
theorem dX11_sum_2 : decode cX11_sum 2 = .ok (.putfield 341, 3) := by decide +kernel
theorem dX11_sum_5 : decode cX11_sum 5 = .ok (.aload_n 0, 1) := by decide +kernel
theorem dX11_sum_6 : decode cX11_sum 6 = .ok (.iconst 0, 1) := by decide +kernel
theorem dX11_sum_7 : decode cX11_sum 7 = .ok (.putfield 338, 3) := by decide +kernel
theorem dX11_sum_10 : decode cX11_sum 10 = .ok (.iconst 1, 1) := by decide +kernel
theorem dX11_sum_11 : decode cX11_sum 11 = .ok (.istore_n 1, 1) := by decide +kernel
theorem dX11_sum_12 : decode cX11_sum 12 = .ok (.aload_n 0, 1) := by decide +kernel
theorem dX11_sum_13 : decode cX11_sum 13 = .ok (.invokevirtual 351, 3) := by decide +kernel
theorem dX11_sum_16 : decode cX11_sum 16 = .ok (.aload_n 0, 1) := by decide +kernel
theorem dX11_sum_17 : decode cX11_sum 17 = .ok (.invokevirtual 313, 3) := by decide +kernel
theorem dX11_sum_20 : decode cX11_sum 20 = .ok (.ifCond .eq 101, 3) := by decide +kernel
theorem dX11_sum_23 : decode cX11_sum 23 = .ok (.iload_n 1, 1) := by decide +kernel
theorem dX11_sum_24 : decode cX11_sum 24 = .ok (.ifCond .eq 97, 3) := by decide +kernel
theorem dX11_sum_27 : decode cX11_sum 27 = .ok (.aload_n 0, 1) := by decide +kernel
theorem dX11_sum_28 : decode cX11_sum 28 = .ok (.invokevirtual 354, 3) := by decide +kernel
theorem dX11_sum_31 : decode cX11_sum 31 = .ok (.istore_n 2, 1) := by decide +kernel
theorem dX11_sum_32 : decode cX11_sum 32 = .ok (.iload_n 2, 1) := by decide +kernel
theorem dX11_sum_33 : decode cX11_sum 33 = .ok (.iconst (-1), 1) := by decide +kernel
theorem dX11_sum_34 : decode cX11_sum 34 = .ok (.if_icmp .eq 57, 3) := by decide +kernel
theorem dX11_sum_37 : decode cX11_sum 37 = .ok (.aload_n 0, 1) := by decide +kernel
theorem dX11_sum_38 : decode cX11_sum 38 = .ok (.iload_n 2, 1) := by decide +kernel
theorem dX11_sum_39 : decode cX11_sum 39 = .ok (.bipush 15, 2) := by decide +kernel
theorem dX11_sum_41 : decode cX11_sum 41 = .ok (.if_icmp .ge 8, 3) := by decide +kernel
theorem dX11_sum_44 : decode cX11_sum 44 = .ok (.bipush 13, 2) := by decide +kernel
theorem dX11_sum_46 : decode cX11_sum 46 = .ok (.goto 5, 3) := by decide +kernel
theorem dX11_sum_49 : decode cX11_sum 49 = .ok (.bipush 15, 2) := by decide +kernel
theorem dX11_sum_51 : decode cX11_sum 51 = .ok (.invokevirtual 357, 3) := by decide +kernel
theorem dX11_sum_54 : decode cX11_sum 54 = .ok (.aload_n 0, 1) := by decide +kernel
theorem dX11_sum_55 : decode cX11_sum 55 = .ok (.dup, 1) := by decide +kernel
theorem dX11_sum_56 : decode cX11_sum 56 = .ok (.getfield 303, 3) := by decide +kernel
theorem dX11_sum_59 : decode cX11_sum 59 = .ok (.iconst 1, 1) := by decide +kernel
theorem dX11_sum_60 : decode cX11_sum 60 = .ok (.iadd, 1) := by decide +kernel
theorem dX11_sum_61 : decode cX11_sum 61 = .ok (.putfield 303, 3) := by decide +kernel
theorem dX11_sum_64 : decode cX11_sum 64 = .ok (.aload_n 0, 1) := by decide +kernel
theorem dX11_sum_65 : decode cX11_sum 65 = .ok (.getfield 51, 3) := by decide +kernel
theorem dX11_sum_68 : decode cX11_sum 68 = .ok (.aload_n 0, 1) := by decide +kernel
theorem dX11_sum_69 : decode cX11_sum 69 = .ok (.getfield 341, 3) := by decide +kernel
theorem dX11_sum_72 : decode cX11_sum 72 = .ok (.iload_n 2, 1) := by decide +kernel
theorem dX11_sum_73 : decode cX11_sum 73 = .ok (.iastore, 1) := by decide +kernel
theorem dX11_sum_74 : decode cX11_sum 74 = .ok (.aload_n 0, 1) := by decide +kernel
theorem dX11_sum_75 : decode cX11_sum 75 = .ok (.dup, 1) := by decide +kernel
theorem dX11_sum_76 : decode cX11_sum 76 = .ok (.getfield 341, 3) := by decide +kernel
theorem dX11_sum_79 : decode cX11_sum 79 = .ok (.iconst 1, 1) := by decide +kernel
theorem dX11_sum_80 : decode cX11_sum 80 = .ok (.iadd, 1) := by decide +kernel
theorem dX11_sum_81 : decode cX11_sum 81 = .ok (.putfield 341, 3) := by decide +kernel
theorem dX11_sum_84 : decode cX11_sum 84 = .ok (.aload_n 0, 1) := by decide +kernel
theorem dX11_sum_85 : decode cX11_sum 85 = .ok (.invokevirtual 351, 3) := by decide +kernel
theorem dX11_sum_88 : decode cX11_sum 88 = .ok (.goto 30, 3) := by decide +kernel
theorem dX11_sum_91 : decode cX11_sum 91 = .ok (.aload_n 0, 1) := by decide +kernel
theorem dX11_sum_92 : decode cX11_sum 92 = .ok (.bipush 13, 2) := by decide +kernel
theorem dX11_sum_94 : decode cX11_sum 94 = .ok (.invokevirtual 357, 3) := by decide +kernel
theorem dX11_sum_97 : decode cX11_sum 97 = .ok (.aload_n 0, 1) := by decide +kernel
theorem dX11_sum_98 : decode cX11_sum 98 = .ok (.getfield 341, 3) := by decide +kernel
theorem dX11_sum_101 : decode cX11_sum 101 = .ok (.ifCond .le 7, 3) := by decide +kernel
theorem dX11_sum_104 : decode cX11_sum 104 = .ok (.iconst 1, 1) := by decide +kernel
theorem dX11_sum_105 : decode cX11_sum 105 = .ok (.goto 4, 3) := by decide +kernel
theorem dX11_sum_108 : decode cX11_sum 108 = .ok (.iconst 0, 1) := by decide +kernel
theorem dX11_sum_109 : decode cX11_sum 109 = .ok (.istore_n 1, 1) := by decide +kernel
theorem dX11_sum_110 : decode cX11_sum 110 = .ok (.iload_n 1, 1) := by decide +kernel
theorem dX11_sum_111 : decode cX11_sum 111 = .ok (.ifCond .eq 7, 3) := by decide +kernel
theorem dX11_sum_114 : decode cX11_sum 114 = .ok (.aload_n 0, 1) := by decide +kernel
theorem dX11_sum_115 : decode cX11_sum 115 = .ok (.invokevirtual 360, 3) := by decide +kernel
theorem dX11_sum_118 : decode cX11_sum 118 = .ok (.goto (-102), 3) := by decide +kernel
theorem dX11_sum_121 : decode cX11_sum 121 = .ok (.return_, 1) := by decide +kernel
def own_c_sum : List Cond := [.methodLink RX11 313 yX11_isFine, .instanceMethod yX11_isFine, .selects RX11 yX11_isFine yX11_isFine, .initialized RX11, .methodLink RX11 354 yX11_signHere, .instanceMethod yX11_signHere, .selects RX11 yX11_signHere yX11_signHere, .methodLink RX11 357 yX11_works, .instanceMethod yX11_works, .selects RX11 yX11_works yX11_works, .fieldLink RX11 341 "ClashFreeModel" "piled" "I", .methodLink RX11 360 yX11_closesBracket, .instanceMethod yX11_closesBracket, .selects RX11 yX11_closesBracket yX11_closesBracket, .fieldLink RX11 303 "ClashFreeModel" "at" "I", .fieldLink RX11 51 "ClashFreeModel" "pile" "[I", .methodLink RX11 351 yX11_unit, .instanceMethod yX11_unit, .selects RX11 yX11_unit yX11_unit, .fieldLink RX11 338 "ClashFreeModel" "brackets" "I"]
def wp_c_sum : List Cond := .code yX11_sum cX11_sum 3 none :: (own_c_sum ++ (wp_c_isFine ++ (wp_c_signHere ++ (wp_c_works ++ (wp_c_closesBracket ++ (wp_c_unit ++ (wsX110 ++ ([] : List Cond))))))))
set_option maxRecDepth 20000 in
theorem inown_c_sum : ∀ w ∈ own_c_sum, w ∈ lw_tbl := mem_places [1669, 1671, 74, 115, 1730, 1732, 88, 1734, 1736, 89, 1246, 1738, 1740, 90, 1238, 1245, 1715, 1717, 85, 1247] (by decide +kernel)
set_option maxRecDepth 20000 in
theorem in_c_sum : ∀ w ∈ wp_c_sum, w ∈ lw_tbl := List.forall_mem_cons.mpr ⟨List.mem_of_getElem? (i := 1714) (by decide +kernel), List.forall_mem_append.mpr ⟨inown_c_sum, List.forall_mem_append.mpr ⟨in_c_isFine, List.forall_mem_append.mpr ⟨in_c_signHere, List.forall_mem_append.mpr ⟨in_c_works, List.forall_mem_append.mpr ⟨in_c_closesBracket, List.forall_mem_append.mpr ⟨in_c_unit, List.forall_mem_append.mpr ⟨lwb_X11, fun _ h => absurd h List.not_mem_nil⟩⟩⟩⟩⟩⟩⟩⟩
set_option maxRecDepth 20000 in
theorem good_c_sum : wp_c_sum.all goodWord = true := by decide +kernel
set_option maxRecDepth 20000 in
theorem g_c_sum_c_isFine_313 : GoodIn wp_c_sum (wsV RX11 313 RX11 yX11_isFine wp_c_isFine) := goodIn_sub (List.forall_mem_append.mpr ⟨List.forall_mem_cons.mpr ⟨(List.mem_of_getElem? (i := 1) rfl), List.forall_mem_cons.mpr ⟨(List.mem_of_getElem? (i := 2) rfl), List.forall_mem_cons.mpr ⟨(List.mem_of_getElem? (i := 3) rfl), List.forall_mem_cons.mpr ⟨(List.mem_of_getElem? (i := 4) rfl), fun _ h => absurd h List.not_mem_nil⟩⟩⟩⟩, (fun _ h => (List.mem_cons_of_mem _ (List.mem_append_right _ (List.mem_append_left _ h))))⟩) (by decide +kernel)
set_option maxRecDepth 20000 in
theorem g_c_sum_c_signHere_354 : GoodIn wp_c_sum (wsV RX11 354 RX11 yX11_signHere wp_c_signHere) := goodIn_sub (List.forall_mem_append.mpr ⟨List.forall_mem_cons.mpr ⟨(List.mem_of_getElem? (i := 5) rfl), List.forall_mem_cons.mpr ⟨(List.mem_of_getElem? (i := 6) rfl), List.forall_mem_cons.mpr ⟨(List.mem_of_getElem? (i := 7) rfl), List.forall_mem_cons.mpr ⟨(List.mem_of_getElem? (i := 4) rfl), fun _ h => absurd h List.not_mem_nil⟩⟩⟩⟩, (fun _ h => (List.mem_cons_of_mem _ (List.mem_append_right _ (List.mem_append_right _ (List.mem_append_left _ h)))))⟩) (by decide +kernel)
set_option maxRecDepth 20000 in
theorem g_c_sum_c_works_357 : GoodIn wp_c_sum (wsV RX11 357 RX11 yX11_works wp_c_works) := goodIn_sub (List.forall_mem_append.mpr ⟨List.forall_mem_cons.mpr ⟨(List.mem_of_getElem? (i := 8) rfl), List.forall_mem_cons.mpr ⟨(List.mem_of_getElem? (i := 9) rfl), List.forall_mem_cons.mpr ⟨(List.mem_of_getElem? (i := 10) rfl), List.forall_mem_cons.mpr ⟨(List.mem_of_getElem? (i := 4) rfl), fun _ h => absurd h List.not_mem_nil⟩⟩⟩⟩, (fun _ h => (List.mem_cons_of_mem _ (List.mem_append_right _ (List.mem_append_right _ (List.mem_append_right _ (List.mem_append_left _ h))))))⟩) (by decide +kernel)
set_option maxRecDepth 20000 in
theorem g_c_sum_c_closesBracket_360 : GoodIn wp_c_sum (wsV RX11 360 RX11 yX11_closesBracket wp_c_closesBracket) := goodIn_sub (List.forall_mem_append.mpr ⟨List.forall_mem_cons.mpr ⟨(List.mem_of_getElem? (i := 12) rfl), List.forall_mem_cons.mpr ⟨(List.mem_of_getElem? (i := 13) rfl), List.forall_mem_cons.mpr ⟨(List.mem_of_getElem? (i := 14) rfl), List.forall_mem_cons.mpr ⟨(List.mem_of_getElem? (i := 4) rfl), fun _ h => absurd h List.not_mem_nil⟩⟩⟩⟩, (fun _ h => (List.mem_cons_of_mem _ (List.mem_append_right _ (List.mem_append_right _ (List.mem_append_right _ (List.mem_append_right _ (List.mem_append_left _ h)))))))⟩) (by decide +kernel)
set_option maxRecDepth 20000 in
theorem g_c_sum_c_unit_351 : GoodIn wp_c_sum (wsV RX11 351 RX11 yX11_unit wp_c_unit) := goodIn_sub (List.forall_mem_append.mpr ⟨List.forall_mem_cons.mpr ⟨(List.mem_of_getElem? (i := 17) rfl), List.forall_mem_cons.mpr ⟨(List.mem_of_getElem? (i := 18) rfl), List.forall_mem_cons.mpr ⟨(List.mem_of_getElem? (i := 19) rfl), List.forall_mem_cons.mpr ⟨(List.mem_of_getElem? (i := 4) rfl), fun _ h => absurd h List.not_mem_nil⟩⟩⟩⟩, (fun _ h => (List.mem_cons_of_mem _ (List.mem_append_right _ (List.mem_append_right _ (List.mem_append_right _ (List.mem_append_right _ (List.mem_append_right _ (List.mem_append_left _ h))))))))⟩) (by decide +kernel)
set_option maxHeartbeats 4000000 in
set_option maxRecDepth 100000 in
theorem lp_sum (l : Launch) {p : Program} {e : Env} {s : State} {m : MethodId} {args : Array Value} {below : List Frame} {meth : Method} {c : Code} {Q : State → Prop} {A : Nat → Prop} (D : va_G) (h0 : Nat) (a : Nat → Nat) (cm : Nat → ClassId) (i : Nat → Int32) (g : Nat → Int64) (fT : Nat → Int32) (cd : Nat) (zs : Nat) (ta : Nat) (en : Int32) (bd : Int32) (bp : Int32) (bq : Int32) (bk : Nat) (pl : Nat) (br : Int32) (fo : Nat → Int32) (bs : Nat) (rs : Nat) (bt : Nat → Nat) (tS : Nat) (vz : Option (SM × RC)) (hz6 : zs ≤ 600) (hzs : zs ≤ 1400) (hbt : TieB fT bt) (hx : p.tables.exec = Jvm.exec) (hb : c.code = cX11_sum) (hml : c.maxLocals = 3) (hown : s.vm.findClass RX11 = some m.cls) (hts : ∀ w ∈ wp_c_sum, w.before args s = true) (hA : ∀ q, s.heap.size ≤ q → A q) (hK : va_K D vwCl [(cm 1, .byte), (cm 19, .int), (cm 29, .int)] s) (kx121 : ∀ (c2 : Nat), ∀ (ya : Nat), ∀ (yn : Int32), ∀ (yd : Int32), ∀ (ye : Int32), ∀ (yf : Int32), ∀ (yp : Nat), ∀ (yb : Int32), ∀ (gc : Nat → Int32), ∀ (gl : Nat → Int32), (ta ≤ ya ∧ ya ≤ zs ∧ c2 + rs ≤ ya) → (¬ yd = 0 → vz = none) → (yd = 0 → bd = 0 ∧ PSt gc fo c2 bk (bs + 1)) → (yd = 0 → SR bt zs vz tS c2 gc bk fo ya yn) → ∀ (H : Heap) (locs : List Loc) (ls : Array Slot), va_P D vwCl [(h0, .inr (11, gP a i g (nI c2) (nI zs) (nI ya) yn yd ye yf (nI bk) (nI yp) yb)), (a 1, .inl (cm 1, 1400, .inl fT)), (a 19, .inl (cm 19, 2000, .inl gc)), (a 29, .inl (cm 29, 700, .inl gl))] H → va_D A [(h0, .inr (11, gP a i g (nI c2) (nI zs) (nI ya) yn yd ye yf (nI bk) (nI yp) yb)), (a 1, .inl (cm 1, 1400, .inl fT)), (a 19, .inl (cm 19, 2000, .inl gc)), (a 29, .inl (cm 29, 700, .inl gl))] → va_S A s.heap H locs → lv_has ls 3 [(0, .ref h0)] → W p l e ({ frames := 6, cells := 0, slots := 0, locals := 190 }) s m args below meth c H locs 0 0 Q (F0 m 121 ls [])) : ∀ (N : Nat), ∀ (c2 : Nat), ∀ (ya : Nat), ∀ (yn : Int32), ∀ (yd : Int32), ∀ (ye : Int32), ∀ (yf : Int32), ∀ (yp : Nat), ∀ (yb : Int32), ∀ (gc : Nat → Int32), ∀ (gl : Nat → Int32), (ta ≤ ya) → (ya ≤ zs) → (c2 + yp + rs ≤ ya) → (PlS gl yp) → (yd = 0 → bd = 0 ∧ PSt gc fo c2 bk (bs + nops gl yp + 1)) → (yd = 0 → UR bt zs vz 2 tS c2 gc bk fo yp gl yb ya yn) → (¬ yd = 0 → vz = none) → (if yd = 0 then (zs - ya) + 1 else 0) < N → ∀ (H : Heap) (locs : List Loc) (ls : Array Slot), va_P D vwCl [(h0, .inr (11, gP a i g (nI c2) (nI zs) (nI ya) yn yd ye yf (nI bk) (nI yp) yb)), (a 1, .inl (cm 1, 1400, .inl fT)), (a 19, .inl (cm 19, 2000, .inl gc)), (a 29, .inl (cm 29, 700, .inl gl))] H → va_D A [(h0, .inr (11, gP a i g (nI c2) (nI zs) (nI ya) yn yd ye yf (nI bk) (nI yp) yb)), (a 1, .inl (cm 1, 1400, .inl fT)), (a 19, .inl (cm 19, 2000, .inl gc)), (a 29, .inl (cm 29, 700, .inl gl))] → va_S A s.heap H locs → lv_has ls 3 [(1, .int 1), (0, .ref h0)] → W p l e ({ frames := 6, cells := 0, slots := 0, locals := 190 }) s m args below meth c H locs 0 0 Q (F0 m 16 ls []) := by
  have hin_X11 : ∀ w ∈ wsX110, w ∈ wp_c_sum := fun _ h => (List.mem_cons_of_mem _ (List.mem_append_right _ (List.mem_append_right _ (List.mem_append_right _ (List.mem_append_right _ (List.mem_append_right _ (List.mem_append_right _ (List.mem_append_left _ h))))))))
  intro N
  induction N with
  | zero =>
    intro c2 ya yn yd ye yf yp yb gc gl hi1 hi2 hi3 hPl hWl hVl hNl hm
    exact absurd hm (Nat.not_lt_zero _)
  | succ N ih =>
    intro c2 ya yn yd ye yf yp yb gc gl hi1 hi2 hi3 hPl hWl hVl hNl hm H locs ls hP hD hS hl
    refine lv_aload_n hx hb dX11_sum_16 rfl (lv_at hl 1 rfl) ?_
    have hPc := hP.sub (ws' := [(h0, .inr (11, gP a i g (nI c2) (nI zs) (nI ya) yn yd ye yf (nI bk) (nI yp) yb))]) [0] rfl
    have hKc := hK.sub (tys' := []) [] rfl
    have hFc := va_free0 hS hA
    refine va_calli (va_runV (As := []) (rest := []) ⟨hx, hb, hml, hown, hts⟩ (c_isFine l D _ h0 a cm i g c2 zs ya yn yd ye yf bk yp yb) (cwV 0 hts g_c_sum_c_isFine_313 rfl rfl rfl (by decide +kernel) ⟨(Nat.le_of_ble_eq_true rfl), (Nat.le_of_ble_eq_true rfl)⟩) (PcR_V (q0 := 0) hPc hKc rfl rfl) rfl rfl hl.1 rfl (lv_room (Nat.le_of_ble_eq_true rfl)) dX11_sum_17 ⟨(Nat.le_of_ble_eq_true rfl), (Nat.le_of_ble_eq_true rfl)⟩) hS (fun q _ h => hFc q h) hFc (fun r1 uu tt H locs htt hvm hw hB hz1 hk1 hS => ?_)
    have hP := va_keep hP hk1
    try dsimp only at hw
    clear hB hz1 hk1 hFc hPc hKc
    rcases hw with ⟨rfl, hA_r1⟩ | ⟨rfl, hA_r1⟩
    ·
      obtain ⟨sg, rg, pg, wg, hv1, hp1, hm1, hq1, h11, h21⟩ := hVl hA_r1
      refine lv_if_eq (tgt := 121) hx hb dX11_sum_20 (by decide) (fun hc => absurd hc (by decide)) (fun hc => ?_)
      refine lv_iload_n hx hb dX11_sum_23 rfl (lv_at hl 0 rfl) ?_
      refine lv_if_eq (tgt := 121) hx hb dX11_sum_24 (by decide) (fun hc => absurd hc (by decide)) (fun hc => ?_)
      refine lv_aload_n hx hb dX11_sum_27 rfl (lv_at hl 1 rfl) ?_
      have hPc := hP.sub (ws' := [(h0, .inr (11, gP a i g (nI c2) (nI zs) (nI ya) yn yd ye yf (nI bk) (nI yp) yb)), (a 1, .inl (cm 1, 1400, .inl fT))]) [0, 1] rfl
      have hKc := hK.sub (tys' := [(cm 1, .byte)]) [0] rfl
      have hDc := hD.sub (ws' := [(h0, .inr (11, gP a i g (nI c2) (nI zs) (nI ya) yn yd ye yf (nI bk) (nI yp) yb)), (a 1, .inl (cm 1, 1400, .inl fT))]) [0, 1] (by decide) rfl
      have hFc := va_free (wc := [(h0, .inr (11, gP a i g (nI c2) (nI zs) (nI ya) yn yd ye yf (nI bk) (nI yp) yb)), (a 1, .inl (cm 1, 1400, .inl fT))]) hD hS hA [0, 1] rfl
      refine va_calli (va_runV (As := []) (rest := []) ⟨hx, hb, hml, hown, hts⟩ (c_signHere l D _ h0 a cm i g fT c2 zs ya yn yd ye yf bk yp yb bt (by omega) (by omega) hbt) (cwV 0 hts g_c_sum_c_signHere_354 rfl rfl rfl (by decide +kernel) ⟨(Nat.le_of_ble_eq_true rfl), (Nat.le_of_ble_eq_true rfl)⟩) (PcW_V (q0 := 0) hPc hKc hDc rfl rfl) rfl rfl hl.1 rfl (lv_room (Nat.le_of_ble_eq_true rfl)) dX11_sum_28 ⟨(Nat.le_of_ble_eq_true rfl), (Nat.le_of_ble_eq_true rfl)⟩) hS (fun q _ h => hFc q h) hFc (fun r2 uu tt H locs htt hvm hw hB hz1 hk1 hS => ?_)
      obtain ⟨w3, w4⟩ := uu
      obtain ⟨hP1, hK1, hD1⟩ := hB
      rw [htt] at hP1
      have hK1 := va_K.moved hvm.symm hK1
      have hP1 : va_P D vwCl [(h0, .inr (11, gP a i g (nI c2) (nI zs) (nI w3) yn yd ye yf (nI bk) (nI yp) yb)), (a 1, .inl (cm 1, 1400, .inl fT))] H := hP1
      obtain ⟨hP, hD⟩ := va_join (wr := [(a 19, .inl (cm 19, 2000, .inl gc)), (a 29, .inl (cm 29, 700, .inl gl))]) (w1 := [(h0, .inr (11, gP a i g (nI c2) (nI zs) (nI w3) yn yd ye yf (nI bk) (nI yp) yb)), (a 1, .inl (cm 1, 1400, .inl fT))]) hP hD [0, 1] [2, 3] rfl rfl (by decide) (by decide) hk1 hFc hP1 hD1
      have hP : va_P D vwCl [(a 19, .inl (cm 19, 2000, .inl gc)), (a 29, .inl (cm 29, 700, .inl gl)), (h0, .inr (11, gP a i g (nI c2) (nI zs) (nI w3) yn yd ye yf (nI bk) (nI yp) yb)), (a 1, .inl (cm 1, 1400, .inl fT))] H := hP
      have hD : va_D A [(a 19, .inl (cm 19, 2000, .inl gc)), (a 29, .inl (cm 29, 700, .inl gl)), (h0, .inr (11, gP a i g (nI c2) (nI zs) (nI w3) yn yd ye yf (nI bk) (nI yp) yb)), (a 1, .inl (cm 1, 1400, .inl fT))] := hD
      try dsimp only at hw
      clear hz1 hk1 hFc hPc hKc hDc
      rcases hw with ⟨rfl, hA_r2⟩ | ⟨rfl, hA_r2⟩
      ·
        obtain ⟨hA_r2_1, hA_r2_2, hA_r2_e, hA_r2_s⟩ := hA_r2
        refine lv_istore_n (lv' := [(2, .int (-1)), (1, .int 1), (0, .ref h0)]) hx hb dX11_sum_31 rfl hl (by decide) rfl (fun ls hl => ?_)
        refine lv_iload_n hx hb dX11_sum_32 rfl (lv_at hl 0 rfl) ?_
        refine lv_iconst (v := (-1)) hx hb dX11_sum_33 (by decide) ?_
        refine lv_icmp_eq (tgt := 91) hx hb dX11_sum_34 (by decide) (fun hc => ?_) (fun hc => absurd (by decide) hc)
        refine lv_aload_n hx hb dX11_sum_91 rfl (lv_at hl 2 rfl) ?_
        refine lv_bipush (v := 13) hx hb dX11_sum_92 (by decide) ?_
        have hWw : yd = 0 → PSt gc fo c2 bk (bs + nops gl yp + 1) := fun z => (hWl z).2
        have hPc := hP.sub (ws' := [(h0, .inr (11, gP a i g (nI c2) (nI zs) (nI w3) yn yd ye yf (nI bk) (nI yp) yb)), (a 19, .inl (cm 19, 2000, .inl gc)), (a 29, .inl (cm 29, 700, .inl gl))]) [2, 0, 1] rfl
        have hKc := hK.sub (tys' := [(cm 19, .int), (cm 29, .int)]) [1, 2] rfl
        have hDc := hD.sub (ws' := [(h0, .inr (11, gP a i g (nI c2) (nI zs) (nI w3) yn yd ye yf (nI bk) (nI yp) yb)), (a 19, .inl (cm 19, 2000, .inl gc)), (a 29, .inl (cm 29, 700, .inl gl))]) [2, 0, 1] (by decide) rfl
        have hFc := va_free (wc := [(h0, .inr (11, gP a i g (nI c2) (nI zs) (nI w3) yn yd ye yf (nI bk) (nI yp) yb)), (a 19, .inl (cm 19, 2000, .inl gc)), (a 29, .inl (cm 29, 700, .inl gl))]) hD hS hA [2, 0, 1] rfl
        refine va_callv (va_runV (As := [.int (nI 13)]) (rest := []) ⟨hx, hb, hml, hown, hts⟩ (c_works l D _ h0 a cm i g gc gl c2 zs w3 yn yd ye yf bk yp yb 13 fo bs sg.2.2.2.2.2.2.2.1 rg 1 (by omega) hPl hWw hq1.2.1 hm1.1 (Or.inl rfl) rfl) (cwV 1 hts g_c_sum_c_works_357 rfl rfl rfl (by decide +kernel) ⟨(Nat.le_of_ble_eq_true rfl), (Nat.le_of_ble_eq_true rfl)⟩) (PcW_V (q0 := 0) hPc hKc hDc rfl rfl) rfl rfl hl.1 rfl (lv_room (Nat.le_of_ble_eq_true rfl)) dX11_sum_94 ⟨(Nat.le_of_ble_eq_true rfl), (Nat.le_of_ble_eq_true rfl)⟩) hS (fun q _ h => hFc q h) hFc (fun uu tt H locs htt hvm hw hB hz1 hk1 hS => ?_)
        obtain ⟨w6, w7, w8⟩ := uu
        obtain ⟨hP1, hK1, hD1⟩ := hB
        rw [htt] at hP1
        have hK1 := va_K.moved hvm.symm hK1
        have hP1 : va_P D vwCl [(h0, .inr (11, gP a i g (nI w7) (nI zs) (nI w3) yn yd ye yf (nI bk) (nI w8) yb)), (a 19, .inl (cm 19, 2000, .inl w6)), (a 29, .inl (cm 29, 700, .inl gl))] H := hP1
        obtain ⟨hP, hD⟩ := va_join (wr := [(a 1, .inl (cm 1, 1400, .inl fT))]) (w1 := [(h0, .inr (11, gP a i g (nI w7) (nI zs) (nI w3) yn yd ye yf (nI bk) (nI w8) yb)), (a 19, .inl (cm 19, 2000, .inl w6)), (a 29, .inl (cm 29, 700, .inl gl))]) hP hD [2, 0, 1] [3] rfl rfl (by decide) (by decide) hk1 hFc hP1 hD1
        have hP : va_P D vwCl [(a 1, .inl (cm 1, 1400, .inl fT)), (h0, .inr (11, gP a i g (nI w7) (nI zs) (nI w3) yn yd ye yf (nI bk) (nI w8) yb)), (a 19, .inl (cm 19, 2000, .inl w6)), (a 29, .inl (cm 29, 700, .inl gl))] H := hP
        have hD : va_D A [(a 1, .inl (cm 1, 1400, .inl fT)), (h0, .inr (11, gP a i g (nI w7) (nI zs) (nI w3) yn yd ye yf (nI bk) (nI w8) yb)), (a 19, .inl (cm 19, 2000, .inl w6)), (a 29, .inl (cm 29, 700, .inl gl))] := hD
        try dsimp only at hw
        clear hz1 hk1 hFc hPc hKc hDc
        obtain ⟨hk9_1, hk9_2, hk9_W, hk9_t, hk9_w, hk9_r⟩ := hw
        have hk9_P := PlS_le hPl hk9_2
        refine lv_aload_n hx hb dX11_sum_97 rfl (lv_at hl 2 rfl) ?_
        refine va_get (D := D) (ci := 11) (v := .int (nI w8)) (C := RX11) (T := TX11) (N := 47) hx hb hts hin_X11 hown hK hP 1 rfl rfl 30 (by decide) (hts (.fieldLink RX11 341 "ClashFreeModel" "piled" "I") (List.mem_of_getElem? (i := 11) rfl)) (fun _ h9 => h9) rfl dX11_sum_98 ?_
        refine lv_if_le (tgt := 108) hx hb dX11_sum_101 (by decide) (fun hc10 => ?_) (fun hc10 => ?_)
        ·
          have hp0 : w8 = 0 := by
            have := (nI_leI (b := 0) (by omega) (by decide)).mp hc10
            omega
          refine lv_iconst (v := 0) hx hb dX11_sum_108 (by decide) ?_
          refine lv_istore_n (lv' := [(1, .int 0), (2, .int (-1)), (0, .ref h0)]) hx hb dX11_sum_109 rfl hl (by decide) rfl (fun ls hl => ?_)
          refine lv_iload_n hx hb dX11_sum_110 rfl (lv_at hl 0 rfl) ?_
          refine lv_if_eq (tgt := 118) hx hb dX11_sum_111 (by decide) (fun hc => ?_) (fun hc => absurd (by decide) hc)
          refine lv_goto (tgt := 16) hx hb dX11_sum_118 (by decide) ?_
          refine lv_aload_n hx hb dX11_sum_16 rfl (lv_at hl 2 rfl) ?_
          have hPc := hP.sub (ws' := [(h0, .inr (11, gP a i g (nI w7) (nI zs) (nI w3) yn yd ye yf (nI bk) (nI w8) yb))]) [1] rfl
          have hKc := hK.sub (tys' := []) [] rfl
          have hFc := va_free0 hS hA
          refine va_calli (va_runV (As := []) (rest := []) ⟨hx, hb, hml, hown, hts⟩ (c_isFine l D _ h0 a cm i g w7 zs w3 yn yd ye yf bk w8 yb) (cwV 0 hts g_c_sum_c_isFine_313 rfl rfl rfl (by decide +kernel) ⟨(Nat.le_of_ble_eq_true rfl), (Nat.le_of_ble_eq_true rfl)⟩) (PcR_V (q0 := 0) hPc hKc rfl rfl) rfl rfl hl.1 rfl (lv_room (Nat.le_of_ble_eq_true rfl)) dX11_sum_17 ⟨(Nat.le_of_ble_eq_true rfl), (Nat.le_of_ble_eq_true rfl)⟩) hS (fun q _ h => hFc q h) hFc (fun r11 uu tt H locs htt hvm hw hB hz1 hk1 hS => ?_)
          have hP := va_keep hP hk1
          try dsimp only at hw
          clear hB hz1 hk1 hFc hPc hKc
          rcases hw with ⟨rfl, hA_r11⟩ | ⟨rfl, hA_r11⟩
          ·
            refine lv_if_eq (tgt := 121) hx hb dX11_sum_20 (by decide) (fun hc => absurd hc (by decide)) (fun hc => ?_)
            refine lv_iload_n hx hb dX11_sum_23 rfl (lv_at hl 0 rfl) ?_
            refine lv_if_eq (tgt := 121) hx hb dX11_sum_24 (by decide) (fun hc => ?_) (fun hc => absurd (by decide) hc)
            exact kx121 w7 w3 yn yd ye yf w8 yb w6 gl (by omega) (hNl) (fun z => ⟨(hWl z).1, by have := hk9_W z; rw [hp0] at this; exact this⟩) (fun _ => by rw [hA_r2_e]; exact ur_end hv1 hp1 hm1 hq1 h11 h21 hA_r2_s hk9_r (by rw [← hk9_w]; exact hp0)) H locs ls (hP.sub [1, 0, 2, 3] rfl) (hD.sub [1, 0, 2, 3] (by decide) rfl) hS (lv_sub hl [2] rfl)
          ·
            exact absurd hA_r1 hA_r11
        ·
          have hp1q : 1 ≤ w8 := by
            rcases Nat.eq_zero_or_pos w8 with z | z
            · exact absurd (by rw [z]; decide) hc10
            · exact z
          refine lv_iconst (v := 1) hx hb dX11_sum_104 (by decide) ?_
          refine lv_goto (tgt := 109) hx hb dX11_sum_105 (by decide) ?_
          refine lv_istore_n (lv' := [(1, .int 1), (2, .int (-1)), (0, .ref h0)]) hx hb dX11_sum_109 rfl hl (by decide) rfl (fun ls hl => ?_)
          refine lv_iload_n hx hb dX11_sum_110 rfl (lv_at hl 0 rfl) ?_
          refine lv_if_eq (tgt := 118) hx hb dX11_sum_111 (by decide) (fun hc => absurd hc (by decide)) (fun hc => ?_)
          refine lv_aload_n hx hb dX11_sum_114 rfl (lv_at hl 2 rfl) ?_
          have hPc := hP.sub (ws' := [(h0, .inr (11, gP a i g (nI w7) (nI zs) (nI w3) yn yd ye yf (nI bk) (nI w8) yb)), (a 1, .inl (cm 1, 1400, .inl fT))]) [1, 0] rfl
          have hKc := hK.sub (tys' := [(cm 1, .byte)]) [0] rfl
          have hDc := hD.sub (ws' := [(h0, .inr (11, gP a i g (nI w7) (nI zs) (nI w3) yn yd ye yf (nI bk) (nI w8) yb)), (a 1, .inl (cm 1, 1400, .inl fT))]) [1, 0] (by decide) rfl
          have hFc := va_free (wc := [(h0, .inr (11, gP a i g (nI w7) (nI zs) (nI w3) yn yd ye yf (nI bk) (nI w8) yb)), (a 1, .inl (cm 1, 1400, .inl fT))]) hD hS hA [1, 0] rfl
          refine va_callv (va_runV (As := []) (rest := []) ⟨hx, hb, hml, hown, hts⟩ (c_closesBracket l D _ h0 a cm i g fT w7 zs w3 yn yd ye yf bk w8 yb bt (by omega) (by omega) (by omega) (by omega) hbt) (cwV 0 hts g_c_sum_c_closesBracket_360 rfl rfl rfl (by decide +kernel) ⟨(Nat.le_of_ble_eq_true rfl), (Nat.le_of_ble_eq_true rfl)⟩) (PcW_V (q0 := 0) hPc hKc hDc rfl rfl) rfl rfl hl.1 rfl (lv_room (Nat.le_of_ble_eq_true rfl)) dX11_sum_115 ⟨(Nat.le_of_ble_eq_true rfl), (Nat.le_of_ble_eq_true rfl)⟩) hS (fun q _ h => hFc q h) hFc (fun uu tt H locs htt hvm hw hB hz1 hk1 hS => ?_)
          obtain ⟨w13, w14, w15, w16, w17, w18⟩ := uu
          obtain ⟨hP1, hK1, hD1⟩ := hB
          rw [htt] at hP1
          have hK1 := va_K.moved hvm.symm hK1
          have hP1 : va_P D vwCl [(h0, .inr (11, gP a i g (nI w7) (nI zs) (nI w13) yn w14 w15 w16 (nI bk) (nI w17) w18)), (a 1, .inl (cm 1, 1400, .inl fT))] H := hP1
          obtain ⟨hP, hD⟩ := va_join (wr := [(a 19, .inl (cm 19, 2000, .inl w6)), (a 29, .inl (cm 29, 700, .inl gl))]) (w1 := [(h0, .inr (11, gP a i g (nI w7) (nI zs) (nI w13) yn w14 w15 w16 (nI bk) (nI w17) w18)), (a 1, .inl (cm 1, 1400, .inl fT))]) hP hD [1, 0] [2, 3] rfl rfl (by decide) (by decide) hk1 hFc hP1 hD1
          have hP : va_P D vwCl [(a 19, .inl (cm 19, 2000, .inl w6)), (a 29, .inl (cm 29, 700, .inl gl)), (h0, .inr (11, gP a i g (nI w7) (nI zs) (nI w13) yn w14 w15 w16 (nI bk) (nI w17) w18)), (a 1, .inl (cm 1, 1400, .inl fT))] H := hP
          have hD : va_D A [(a 19, .inl (cm 19, 2000, .inl w6)), (a 29, .inl (cm 29, 700, .inl gl)), (h0, .inr (11, gP a i g (nI w7) (nI zs) (nI w13) yn w14 w15 w16 (nI bk) (nI w17) w18)), (a 1, .inl (cm 1, 1400, .inl fT))] := hD
          try dsimp only at hw
          clear hz1 hk1 hFc hPc hKc hDc
          obtain ⟨hb19_1, hb19_2, hb19_3, hb19_b, hb19_V, hb19_N⟩ := hw
          refine lv_goto (tgt := 16) hx hb dX11_sum_118 (by decide) ?_
          have hbr : gl (w8 - 1) = 18 := (hk9_t (by omega)).resolve_left (by omega)
          have hnb := nops_br (by omega) hbr
          have hcl := ur_cl hv1 hp1 hm1 hq1 h11 h21 hA_r2_s hk9_r (by rw [← hk9_w]; omega)
          rw [← hk9_w] at hcl
          exact ih w7 w13 yn w14 w15 w16 w17 w18 w6 gl (by omega) (by omega) (by omega) (PlS_le hk9_P hb19_3) (fun z => ⟨(hWl (hb19_b z).1).1, by rw [show w17 = w8 - 1 by have := (hb19_b z).2; omega, ← hnb]; exact hk9_W (hb19_b z).1⟩) (fun z => by
              rw [(hb19_V z).1, (hb19_V z).2.2, show w17 = w8 - 1 by have := (hb19_b z).2; omega, tkA_w hA_r2_e (by omega)]
              exact hcl.1 ((SgP_at hA_r2_e (by omega)).mp (hb19_V z).2.1)) (fun z => hcl.2 (fun y => hb19_N hA_r1 z ((SgP_at hA_r2_e (by omega)).mpr y))) (mif hm hA_r1 (fun z => by have := (hb19_b z).2; omega)) H locs ls (hP.sub [2, 3, 0, 1] rfl) (hD.sub [2, 3, 0, 1] (by decide) rfl) hS (lv_sub hl [0, 2] rfl)
      ·
        obtain ⟨hA_r2_g, hA_r2_1, hA_r2_2, hA_r2_e, hA_r2_s⟩ := hA_r2
        refine lv_istore_n (lv' := [(2, .int (nI w4)), (1, .int 1), (0, .ref h0)]) hx hb dX11_sum_31 rfl hl (by decide) rfl (fun ls hl => ?_)
        refine lv_iload_n hx hb dX11_sum_32 rfl (lv_at hl 0 rfl) ?_
        refine lv_iconst (v := (-1)) hx hb dX11_sum_33 (by decide) ?_
        refine lv_icmp_eq (tgt := 91) hx hb dX11_sum_34 (by decide) (fun hc => absurd hc (fun z => absurd (congrArg Int32.toInt z) (by rw [nI_toInt (by omega), show (-1 : Int32).toInt = -1 from by decide]; omega))) (fun hc => ?_)
        refine lv_aload_n hx hb dX11_sum_37 rfl (lv_at hl 2 rfl) ?_
        refine lv_iload_n hx hb dX11_sum_38 rfl (lv_at hl 0 rfl) ?_
        refine lv_bipush (v := 15) hx hb dX11_sum_39 (by decide) ?_
        refine lv_icmp_ge (tgt := 49) hx hb dX11_sum_41 (by decide) (fun hc20 => ?_) (fun hc20 => ?_)
        ·
          have hg15 : 15 ≤ w4 := (nI_leI (a := 15) (by decide) (by omega)).mp hc20
          refine lv_bipush (v := 15) hx hb dX11_sum_49 (by decide) ?_
          have hWw : yd = 0 → PSt gc fo c2 bk (bs + nops gl yp + 1) := fun z => (hWl z).2
          have hl2 : strN (sgK w4) = 2 := sgK_2 hA_r2_g (by omega)
          have hPc := hP.sub (ws' := [(h0, .inr (11, gP a i g (nI c2) (nI zs) (nI w3) yn yd ye yf (nI bk) (nI yp) yb)), (a 19, .inl (cm 19, 2000, .inl gc)), (a 29, .inl (cm 29, 700, .inl gl))]) [2, 0, 1] rfl
          have hKc := hK.sub (tys' := [(cm 19, .int), (cm 29, .int)]) [1, 2] rfl
          have hDc := hD.sub (ws' := [(h0, .inr (11, gP a i g (nI c2) (nI zs) (nI w3) yn yd ye yf (nI bk) (nI yp) yb)), (a 19, .inl (cm 19, 2000, .inl gc)), (a 29, .inl (cm 29, 700, .inl gl))]) [2, 0, 1] (by decide) rfl
          have hFc := va_free (wc := [(h0, .inr (11, gP a i g (nI c2) (nI zs) (nI w3) yn yd ye yf (nI bk) (nI yp) yb)), (a 19, .inl (cm 19, 2000, .inl gc)), (a 29, .inl (cm 29, 700, .inl gl))]) hD hS hA [2, 0, 1] rfl
          refine va_callv (va_runV (As := [.int (nI 15)]) (rest := []) ⟨hx, hb, hml, hown, hts⟩ (c_works l D _ h0 a cm i g gc gl c2 zs w3 yn yd ye yf bk yp yb 15 fo bs sg.2.2.2.2.2.2.2.1 rg (strN (sgK w4)) (by omega) hPl hWw hq1.2.1 hm1.1 (by omega) (by rw [hl2]; decide)) (cwV 1 hts g_c_sum_c_works_357 rfl rfl rfl (by decide +kernel) ⟨(Nat.le_of_ble_eq_true rfl), (Nat.le_of_ble_eq_true rfl)⟩) (PcW_V (q0 := 0) hPc hKc hDc rfl rfl) rfl rfl hl.1 rfl (lv_room (Nat.le_of_ble_eq_true rfl)) dX11_sum_51 ⟨(Nat.le_of_ble_eq_true rfl), (Nat.le_of_ble_eq_true rfl)⟩) hS (fun q _ h => hFc q h) hFc (fun uu tt H locs htt hvm hw hB hz1 hk1 hS => ?_)
          obtain ⟨w22, w23, w24⟩ := uu
          obtain ⟨hP1, hK1, hD1⟩ := hB
          rw [htt] at hP1
          have hK1 := va_K.moved hvm.symm hK1
          have hP1 : va_P D vwCl [(h0, .inr (11, gP a i g (nI w23) (nI zs) (nI w3) yn yd ye yf (nI bk) (nI w24) yb)), (a 19, .inl (cm 19, 2000, .inl w22)), (a 29, .inl (cm 29, 700, .inl gl))] H := hP1
          obtain ⟨hP, hD⟩ := va_join (wr := [(a 1, .inl (cm 1, 1400, .inl fT))]) (w1 := [(h0, .inr (11, gP a i g (nI w23) (nI zs) (nI w3) yn yd ye yf (nI bk) (nI w24) yb)), (a 19, .inl (cm 19, 2000, .inl w22)), (a 29, .inl (cm 29, 700, .inl gl))]) hP hD [2, 0, 1] [3] rfl rfl (by decide) (by decide) hk1 hFc hP1 hD1
          have hP : va_P D vwCl [(a 1, .inl (cm 1, 1400, .inl fT)), (h0, .inr (11, gP a i g (nI w23) (nI zs) (nI w3) yn yd ye yf (nI bk) (nI w24) yb)), (a 19, .inl (cm 19, 2000, .inl w22)), (a 29, .inl (cm 29, 700, .inl gl))] H := hP
          have hD : va_D A [(a 1, .inl (cm 1, 1400, .inl fT)), (h0, .inr (11, gP a i g (nI w23) (nI zs) (nI w3) yn yd ye yf (nI bk) (nI w24) yb)), (a 19, .inl (cm 19, 2000, .inl w22)), (a 29, .inl (cm 29, 700, .inl gl))] := hD
          try dsimp only at hw
          clear hz1 hk1 hFc hPc hKc hDc
          obtain ⟨hk25_1, hk25_2, hk25_W, hk25_t, hk25_w, hk25_r⟩ := hw
          have hk25_P := PlS_le hPl hk25_2
          refine lv_aload_n hx hb dX11_sum_54 rfl (lv_at hl 2 rfl) ?_
          refine lv_dup hx hb dX11_sum_55 rfl ?_
          refine va_get (D := D) (ci := 11) (v := .int (nI w3)) (C := RX11) (T := TX11) (N := 47) hx hb hts hin_X11 hown hK hP 1 rfl rfl 22 (by decide) (hts (.fieldLink RX11 303 "ClashFreeModel" "at" "I") (List.mem_of_getElem? (i := 15) rfl)) (fun _ h9 => h9) rfl dX11_sum_56 ?_
          refine lv_iconst (v := 1) hx hb dX11_sum_59 (by decide) ?_
          refine lv_iadd hx hb dX11_sum_60 ?_
          refine lv_topi (fun v26 ev26 => ?_)
          obtain rfl : v26 = nI (w3 + 1) := ev26.trans (nI_1 _)
          refine va_put (D := D) (ci := 11) (v := .int (nI (w3 + 1))) (ty := .int) (C := RX11) (T := TX11) (N := 47) hx hb hts hin_X11 tyX11 tyX11_ok nmX11 hown hK hP hD hS 1 rfl rfl 22 (by decide) (hts (.fieldLink RX11 303 "ClashFreeModel" "at" "I") (List.mem_of_getElem? (i := 15) rfl)) (fun _ h9 => h9) rfl (by decide +kernel) rfl rfl (Nat.le_of_ble_eq_true rfl) dX11_sum_61 (fun H locs hP hD hS => ?_)
          have hP : va_P D vwCl [(a 1, .inl (cm 1, 1400, .inl fT)), (h0, .inr (11, gP a i g (nI w23) (nI zs) (nI (w3 + 1)) yn yd ye yf (nI bk) (nI w24) yb)), (a 19, .inl (cm 19, 2000, .inl w22)), (a 29, .inl (cm 29, 700, .inl gl))] H := hP
          have hD : va_D A [(a 1, .inl (cm 1, 1400, .inl fT)), (h0, .inr (11, gP a i g (nI w23) (nI zs) (nI (w3 + 1)) yn yd ye yf (nI bk) (nI w24) yb)), (a 19, .inl (cm 19, 2000, .inl w22)), (a 29, .inl (cm 29, 700, .inl gl))] := hD
          refine lv_aload_n hx hb dX11_sum_64 rfl (lv_at hl 2 rfl) ?_
          refine va_get (D := D) (ci := 11) (v := .ref (a 29)) (C := RX11) (T := TX11) (N := 47) hx hb hts hin_X11 hown hK hP 1 rfl rfl 29 (by decide) (hts (.fieldLink RX11 51 "ClashFreeModel" "pile" "[I") (List.mem_of_getElem? (i := 16) rfl)) (fun _ h9 => h9) rfl dX11_sum_65 ?_
          refine lv_aload_n hx hb dX11_sum_68 rfl (lv_at hl 2 rfl) ?_
          refine va_get (D := D) (ci := 11) (v := .int (nI w24)) (C := RX11) (T := TX11) (N := 47) hx hb hts hin_X11 hown hK hP 1 rfl rfl 30 (by decide) (hts (.fieldLink RX11 341 "ClashFreeModel" "piled" "I") (List.mem_of_getElem? (i := 11) rfl)) (fun _ h9 => h9) rfl dX11_sum_69 ?_
          refine lv_iload_n hx hb dX11_sum_72 rfl (lv_at hl 0 rfl) ?_
          refine va_iast hx hb hK hP hD hS 3 2 rfl rfl (vp_in_nI (by omega) (by decide)) dX11_sum_73 (fun H locs hP hD hS => ?_)
          have hP : va_P D vwCl [(a 1, .inl (cm 1, 1400, .inl fT)), (h0, .inr (11, gP a i g (nI w23) (nI zs) (nI (w3 + 1)) yn yd ye yf (nI bk) (nI w24) yb)), (a 19, .inl (cm 19, 2000, .inl w22)), (a 29, .inl (cm 29, 700, .inl (upd gl (Int32.toNatClampNeg (nI w24)) (nI w4))))] H := hP
          have hD : va_D A [(a 1, .inl (cm 1, 1400, .inl fT)), (h0, .inr (11, gP a i g (nI w23) (nI zs) (nI (w3 + 1)) yn yd ye yf (nI bk) (nI w24) yb)), (a 19, .inl (cm 19, 2000, .inl w22)), (a 29, .inl (cm 29, 700, .inl (upd gl (Int32.toNatClampNeg (nI w24)) (nI w4))))] := hD
          rw [show (upd gl (Int32.toNatClampNeg (nI w24)) (nI w4)) = (upd gl w24 (nI w4)) from by rw [nI_clamp (by omega)]] at hP hD
          refine lv_aload_n hx hb dX11_sum_74 rfl (lv_at hl 2 rfl) ?_
          refine lv_dup hx hb dX11_sum_75 rfl ?_
          refine va_get (D := D) (ci := 11) (v := .int (nI w24)) (C := RX11) (T := TX11) (N := 47) hx hb hts hin_X11 hown hK hP 1 rfl rfl 30 (by decide) (hts (.fieldLink RX11 341 "ClashFreeModel" "piled" "I") (List.mem_of_getElem? (i := 11) rfl)) (fun _ h9 => h9) rfl dX11_sum_76 ?_
          refine lv_iconst (v := 1) hx hb dX11_sum_79 (by decide) ?_
          refine lv_iadd hx hb dX11_sum_80 ?_
          refine lv_topi (fun v27 ev27 => ?_)
          obtain rfl : v27 = nI (w24 + 1) := ev27.trans (nI_1 _)
          refine va_put (D := D) (ci := 11) (v := .int (nI (w24 + 1))) (ty := .int) (C := RX11) (T := TX11) (N := 47) hx hb hts hin_X11 tyX11 tyX11_ok nmX11 hown hK hP hD hS 1 rfl rfl 30 (by decide) (hts (.fieldLink RX11 341 "ClashFreeModel" "piled" "I") (List.mem_of_getElem? (i := 11) rfl)) (fun _ h9 => h9) rfl (by decide +kernel) rfl rfl (Nat.le_of_ble_eq_true rfl) dX11_sum_81 (fun H locs hP hD hS => ?_)
          have hP : va_P D vwCl [(a 1, .inl (cm 1, 1400, .inl fT)), (h0, .inr (11, gP a i g (nI w23) (nI zs) (nI (w3 + 1)) yn yd ye yf (nI bk) (nI (w24 + 1)) yb)), (a 19, .inl (cm 19, 2000, .inl w22)), (a 29, .inl (cm 29, 700, .inl (upd gl w24 (nI w4))))] H := hP
          have hD : va_D A [(a 1, .inl (cm 1, 1400, .inl fT)), (h0, .inr (11, gP a i g (nI w23) (nI zs) (nI (w3 + 1)) yn yd ye yf (nI bk) (nI (w24 + 1)) yb)), (a 19, .inl (cm 19, 2000, .inl w22)), (a 29, .inl (cm 29, 700, .inl (upd gl w24 (nI w4))))] := hD
          have hPu := PlS_push (x := w4) hk25_P (by omega) (by omega)
          have hnu := nops_push gl w24 (x := w4) (by omega)
          rw [if_neg (show ¬ w4 = 18 by omega)] at hnu
          have hWu : yd = 0 → PSt w22 fo w23 bk (bs + nops (upd gl w24 (nI w4)) (w24 + 1)) := fun z => by rw [hnu]; exact hk25_W z
          have hVu : yd = 0 → UR bt zs vz 1 tS w23 w22 bk fo (w24 + 1) (upd gl w24 (nI w4)) yb (w3 + 1) yn := fun _ => by
            have a := ur_sgn hv1 hp1 hm1 hq1 h11 h21 sgK_k hA_r2_s hk25_r
            rw [← hk25_w, sgK_p hA_r2_g, ← hA_r2_e] at a
            exact a
          refine lv_aload_n hx hb dX11_sum_84 rfl (lv_at hl 2 rfl) ?_
          have hPc := hP.sub (ws' := [(h0, .inr (11, gP a i g (nI w23) (nI zs) (nI (w3 + 1)) yn yd ye yf (nI bk) (nI (w24 + 1)) yb)), (a 1, .inl (cm 1, 1400, .inl fT)), (a 19, .inl (cm 19, 2000, .inl w22)), (a 29, .inl (cm 29, 700, .inl (upd gl w24 (nI w4))))]) [1, 0, 2, 3] rfl
          have hKc := hK.sub (tys' := [(cm 1, .byte), (cm 19, .int), (cm 29, .int)]) [0, 1, 2] rfl
          have hDc := hD.sub (ws' := [(h0, .inr (11, gP a i g (nI w23) (nI zs) (nI (w3 + 1)) yn yd ye yf (nI bk) (nI (w24 + 1)) yb)), (a 1, .inl (cm 1, 1400, .inl fT)), (a 19, .inl (cm 19, 2000, .inl w22)), (a 29, .inl (cm 29, 700, .inl (upd gl w24 (nI w4))))]) [1, 0, 2, 3] (by decide) rfl
          have hFc := va_free (wc := [(h0, .inr (11, gP a i g (nI w23) (nI zs) (nI (w3 + 1)) yn yd ye yf (nI bk) (nI (w24 + 1)) yb)), (a 1, .inl (cm 1, 1400, .inl fT)), (a 19, .inl (cm 19, 2000, .inl w22)), (a 29, .inl (cm 29, 700, .inl (upd gl w24 (nI w4))))]) hD hS hA [1, 0, 2, 3] rfl
          refine va_callv (va_runV (As := []) (rest := []) ⟨hx, hb, hml, hown, hts⟩ (c_unit l D _ h0 a cm i g fT w22 (upd gl w24 (nI w4)) w23 zs (w3 + 1) yn yd ye yf bk (w24 + 1) yb fo bs rs bt tS vz (by omega) (by omega) (by omega) hPu hWu hbt hVu hNl) (cwV 0 hts g_c_sum_c_unit_351 rfl rfl rfl (by decide +kernel) ⟨(Nat.le_of_ble_eq_true rfl), (Nat.le_of_ble_eq_true rfl)⟩) (PcW_V (q0 := 0) hPc hKc hDc rfl rfl) rfl rfl hl.1 rfl (lv_room (Nat.le_of_ble_eq_true rfl)) dX11_sum_85 ⟨(Nat.le_of_ble_eq_true rfl), (Nat.le_of_ble_eq_true rfl)⟩) hS (fun q _ h => hFc q h) hFc (fun uu tt H locs htt hvm hw hB hz1 hk1 hS => ?_)
          obtain ⟨w29, w30, w31, w32, w33, w34, w35, w36, w37, w38⟩ := uu
          obtain ⟨hP1, hK1, hD1⟩ := hB
          rw [htt] at hP1
          have hK1 := va_K.moved hvm.symm hK1
          have hP1 : va_P D vwCl [(h0, .inr (11, gP a i g (nI w31) (nI zs) (nI w32) w33 w34 w35 w36 (nI bk) (nI w37) w38)), (a 1, .inl (cm 1, 1400, .inl fT)), (a 19, .inl (cm 19, 2000, .inl w29)), (a 29, .inl (cm 29, 700, .inl w30))] H := hP1
          obtain ⟨hP, hD⟩ := va_join (wr := []) (w1 := [(h0, .inr (11, gP a i g (nI w31) (nI zs) (nI w32) w33 w34 w35 w36 (nI bk) (nI w37) w38)), (a 1, .inl (cm 1, 1400, .inl fT)), (a 19, .inl (cm 19, 2000, .inl w29)), (a 29, .inl (cm 29, 700, .inl w30))]) hP hD [1, 0, 2, 3] [] rfl rfl (by decide) (by decide) hk1 hFc hP1 hD1
          have hP : va_P D vwCl [(h0, .inr (11, gP a i g (nI w31) (nI zs) (nI w32) w33 w34 w35 w36 (nI bk) (nI w37) w38)), (a 1, .inl (cm 1, 1400, .inl fT)), (a 19, .inl (cm 19, 2000, .inl w29)), (a 29, .inl (cm 29, 700, .inl w30))] H := hP
          have hD : va_D A [(h0, .inr (11, gP a i g (nI w31) (nI zs) (nI w32) w33 w34 w35 w36 (nI bk) (nI w37) w38)), (a 1, .inl (cm 1, 1400, .inl fT)), (a 19, .inl (cm 19, 2000, .inl w29)), (a 29, .inl (cm 29, 700, .inl w30))] := hD
          try dsimp only at hw
          clear hz1 hk1 hFc hPc hKc hDc
          obtain ⟨hu39_1, hu39_2, hu39_3, hu39_P, hu39_b, hu39_V, hu39_N⟩ := hw
          refine lv_goto (tgt := 118) hx hb dX11_sum_88 (by decide) ?_
          refine lv_goto (tgt := 16) hx hb dX11_sum_118 (by decide) ?_
          exact ih w31 w32 w33 w34 w35 w36 w37 w38 w29 w30 (by omega) (by omega) (by omega) (hu39_P) (fun z => ⟨(hWl (hu39_b z).1).1, (hu39_b z).2.2⟩) (hu39_V) (hu39_N) (mif hm hA_r1 (fun z => by have := (hu39_b z).2.1; omega)) H locs ls (hP.sub [0, 1, 2, 3] rfl) (hD.sub [0, 1, 2, 3] (by decide) rfl) hS (lv_sub hl [1, 2] rfl)
        ·
          have hg15 : w4 < 15 := by
            rcases Nat.lt_or_ge w4 15 with z | z
            · exact z
            · exact absurd (nI_le (a := 15) z (by omega)) hc20
          refine lv_bipush (v := 13) hx hb dX11_sum_44 (by decide) ?_
          refine lv_goto (tgt := 51) hx hb dX11_sum_46 (by decide) ?_
          have hWw : yd = 0 → PSt gc fo c2 bk (bs + nops gl yp + 1) := fun z => (hWl z).2
          have hl2 : strN (sgK w4) = 1 := sgK_1 hA_r2_g (by omega)
          have hPc := hP.sub (ws' := [(h0, .inr (11, gP a i g (nI c2) (nI zs) (nI w3) yn yd ye yf (nI bk) (nI yp) yb)), (a 19, .inl (cm 19, 2000, .inl gc)), (a 29, .inl (cm 29, 700, .inl gl))]) [2, 0, 1] rfl
          have hKc := hK.sub (tys' := [(cm 19, .int), (cm 29, .int)]) [1, 2] rfl
          have hDc := hD.sub (ws' := [(h0, .inr (11, gP a i g (nI c2) (nI zs) (nI w3) yn yd ye yf (nI bk) (nI yp) yb)), (a 19, .inl (cm 19, 2000, .inl gc)), (a 29, .inl (cm 29, 700, .inl gl))]) [2, 0, 1] (by decide) rfl
          have hFc := va_free (wc := [(h0, .inr (11, gP a i g (nI c2) (nI zs) (nI w3) yn yd ye yf (nI bk) (nI yp) yb)), (a 19, .inl (cm 19, 2000, .inl gc)), (a 29, .inl (cm 29, 700, .inl gl))]) hD hS hA [2, 0, 1] rfl
          refine va_callv (va_runV (As := [.int (nI 13)]) (rest := []) ⟨hx, hb, hml, hown, hts⟩ (c_works l D _ h0 a cm i g gc gl c2 zs w3 yn yd ye yf bk yp yb 13 fo bs sg.2.2.2.2.2.2.2.1 rg (strN (sgK w4)) (by omega) hPl hWw hq1.2.1 hm1.1 (by omega) (by rw [hl2]; decide)) (cwV 1 hts g_c_sum_c_works_357 rfl rfl rfl (by decide +kernel) ⟨(Nat.le_of_ble_eq_true rfl), (Nat.le_of_ble_eq_true rfl)⟩) (PcW_V (q0 := 0) hPc hKc hDc rfl rfl) rfl rfl hl.1 rfl (lv_room (Nat.le_of_ble_eq_true rfl)) dX11_sum_51 ⟨(Nat.le_of_ble_eq_true rfl), (Nat.le_of_ble_eq_true rfl)⟩) hS (fun q _ h => hFc q h) hFc (fun uu tt H locs htt hvm hw hB hz1 hk1 hS => ?_)
          obtain ⟨w41, w42, w43⟩ := uu
          obtain ⟨hP1, hK1, hD1⟩ := hB
          rw [htt] at hP1
          have hK1 := va_K.moved hvm.symm hK1
          have hP1 : va_P D vwCl [(h0, .inr (11, gP a i g (nI w42) (nI zs) (nI w3) yn yd ye yf (nI bk) (nI w43) yb)), (a 19, .inl (cm 19, 2000, .inl w41)), (a 29, .inl (cm 29, 700, .inl gl))] H := hP1
          obtain ⟨hP, hD⟩ := va_join (wr := [(a 1, .inl (cm 1, 1400, .inl fT))]) (w1 := [(h0, .inr (11, gP a i g (nI w42) (nI zs) (nI w3) yn yd ye yf (nI bk) (nI w43) yb)), (a 19, .inl (cm 19, 2000, .inl w41)), (a 29, .inl (cm 29, 700, .inl gl))]) hP hD [2, 0, 1] [3] rfl rfl (by decide) (by decide) hk1 hFc hP1 hD1
          have hP : va_P D vwCl [(a 1, .inl (cm 1, 1400, .inl fT)), (h0, .inr (11, gP a i g (nI w42) (nI zs) (nI w3) yn yd ye yf (nI bk) (nI w43) yb)), (a 19, .inl (cm 19, 2000, .inl w41)), (a 29, .inl (cm 29, 700, .inl gl))] H := hP
          have hD : va_D A [(a 1, .inl (cm 1, 1400, .inl fT)), (h0, .inr (11, gP a i g (nI w42) (nI zs) (nI w3) yn yd ye yf (nI bk) (nI w43) yb)), (a 19, .inl (cm 19, 2000, .inl w41)), (a 29, .inl (cm 29, 700, .inl gl))] := hD
          try dsimp only at hw
          clear hz1 hk1 hFc hPc hKc hDc
          obtain ⟨hk44_1, hk44_2, hk44_W, hk44_t, hk44_w, hk44_r⟩ := hw
          have hk44_P := PlS_le hPl hk44_2
          refine lv_aload_n hx hb dX11_sum_54 rfl (lv_at hl 2 rfl) ?_
          refine lv_dup hx hb dX11_sum_55 rfl ?_
          refine va_get (D := D) (ci := 11) (v := .int (nI w3)) (C := RX11) (T := TX11) (N := 47) hx hb hts hin_X11 hown hK hP 1 rfl rfl 22 (by decide) (hts (.fieldLink RX11 303 "ClashFreeModel" "at" "I") (List.mem_of_getElem? (i := 15) rfl)) (fun _ h9 => h9) rfl dX11_sum_56 ?_
          refine lv_iconst (v := 1) hx hb dX11_sum_59 (by decide) ?_
          refine lv_iadd hx hb dX11_sum_60 ?_
          refine lv_topi (fun v45 ev45 => ?_)
          obtain rfl : v45 = nI (w3 + 1) := ev45.trans (nI_1 _)
          refine va_put (D := D) (ci := 11) (v := .int (nI (w3 + 1))) (ty := .int) (C := RX11) (T := TX11) (N := 47) hx hb hts hin_X11 tyX11 tyX11_ok nmX11 hown hK hP hD hS 1 rfl rfl 22 (by decide) (hts (.fieldLink RX11 303 "ClashFreeModel" "at" "I") (List.mem_of_getElem? (i := 15) rfl)) (fun _ h9 => h9) rfl (by decide +kernel) rfl rfl (Nat.le_of_ble_eq_true rfl) dX11_sum_61 (fun H locs hP hD hS => ?_)
          have hP : va_P D vwCl [(a 1, .inl (cm 1, 1400, .inl fT)), (h0, .inr (11, gP a i g (nI w42) (nI zs) (nI (w3 + 1)) yn yd ye yf (nI bk) (nI w43) yb)), (a 19, .inl (cm 19, 2000, .inl w41)), (a 29, .inl (cm 29, 700, .inl gl))] H := hP
          have hD : va_D A [(a 1, .inl (cm 1, 1400, .inl fT)), (h0, .inr (11, gP a i g (nI w42) (nI zs) (nI (w3 + 1)) yn yd ye yf (nI bk) (nI w43) yb)), (a 19, .inl (cm 19, 2000, .inl w41)), (a 29, .inl (cm 29, 700, .inl gl))] := hD
          refine lv_aload_n hx hb dX11_sum_64 rfl (lv_at hl 2 rfl) ?_
          refine va_get (D := D) (ci := 11) (v := .ref (a 29)) (C := RX11) (T := TX11) (N := 47) hx hb hts hin_X11 hown hK hP 1 rfl rfl 29 (by decide) (hts (.fieldLink RX11 51 "ClashFreeModel" "pile" "[I") (List.mem_of_getElem? (i := 16) rfl)) (fun _ h9 => h9) rfl dX11_sum_65 ?_
          refine lv_aload_n hx hb dX11_sum_68 rfl (lv_at hl 2 rfl) ?_
          refine va_get (D := D) (ci := 11) (v := .int (nI w43)) (C := RX11) (T := TX11) (N := 47) hx hb hts hin_X11 hown hK hP 1 rfl rfl 30 (by decide) (hts (.fieldLink RX11 341 "ClashFreeModel" "piled" "I") (List.mem_of_getElem? (i := 11) rfl)) (fun _ h9 => h9) rfl dX11_sum_69 ?_
          refine lv_iload_n hx hb dX11_sum_72 rfl (lv_at hl 0 rfl) ?_
          refine va_iast hx hb hK hP hD hS 3 2 rfl rfl (vp_in_nI (by omega) (by decide)) dX11_sum_73 (fun H locs hP hD hS => ?_)
          have hP : va_P D vwCl [(a 1, .inl (cm 1, 1400, .inl fT)), (h0, .inr (11, gP a i g (nI w42) (nI zs) (nI (w3 + 1)) yn yd ye yf (nI bk) (nI w43) yb)), (a 19, .inl (cm 19, 2000, .inl w41)), (a 29, .inl (cm 29, 700, .inl (upd gl (Int32.toNatClampNeg (nI w43)) (nI w4))))] H := hP
          have hD : va_D A [(a 1, .inl (cm 1, 1400, .inl fT)), (h0, .inr (11, gP a i g (nI w42) (nI zs) (nI (w3 + 1)) yn yd ye yf (nI bk) (nI w43) yb)), (a 19, .inl (cm 19, 2000, .inl w41)), (a 29, .inl (cm 29, 700, .inl (upd gl (Int32.toNatClampNeg (nI w43)) (nI w4))))] := hD
          rw [show (upd gl (Int32.toNatClampNeg (nI w43)) (nI w4)) = (upd gl w43 (nI w4)) from by rw [nI_clamp (by omega)]] at hP hD
          refine lv_aload_n hx hb dX11_sum_74 rfl (lv_at hl 2 rfl) ?_
          refine lv_dup hx hb dX11_sum_75 rfl ?_
          refine va_get (D := D) (ci := 11) (v := .int (nI w43)) (C := RX11) (T := TX11) (N := 47) hx hb hts hin_X11 hown hK hP 1 rfl rfl 30 (by decide) (hts (.fieldLink RX11 341 "ClashFreeModel" "piled" "I") (List.mem_of_getElem? (i := 11) rfl)) (fun _ h9 => h9) rfl dX11_sum_76 ?_
          refine lv_iconst (v := 1) hx hb dX11_sum_79 (by decide) ?_
          refine lv_iadd hx hb dX11_sum_80 ?_
          refine lv_topi (fun v46 ev46 => ?_)
          obtain rfl : v46 = nI (w43 + 1) := ev46.trans (nI_1 _)
          refine va_put (D := D) (ci := 11) (v := .int (nI (w43 + 1))) (ty := .int) (C := RX11) (T := TX11) (N := 47) hx hb hts hin_X11 tyX11 tyX11_ok nmX11 hown hK hP hD hS 1 rfl rfl 30 (by decide) (hts (.fieldLink RX11 341 "ClashFreeModel" "piled" "I") (List.mem_of_getElem? (i := 11) rfl)) (fun _ h9 => h9) rfl (by decide +kernel) rfl rfl (Nat.le_of_ble_eq_true rfl) dX11_sum_81 (fun H locs hP hD hS => ?_)
          have hP : va_P D vwCl [(a 1, .inl (cm 1, 1400, .inl fT)), (h0, .inr (11, gP a i g (nI w42) (nI zs) (nI (w3 + 1)) yn yd ye yf (nI bk) (nI (w43 + 1)) yb)), (a 19, .inl (cm 19, 2000, .inl w41)), (a 29, .inl (cm 29, 700, .inl (upd gl w43 (nI w4))))] H := hP
          have hD : va_D A [(a 1, .inl (cm 1, 1400, .inl fT)), (h0, .inr (11, gP a i g (nI w42) (nI zs) (nI (w3 + 1)) yn yd ye yf (nI bk) (nI (w43 + 1)) yb)), (a 19, .inl (cm 19, 2000, .inl w41)), (a 29, .inl (cm 29, 700, .inl (upd gl w43 (nI w4))))] := hD
          have hPu := PlS_push (x := w4) hk44_P (by omega) (by omega)
          have hnu := nops_push gl w43 (x := w4) (by omega)
          rw [if_neg (show ¬ w4 = 18 by omega)] at hnu
          have hWu : yd = 0 → PSt w41 fo w42 bk (bs + nops (upd gl w43 (nI w4)) (w43 + 1)) := fun z => by rw [hnu]; exact hk44_W z
          have hVu : yd = 0 → UR bt zs vz 1 tS w42 w41 bk fo (w43 + 1) (upd gl w43 (nI w4)) yb (w3 + 1) yn := fun _ => by
            have a := ur_sgn hv1 hp1 hm1 hq1 h11 h21 sgK_k hA_r2_s hk44_r
            rw [← hk44_w, sgK_p hA_r2_g, ← hA_r2_e] at a
            exact a
          refine lv_aload_n hx hb dX11_sum_84 rfl (lv_at hl 2 rfl) ?_
          have hPc := hP.sub (ws' := [(h0, .inr (11, gP a i g (nI w42) (nI zs) (nI (w3 + 1)) yn yd ye yf (nI bk) (nI (w43 + 1)) yb)), (a 1, .inl (cm 1, 1400, .inl fT)), (a 19, .inl (cm 19, 2000, .inl w41)), (a 29, .inl (cm 29, 700, .inl (upd gl w43 (nI w4))))]) [1, 0, 2, 3] rfl
          have hKc := hK.sub (tys' := [(cm 1, .byte), (cm 19, .int), (cm 29, .int)]) [0, 1, 2] rfl
          have hDc := hD.sub (ws' := [(h0, .inr (11, gP a i g (nI w42) (nI zs) (nI (w3 + 1)) yn yd ye yf (nI bk) (nI (w43 + 1)) yb)), (a 1, .inl (cm 1, 1400, .inl fT)), (a 19, .inl (cm 19, 2000, .inl w41)), (a 29, .inl (cm 29, 700, .inl (upd gl w43 (nI w4))))]) [1, 0, 2, 3] (by decide) rfl
          have hFc := va_free (wc := [(h0, .inr (11, gP a i g (nI w42) (nI zs) (nI (w3 + 1)) yn yd ye yf (nI bk) (nI (w43 + 1)) yb)), (a 1, .inl (cm 1, 1400, .inl fT)), (a 19, .inl (cm 19, 2000, .inl w41)), (a 29, .inl (cm 29, 700, .inl (upd gl w43 (nI w4))))]) hD hS hA [1, 0, 2, 3] rfl
          refine va_callv (va_runV (As := []) (rest := []) ⟨hx, hb, hml, hown, hts⟩ (c_unit l D _ h0 a cm i g fT w41 (upd gl w43 (nI w4)) w42 zs (w3 + 1) yn yd ye yf bk (w43 + 1) yb fo bs rs bt tS vz (by omega) (by omega) (by omega) hPu hWu hbt hVu hNl) (cwV 0 hts g_c_sum_c_unit_351 rfl rfl rfl (by decide +kernel) ⟨(Nat.le_of_ble_eq_true rfl), (Nat.le_of_ble_eq_true rfl)⟩) (PcW_V (q0 := 0) hPc hKc hDc rfl rfl) rfl rfl hl.1 rfl (lv_room (Nat.le_of_ble_eq_true rfl)) dX11_sum_85 ⟨(Nat.le_of_ble_eq_true rfl), (Nat.le_of_ble_eq_true rfl)⟩) hS (fun q _ h => hFc q h) hFc (fun uu tt H locs htt hvm hw hB hz1 hk1 hS => ?_)
          obtain ⟨w48, w49, w50, w51, w52, w53, w54, w55, w56, w57⟩ := uu
          obtain ⟨hP1, hK1, hD1⟩ := hB
          rw [htt] at hP1
          have hK1 := va_K.moved hvm.symm hK1
          have hP1 : va_P D vwCl [(h0, .inr (11, gP a i g (nI w50) (nI zs) (nI w51) w52 w53 w54 w55 (nI bk) (nI w56) w57)), (a 1, .inl (cm 1, 1400, .inl fT)), (a 19, .inl (cm 19, 2000, .inl w48)), (a 29, .inl (cm 29, 700, .inl w49))] H := hP1
          obtain ⟨hP, hD⟩ := va_join (wr := []) (w1 := [(h0, .inr (11, gP a i g (nI w50) (nI zs) (nI w51) w52 w53 w54 w55 (nI bk) (nI w56) w57)), (a 1, .inl (cm 1, 1400, .inl fT)), (a 19, .inl (cm 19, 2000, .inl w48)), (a 29, .inl (cm 29, 700, .inl w49))]) hP hD [1, 0, 2, 3] [] rfl rfl (by decide) (by decide) hk1 hFc hP1 hD1
          have hP : va_P D vwCl [(h0, .inr (11, gP a i g (nI w50) (nI zs) (nI w51) w52 w53 w54 w55 (nI bk) (nI w56) w57)), (a 1, .inl (cm 1, 1400, .inl fT)), (a 19, .inl (cm 19, 2000, .inl w48)), (a 29, .inl (cm 29, 700, .inl w49))] H := hP
          have hD : va_D A [(h0, .inr (11, gP a i g (nI w50) (nI zs) (nI w51) w52 w53 w54 w55 (nI bk) (nI w56) w57)), (a 1, .inl (cm 1, 1400, .inl fT)), (a 19, .inl (cm 19, 2000, .inl w48)), (a 29, .inl (cm 29, 700, .inl w49))] := hD
          try dsimp only at hw
          clear hz1 hk1 hFc hPc hKc hDc
          obtain ⟨hu58_1, hu58_2, hu58_3, hu58_P, hu58_b, hu58_V, hu58_N⟩ := hw
          refine lv_goto (tgt := 118) hx hb dX11_sum_88 (by decide) ?_
          refine lv_goto (tgt := 16) hx hb dX11_sum_118 (by decide) ?_
          exact ih w50 w51 w52 w53 w54 w55 w56 w57 w48 w49 (by omega) (by omega) (by omega) (hu58_P) (fun z => ⟨(hWl (hu58_b z).1).1, (hu58_b z).2.2⟩) (hu58_V) (hu58_N) (mif hm hA_r1 (fun z => by have := (hu58_b z).2.1; omega)) H locs ls (hP.sub [0, 1, 2, 3] rfl) (hD.sub [0, 1, 2, 3] (by decide) rfl) hS (lv_sub hl [1, 2] rfl)
    ·
      refine lv_if_eq (tgt := 121) hx hb dX11_sum_20 (by decide) (fun hc => ?_) (fun hc => absurd (by decide) hc)
      exact kx121 c2 ya yn yd ye yf yp yb gc gl (by omega) (hNl) (fun z => absurd z hA_r1) (fun z => absurd z hA_r1) H locs ls (hP.sub [0, 1, 2, 3] rfl) (hD.sub [0, 1, 2, 3] (by decide) rfl) hS (lv_sub hl [1] rfl)
set_option maxHeartbeats 4000000 in
set_option maxRecDepth 100000 in
theorem c_sum (l : Launch) (D : va_G) (sz : Nat) (h0 : Nat) (a : Nat → Nat) (cm : Nat → ClassId) (i : Nat → Int32) (g : Nat → Int64) (fT : Nat → Int32) (fc : Nat → Int32) (fl : Nat → Int32) (cd : Nat) (zs : Nat) (ta : Nat) (en : Int32) (bd : Int32) (bp : Int32) (bq : Int32) (bk : Nat) (pl : Nat) (br : Int32) (fo : Nat → Int32) (bs : Nat) (rs : Nat) (bt : Nat → Nat) (tS : Nat) (vz : Option (SM × RC)) (hz6 : zs ≤ 600) (hta : ta ≤ zs) (hcp : cd + rs ≤ ta) (hW : bd = 0 → PSt fc fo cd bk bs) (hbt : TieB fT bt) (hV : bd = 0 → TR bt zs vz 1 tS cd fc bk fo ta en) (hVn : ¬ bd = 0 → vz = none) : Met l yX11_sum wp_c_sum ({ frames := 6, cells := 0, slots := 0, locals := 190 }) (PcW D [.ref h0] sz [(h0, .inr (11, gP a i g (nI cd) (nI zs) (nI ta) en bd bp bq (nI bk) (nI pl) br)), (a 1, .inl (cm 1, 1400, .inl fT)), (a 19, .inl (cm 19, 2000, .inl fc)), (a 29, .inl (cm 29, 700, .inl fl))] [(cm 1, .byte), (cm 19, .int), (cm 29, .int)]) (va_Qv (fun (u : (Nat → Int32) × (Nat → Int32) × (Nat) × (Nat) × (Int32) × (Int32) × (Int32) × (Int32) × (Nat) × (Int32)) => u.2.2.1 + rs ≤ u.2.2.2.1 ∧ ta ≤ u.2.2.2.1 ∧ u.2.2.2.1 ≤ zs ∧ (u.2.2.2.2.2.1 = 0 → bd = 0 ∧ PSt u.1 fo u.2.2.1 bk (bs + 1)) ∧ (u.2.2.2.2.2.1 = 0 → SR bt zs vz tS u.2.2.1 u.1 bk fo u.2.2.2.1 u.2.2.2.2.1) ∧ (¬ u.2.2.2.2.2.1 = 0 → vz = none)) (fun (u : (Nat → Int32) × (Nat → Int32) × (Nat) × (Nat) × (Int32) × (Int32) × (Int32) × (Int32) × (Nat) × (Int32)) t => va_P D vwCl [(h0, .inr (11, gP a i g (nI u.2.2.1) (nI zs) (nI u.2.2.2.1) u.2.2.2.2.1 u.2.2.2.2.2.1 u.2.2.2.2.2.2.1 u.2.2.2.2.2.2.2.1 (nI bk) (nI u.2.2.2.2.2.2.2.2.1) u.2.2.2.2.2.2.2.2.2)), (a 1, .inl (cm 1, 1400, .inl fT)), (a 19, .inl (cm 19, 2000, .inl u.1)), (a 29, .inl (cm 29, 700, .inl u.2.1))] t.heap ∧ va_K D vwCl [(cm 1, .byte), (cm 19, .int), (cm 29, .int)] t ∧ va_D (va_A [(h0, .inr (11, gP a i g (nI cd) (nI zs) (nI ta) en bd bp bq (nI bk) (nI pl) br)), (a 1, .inl (cm 1, 1400, .inl fT)), (a 19, .inl (cm 19, 2000, .inl fc)), (a 29, .inl (cm 29, 700, .inl fl))] sz) [(h0, .inr (11, gP a i g (nI u.2.2.1) (nI zs) (nI u.2.2.2.1) u.2.2.2.2.1 u.2.2.2.2.2.1 u.2.2.2.2.2.2.1 u.2.2.2.2.2.2.2.1 (nI bk) (nI u.2.2.2.2.2.2.2.2.1) u.2.2.2.2.2.2.2.2.2)), (a 1, .inl (cm 1, 1400, .inl fT)), (a 19, .inl (cm 19, 2000, .inl u.1)), (a 29, .inl (cm 29, 700, .inl u.2.1))]) (va_A [(h0, .inr (11, gP a i g (nI cd) (nI zs) (nI ta) en bd bp bq (nI bk) (nI pl) br)), (a 1, .inl (cm 1, 1400, .inl fT)), (a 19, .inl (cm 19, 2000, .inl fc)), (a 29, .inl (cm 29, 700, .inl fl))] sz)) 0 0 (va_A [(h0, .inr (11, gP a i g (nI cd) (nI zs) (nI ta) en bd bp bq (nI bk) (nI pl) br)), (a 1, .inl (cm 1, 1400, .inl fT)), (a 19, .inl (cm 19, 2000, .inl fc)), (a 29, .inl (cm 29, 700, .inl fl))] sz) := by
  refine Met.ofW (cc := cX11_sum) (maxL := 3) (ret := none) (by decide) rfl ?_
  intro p e s m args below meth c s₁ B hml hv
  obtain ⟨rfl, hsz, hP, hK, hD0⟩ := hv
  have hx := B.exec
  have hb := B.bytes
  have hr := B.returns
  have hts := atoms_spec (ws := wp_c_sum) B.pre
  have hin_X11 : ∀ w ∈ wsX110, w ∈ wp_c_sum := fun _ h => (List.mem_cons_of_mem _ (List.mem_append_right _ (List.mem_append_right _ (List.mem_append_right _ (List.mem_append_right _ (List.mem_append_right _ (List.mem_append_right _ (List.mem_append_left _ h))))))))
  have hown : s.vm.findClass RX11 = some m.cls := findClass_of_methodNamed B.named
  have hlocks := B.notSynchronized
  subst hsz
  have hD := hD0.self (sz := s.heap.size)
  generalize hAe : va_A [(h0, .inr (11, gP a i g (nI cd) (nI zs) (nI ta) en bd bp bq (nI bk) (nI pl) br)), (a 1, .inl (cm 1, 1400, .inl fT)), (a 19, .inl (cm 19, 2000, .inl fc)), (a 29, .inl (cm 29, 700, .inl fl))] s.heap.size = A at hD ⊢
  have hA : ∀ q : Nat, s.heap.size ≤ q → A q := fun q h => by rw [← hAe]; exact Or.inr h
  have hS : va_S A s.heap s.heap [] := va_S.rf
  have hP : va_P D vwCl [(h0, .inr (11, gP a i g (nI cd) (nI zs) (nI ta) en bd bp bq (nI bk) (nI pl) br)), (a 1, .inl (cm 1, 1400, .inl fT)), (a 19, .inl (cm 19, 2000, .inl fc)), (a 29, .inl (cm 29, 700, .inl fl))] s.heap := hP
  have hl := lv_entry ([.ref h0]) (n := 3) (Nat.le_of_ble_eq_true rfl)
  rw [lg_entry_eq]
  generalize (lg_sl ([.ref h0]) ++ List.replicate (3 - (lg_sl ([.ref h0])).length) Slot.unset).toArray = ls at hl ⊢
  have hl : lv_has ls 3 [(0, .ref h0)] := hl
  have hzs : zs ≤ 1400 := by omega
  refine lv_aload_n hx hb dX11_sum_0 rfl (lv_at hl 0 rfl) ?_
  refine lv_iconst (v := 0) hx hb dX11_sum_1 (by decide) ?_
  refine va_put (D := D) (ci := 11) (v := .int 0) (ty := .int) (C := RX11) (T := TX11) (N := 47) hx hb hts hin_X11 tyX11 tyX11_ok nmX11 hown hK hP hD hS 0 rfl rfl 30 (by decide) (hts (.fieldLink RX11 341 "ClashFreeModel" "piled" "I") (List.mem_of_getElem? (i := 11) rfl)) (fun _ h9 => h9) rfl (by decide +kernel) rfl rfl (Nat.le_of_ble_eq_true rfl) dX11_sum_2 (fun H locs hP hD hS => ?_)
  have hP : va_P D vwCl [(h0, .inr (11, gP a i g (nI cd) (nI zs) (nI ta) en bd bp bq (nI bk) 0 br)), (a 1, .inl (cm 1, 1400, .inl fT)), (a 19, .inl (cm 19, 2000, .inl fc)), (a 29, .inl (cm 29, 700, .inl fl))] H := hP
  have hD : va_D A [(h0, .inr (11, gP a i g (nI cd) (nI zs) (nI ta) en bd bp bq (nI bk) 0 br)), (a 1, .inl (cm 1, 1400, .inl fT)), (a 19, .inl (cm 19, 2000, .inl fc)), (a 29, .inl (cm 29, 700, .inl fl))] := hD
  refine lv_aload_n hx hb dX11_sum_5 rfl (lv_at hl 0 rfl) ?_
  refine lv_iconst (v := 0) hx hb dX11_sum_6 (by decide) ?_
  refine va_put (D := D) (ci := 11) (v := .int 0) (ty := .int) (C := RX11) (T := TX11) (N := 47) hx hb hts hin_X11 tyX11 tyX11_ok nmX11 hown hK hP hD hS 0 rfl rfl 31 (by decide) (hts (.fieldLink RX11 338 "ClashFreeModel" "brackets" "I") (List.mem_of_getElem? (i := 20) rfl)) (fun _ h9 => h9) rfl (by decide +kernel) rfl rfl (Nat.le_of_ble_eq_true rfl) dX11_sum_7 (fun H locs hP hD hS => ?_)
  have hP : va_P D vwCl [(h0, .inr (11, gP a i g (nI cd) (nI zs) (nI ta) en bd bp bq (nI bk) 0 0)), (a 1, .inl (cm 1, 1400, .inl fT)), (a 19, .inl (cm 19, 2000, .inl fc)), (a 29, .inl (cm 29, 700, .inl fl))] H := hP
  have hD : va_D A [(h0, .inr (11, gP a i g (nI cd) (nI zs) (nI ta) en bd bp bq (nI bk) 0 0)), (a 1, .inl (cm 1, 1400, .inl fT)), (a 19, .inl (cm 19, 2000, .inl fc)), (a 29, .inl (cm 29, 700, .inl fl))] := hD
  refine lv_iconst (v := 1) hx hb dX11_sum_10 (by decide) ?_
  refine lv_istore_n (lv' := [(1, .int 1), (0, .ref h0)]) hx hb dX11_sum_11 rfl hl (by decide) rfl (fun ls hl => ?_)
  have hPl0 : PlS fl 0 := fun j h => absurd h (Nat.not_lt_zero _)
  have hV0 : bd = 0 → UR bt zs vz 1 tS cd fc bk fo 0 fl 0 ta en := fun z => (hV z).ur fl
  refine lv_aload_n hx hb dX11_sum_12 rfl (lv_at hl 1 rfl) ?_
  have hPc := hP.sub (ws' := [(h0, .inr (11, gP a i g (nI cd) (nI zs) (nI ta) en bd bp bq (nI bk) (nI 0) 0)), (a 1, .inl (cm 1, 1400, .inl fT)), (a 19, .inl (cm 19, 2000, .inl fc)), (a 29, .inl (cm 29, 700, .inl fl))]) [0, 1, 2, 3] rfl
  have hKc := hK.sub (tys' := [(cm 1, .byte), (cm 19, .int), (cm 29, .int)]) [0, 1, 2] rfl
  have hDc := hD.sub (ws' := [(h0, .inr (11, gP a i g (nI cd) (nI zs) (nI ta) en bd bp bq (nI bk) (nI 0) 0)), (a 1, .inl (cm 1, 1400, .inl fT)), (a 19, .inl (cm 19, 2000, .inl fc)), (a 29, .inl (cm 29, 700, .inl fl))]) [0, 1, 2, 3] (by decide) rfl
  have hFc := va_free (wc := [(h0, .inr (11, gP a i g (nI cd) (nI zs) (nI ta) en bd bp bq (nI bk) (nI 0) 0)), (a 1, .inl (cm 1, 1400, .inl fT)), (a 19, .inl (cm 19, 2000, .inl fc)), (a 29, .inl (cm 29, 700, .inl fl))]) hD hS hA [0, 1, 2, 3] rfl
  refine va_callv (va_runV (As := []) (rest := []) ⟨hx, hb, hml, hown, hts⟩ (c_unit l D _ h0 a cm i g fT fc fl cd zs ta en bd bp bq bk 0 0 fo bs rs bt tS vz (by omega) (by omega) (by omega) hPl0 hW hbt hV0 hVn) (cwV 0 hts g_c_sum_c_unit_351 rfl rfl rfl (by decide +kernel) ⟨(Nat.le_of_ble_eq_true rfl), (Nat.le_of_ble_eq_true rfl)⟩) (PcW_V (q0 := 0) hPc hKc hDc rfl rfl) rfl rfl hl.1 rfl (lv_room (Nat.le_of_ble_eq_true rfl)) dX11_sum_13 ⟨(Nat.le_of_ble_eq_true rfl), (Nat.le_of_ble_eq_true rfl)⟩) hS (fun q _ h => hFc q h) hFc (fun uu tt H locs htt hvm hw hB hz1 hk1 hS => ?_)
  obtain ⟨w2, w3, w4, w5, w6, w7, w8, w9, w10, w11⟩ := uu
  obtain ⟨hP1, hK1, hD1⟩ := hB
  rw [htt] at hP1
  have hK1 := va_K.moved hvm.symm hK1
  have hP1 : va_P D vwCl [(h0, .inr (11, gP a i g (nI w4) (nI zs) (nI w5) w6 w7 w8 w9 (nI bk) (nI w10) w11)), (a 1, .inl (cm 1, 1400, .inl fT)), (a 19, .inl (cm 19, 2000, .inl w2)), (a 29, .inl (cm 29, 700, .inl w3))] H := hP1
  obtain ⟨hP, hD⟩ := va_join (wr := []) (w1 := [(h0, .inr (11, gP a i g (nI w4) (nI zs) (nI w5) w6 w7 w8 w9 (nI bk) (nI w10) w11)), (a 1, .inl (cm 1, 1400, .inl fT)), (a 19, .inl (cm 19, 2000, .inl w2)), (a 29, .inl (cm 29, 700, .inl w3))]) hP hD [0, 1, 2, 3] [] rfl rfl (by decide) (by decide) hk1 hFc hP1 hD1
  have hP : va_P D vwCl [(h0, .inr (11, gP a i g (nI w4) (nI zs) (nI w5) w6 w7 w8 w9 (nI bk) (nI w10) w11)), (a 1, .inl (cm 1, 1400, .inl fT)), (a 19, .inl (cm 19, 2000, .inl w2)), (a 29, .inl (cm 29, 700, .inl w3))] H := hP
  have hD : va_D A [(h0, .inr (11, gP a i g (nI w4) (nI zs) (nI w5) w6 w7 w8 w9 (nI bk) (nI w10) w11)), (a 1, .inl (cm 1, 1400, .inl fT)), (a 19, .inl (cm 19, 2000, .inl w2)), (a 29, .inl (cm 29, 700, .inl w3))] := hD
  try dsimp only at hw
  clear hz1 hk1 hFc hPc hKc hDc
  obtain ⟨hu12_1, hu12_2, hu12_3, hu12_P, hu12_b, hu12_V, hu12_N⟩ := hw
  refine lp_sum l D h0 a cm i g fT cd zs ta en bd bp bq bk pl br fo bs rs bt tS vz (hz6) (hzs) (hbt) hx hb hml hown hts hA (hK.sub [0, 1, 2] rfl) ?_ ((if w7 = 0 then (zs - w5) + 1 else 0) + 1) w4 w5 w6 w7 w8 w9 w10 w11 w2 w3 (by omega) (by omega) (by omega) (hu12_P) (fun z => ⟨(hu12_b z).1, (hu12_b z).2.2⟩) (hu12_V) (hu12_N) (Nat.lt_succ_self _) _ _ _ (hP.sub [0, 1, 2, 3] rfl) (hD.sub [0, 1, 2, 3] (by decide) rfl) hS (lv_sub hl [0, 1] rfl)
  intro c2_13 ya_14 yn_15 yd_16 ye_17 yf_18 yp_19 yb_20 gc_21 gl_22 hx23 hx24 hx25 hx26 H locs ls hP hD hS hl
  exact W.vret hx hb hr (fun t ht hW => ⟨⟨(gc_21, gl_22, c2_13, ya_14, yn_15, yd_16, ye_17, yf_18, yp_19, yb_20), rfl, (by (try dsimp only); exact ⟨by omega, by omega, by omega, hx25, hx26, hx24⟩), by rw [ht]; exact hP.sub [0, 1, 2, 3] rfl, va_K.moved hW.alike (hK.sub [0, 1, 2] rfl), hD.sub [0, 1, 2, 3] (by decide) rfl⟩, hS.F ht⟩) hS.2.2 dX11_sum_121

