theorem dX11_put_0 : decode cX11_put 0 = .ok (.aload_n 0, 1) := by decide +kernel
theorem dX11_put_1 : decode cX11_put 1 = .ok (.iconst 0, 1) := by decide +kernel
theorem dX11_put_2 : decode cX11_put 2 = .ok (.putfield 73, 3) := by decide +kernel
theorem dX11_put_5 : decode cX11_put 5 = .ok (.aload_n 0, 1) := by decide +kernel
theorem dX11_put_6 : decode cX11_put 6 = .ok (.iload_n 1, 1) := by decide +kernel
theorem dX11_put_7 : decode cX11_put 7 = .ok (.invokevirtual 222, 3) := by decide +kernel
theorem dX11_put_10 : decode cX11_put 10 = .ok (.ifCond .eq 10, 3) := by decide +kernel
theorem dX11_put_13 : decode cX11_put 13 = .ok (.iload_n 2, 1) := by decide +kernel
theorem dX11_put_14 : decode cX11_put 14 = .ok (.invokestatic 226, 3) := by decide +kernel
theorem dX11_put_17 : decode cX11_put 17 = .ok (.ifCond .ne 6, 3) := by decide +kernel
theorem dX11_put_20 : decode cX11_put 20 = .ok (.bipush (-2), 2) := by decide +kernel
theorem dX11_put_22 : decode cX11_put 22 = .ok (.ireturn, 1) := by decide +kernel
theorem dX11_put_23 : decode cX11_put 23 = .ok (.aload_n 0, 1) := by decide +kernel
theorem dX11_put_24 : decode cX11_put 24 = .ok (.iload_n 1, 1) := by decide +kernel
theorem dX11_put_25 : decode cX11_put 25 = .ok (.iload_n 2, 1) := by decide +kernel
theorem dX11_put_26 : decode cX11_put 26 = .ok (.invokevirtual 229, 3) := by decide +kernel
theorem dX11_put_29 : decode cX11_put 29 = .ok (.ifCond .eq 8, 3) := by decide +kernel
theorem dX11_put_32 : decode cX11_put 32 = .ok (.bipush (-3), 2) := by decide +kernel
theorem dX11_put_34 : decode cX11_put 34 = .ok (.goto 10, 3) := by decide +kernel
theorem dX11_put_37 : decode cX11_put 37 = .ok (.aload_n 0, 1) := by decide +kernel
theorem dX11_put_38 : decode cX11_put 38 = .ok (.iload_n 1, 1) := by decide +kernel
theorem dX11_put_39 : decode cX11_put 39 = .ok (.iload_n 2, 1) := by decide +kernel
theorem dX11_put_40 : decode cX11_put 40 = .ok (.iload_n 3, 1) := by decide +kernel
theorem dX11_put_41 : decode cX11_put 41 = .ok (.invokevirtual 232, 3) := by decide +kernel
theorem dX11_put_44 : decode cX11_put 44 = .ok (.ireturn, 1) := by decide +kernel
theorem dX11_get_0 : decode cX11_get 0 = .ok (.aload_n 0, 1) := by decide +kernel
theorem dX11_get_1 : decode cX11_get 1 = .ok (.iconst 0, 1) := by decide +kernel
theorem dX11_get_2 : decode cX11_get 2 = .ok (.putfield 73, 3) := by decide +kernel
theorem dX11_get_5 : decode cX11_get 5 = .ok (.aload_n 0, 1) := by decide +kernel
theorem dX11_get_6 : decode cX11_get 6 = .ok (.iload_n 1, 1) := by decide +kernel
theorem dX11_get_7 : decode cX11_get 7 = .ok (.invokevirtual 222, 3) := by decide +kernel
theorem dX11_get_10 : decode cX11_get 10 = .ok (.ifCond .eq 10, 3) := by decide +kernel
theorem dX11_get_13 : decode cX11_get 13 = .ok (.iload_n 2, 1) := by decide +kernel
theorem dX11_get_14 : decode cX11_get 14 = .ok (.invokestatic 226, 3) := by decide +kernel
theorem dX11_get_17 : decode cX11_get 17 = .ok (.ifCond .ne 7, 3) := by decide +kernel
theorem dX11_get_20 : decode cX11_get 20 = .ok (.ldc2_w 235, 3) := by decide +kernel
theorem dX11_get_23 : decode cX11_get 23 = .ok (.lreturn, 1) := by decide +kernel
theorem dX11_get_24 : decode cX11_get 24 = .ok (.aload_n 0, 1) := by decide +kernel
theorem dX11_get_25 : decode cX11_get 25 = .ok (.iload_n 1, 1) := by decide +kernel
theorem dX11_get_26 : decode cX11_get 26 = .ok (.iload_n 2, 1) := by decide +kernel
theorem dX11_get_27 : decode cX11_get 27 = .ok (.invokevirtual 215, 3) := by decide +kernel
theorem dX11_get_30 : decode cX11_get 30 = .ok (.aload_n 0, 1) := by decide +kernel
theorem dX11_get_31 : decode cX11_get 31 = .ok (.iload_n 1, 1) := by decide +kernel
theorem dX11_get_32 : decode cX11_get 32 = .ok (.iload_n 2, 1) := by decide +kernel
theorem dX11_get_33 : decode cX11_get 33 = .ok (.invokevirtual 202, 3) := by decide +kernel
theorem dX11_get_36 : decode cX11_get 36 = .ok (.ifCond .eq 25, 3) := by decide +kernel
theorem dX11_get_39 : decode cX11_get 39 = .ok (.aload_n 0, 1) := by decide +kernel
theorem dX11_get_40 : decode cX11_get 40 = .ok (.getfield 21, 3) := by decide +kernel
theorem dX11_get_43 : decode cX11_get 43 = .ok (.sipush 160, 3) := by decide +kernel
theorem dX11_get_46 : decode cX11_get 46 = .ok (.iload_n 1, 1) := by decide +kernel
theorem dX11_get_47 : decode cX11_get 47 = .ok (.imul, 1) := by decide +kernel
theorem dX11_get_48 : decode cX11_get 48 = .ok (.aload_n 0, 1) := by decide +kernel
theorem dX11_get_49 : decode cX11_get 49 = .ok (.iload_n 1, 1) := by decide +kernel
theorem dX11_get_50 : decode cX11_get 50 = .ok (.iload_n 2, 1) := by decide +kernel
theorem dX11_get_51 : decode cX11_get 51 = .ok (.i2l, 1) := by decide +kernel
theorem dX11_get_52 : decode cX11_get 52 = .ok (.invokevirtual 99, 3) := by decide +kernel
theorem dX11_get_55 : decode cX11_get 55 = .ok (.iadd, 1) := by decide +kernel
theorem dX11_get_56 : decode cX11_get 56 = .ok (.iaload, 1) := by decide +kernel
theorem dX11_get_57 : decode cX11_get 57 = .ok (.i2l, 1) := by decide +kernel
theorem dX11_get_58 : decode cX11_get 58 = .ok (.goto 6, 3) := by decide +kernel
theorem dX11_get_61 : decode cX11_get 61 = .ok (.ldc2_w 235, 3) := by decide +kernel
theorem dX11_get_64 : decode cX11_get 64 = .ok (.lreturn, 1) := by decide +kernel
theorem TabS.row {k cn nb : Nat} {K J : Nat → Nat} {fn gn : Nat → Int64} {fk fb ff fh : Nat → Int32} (h : TabS k cn nb K J fn fk fb ff fh) (e1 : gn (17 * k + 1) = fn (17 * k + 1)) (e4 : gn (17 * k + 4) = fn (17 * k + 4)) (e6 : gn (17 * k + 6) = fn (17 * k + 6)) (e7 : gn (17 * k + 7) = fn (17 * k + 7)) (e14 : gn (17 * k + 14) = fn (17 * k + 14)) (e15 : gn (17 * k + 15) = fn (17 * k + 15)) (e16 : gn (17 * k + 16) = fn (17 * k + 16)) : TabS k cn nb K J gn fk fb ff fh := by
  obtain ⟨a1, a2, a3, a4, a5, ⟨ka, kb, b1, b2, b3, b4⟩, c, d1, d2, ⟨bn, ns, gr, s1, s2, s3, s4, s5, s6, s7⟩⟩ := h
  exact ⟨e1.trans a1, a2, e4.trans a3, a4, a5, ⟨ka, kb, b1, b2, e6.trans b3, e7.trans b4⟩, c, d1, d2, ⟨bn, ns, gr, e14.trans s1, s2, e15.trans s3, s4, s5, e16.trans s6, s7⟩⟩
/-- cells behind q are one place nearer, up to y -/
def Shl (k q y : Nat) (f g : Nat → Int32) : Prop := (∀ j, j < q → g (160 * k + j) = f (160 * k + j)) ∧ (∀ j, q ≤ j → j < y → g (160 * k + j) = f (160 * k + (j + 1))) ∧ (∀ j, y ≤ j → j < 160 → g (160 * k + j) = f (160 * k + j)) ∧ ∀ x, (x < 160 * k ∨ 160 * k + 160 ≤ x) → g x = f x
theorem Shl_0 (k q : Nat) (f : Nat → Int32) : Shl k q q f f := ⟨fun _ _ => rfl, fun j a b => absurd a (by omega), fun _ _ _ => rfl, fun _ _ => rfl⟩
theorem Shl_step {k q y : Nat} {f g : Nat → Int32} (hq : q ≤ y) (hy : y + 1 < 160) (h : Shl k q y f g) : Shl k q (y + 1) f (upd g (160 * k + y) (g (160 * k + (y + 1)))) := by
  refine ⟨fun j hj => ?_, fun j h1 h2 => ?_, fun j h1 h2 => ?_, fun x hx => ?_⟩
  · rw [pk_un (by omega)]
    exact h.1 j hj
  · by_cases e : j = y
    · subst e
      rw [pk_us]
      exact h.2.2.1 _ (by omega) hy
    · rw [pk_un (by omega)]
      exact h.2.1 j h1 (by omega)
  · rw [pk_un (by omega)]
    exact h.2.2.1 j (by omega) h2
  · rw [pk_un (by omega)]
    exact h.2.2.2 x hx
theorem delN_lt {K : Nat → Nat} {q j : Nat} (h : j < q) : delN K q j = K j := if_pos h
theorem delN_ge {K : Nat → Nat} {q j : Nat} (h : q ≤ j) : delN K q j = K (j + 1) := if_neg (by omega)
theorem Ky_del {k cn q y : Nat} {K : Nat → Nat} {fk gk : Nat → Int32} (h : KyS k fk cn K) (hi : Shl k q y fk gk) (hq : q < cn) (hy : y + 1 = cn) : KyS k gk (cn - 1) (delN K q) := by
  refine ⟨fun j hj => ?_, fun i j hij hj => ?_⟩
  · rcases Nat.lt_or_ge j q with z | z
    · rw [delN_lt z, hi.1 j z]
      exact h.1 j (by omega)
    · rw [delN_ge z, hi.2.1 j z (by omega)]
      exact h.1 (j + 1) (by omega)
  · rcases Nat.lt_or_ge j q with z | z
    · rw [delN_lt z, delN_lt (by omega)]
      exact h.2 i j hij (by omega)
    · rw [delN_ge z]
      rcases Nat.lt_or_ge i q with w | w
      · rw [delN_lt w]
        exact h.2 i (j + 1) (by omega) (by omega)
      · rw [delN_ge w]
        exact h.2 (i + 1) (j + 1) (by omega) (by omega)
theorem Bk_del {k cn nb q y : Nat} {J : Nat → Nat} {fb gb : Nat → Int32} (h : BkS k fb cn nb J) (hi : Shl k q y fb gb) (hq : q < cn) (hy : y + 1 = cn) : BkS k gb (cn - 1) nb (delN J q) := by
  intro j hj
  rcases Nat.lt_or_ge j q with z | z
  · rw [delN_lt z, hi.1 j z]
    exact h j (by omega)
  · rw [delN_ge z, hi.2.1 j z (by omega)]
    exact h (j + 1) (by omega)
theorem cnt_del (J : Nat → Nat) (q c : Nat) : ∀ n, cntJ (delN J q) (q + n) c + (if J q = c then 1 else 0) = cntJ J (q + n + 1) c
  | 0 => by
    rw [Nat.add_zero, cntJ_s, cntJ_congr q (fun j hj => delN_lt hj)]
  | n + 1 => by
    have h := cnt_del J q c n
    rw [show q + (n + 1) = q + n + 1 by omega, cntJ_s, delN_ge (by omega), cntJ_s J (q + n + 1)]
    omega
theorem Hs_del {k cn nb q : Nat} {J : Nat → Nat} {ff fh : Nat → Int32} (h : HsS k ff fh cn nb J) (hq : q < cn) (hJ : J q < nb) : HsS k ff (upd fh (2048 * k + J q) (nI (cntJ J cn (J q) - 1))) (cn - 1) nb (delN J q) := by
  intro c hcb
  obtain ⟨a1, r, a2, a3, a4⟩ := h c hcb
  have e := cnt_del J q c (cn - 1 - q)
  rw [show q + (cn - 1 - q) + 1 = cn by omega, show q + (cn - 1 - q) = cn - 1 by omega] at e
  by_cases z : c = J q
  · subst z
    rw [if_pos rfl] at e
    rw [pk_us, show cntJ J cn (J q) - 1 = cntJ (delN J q) (cn - 1) (J q) by omega]
    exact ⟨rfl, r, a2, by omega, a4⟩
  · rw [if_neg (fun y => z y.symm), Nat.add_zero] at e
    rw [pk_un (by omega), e]
    exact ⟨a1, r, a2, a3, a4⟩
theorem cnt_pos {J : Nat → Nat} {q : Nat} : ∀ n, q < n → 1 ≤ cntJ J n (J q)
  | 0, h => absurd h (Nat.not_lt_zero _)
  | n + 1, h => by
    rw [cntJ_s]
    by_cases e : q = n
    · subst e
      rw [if_pos rfl]
      omega
    · have := cnt_pos n (J := J) (q := q) (by omega)
      omega
theorem nful_T {k cn nb : Nat} {K J : Nat → Nat} {fn : Nat → Int64} {fk fb ff fh : Nat → Int32} (hk : k < 4) (hT : TabS k cn nb K J fn fk fb ff fh) {kx : Nat} (fv : Nat → Int32) (h : cn < 160 ∨ ∃ q, q < cn ∧ K q = kx) : fulL (lsR fn fk fv k) kx = false := by
  rw [lsR_T hk hT fv]
  rcases h with z | ⟨q, hq, e⟩
  · exact fulL_f1 (by rw [tabl_len]; omega)
  · obtain ⟨_, _, _, _, _, _, hK, _⟩ := hT
    exact fulL_f2 (look_at cn K _ q kx hK.2 hq e)
theorem ful_T {k cn nb : Nat} {K J : Nat → Nat} {fn : Nat → Int64} {fk fb ff fh : Nat → Int32} (hk : k < 4) (hT : TabS k cn nb K J fn fk fb ff fh) {kx : Nat} (fv : Nat → Int32) (h : cn = 160 ∧ ∀ q, q < cn → K q ≠ kx) : fulL (lsR fn fk fv k) kx = true := by
  rw [lsR_T hk hT fv]
  exact fulL_t ((tabl_len _ _ _).trans h.1) (look_no _ _ _ _ h.2)
theorem look_T {k cn nb : Nat} {K J : Nat → Nat} {fn : Nat → Int64} {fk fb ff fh : Nat → Int32} (hk : k < 4) (hT : TabS k cn nb K J fn fk fb ff fh) {kx q : Nat} (fv : Nat → Int32) (hq : q < cn) (e : K q = kx) : lookL (lsR fn fk fv k) kx = some (fv (160 * k + q)) := by
  rw [lsR_T hk hT fv]
  obtain ⟨_, _, _, _, _, _, hK, _⟩ := hT
  exact look_at cn K _ q kx hK.2 hq e
theorem nook_T {k cn nb : Nat} {K J : Nat → Nat} {fn : Nat → Int64} {fk fb ff fh : Nat → Int32} (hk : k < 4) (hT : TabS k cn nb K J fn fk fb ff fh) {kx : Nat} (fv : Nat → Int32) (h : ∀ q, q < cn → K q ≠ kx) : lookL (lsR fn fk fv k) kx = none := by
  rw [lsR_T hk hT fv]
  exact look_no _ _ _ _ h
def own_c_putM : List Cond := [.fieldLink RX11 73 "ClashFreeModel" "thrown" "I", .methodLink RX11 222 yX11_isThere, .instanceMethod yX11_isThere, .selects RX11 yX11_isThere yX11_isThere, .initialized RX11, .methodLink RX11 226 yX11_isKey, .static yX11_isKey, .methodLink RX11 229 yX11_isFull, .instanceMethod yX11_isFull, .selects RX11 yX11_isFull yX11_isFull, .methodLink RX11 232 yX11_putsKey, .instanceMethod yX11_putsKey, .selects RX11 yX11_putsKey yX11_putsKey]
def wp_c_putM : List Cond := .code yX11_put cX11_put 4 (some .int) :: (own_c_putM ++ (wp_c_isThere ++ (wp_c_isKey ++ (wp_c_isFull ++ (wp_c_putsKey ++ (wsX110 ++ ([] : List Cond)))))))
set_option maxRecDepth 20000 in
theorem inown_c_putM : ∀ w ∈ own_c_putM, w ∈ lw_tbl := mem_places [1216, 1466, 1468, 54, 115, 1470, 1471, 1473, 1475, 55, 1485, 1487, 58] (by decide +kernel)
set_option maxRecDepth 20000 in
theorem in_c_putM : ∀ w ∈ wp_c_putM, w ∈ lw_tbl := List.forall_mem_cons.mpr ⟨List.mem_of_getElem? (i := 1465) (by decide +kernel), List.forall_mem_append.mpr ⟨inown_c_putM, List.forall_mem_append.mpr ⟨in_c_isThere, List.forall_mem_append.mpr ⟨in_c_isKey, List.forall_mem_append.mpr ⟨in_c_isFull, List.forall_mem_append.mpr ⟨in_c_putsKey, List.forall_mem_append.mpr ⟨lwb_X11, fun _ h => absurd h List.not_mem_nil⟩⟩⟩⟩⟩⟩⟩
set_option maxRecDepth 20000 in
theorem good_c_putM : wp_c_putM.all goodWord = true := by decide +kernel
set_option maxRecDepth 20000 in
theorem g_c_putM_c_isThere_222 : GoodIn wp_c_putM (wsV RX11 222 RX11 yX11_isThere wp_c_isThere) := goodIn_sub (List.forall_mem_append.mpr ⟨List.forall_mem_cons.mpr ⟨(List.mem_of_getElem? (i := 2) rfl), List.forall_mem_cons.mpr ⟨(List.mem_of_getElem? (i := 3) rfl), List.forall_mem_cons.mpr ⟨(List.mem_of_getElem? (i := 4) rfl), List.forall_mem_cons.mpr ⟨(List.mem_of_getElem? (i := 5) rfl), fun _ h => absurd h List.not_mem_nil⟩⟩⟩⟩, (fun _ h => (List.mem_cons_of_mem _ (List.mem_append_right _ (List.mem_append_left _ h))))⟩) (by decide +kernel)
set_option maxRecDepth 20000 in
theorem g_c_putM_c_isKey_226 : GoodIn wp_c_putM (va_wsS RX11 226 yX11_isKey wp_c_isKey) := goodIn_sub (List.forall_mem_append.mpr ⟨List.forall_mem_cons.mpr ⟨(List.mem_of_getElem? (i := 6) rfl), List.forall_mem_cons.mpr ⟨(List.mem_of_getElem? (i := 7) rfl), List.forall_mem_cons.mpr ⟨(List.mem_of_getElem? (i := 5) rfl), fun _ h => absurd h List.not_mem_nil⟩⟩⟩, (fun _ h => (List.mem_cons_of_mem _ (List.mem_append_right _ (List.mem_append_right _ (List.mem_append_left _ h)))))⟩) (by decide +kernel)
set_option maxRecDepth 20000 in
theorem g_c_putM_c_isFull_229 : GoodIn wp_c_putM (wsV RX11 229 RX11 yX11_isFull wp_c_isFull) := goodIn_sub (List.forall_mem_append.mpr ⟨List.forall_mem_cons.mpr ⟨(List.mem_of_getElem? (i := 8) rfl), List.forall_mem_cons.mpr ⟨(List.mem_of_getElem? (i := 9) rfl), List.forall_mem_cons.mpr ⟨(List.mem_of_getElem? (i := 10) rfl), List.forall_mem_cons.mpr ⟨(List.mem_of_getElem? (i := 5) rfl), fun _ h => absurd h List.not_mem_nil⟩⟩⟩⟩, (fun _ h => (List.mem_cons_of_mem _ (List.mem_append_right _ (List.mem_append_right _ (List.mem_append_right _ (List.mem_append_left _ h))))))⟩) (by decide +kernel)
set_option maxRecDepth 20000 in
theorem g_c_putM_c_putsKey_232 : GoodIn wp_c_putM (wsV RX11 232 RX11 yX11_putsKey wp_c_putsKey) := goodIn_sub (List.forall_mem_append.mpr ⟨List.forall_mem_cons.mpr ⟨(List.mem_of_getElem? (i := 11) rfl), List.forall_mem_cons.mpr ⟨(List.mem_of_getElem? (i := 12) rfl), List.forall_mem_cons.mpr ⟨(List.mem_of_getElem? (i := 13) rfl), List.forall_mem_cons.mpr ⟨(List.mem_of_getElem? (i := 5) rfl), fun _ h => absurd h List.not_mem_nil⟩⟩⟩⟩, (fun _ h => (List.mem_cons_of_mem _ (List.mem_append_right _ (List.mem_append_right _ (List.mem_append_right _ (List.mem_append_right _ (List.mem_append_left _ h)))))))⟩) (by decide +kernel)
set_option maxHeartbeats 4000000 in
set_option maxRecDepth 100000 in
theorem c_putM (l : Launch) (D : va_G) (sz : Nat) (h0 : Nat) (a : Nat → Nat) (cm : Nat → ClassId) (i : Nat → Int32) (g : Nat → Int64) (fn : Nat → Int64) (fk : Nat → Int32) (fv : Nat → Int32) (fb : Nat → Int32) (fr : Nat → Int32) (ff : Nat → Int32) (fh : Nat → Int32) (fa : Nat → Int64) (fs : Nat → Int64) (z1 : Int32) (z2 : Int32) (z3 : Int32) (hM : MInv fn fk fb ff fh fa fs) : Met l yX11_put wp_c_putM ({ frames := 9, cells := 0, slots := 0, locals := 240 }) (PcW D [.ref h0, .int z1, .int z2, .int z3] sz [(h0, .inr (11, gM a i g)), (a 3, .inl (cm 3, 85, .inr (.inl fn))), (a 4, .inl (cm 4, 800, .inl fk)), (a 5, .inl (cm 5, 800, .inl fv)), (a 6, .inl (cm 6, 800, .inl fb)), (a 7, .inl (cm 7, 800, .inl fr)), (a 8, .inl (cm 8, 10240, .inl ff)), (a 9, .inl (cm 9, 10240, .inl fh)), (a 10, .inl (cm 10, 10240, .inr (.inl fa))), (a 11, .inl (cm 11, 10240, .inr (.inl fs)))] [(cm 3, .long), (cm 4, .int), (cm 5, .int), (cm 6, .int), (cm 7, .int), (cm 8, .int), (cm 9, .int), (cm 10, .long), (cm 11, .long)]) (va_Qi (fun (r : Int32) (u : (Nat → Int64) × (Nat → Int32) × (Nat → Int32) × (Nat → Int32) × (Nat → Int32) × (Nat → Int32) × (Nat → Int32) × (Nat → Int64) × (Nat → Int64) × (Int32) × (Int64) × (Int64) × (Int64) × (Int32)) => (MInv u.1 u.2.1 u.2.2.2.1 u.2.2.2.2.2.1 u.2.2.2.2.2.2.1 u.2.2.2.2.2.2.2.1 u.2.2.2.2.2.2.2.2.1) ∧ SameT fn u.1 ∧ lsR u.1 u.2.1 u.2.2.1 = putS (there fn z1) (lsR fn fk fv) z1 z2 z3) (fun (u : (Nat → Int64) × (Nat → Int32) × (Nat → Int32) × (Nat → Int32) × (Nat → Int32) × (Nat → Int32) × (Nat → Int32) × (Nat → Int64) × (Nat → Int64) × (Int32) × (Int64) × (Int64) × (Int64) × (Int32)) t => va_P D vwCl [(h0, .inr (11, gM a (upd (upd i 0 u.2.2.2.2.2.2.2.2.2.1) 15 u.2.2.2.2.2.2.2.2.2.2.2.2.2) (vp_updL (vp_updL (vp_updL (fun _ => 0) 12 u.2.2.2.2.2.2.2.2.2.2.1) 13 u.2.2.2.2.2.2.2.2.2.2.2.1) 14 u.2.2.2.2.2.2.2.2.2.2.2.2.1))), (a 3, .inl (cm 3, 85, .inr (.inl u.1))), (a 4, .inl (cm 4, 800, .inl u.2.1)), (a 5, .inl (cm 5, 800, .inl u.2.2.1)), (a 6, .inl (cm 6, 800, .inl u.2.2.2.1)), (a 7, .inl (cm 7, 800, .inl u.2.2.2.2.1)), (a 8, .inl (cm 8, 10240, .inl u.2.2.2.2.2.1)), (a 9, .inl (cm 9, 10240, .inl u.2.2.2.2.2.2.1)), (a 10, .inl (cm 10, 10240, .inr (.inl u.2.2.2.2.2.2.2.1))), (a 11, .inl (cm 11, 10240, .inr (.inl u.2.2.2.2.2.2.2.2.1)))] t.heap ∧ va_K D vwCl [(cm 3, .long), (cm 4, .int), (cm 5, .int), (cm 6, .int), (cm 7, .int), (cm 8, .int), (cm 9, .int), (cm 10, .long), (cm 11, .long)] t ∧ va_D (va_A [(h0, .inr (11, gM a i g)), (a 3, .inl (cm 3, 85, .inr (.inl fn))), (a 4, .inl (cm 4, 800, .inl fk)), (a 5, .inl (cm 5, 800, .inl fv)), (a 6, .inl (cm 6, 800, .inl fb)), (a 7, .inl (cm 7, 800, .inl fr)), (a 8, .inl (cm 8, 10240, .inl ff)), (a 9, .inl (cm 9, 10240, .inl fh)), (a 10, .inl (cm 10, 10240, .inr (.inl fa))), (a 11, .inl (cm 11, 10240, .inr (.inl fs)))] sz) [(h0, .inr (11, gM a (upd (upd i 0 u.2.2.2.2.2.2.2.2.2.1) 15 u.2.2.2.2.2.2.2.2.2.2.2.2.2) (vp_updL (vp_updL (vp_updL (fun _ => 0) 12 u.2.2.2.2.2.2.2.2.2.2.1) 13 u.2.2.2.2.2.2.2.2.2.2.2.1) 14 u.2.2.2.2.2.2.2.2.2.2.2.2.1))), (a 3, .inl (cm 3, 85, .inr (.inl u.1))), (a 4, .inl (cm 4, 800, .inl u.2.1)), (a 5, .inl (cm 5, 800, .inl u.2.2.1)), (a 6, .inl (cm 6, 800, .inl u.2.2.2.1)), (a 7, .inl (cm 7, 800, .inl u.2.2.2.2.1)), (a 8, .inl (cm 8, 10240, .inl u.2.2.2.2.2.1)), (a 9, .inl (cm 9, 10240, .inl u.2.2.2.2.2.2.1)), (a 10, .inl (cm 10, 10240, .inr (.inl u.2.2.2.2.2.2.2.1))), (a 11, .inl (cm 11, 10240, .inr (.inl u.2.2.2.2.2.2.2.2.1)))]) (va_A [(h0, .inr (11, gM a i g)), (a 3, .inl (cm 3, 85, .inr (.inl fn))), (a 4, .inl (cm 4, 800, .inl fk)), (a 5, .inl (cm 5, 800, .inl fv)), (a 6, .inl (cm 6, 800, .inl fb)), (a 7, .inl (cm 7, 800, .inl fr)), (a 8, .inl (cm 8, 10240, .inl ff)), (a 9, .inl (cm 9, 10240, .inl fh)), (a 10, .inl (cm 10, 10240, .inr (.inl fa))), (a 11, .inl (cm 11, 10240, .inr (.inl fs)))] sz)) 0 0 (va_A [(h0, .inr (11, gM a i g)), (a 3, .inl (cm 3, 85, .inr (.inl fn))), (a 4, .inl (cm 4, 800, .inl fk)), (a 5, .inl (cm 5, 800, .inl fv)), (a 6, .inl (cm 6, 800, .inl fb)), (a 7, .inl (cm 7, 800, .inl fr)), (a 8, .inl (cm 8, 10240, .inl ff)), (a 9, .inl (cm 9, 10240, .inl fh)), (a 10, .inl (cm 10, 10240, .inr (.inl fa))), (a 11, .inl (cm 11, 10240, .inr (.inl fs)))] sz) := by
  refine Met.ofW (cc := cX11_put) (maxL := 4) (ret := (some .int)) (by decide) rfl ?_
  intro p e s m args below meth c s₁ B hml hv
  obtain ⟨rfl, hsz, hP, hK, hD0⟩ := hv
  have hx := B.exec
  have hb := B.bytes
  have hr := B.returns
  have hts := atoms_spec (ws := wp_c_putM) B.pre
  have hin_X11 : ∀ w ∈ wsX110, w ∈ wp_c_putM := fun _ h => (List.mem_cons_of_mem _ (List.mem_append_right _ (List.mem_append_right _ (List.mem_append_right _ (List.mem_append_right _ (List.mem_append_right _ (List.mem_append_left _ h)))))))
  have hown : s.vm.findClass RX11 = some m.cls := findClass_of_methodNamed B.named
  have hlocks := B.notSynchronized
  subst hsz
  have hD := hD0.self (sz := s.heap.size)
  generalize hAe : va_A [(h0, .inr (11, gM a i g)), (a 3, .inl (cm 3, 85, .inr (.inl fn))), (a 4, .inl (cm 4, 800, .inl fk)), (a 5, .inl (cm 5, 800, .inl fv)), (a 6, .inl (cm 6, 800, .inl fb)), (a 7, .inl (cm 7, 800, .inl fr)), (a 8, .inl (cm 8, 10240, .inl ff)), (a 9, .inl (cm 9, 10240, .inl fh)), (a 10, .inl (cm 10, 10240, .inr (.inl fa))), (a 11, .inl (cm 11, 10240, .inr (.inl fs)))] s.heap.size = A at hD ⊢
  have hA : ∀ q : Nat, s.heap.size ≤ q → A q := fun q h => by rw [← hAe]; exact Or.inr h
  have hS : va_S A s.heap s.heap [] := va_S.rf
  have hP : va_P D vwCl [(h0, .inr (11, gM a i g)), (a 3, .inl (cm 3, 85, .inr (.inl fn))), (a 4, .inl (cm 4, 800, .inl fk)), (a 5, .inl (cm 5, 800, .inl fv)), (a 6, .inl (cm 6, 800, .inl fb)), (a 7, .inl (cm 7, 800, .inl fr)), (a 8, .inl (cm 8, 10240, .inl ff)), (a 9, .inl (cm 9, 10240, .inl fh)), (a 10, .inl (cm 10, 10240, .inr (.inl fa))), (a 11, .inl (cm 11, 10240, .inr (.inl fs)))] s.heap := hP
  have hl := lv_entry ([.ref h0, .int z1, .int z2, .int z3]) (n := 4) (Nat.le_of_ble_eq_true rfl)
  rw [lg_entry_eq]
  generalize (lg_sl ([.ref h0, .int z1, .int z2, .int z3]) ++ List.replicate (4 - (lg_sl ([.ref h0, .int z1, .int z2, .int z3])).length) Slot.unset).toArray = ls at hl ⊢
  have hl : lv_has ls 4 [(0, .ref h0), (1, .int z1), (2, .int z2), (3, .int z3)] := hl
  have hfa := hM.1
  have hfs := hM.2.1
  refine lv_aload_n hx hb dX11_put_0 rfl (lv_at hl 0 rfl) ?_
  refine lv_iconst (v := 0) hx hb dX11_put_1 (by decide) ?_
  refine va_put (D := D) (ci := 11) (v := .int 0) (ty := .int) (C := RX11) (T := TX11) (N := 47) hx hb hts hin_X11 tyX11 tyX11_ok nmX11 hown hK hP hD hS 0 rfl rfl 0 (by decide) (hts (.fieldLink RX11 73 "ClashFreeModel" "thrown" "I") (List.mem_of_getElem? (i := 1) rfl)) (fun _ h9 => h9) rfl (by decide +kernel) rfl rfl (Nat.le_of_ble_eq_true rfl) dX11_put_2 (fun H locs hP hD hS => ?_)
  have hP : va_P D vwCl [(h0, .inr (11, gM a (upd i 0 0) g)), (a 3, .inl (cm 3, 85, .inr (.inl fn))), (a 4, .inl (cm 4, 800, .inl fk)), (a 5, .inl (cm 5, 800, .inl fv)), (a 6, .inl (cm 6, 800, .inl fb)), (a 7, .inl (cm 7, 800, .inl fr)), (a 8, .inl (cm 8, 10240, .inl ff)), (a 9, .inl (cm 9, 10240, .inl fh)), (a 10, .inl (cm 10, 10240, .inr (.inl fa))), (a 11, .inl (cm 11, 10240, .inr (.inl fs)))] H := hP
  have hD : va_D A [(h0, .inr (11, gM a (upd i 0 0) g)), (a 3, .inl (cm 3, 85, .inr (.inl fn))), (a 4, .inl (cm 4, 800, .inl fk)), (a 5, .inl (cm 5, 800, .inl fv)), (a 6, .inl (cm 6, 800, .inl fb)), (a 7, .inl (cm 7, 800, .inl fr)), (a 8, .inl (cm 8, 10240, .inl ff)), (a 9, .inl (cm 9, 10240, .inl fh)), (a 10, .inl (cm 10, 10240, .inr (.inl fa))), (a 11, .inl (cm 11, 10240, .inr (.inl fs)))] := hD
  refine lv_aload_n hx hb dX11_put_5 rfl (lv_at hl 0 rfl) ?_
  refine lv_iload_n hx hb dX11_put_6 rfl (lv_at hl 1 rfl) ?_
  have hPc := hP.sub (ws' := [(h0, .inr (11, gM a (upd i 0 0) g)), (a 3, .inl (cm 3, 85, .inr (.inl fn)))]) [0, 1] rfl
  have hKc := hK.sub (tys' := [(cm 3, .long)]) [0] rfl
  have hFc := va_free0 hS hA
  refine va_calli (va_runV (As := [.int z1]) (rest := []) ⟨hx, hb, hml, hown, hts⟩ (c_isThere l D _ h0 a cm (upd i 0 0) g fn z1) (cwV 1 hts g_c_putM_c_isThere_222 rfl rfl rfl (by decide +kernel) ⟨(Nat.le_of_ble_eq_true rfl), (Nat.le_of_ble_eq_true rfl)⟩) (PcR_V (q0 := 0) hPc hKc rfl rfl) rfl rfl hl.1 rfl (lv_room (Nat.le_of_ble_eq_true rfl)) dX11_put_7 ⟨(Nat.le_of_ble_eq_true rfl), (Nat.le_of_ble_eq_true rfl)⟩) hS (fun q _ h => hFc q h) hFc (fun r1 uu tt H locs htt hvm hw hB hz1 hk1 hS => ?_)
  have hP := va_keep hP hk1
  try dsimp only at hw
  clear hB hz1 hk1 hFc hPc hKc
  rcases hw with ⟨rfl, hA_r1⟩ | ⟨rfl, hA_r1⟩
  ·
    obtain ⟨k, hk, rfl, ht⟩ := hA_r1
    obtain ⟨cn, nb, K, J, hT⟩ := hM.2.2 k hk ht
    have hth := (show there fn (nI k) from ⟨k, hk, rfl, ht⟩)
    refine lv_if_eq (tgt := 20) hx hb dX11_put_10 (by decide) (fun hc => absurd hc (by decide)) (fun hc => ?_)
    refine lv_iload_n hx hb dX11_put_13 rfl (lv_at hl 2 rfl) ?_
    have hPc := hP.sub (ws' := []) [] rfl
    have hKc := hK.sub (tys' := []) [] rfl
    have hFc := va_free0 hS hA
    refine va_calli (va_runS (As := [.int z2]) (rest := []) ⟨hx, hb, hml, hown, hts⟩ (c_isKey l D _ z2) (va_cwS 1 hts g_c_putM_c_isKey_226 rfl rfl rfl (by decide +kernel) ⟨(Nat.le_of_ble_eq_true rfl), (Nat.le_of_ble_eq_true rfl)⟩) (PcR_S hPc hKc) rfl rfl hl.1 rfl (lv_room (Nat.le_of_ble_eq_true rfl)) dX11_put_14 ⟨(Nat.le_of_ble_eq_true rfl), (Nat.le_of_ble_eq_true rfl)⟩) hS (fun q _ h => hFc q h) hFc (fun r2 uu tt H locs htt hvm hw hB hz1 hk1 hS => ?_)
    have hP := va_keep hP hk1
    try dsimp only at hw
    clear hB hz1 hk1 hFc hPc hKc
    rcases hw with ⟨rfl, hA_r2⟩ | ⟨rfl, hA_r2⟩
    ·
      obtain ⟨kx, hkx, rfl⟩ := hA_r2
      refine lv_if_ne (tgt := 23) hx hb dX11_put_17 (by decide) (fun hc => ?_) (fun hc => absurd hc (by decide))
      refine lv_aload_n hx hb dX11_put_23 rfl (lv_at hl 0 rfl) ?_
      refine lv_iload_n hx hb dX11_put_24 rfl (lv_at hl 1 rfl) ?_
      refine lv_iload_n hx hb dX11_put_25 rfl (lv_at hl 2 rfl) ?_
      have hPc := hP.sub (ws' := [(h0, .inr (11, gM a (upd i 0 0) g)), (a 3, .inl (cm 3, 85, .inr (.inl fn))), (a 4, .inl (cm 4, 800, .inl fk)), (a 6, .inl (cm 6, 800, .inl fb)), (a 8, .inl (cm 8, 10240, .inl ff)), (a 9, .inl (cm 9, 10240, .inl fh))]) [0, 1, 2, 4, 6, 7] rfl
      have hKc := hK.sub (tys' := [(cm 3, .long), (cm 4, .int), (cm 6, .int), (cm 8, .int), (cm 9, .int)]) [0, 1, 3, 5, 6] rfl
      have hFc := va_free0 hS hA
      refine va_calli (va_runV (As := [.int (nI k), .int (nI kx)]) (rest := []) ⟨hx, hb, hml, hown, hts⟩ (c_isFull l D _ h0 a cm (upd i 0 0) g fn fk fb ff fh k cn nb K J kx (by first | assumption | omega) hT (by first | assumption | omega)) (cwV 2 hts g_c_putM_c_isFull_229 rfl rfl rfl (by decide +kernel) ⟨(Nat.le_of_ble_eq_true rfl), (Nat.le_of_ble_eq_true rfl)⟩) (PcR_V (q0 := 0) hPc hKc rfl rfl) rfl rfl hl.1 rfl (lv_room (Nat.le_of_ble_eq_true rfl)) dX11_put_26 ⟨(Nat.le_of_ble_eq_true rfl), (Nat.le_of_ble_eq_true rfl)⟩) hS (fun q _ h => hFc q h) hFc (fun r3 uu tt H locs htt hvm hw hB hz1 hk1 hS => ?_)
      have hP := va_keep hP hk1
      try dsimp only at hw
      clear hB hz1 hk1 hFc hPc hKc
      rcases hw with ⟨rfl, hA_r3⟩ | ⟨rfl, hA_r3⟩
      ·
        refine lv_if_eq (tgt := 37) hx hb dX11_put_29 (by decide) (fun hc => absurd hc (by decide)) (fun hc => ?_)
        refine lv_bipush (v := (-3)) hx hb dX11_put_32 (by decide) ?_
        refine lv_goto (tgt := 44) hx hb dX11_put_34 (by decide) ?_
        exact W.iret (v := (-3)) hx hb hr (fun t ht hW => ⟨⟨(-3), (fn, fk, fv, fb, fr, ff, fh, fa, fs, 0, (g 12), (g 13), (g 14), (i 15)), rfl, ⟨hM, SameT.rfl, (putS_f hk hkx (ful_T hk hT fv hA_r3)).symm⟩, by rw [ht]; exact hP.sub [0, 1, 2, 3, 4, 5, 6, 7, 8, 9] rfl, va_K.moved hW.alike (hK.sub [0, 1, 2, 3, 4, 5, 6, 7, 8] rfl), hD.sub [0, 1, 2, 3, 4, 5, 6, 7, 8, 9] (by decide) rfl⟩, hS.F ht⟩) hS.2.2 dX11_put_44
      ·
        refine lv_if_eq (tgt := 37) hx hb dX11_put_29 (by decide) (fun hc => ?_) (fun hc => absurd (by decide) hc)
        refine lv_aload_n hx hb dX11_put_37 rfl (lv_at hl 0 rfl) ?_
        refine lv_iload_n hx hb dX11_put_38 rfl (lv_at hl 1 rfl) ?_
        refine lv_iload_n hx hb dX11_put_39 rfl (lv_at hl 2 rfl) ?_
        refine lv_iload_n hx hb dX11_put_40 rfl (lv_at hl 3 rfl) ?_
        have hPc := hP.sub (ws' := [(h0, .inr (11, gM a (upd i 0 0) g)), (a 3, .inl (cm 3, 85, .inr (.inl fn))), (a 4, .inl (cm 4, 800, .inl fk)), (a 5, .inl (cm 5, 800, .inl fv)), (a 6, .inl (cm 6, 800, .inl fb)), (a 7, .inl (cm 7, 800, .inl fr)), (a 8, .inl (cm 8, 10240, .inl ff)), (a 9, .inl (cm 9, 10240, .inl fh)), (a 10, .inl (cm 10, 10240, .inr (.inl fa))), (a 11, .inl (cm 11, 10240, .inr (.inl fs)))]) [0, 1, 2, 3, 4, 5, 6, 7, 8, 9] rfl
        have hKc := hK.sub (tys' := [(cm 3, .long), (cm 4, .int), (cm 5, .int), (cm 6, .int), (cm 7, .int), (cm 8, .int), (cm 9, .int), (cm 10, .long), (cm 11, .long)]) [0, 1, 2, 3, 4, 5, 6, 7, 8] rfl
        have hDc := hD.sub (ws' := [(h0, .inr (11, gM a (upd i 0 0) g)), (a 3, .inl (cm 3, 85, .inr (.inl fn))), (a 4, .inl (cm 4, 800, .inl fk)), (a 5, .inl (cm 5, 800, .inl fv)), (a 6, .inl (cm 6, 800, .inl fb)), (a 7, .inl (cm 7, 800, .inl fr)), (a 8, .inl (cm 8, 10240, .inl ff)), (a 9, .inl (cm 9, 10240, .inl fh)), (a 10, .inl (cm 10, 10240, .inr (.inl fa))), (a 11, .inl (cm 11, 10240, .inr (.inl fs)))]) [0, 1, 2, 3, 4, 5, 6, 7, 8, 9] (by decide) rfl
        have hFc := va_free (wc := [(h0, .inr (11, gM a (upd i 0 0) g)), (a 3, .inl (cm 3, 85, .inr (.inl fn))), (a 4, .inl (cm 4, 800, .inl fk)), (a 5, .inl (cm 5, 800, .inl fv)), (a 6, .inl (cm 6, 800, .inl fb)), (a 7, .inl (cm 7, 800, .inl fr)), (a 8, .inl (cm 8, 10240, .inl ff)), (a 9, .inl (cm 9, 10240, .inl fh)), (a 10, .inl (cm 10, 10240, .inr (.inl fa))), (a 11, .inl (cm 11, 10240, .inr (.inl fs)))]) hD hS hA [0, 1, 2, 3, 4, 5, 6, 7, 8, 9] rfl
        refine va_calli (va_runV (As := [.int (nI k), .int (nI kx), .int z3]) (rest := []) ⟨hx, hb, hml, hown, hts⟩ (c_putsKey l D _ h0 a cm (upd i 0 0) g fn fk fv fb fr ff fh fa fs k cn nb K J kx z3 (by first | assumption | omega) hT (by first | assumption | omega) (by first | assumption | omega) (by first | assumption | omega) (by first | assumption | omega)) (cwV 3 hts g_c_putM_c_putsKey_232 rfl rfl rfl (by decide +kernel) ⟨(Nat.le_of_ble_eq_true rfl), (Nat.le_of_ble_eq_true rfl)⟩) (PcW_V (q0 := 0) hPc hKc hDc rfl rfl) rfl rfl hl.1 rfl (lv_room (Nat.le_of_ble_eq_true rfl)) dX11_put_41 ⟨(Nat.le_of_ble_eq_true rfl), (Nat.le_of_ble_eq_true rfl)⟩) hS (fun q _ h => hFc q h) hFc (fun r4 uu tt H locs htt hvm hw hB hz1 hk1 hS => ?_)
        obtain ⟨w5, w6, w7, w8, w9, w10, w11, w12, w13, w14, w15, w16, w17⟩ := uu
        obtain ⟨hP1, hK1, hD1⟩ := hB
        rw [htt] at hP1
        have hK1 := va_K.moved hvm.symm hK1
        have hP1 : va_P D vwCl [(h0, .inr (11, gM a (upd (upd i 0 0) 15 w17) (vp_updL (vp_updL (vp_updL (fun _ => 0) 12 w14) 13 w15) 14 w16))), (a 3, .inl (cm 3, 85, .inr (.inl w5))), (a 4, .inl (cm 4, 800, .inl w6)), (a 5, .inl (cm 5, 800, .inl w7)), (a 6, .inl (cm 6, 800, .inl w8)), (a 7, .inl (cm 7, 800, .inl w9)), (a 8, .inl (cm 8, 10240, .inl w10)), (a 9, .inl (cm 9, 10240, .inl w11)), (a 10, .inl (cm 10, 10240, .inr (.inl w12))), (a 11, .inl (cm 11, 10240, .inr (.inl w13)))] H := hP1
        obtain ⟨hP, hD⟩ := va_join (wr := []) (w1 := [(h0, .inr (11, gM a (upd (upd i 0 0) 15 w17) (vp_updL (vp_updL (vp_updL (fun _ => 0) 12 w14) 13 w15) 14 w16))), (a 3, .inl (cm 3, 85, .inr (.inl w5))), (a 4, .inl (cm 4, 800, .inl w6)), (a 5, .inl (cm 5, 800, .inl w7)), (a 6, .inl (cm 6, 800, .inl w8)), (a 7, .inl (cm 7, 800, .inl w9)), (a 8, .inl (cm 8, 10240, .inl w10)), (a 9, .inl (cm 9, 10240, .inl w11)), (a 10, .inl (cm 10, 10240, .inr (.inl w12))), (a 11, .inl (cm 11, 10240, .inr (.inl w13)))]) hP hD [0, 1, 2, 3, 4, 5, 6, 7, 8, 9] [] rfl rfl (by decide) (by decide) hk1 hFc hP1 hD1
        have hP : va_P D vwCl [(h0, .inr (11, gM a (upd (upd i 0 0) 15 w17) (vp_updL (vp_updL (vp_updL (fun _ => 0) 12 w14) 13 w15) 14 w16))), (a 3, .inl (cm 3, 85, .inr (.inl w5))), (a 4, .inl (cm 4, 800, .inl w6)), (a 5, .inl (cm 5, 800, .inl w7)), (a 6, .inl (cm 6, 800, .inl w8)), (a 7, .inl (cm 7, 800, .inl w9)), (a 8, .inl (cm 8, 10240, .inl w10)), (a 9, .inl (cm 9, 10240, .inl w11)), (a 10, .inl (cm 10, 10240, .inr (.inl w12))), (a 11, .inl (cm 11, 10240, .inr (.inl w13)))] H := hP
        have hD : va_D A [(h0, .inr (11, gM a (upd (upd i 0 0) 15 w17) (vp_updL (vp_updL (vp_updL (fun _ => 0) 12 w14) 13 w15) 14 w16))), (a 3, .inl (cm 3, 85, .inr (.inl w5))), (a 4, .inl (cm 4, 800, .inl w6)), (a 5, .inl (cm 5, 800, .inl w7)), (a 6, .inl (cm 6, 800, .inl w8)), (a 7, .inl (cm 7, 800, .inl w9)), (a 8, .inl (cm 8, 10240, .inl w10)), (a 9, .inl (cm 9, 10240, .inl w11)), (a 10, .inl (cm 10, 10240, .inr (.inl w12))), (a 11, .inl (cm 11, 10240, .inr (.inl w13)))] := hD
        try dsimp only at hw
        clear hz1 hk1 hFc hPc hKc hDc
        obtain ⟨⟨hk_18_c, hk_18_n, hk_18_K, hk_18_J, hk_18_T⟩, hk_18_a, hk_18_s, hk_18_r, hk_18_0, hk_18_4, hk_18_6, hk_18_8, hk_18_9, hk_18_L, hk_18_q⟩ := hw
        exact W.iret (v := r4) hx hb hr (fun t ht hW => ⟨⟨r4, (w5, w6, w7, w8, w9, w10, w11, w12, w13, 0, w14, w15, w16, w17), rfl, ⟨hM.upd (k := k) hk_18_a hk_18_s hk_18_r hk_18_4 hk_18_6 hk_18_8 hk_18_9 (fun _ => ⟨_, _, _, _, hk_18_T⟩), SameT.of (k := k) hk_18_r hk_18_0, hk_18_L.trans (putS_1 hk hkx hth (nful_T hk hT fv hA_r3)).symm⟩, by rw [ht]; exact hP.sub [0, 1, 2, 3, 4, 5, 6, 7, 8, 9] rfl, va_K.moved hW.alike (hK.sub [0, 1, 2, 3, 4, 5, 6, 7, 8] rfl), hD.sub [0, 1, 2, 3, 4, 5, 6, 7, 8, 9] (by decide) rfl⟩, hS.F ht⟩) hS.2.2 dX11_put_44
    ·
      refine lv_if_ne (tgt := 23) hx hb dX11_put_17 (by decide) (fun hc => absurd (by decide) hc) (fun hc => ?_)
      refine lv_bipush (v := (-2)) hx hb dX11_put_20 (by decide) ?_
      exact W.iret (v := (-2)) hx hb hr (fun t ht hW => ⟨⟨(-2), (fn, fk, fv, fb, fr, ff, fh, fa, fs, 0, (g 12), (g 13), (g 14), (i 15)), rfl, ⟨hM, SameT.rfl, (putS_0 (fun q => hA_r2 q.2.1)).symm⟩, by rw [ht]; exact hP.sub [0, 1, 2, 3, 4, 5, 6, 7, 8, 9] rfl, va_K.moved hW.alike (hK.sub [0, 1, 2, 3, 4, 5, 6, 7, 8] rfl), hD.sub [0, 1, 2, 3, 4, 5, 6, 7, 8, 9] (by decide) rfl⟩, hS.F ht⟩) hS.2.2 dX11_put_22
  ·
    refine lv_if_eq (tgt := 20) hx hb dX11_put_10 (by decide) (fun hc => ?_) (fun hc => absurd (by decide) hc)
    refine lv_bipush (v := (-2)) hx hb dX11_put_20 (by decide) ?_
    exact W.iret (v := (-2)) hx hb hr (fun t ht hW => ⟨⟨(-2), (fn, fk, fv, fb, fr, ff, fh, fa, fs, 0, (g 12), (g 13), (g 14), (i 15)), rfl, ⟨hM, SameT.rfl, (putS_0 (fun q => hA_r1 q.1)).symm⟩, by rw [ht]; exact hP.sub [0, 1, 2, 3, 4, 5, 6, 7, 8, 9] rfl, va_K.moved hW.alike (hK.sub [0, 1, 2, 3, 4, 5, 6, 7, 8] rfl), hD.sub [0, 1, 2, 3, 4, 5, 6, 7, 8, 9] (by decide) rfl⟩, hS.F ht⟩) hS.2.2 dX11_put_22

def own_c_getM : List Cond := [.fieldLink RX11 73 "ClashFreeModel" "thrown" "I", .methodLink RX11 222 yX11_isThere, .instanceMethod yX11_isThere, .selects RX11 yX11_isThere yX11_isThere, .initialized RX11, .methodLink RX11 226 yX11_isKey, .static yX11_isKey, .methodLink RX11 215 yX11_readsFor, .instanceMethod yX11_readsFor, .selects RX11 yX11_readsFor yX11_readsFor, .methodLink RX11 202 yX11_hasKey, .instanceMethod yX11_hasKey, .selects RX11 yX11_hasKey yX11_hasKey, .fieldLink RX11 21 "ClashFreeModel" "values" "[I", .methodLink RX11 99 yX11_whereOf, .instanceMethod yX11_whereOf, .selects RX11 yX11_whereOf yX11_whereOf, .constantLong RX11 235 (-1000000000000000)]
def wp_c_getM : List Cond := .code yX11_get cX11_get 3 (some .long) :: (own_c_getM ++ (wp_c_isThere ++ (wp_c_isKey ++ (wp_c_readsFor ++ (wp_c_hasKey ++ (wp_c_whereOf ++ (wsX110 ++ ([] : List Cond))))))))
set_option maxRecDepth 20000 in
theorem inown_c_getM : ∀ w ∈ own_c_getM, w ∈ lw_tbl := mem_places [1216, 1466, 1468, 54, 115, 1470, 1471, 1498, 1500, 61, 1477, 1479, 56, 1221, 1481, 1483, 57, 1517] (by decide +kernel)
set_option maxRecDepth 20000 in
theorem in_c_getM : ∀ w ∈ wp_c_getM, w ∈ lw_tbl := List.forall_mem_cons.mpr ⟨List.mem_of_getElem? (i := 1516) (by decide +kernel), List.forall_mem_append.mpr ⟨inown_c_getM, List.forall_mem_append.mpr ⟨in_c_isThere, List.forall_mem_append.mpr ⟨in_c_isKey, List.forall_mem_append.mpr ⟨in_c_readsFor, List.forall_mem_append.mpr ⟨in_c_hasKey, List.forall_mem_append.mpr ⟨in_c_whereOf, List.forall_mem_append.mpr ⟨lwb_X11, fun _ h => absurd h List.not_mem_nil⟩⟩⟩⟩⟩⟩⟩⟩
set_option maxRecDepth 20000 in
theorem good_c_getM : wp_c_getM.all goodWord = true := by decide +kernel
set_option maxRecDepth 20000 in
theorem g_c_getM_c_isThere_222 : GoodIn wp_c_getM (wsV RX11 222 RX11 yX11_isThere wp_c_isThere) := goodIn_sub (List.forall_mem_append.mpr ⟨List.forall_mem_cons.mpr ⟨(List.mem_of_getElem? (i := 2) rfl), List.forall_mem_cons.mpr ⟨(List.mem_of_getElem? (i := 3) rfl), List.forall_mem_cons.mpr ⟨(List.mem_of_getElem? (i := 4) rfl), List.forall_mem_cons.mpr ⟨(List.mem_of_getElem? (i := 5) rfl), fun _ h => absurd h List.not_mem_nil⟩⟩⟩⟩, (fun _ h => (List.mem_cons_of_mem _ (List.mem_append_right _ (List.mem_append_left _ h))))⟩) (by decide +kernel)
set_option maxRecDepth 20000 in
theorem g_c_getM_c_isKey_226 : GoodIn wp_c_getM (va_wsS RX11 226 yX11_isKey wp_c_isKey) := goodIn_sub (List.forall_mem_append.mpr ⟨List.forall_mem_cons.mpr ⟨(List.mem_of_getElem? (i := 6) rfl), List.forall_mem_cons.mpr ⟨(List.mem_of_getElem? (i := 7) rfl), List.forall_mem_cons.mpr ⟨(List.mem_of_getElem? (i := 5) rfl), fun _ h => absurd h List.not_mem_nil⟩⟩⟩, (fun _ h => (List.mem_cons_of_mem _ (List.mem_append_right _ (List.mem_append_right _ (List.mem_append_left _ h)))))⟩) (by decide +kernel)
set_option maxRecDepth 20000 in
theorem g_c_getM_c_readsFor_215 : GoodIn wp_c_getM (wsV RX11 215 RX11 yX11_readsFor wp_c_readsFor) := goodIn_sub (List.forall_mem_append.mpr ⟨List.forall_mem_cons.mpr ⟨(List.mem_of_getElem? (i := 8) rfl), List.forall_mem_cons.mpr ⟨(List.mem_of_getElem? (i := 9) rfl), List.forall_mem_cons.mpr ⟨(List.mem_of_getElem? (i := 10) rfl), List.forall_mem_cons.mpr ⟨(List.mem_of_getElem? (i := 5) rfl), fun _ h => absurd h List.not_mem_nil⟩⟩⟩⟩, (fun _ h => (List.mem_cons_of_mem _ (List.mem_append_right _ (List.mem_append_right _ (List.mem_append_right _ (List.mem_append_left _ h))))))⟩) (by decide +kernel)
set_option maxRecDepth 20000 in
theorem g_c_getM_c_hasKey_202 : GoodIn wp_c_getM (wsV RX11 202 RX11 yX11_hasKey wp_c_hasKey) := goodIn_sub (List.forall_mem_append.mpr ⟨List.forall_mem_cons.mpr ⟨(List.mem_of_getElem? (i := 11) rfl), List.forall_mem_cons.mpr ⟨(List.mem_of_getElem? (i := 12) rfl), List.forall_mem_cons.mpr ⟨(List.mem_of_getElem? (i := 13) rfl), List.forall_mem_cons.mpr ⟨(List.mem_of_getElem? (i := 5) rfl), fun _ h => absurd h List.not_mem_nil⟩⟩⟩⟩, (fun _ h => (List.mem_cons_of_mem _ (List.mem_append_right _ (List.mem_append_right _ (List.mem_append_right _ (List.mem_append_right _ (List.mem_append_left _ h)))))))⟩) (by decide +kernel)
set_option maxRecDepth 20000 in
theorem g_c_getM_c_whereOf_99 : GoodIn wp_c_getM (wsV RX11 99 RX11 yX11_whereOf wp_c_whereOf) := goodIn_sub (List.forall_mem_append.mpr ⟨List.forall_mem_cons.mpr ⟨(List.mem_of_getElem? (i := 15) rfl), List.forall_mem_cons.mpr ⟨(List.mem_of_getElem? (i := 16) rfl), List.forall_mem_cons.mpr ⟨(List.mem_of_getElem? (i := 17) rfl), List.forall_mem_cons.mpr ⟨(List.mem_of_getElem? (i := 5) rfl), fun _ h => absurd h List.not_mem_nil⟩⟩⟩⟩, (fun _ h => (List.mem_cons_of_mem _ (List.mem_append_right _ (List.mem_append_right _ (List.mem_append_right _ (List.mem_append_right _ (List.mem_append_right _ (List.mem_append_left _ h))))))))⟩) (by decide +kernel)
set_option maxHeartbeats 4000000 in
set_option maxRecDepth 100000 in
theorem c_getM (l : Launch) (D : va_G) (sz : Nat) (h0 : Nat) (a : Nat → Nat) (cm : Nat → ClassId) (i : Nat → Int32) (g : Nat → Int64) (fn : Nat → Int64) (fk : Nat → Int32) (fv : Nat → Int32) (fb : Nat → Int32) (ff : Nat → Int32) (fh : Nat → Int32) (fa : Nat → Int64) (fs : Nat → Int64) (z1 : Int32) (z2 : Int32) (hM : MInv fn fk fb ff fh fa fs) : Met l yX11_get wp_c_getM ({ frames := 5, cells := 0, slots := 0, locals := 129 }) (PcW D [.ref h0, .int z1, .int z2] sz [(h0, .inr (11, gM a i g)), (a 3, .inl (cm 3, 85, .inr (.inl fn))), (a 4, .inl (cm 4, 800, .inl fk)), (a 5, .inl (cm 5, 800, .inl fv)), (a 6, .inl (cm 6, 800, .inl fb)), (a 8, .inl (cm 8, 10240, .inl ff)), (a 9, .inl (cm 9, 10240, .inl fh)), (a 10, .inl (cm 10, 10240, .inr (.inl fa))), (a 11, .inl (cm 11, 10240, .inr (.inl fs)))] [(cm 3, .long), (cm 4, .int), (cm 5, .int), (cm 6, .int), (cm 8, .int), (cm 9, .int), (cm 10, .long), (cm 11, .long)]) (va_Ql (fun (r : Int64) (u : (Nat → Int64) × (Int32)) => (MInv u.1 fk fb ff fh fa fs) ∧ SameT fn u.1 ∧ lsR u.1 fk fv = lsR fn fk fv ∧ r = getA (there fn z1) (lsR fn fk fv) z1 z2) (fun (u : (Nat → Int64) × (Int32)) t => va_P D vwCl [(h0, .inr (11, gM a (upd i 0 u.2) g)), (a 3, .inl (cm 3, 85, .inr (.inl u.1))), (a 4, .inl (cm 4, 800, .inl fk)), (a 5, .inl (cm 5, 800, .inl fv)), (a 6, .inl (cm 6, 800, .inl fb)), (a 8, .inl (cm 8, 10240, .inl ff)), (a 9, .inl (cm 9, 10240, .inl fh)), (a 10, .inl (cm 10, 10240, .inr (.inl fa))), (a 11, .inl (cm 11, 10240, .inr (.inl fs)))] t.heap ∧ va_K D vwCl [(cm 3, .long), (cm 4, .int), (cm 5, .int), (cm 6, .int), (cm 8, .int), (cm 9, .int), (cm 10, .long), (cm 11, .long)] t ∧ va_D (va_A [(h0, .inr (11, gM a i g)), (a 3, .inl (cm 3, 85, .inr (.inl fn))), (a 4, .inl (cm 4, 800, .inl fk)), (a 5, .inl (cm 5, 800, .inl fv)), (a 6, .inl (cm 6, 800, .inl fb)), (a 8, .inl (cm 8, 10240, .inl ff)), (a 9, .inl (cm 9, 10240, .inl fh)), (a 10, .inl (cm 10, 10240, .inr (.inl fa))), (a 11, .inl (cm 11, 10240, .inr (.inl fs)))] sz) [(h0, .inr (11, gM a (upd i 0 u.2) g)), (a 3, .inl (cm 3, 85, .inr (.inl u.1))), (a 4, .inl (cm 4, 800, .inl fk)), (a 5, .inl (cm 5, 800, .inl fv)), (a 6, .inl (cm 6, 800, .inl fb)), (a 8, .inl (cm 8, 10240, .inl ff)), (a 9, .inl (cm 9, 10240, .inl fh)), (a 10, .inl (cm 10, 10240, .inr (.inl fa))), (a 11, .inl (cm 11, 10240, .inr (.inl fs)))]) (va_A [(h0, .inr (11, gM a i g)), (a 3, .inl (cm 3, 85, .inr (.inl fn))), (a 4, .inl (cm 4, 800, .inl fk)), (a 5, .inl (cm 5, 800, .inl fv)), (a 6, .inl (cm 6, 800, .inl fb)), (a 8, .inl (cm 8, 10240, .inl ff)), (a 9, .inl (cm 9, 10240, .inl fh)), (a 10, .inl (cm 10, 10240, .inr (.inl fa))), (a 11, .inl (cm 11, 10240, .inr (.inl fs)))] sz)) 0 0 (va_A [(h0, .inr (11, gM a i g)), (a 3, .inl (cm 3, 85, .inr (.inl fn))), (a 4, .inl (cm 4, 800, .inl fk)), (a 5, .inl (cm 5, 800, .inl fv)), (a 6, .inl (cm 6, 800, .inl fb)), (a 8, .inl (cm 8, 10240, .inl ff)), (a 9, .inl (cm 9, 10240, .inl fh)), (a 10, .inl (cm 10, 10240, .inr (.inl fa))), (a 11, .inl (cm 11, 10240, .inr (.inl fs)))] sz) := by
  refine Met.ofW (cc := cX11_get) (maxL := 3) (ret := (some .long)) (by decide) rfl ?_
  intro p e s m args below meth c s₁ B hml hv
  obtain ⟨rfl, hsz, hP, hK, hD0⟩ := hv
  have hx := B.exec
  have hb := B.bytes
  have hr := B.returns
  have hts := atoms_spec (ws := wp_c_getM) B.pre
  have hin_X11 : ∀ w ∈ wsX110, w ∈ wp_c_getM := fun _ h => (List.mem_cons_of_mem _ (List.mem_append_right _ (List.mem_append_right _ (List.mem_append_right _ (List.mem_append_right _ (List.mem_append_right _ (List.mem_append_right _ (List.mem_append_left _ h))))))))
  have hown : s.vm.findClass RX11 = some m.cls := findClass_of_methodNamed B.named
  have hlocks := B.notSynchronized
  subst hsz
  have hD := hD0.self (sz := s.heap.size)
  generalize hAe : va_A [(h0, .inr (11, gM a i g)), (a 3, .inl (cm 3, 85, .inr (.inl fn))), (a 4, .inl (cm 4, 800, .inl fk)), (a 5, .inl (cm 5, 800, .inl fv)), (a 6, .inl (cm 6, 800, .inl fb)), (a 8, .inl (cm 8, 10240, .inl ff)), (a 9, .inl (cm 9, 10240, .inl fh)), (a 10, .inl (cm 10, 10240, .inr (.inl fa))), (a 11, .inl (cm 11, 10240, .inr (.inl fs)))] s.heap.size = A at hD ⊢
  have hA : ∀ q : Nat, s.heap.size ≤ q → A q := fun q h => by rw [← hAe]; exact Or.inr h
  have hS : va_S A s.heap s.heap [] := va_S.rf
  have hP : va_P D vwCl [(h0, .inr (11, gM a i g)), (a 3, .inl (cm 3, 85, .inr (.inl fn))), (a 4, .inl (cm 4, 800, .inl fk)), (a 5, .inl (cm 5, 800, .inl fv)), (a 6, .inl (cm 6, 800, .inl fb)), (a 8, .inl (cm 8, 10240, .inl ff)), (a 9, .inl (cm 9, 10240, .inl fh)), (a 10, .inl (cm 10, 10240, .inr (.inl fa))), (a 11, .inl (cm 11, 10240, .inr (.inl fs)))] s.heap := hP
  have hl := lv_entry ([.ref h0, .int z1, .int z2]) (n := 3) (Nat.le_of_ble_eq_true rfl)
  rw [lg_entry_eq]
  generalize (lg_sl ([.ref h0, .int z1, .int z2]) ++ List.replicate (3 - (lg_sl ([.ref h0, .int z1, .int z2])).length) Slot.unset).toArray = ls at hl ⊢
  have hl : lv_has ls 3 [(0, .ref h0), (1, .int z1), (2, .int z2)] := hl
  have hfa := hM.1
  have hfs := hM.2.1
  refine lv_aload_n hx hb dX11_get_0 rfl (lv_at hl 0 rfl) ?_
  refine lv_iconst (v := 0) hx hb dX11_get_1 (by decide) ?_
  refine va_put (D := D) (ci := 11) (v := .int 0) (ty := .int) (C := RX11) (T := TX11) (N := 47) hx hb hts hin_X11 tyX11 tyX11_ok nmX11 hown hK hP hD hS 0 rfl rfl 0 (by decide) (hts (.fieldLink RX11 73 "ClashFreeModel" "thrown" "I") (List.mem_of_getElem? (i := 1) rfl)) (fun _ h9 => h9) rfl (by decide +kernel) rfl rfl (Nat.le_of_ble_eq_true rfl) dX11_get_2 (fun H locs hP hD hS => ?_)
  have hP : va_P D vwCl [(h0, .inr (11, gM a (upd i 0 0) g)), (a 3, .inl (cm 3, 85, .inr (.inl fn))), (a 4, .inl (cm 4, 800, .inl fk)), (a 5, .inl (cm 5, 800, .inl fv)), (a 6, .inl (cm 6, 800, .inl fb)), (a 8, .inl (cm 8, 10240, .inl ff)), (a 9, .inl (cm 9, 10240, .inl fh)), (a 10, .inl (cm 10, 10240, .inr (.inl fa))), (a 11, .inl (cm 11, 10240, .inr (.inl fs)))] H := hP
  have hD : va_D A [(h0, .inr (11, gM a (upd i 0 0) g)), (a 3, .inl (cm 3, 85, .inr (.inl fn))), (a 4, .inl (cm 4, 800, .inl fk)), (a 5, .inl (cm 5, 800, .inl fv)), (a 6, .inl (cm 6, 800, .inl fb)), (a 8, .inl (cm 8, 10240, .inl ff)), (a 9, .inl (cm 9, 10240, .inl fh)), (a 10, .inl (cm 10, 10240, .inr (.inl fa))), (a 11, .inl (cm 11, 10240, .inr (.inl fs)))] := hD
  refine lv_aload_n hx hb dX11_get_5 rfl (lv_at hl 0 rfl) ?_
  refine lv_iload_n hx hb dX11_get_6 rfl (lv_at hl 1 rfl) ?_
  have hPc := hP.sub (ws' := [(h0, .inr (11, gM a (upd i 0 0) g)), (a 3, .inl (cm 3, 85, .inr (.inl fn)))]) [0, 1] rfl
  have hKc := hK.sub (tys' := [(cm 3, .long)]) [0] rfl
  have hFc := va_free0 hS hA
  refine va_calli (va_runV (As := [.int z1]) (rest := []) ⟨hx, hb, hml, hown, hts⟩ (c_isThere l D _ h0 a cm (upd i 0 0) g fn z1) (cwV 1 hts g_c_getM_c_isThere_222 rfl rfl rfl (by decide +kernel) ⟨(Nat.le_of_ble_eq_true rfl), (Nat.le_of_ble_eq_true rfl)⟩) (PcR_V (q0 := 0) hPc hKc rfl rfl) rfl rfl hl.1 rfl (lv_room (Nat.le_of_ble_eq_true rfl)) dX11_get_7 ⟨(Nat.le_of_ble_eq_true rfl), (Nat.le_of_ble_eq_true rfl)⟩) hS (fun q _ h => hFc q h) hFc (fun r1 uu tt H locs htt hvm hw hB hz1 hk1 hS => ?_)
  have hP := va_keep hP hk1
  try dsimp only at hw
  clear hB hz1 hk1 hFc hPc hKc
  rcases hw with ⟨rfl, hA_r1⟩ | ⟨rfl, hA_r1⟩
  ·
    obtain ⟨k, hk, rfl, ht⟩ := hA_r1
    obtain ⟨cn, nb, K, J, hT⟩ := hM.2.2 k hk ht
    have hth := (show there fn (nI k) from ⟨k, hk, rfl, ht⟩)
    refine lv_if_eq (tgt := 20) hx hb dX11_get_10 (by decide) (fun hc => absurd hc (by decide)) (fun hc => ?_)
    refine lv_iload_n hx hb dX11_get_13 rfl (lv_at hl 2 rfl) ?_
    have hPc := hP.sub (ws' := []) [] rfl
    have hKc := hK.sub (tys' := []) [] rfl
    have hFc := va_free0 hS hA
    refine va_calli (va_runS (As := [.int z2]) (rest := []) ⟨hx, hb, hml, hown, hts⟩ (c_isKey l D _ z2) (va_cwS 1 hts g_c_getM_c_isKey_226 rfl rfl rfl (by decide +kernel) ⟨(Nat.le_of_ble_eq_true rfl), (Nat.le_of_ble_eq_true rfl)⟩) (PcR_S hPc hKc) rfl rfl hl.1 rfl (lv_room (Nat.le_of_ble_eq_true rfl)) dX11_get_14 ⟨(Nat.le_of_ble_eq_true rfl), (Nat.le_of_ble_eq_true rfl)⟩) hS (fun q _ h => hFc q h) hFc (fun r2 uu tt H locs htt hvm hw hB hz1 hk1 hS => ?_)
    have hP := va_keep hP hk1
    try dsimp only at hw
    clear hB hz1 hk1 hFc hPc hKc
    rcases hw with ⟨rfl, hA_r2⟩ | ⟨rfl, hA_r2⟩
    ·
      obtain ⟨kx, hkx, rfl⟩ := hA_r2
      obtain ⟨h1, hcn, h4, hn1, hn2, ⟨ka, kb, hka, hkb, h6, h7⟩, hKy, hBk, hHs, ⟨bn, ns, gr, h14, hbn, h15, hs1, hs2, h16, hgr⟩⟩ := id hT
      refine lv_if_ne (tgt := 24) hx hb dX11_get_17 (by decide) (fun hc => ?_) (fun hc => absurd hc (by decide))
      refine lv_aload_n hx hb dX11_get_24 rfl (lv_at hl 0 rfl) ?_
      refine lv_iload_n hx hb dX11_get_25 rfl (lv_at hl 1 rfl) ?_
      refine lv_iload_n hx hb dX11_get_26 rfl (lv_at hl 2 rfl) ?_
      have hPc := hP.sub (ws' := [(h0, .inr (11, gM a (upd i 0 0) g)), (a 3, .inl (cm 3, 85, .inr (.inl fn))), (a 4, .inl (cm 4, 800, .inl fk)), (a 6, .inl (cm 6, 800, .inl fb)), (a 8, .inl (cm 8, 10240, .inl ff)), (a 9, .inl (cm 9, 10240, .inl fh))]) [0, 1, 2, 4, 5, 6] rfl
      have hKc := hK.sub (tys' := [(cm 3, .long), (cm 4, .int), (cm 6, .int), (cm 8, .int), (cm 9, .int)]) [0, 1, 3, 4, 5] rfl
      have hDc := hD.sub (ws' := [(h0, .inr (11, gM a (upd i 0 0) g)), (a 3, .inl (cm 3, 85, .inr (.inl fn))), (a 4, .inl (cm 4, 800, .inl fk)), (a 6, .inl (cm 6, 800, .inl fb)), (a 8, .inl (cm 8, 10240, .inl ff)), (a 9, .inl (cm 9, 10240, .inl fh))]) [0, 1, 2, 4, 5, 6] (by decide) rfl
      have hFc := va_free (wc := [(h0, .inr (11, gM a (upd i 0 0) g)), (a 3, .inl (cm 3, 85, .inr (.inl fn))), (a 4, .inl (cm 4, 800, .inl fk)), (a 6, .inl (cm 6, 800, .inl fb)), (a 8, .inl (cm 8, 10240, .inl ff)), (a 9, .inl (cm 9, 10240, .inl fh))]) hD hS hA [0, 1, 2, 4, 5, 6] rfl
      refine va_callv (va_runV (As := [.int (nI k), .int (nI kx)]) (rest := []) ⟨hx, hb, hml, hown, hts⟩ (c_readsFor l D _ h0 a cm (upd i 0 0) g fn fk fb ff fh k cn nb K J kx (by first | assumption | omega) hT (by first | assumption | omega)) (cwV 2 hts g_c_getM_c_readsFor_215 rfl rfl rfl (by decide +kernel) ⟨(Nat.le_of_ble_eq_true rfl), (Nat.le_of_ble_eq_true rfl)⟩) (PcW_V (q0 := 0) hPc hKc hDc rfl rfl) rfl rfl hl.1 rfl (lv_room (Nat.le_of_ble_eq_true rfl)) dX11_get_27 ⟨(Nat.le_of_ble_eq_true rfl), (Nat.le_of_ble_eq_true rfl)⟩) hS (fun q _ h => hFc q h) hFc (fun uu tt H locs htt hvm hw hB hz1 hk1 hS => ?_)
      obtain ⟨w4, rfl⟩ : ∃ z, z = uu := ⟨_, rfl⟩
      obtain ⟨hP1, hK1, hD1⟩ := hB
      rw [htt] at hP1
      have hK1 := va_K.moved hvm.symm hK1
      have hP1 : va_P D vwCl [(h0, .inr (11, gM a (upd i 0 0) g)), (a 3, .inl (cm 3, 85, .inr (.inl w4))), (a 4, .inl (cm 4, 800, .inl fk)), (a 6, .inl (cm 6, 800, .inl fb)), (a 8, .inl (cm 8, 10240, .inl ff)), (a 9, .inl (cm 9, 10240, .inl fh))] H := hP1
      obtain ⟨hP, hD⟩ := va_join (wr := [(a 5, .inl (cm 5, 800, .inl fv)), (a 10, .inl (cm 10, 10240, .inr (.inl fa))), (a 11, .inl (cm 11, 10240, .inr (.inl fs)))]) (w1 := [(h0, .inr (11, gM a (upd i 0 0) g)), (a 3, .inl (cm 3, 85, .inr (.inl w4))), (a 4, .inl (cm 4, 800, .inl fk)), (a 6, .inl (cm 6, 800, .inl fb)), (a 8, .inl (cm 8, 10240, .inl ff)), (a 9, .inl (cm 9, 10240, .inl fh))]) hP hD [0, 1, 2, 4, 5, 6] [3, 7, 8] rfl rfl (by decide) (by decide) hk1 hFc hP1 hD1
      have hP : va_P D vwCl [(a 5, .inl (cm 5, 800, .inl fv)), (a 10, .inl (cm 10, 10240, .inr (.inl fa))), (a 11, .inl (cm 11, 10240, .inr (.inl fs))), (h0, .inr (11, gM a (upd i 0 0) g)), (a 3, .inl (cm 3, 85, .inr (.inl w4))), (a 4, .inl (cm 4, 800, .inl fk)), (a 6, .inl (cm 6, 800, .inl fb)), (a 8, .inl (cm 8, 10240, .inl ff)), (a 9, .inl (cm 9, 10240, .inl fh))] H := hP
      have hD : va_D A [(a 5, .inl (cm 5, 800, .inl fv)), (a 10, .inl (cm 10, 10240, .inr (.inl fa))), (a 11, .inl (cm 11, 10240, .inr (.inl fs))), (h0, .inr (11, gM a (upd i 0 0) g)), (a 3, .inl (cm 3, 85, .inr (.inl w4))), (a 4, .inl (cm 4, 800, .inl fk)), (a 6, .inl (cm 6, 800, .inl fb)), (a 8, .inl (cm 8, 10240, .inl ff)), (a 9, .inl (cm 9, 10240, .inl fh))] := hD
      try dsimp only at hw
      clear hz1 hk1 hFc hPc hKc hDc
      have hR5 := hw
      refine lv_aload_n hx hb dX11_get_30 rfl (lv_at hl 0 rfl) ?_
      refine lv_iload_n hx hb dX11_get_31 rfl (lv_at hl 1 rfl) ?_
      refine lv_iload_n hx hb dX11_get_32 rfl (lv_at hl 2 rfl) ?_
      have hPc := hP.sub (ws' := [(h0, .inr (11, gM a (upd i 0 0) g)), (a 3, .inl (cm 3, 85, .inr (.inl w4))), (a 4, .inl (cm 4, 800, .inl fk))]) [3, 4, 5] rfl
      have hKc := hK.sub (tys' := [(cm 3, .long), (cm 4, .int)]) [0, 1] rfl
      have hFc := va_free0 hS hA
      refine va_calli (va_runV (As := [.int (nI k), .int (nI kx)]) (rest := []) ⟨hx, hb, hml, hown, hts⟩ (c_hasKey l D _ h0 a cm (upd i 0 0) g w4 fk k cn K kx (by first | assumption | omega) ((hR5 _ (by omega)).trans h1) (by first | assumption | omega) hKy (by first | assumption | omega)) (cwV 2 hts g_c_getM_c_hasKey_202 rfl rfl rfl (by decide +kernel) ⟨(Nat.le_of_ble_eq_true rfl), (Nat.le_of_ble_eq_true rfl)⟩) (PcR_V (q0 := 0) hPc hKc rfl rfl) rfl rfl hl.1 rfl (lv_room (Nat.le_of_ble_eq_true rfl)) dX11_get_33 ⟨(Nat.le_of_ble_eq_true rfl), (Nat.le_of_ble_eq_true rfl)⟩) hS (fun q _ h => hFc q h) hFc (fun r6 uu tt H locs htt hvm hw hB hz1 hk1 hS => ?_)
      have hP := va_keep hP hk1
      try dsimp only at hw
      clear hB hz1 hk1 hFc hPc hKc
      rcases hw with ⟨rfl, hA_r6⟩ | ⟨rfl, hA_r6⟩
      ·
        obtain ⟨j0, hj0, ej0⟩ := hA_r6
        refine lv_if_eq (tgt := 61) hx hb dX11_get_36 (by decide) (fun hc => absurd hc (by decide)) (fun hc => ?_)
        refine lv_aload_n hx hb dX11_get_39 rfl (lv_at hl 0 rfl) ?_
        refine va_get (D := D) (ci := 11) (v := .ref (a 5)) (C := RX11) (T := TX11) (N := 47) hx hb hts hin_X11 hown hK hP 3 rfl rfl 5 (by decide) (hts (.fieldLink RX11 21 "ClashFreeModel" "values" "[I") (List.mem_of_getElem? (i := 14) rfl)) (fun _ h9 => h9) rfl dX11_get_40 ?_
        refine lv_sipush (v := 160) hx hb dX11_get_43 (by decide) ?_
        refine lv_iload_n hx hb dX11_get_46 rfl (lv_at hl 1 rfl) ?_
        refine lv_imul hx hb dX11_get_47 ?_
        refine lv_aload_n hx hb dX11_get_48 rfl (lv_at hl 0 rfl) ?_
        refine lv_iload_n hx hb dX11_get_49 rfl (lv_at hl 1 rfl) ?_
        refine lv_iload_n hx hb dX11_get_50 rfl (lv_at hl 2 rfl) ?_
        refine lv_i2l hx hb dX11_get_51 rfl ?_
        refine lv_topl (fun v7 ev7 => ?_)
        obtain rfl : v7 = lN kx := ev7.trans (nI_l (by omega))
        have hPc := hP.sub (ws' := [(h0, .inr (11, gM a (upd i 0 0) g)), (a 3, .inl (cm 3, 85, .inr (.inl w4))), (a 4, .inl (cm 4, 800, .inl fk))]) [3, 4, 5] rfl
        have hKc := hK.sub (tys' := [(cm 3, .long), (cm 4, .int)]) [0, 1] rfl
        have hFc := va_free0 hS hA
        refine va_calli (va_runV (As := [.int (nI k), .long (lN kx)]) (rest := [.int (160 * (nI k)), .ref (a 5)]) ⟨hx, hb, hml, hown, hts⟩ (c_whereOf l D _ h0 a cm (upd i 0 0) g w4 fk k cn K (lN kx) (by first | assumption | omega) ((hR5 _ (by omega)).trans h1) (by first | assumption | omega) hKy) (cwV 2 hts g_c_getM_c_whereOf_99 rfl rfl rfl (by decide +kernel) ⟨(Nat.le_of_ble_eq_true rfl), (Nat.le_of_ble_eq_true rfl)⟩) (PcR_V (q0 := 0) hPc hKc rfl rfl) rfl rfl hl.1 rfl (lv_room (Nat.le_of_ble_eq_true rfl)) dX11_get_52 ⟨(Nat.le_of_ble_eq_true rfl), (Nat.le_of_ble_eq_true rfl)⟩) hS (fun q _ h => hFc q h) hFc (fun r8 uu tt H locs htt hvm hw hB hz1 hk1 hS => ?_)
        have hP := va_keep hP hk1
        try dsimp only at hw
        clear hB hz1 hk1 hFc hPc hKc
        obtain ⟨q9, hq9a, rfl, hq9b, hq9c⟩ := hw
        refine lv_iadd hx hb dX11_get_55 ?_
        refine lv_topi (fun v10 ev10 => ?_)
        obtain rfl : v10 = nI (160 * k + q9) := ev10.trans (ix160 k _)
        obtain ⟨hqlt, hqe⟩ := wh_at hkx (fun j a => (hKy.1 j a).2) hKy.2 hq9b hq9c hj0 ej0
        refine va_iald hx hb hK hP 0 2 rfl rfl (vp_in_nI (by omega) (by decide)) dX11_get_56 ?_
        refine lv_topi (fun v11 ev11 => ?_)
        obtain rfl : v11 = fv (160 * k + q9) := ev11.trans (by rw [nI_clamp (by omega)])
        refine lv_i2l hx hb dX11_get_57 rfl ?_
        refine lv_goto (tgt := 64) hx hb dX11_get_58 (by decide) ?_
        exact W.lret (v := Int32.toInt64 (fv (160 * k + q9))) hx hb hr (fun t ht hW => ⟨⟨Int32.toInt64 (fv (160 * k + q9)), (w4, 0), rfl, ⟨hM.upd (k := k) hfa hfs (fun x e => hR5 x (by omega)) (fun _ _ => rfl) (fun _ _ => rfl) (fun _ _ => rfl) (fun _ _ => rfl) (fun _ => ⟨_, _, _, _, hT.row (hR5 _ (by omega)) (hR5 _ (by omega)) (hR5 _ (by omega)) (hR5 _ (by omega)) (hR5 _ (by omega)) (hR5 _ (by omega)) (hR5 _ (by omega))⟩), fun j hj => hR5 _ (by omega), lsR_n (fun j hj => hR5 _ (by omega)), (getA_s hk hkx hth (look_T hk hT fv hqlt hqe)).symm⟩, by rw [ht]; exact hP.sub [3, 4, 5, 0, 6, 7, 8, 1, 2] rfl, va_K.moved hW.alike (hK.sub [0, 1, 2, 3, 4, 5, 6, 7] rfl), hD.sub [3, 4, 5, 0, 6, 7, 8, 1, 2] (by decide) rfl⟩, hS.F ht⟩) hS.2.2 dX11_get_64
      ·
        refine lv_if_eq (tgt := 61) hx hb dX11_get_36 (by decide) (fun hc => ?_) (fun hc => absurd (by decide) hc)
        refine lv_ldc2 (v := (-1000000000000000)) hx hb hown (hts (.constantLong RX11 235 (-1000000000000000)) (List.mem_of_getElem? (i := 18) rfl)) dX11_get_61 ?_
        exact W.lret (v := (-1000000000000000)) hx hb hr (fun t ht hW => ⟨⟨(-1000000000000000), (w4, 0), rfl, ⟨hM.upd (k := k) hfa hfs (fun x e => hR5 x (by omega)) (fun _ _ => rfl) (fun _ _ => rfl) (fun _ _ => rfl) (fun _ _ => rfl) (fun _ => ⟨_, _, _, _, hT.row (hR5 _ (by omega)) (hR5 _ (by omega)) (hR5 _ (by omega)) (hR5 _ (by omega)) (hR5 _ (by omega)) (hR5 _ (by omega)) (hR5 _ (by omega))⟩), fun j hj => hR5 _ (by omega), lsR_n (fun j hj => hR5 _ (by omega)), (getA_n hk hkx (nook_T hk hT fv hA_r6)).symm⟩, by rw [ht]; exact hP.sub [3, 4, 5, 0, 6, 7, 8, 1, 2] rfl, va_K.moved hW.alike (hK.sub [0, 1, 2, 3, 4, 5, 6, 7] rfl), hD.sub [3, 4, 5, 0, 6, 7, 8, 1, 2] (by decide) rfl⟩, hS.F ht⟩) hS.2.2 dX11_get_64
    ·
      refine lv_if_ne (tgt := 24) hx hb dX11_get_17 (by decide) (fun hc => absurd (by decide) hc) (fun hc => ?_)
      refine lv_ldc2 (v := (-1000000000000000)) hx hb hown (hts (.constantLong RX11 235 (-1000000000000000)) (List.mem_of_getElem? (i := 18) rfl)) dX11_get_20 ?_
      exact W.lret (v := (-1000000000000000)) hx hb hr (fun t ht hW => ⟨⟨(-1000000000000000), (fn, 0), rfl, ⟨hM, SameT.rfl, rfl, (getA_0 (fun q => hA_r2 q.2)).symm⟩, by rw [ht]; exact hP.sub [0, 1, 2, 3, 4, 5, 6, 7, 8] rfl, va_K.moved hW.alike (hK.sub [0, 1, 2, 3, 4, 5, 6, 7] rfl), hD.sub [0, 1, 2, 3, 4, 5, 6, 7, 8] (by decide) rfl⟩, hS.F ht⟩) hS.2.2 dX11_get_23
  ·
    refine lv_if_eq (tgt := 20) hx hb dX11_get_10 (by decide) (fun hc => ?_) (fun hc => absurd (by decide) hc)
    refine lv_ldc2 (v := (-1000000000000000)) hx hb hown (hts (.constantLong RX11 235 (-1000000000000000)) (List.mem_of_getElem? (i := 18) rfl)) dX11_get_20 ?_
    exact W.lret (v := (-1000000000000000)) hx hb hr (fun t ht hW => ⟨⟨(-1000000000000000), (fn, 0), rfl, ⟨hM, SameT.rfl, rfl, (getA_0 (fun q => hA_r1 q.1)).symm⟩, by rw [ht]; exact hP.sub [0, 1, 2, 3, 4, 5, 6, 7, 8] rfl, va_K.moved hW.alike (hK.sub [0, 1, 2, 3, 4, 5, 6, 7] rfl), hD.sub [0, 1, 2, 3, 4, 5, 6, 7, 8] (by decide) rfl⟩, hS.F ht⟩) hS.2.2 dX11_get_23

