theorem dX11_join_0 : decode cX11_join 0 = .ok (.aload_n 0, 1) := by decide +kernel
theorem dX11_join_1 : decode cX11_join 1 = .ok (.iconst 0, 1) := by decide +kernel
theorem dX11_join_2 : decode cX11_join 2 = .ok (.putfield 73, 3) := by decide +kernel
theorem dX11_join_5 : decode cX11_join 5 = .ok (.aload_n 0, 1) := by decide +kernel
theorem dX11_join_6 : decode cX11_join 6 = .ok (.iload_n 1, 1) := by decide +kernel
theorem dX11_join_7 : decode cX11_join 7 = .ok (.invokevirtual 222, 3) := by decide +kernel
theorem dX11_join_10 : decode cX11_join 10 = .ok (.ifCond .eq 16, 3) := by decide +kernel
theorem dX11_join_13 : decode cX11_join 13 = .ok (.aload_n 0, 1) := by decide +kernel
theorem dX11_join_14 : decode cX11_join 14 = .ok (.iload_n 2, 1) := by decide +kernel
theorem dX11_join_15 : decode cX11_join 15 = .ok (.invokevirtual 222, 3) := by decide +kernel
theorem dX11_join_18 : decode cX11_join 18 = .ok (.ifCond .eq 8, 3) := by decide +kernel
theorem dX11_join_21 : decode cX11_join 21 = .ok (.iload_n 1, 1) := by decide +kernel
theorem dX11_join_22 : decode cX11_join 22 = .ok (.iload_n 2, 1) := by decide +kernel
theorem dX11_join_23 : decode cX11_join 23 = .ok (.if_icmp .ne 6, 3) := by decide +kernel
theorem dX11_join_26 : decode cX11_join 26 = .ok (.bipush (-2), 2) := by decide +kernel
theorem dX11_join_28 : decode cX11_join 28 = .ok (.ireturn, 1) := by decide +kernel
theorem dX11_join_29 : decode cX11_join 29 = .ok (.iconst 0, 1) := by decide +kernel
theorem dX11_join_30 : decode cX11_join 30 = .ok (.istore_n 3, 1) := by decide +kernel
theorem dX11_join_31 : decode cX11_join 31 = .ok (.sipush 160, 3) := by decide +kernel
theorem dX11_join_34 : decode cX11_join 34 = .ok (.iload_n 2, 1) := by decide +kernel
theorem dX11_join_35 : decode cX11_join 35 = .ok (.imul, 1) := by decide +kernel
theorem dX11_join_36 : decode cX11_join 36 = .ok (.istore 4, 2) := by decide +kernel
theorem dX11_join_38 : decode cX11_join 38 = .ok (.iload 4, 2) := by decide +kernel
theorem dX11_join_40 : decode cX11_join 40 = .ok (.sipush 160, 3) := by decide +kernel
theorem dX11_join_43 : decode cX11_join 43 = .ok (.iload_n 2, 1) := by decide +kernel
theorem dX11_join_44 : decode cX11_join 44 = .ok (.imul, 1) := by decide +kernel
theorem dX11_join_45 : decode cX11_join 45 = .ok (.aload_n 0, 1) := by decide +kernel
theorem dX11_join_46 : decode cX11_join 46 = .ok (.iload_n 2, 1) := by decide +kernel
theorem dX11_join_47 : decode cX11_join 47 = .ok (.invokevirtual 95, 3) := by decide +kernel
theorem dX11_join_50 : decode cX11_join 50 = .ok (.iadd, 1) := by decide +kernel
theorem dX11_join_51 : decode cX11_join 51 = .ok (.if_icmp .ge 57, 3) := by decide +kernel
theorem dX11_join_54 : decode cX11_join 54 = .ok (.aload_n 0, 1) := by decide +kernel
theorem dX11_join_55 : decode cX11_join 55 = .ok (.iload_n 1, 1) := by decide +kernel
theorem dX11_join_56 : decode cX11_join 56 = .ok (.aload_n 0, 1) := by decide +kernel
theorem dX11_join_57 : decode cX11_join 57 = .ok (.getfield 17, 3) := by decide +kernel
theorem dX11_join_60 : decode cX11_join 60 = .ok (.iload 4, 2) := by decide +kernel
theorem dX11_join_62 : decode cX11_join 62 = .ok (.iaload, 1) := by decide +kernel
theorem dX11_join_63 : decode cX11_join 63 = .ok (.invokevirtual 229, 3) := by decide +kernel
theorem dX11_join_66 : decode cX11_join 66 = .ok (.ifCond .ne 42, 3) := by decide +kernel
theorem dX11_join_69 : decode cX11_join 69 = .ok (.iload_n 3, 1) := by decide +kernel
theorem dX11_join_70 : decode cX11_join 70 = .ok (.aload_n 0, 1) := by decide +kernel
theorem dX11_join_71 : decode cX11_join 71 = .ok (.iload_n 1, 1) := by decide +kernel
theorem dX11_join_72 : decode cX11_join 72 = .ok (.aload_n 0, 1) := by decide +kernel
theorem dX11_join_73 : decode cX11_join 73 = .ok (.getfield 17, 3) := by decide +kernel
theorem dX11_join_76 : decode cX11_join 76 = .ok (.iload 4, 2) := by decide +kernel
theorem dX11_join_78 : decode cX11_join 78 = .ok (.iaload, 1) := by decide +kernel
theorem dX11_join_79 : decode cX11_join 79 = .ok (.aload_n 0, 1) := by decide +kernel
theorem dX11_join_80 : decode cX11_join 80 = .ok (.getfield 21, 3) := by decide +kernel
theorem dX11_join_83 : decode cX11_join 83 = .ok (.iload 4, 2) := by decide +kernel
theorem dX11_join_85 : decode cX11_join 85 = .ok (.iaload, 1) := by decide +kernel
theorem dX11_join_86 : decode cX11_join 86 = .ok (.invokevirtual 232, 3) := by decide +kernel
theorem dX11_join_89 : decode cX11_join 89 = .ok (.ifCond .le 7, 3) := by decide +kernel
theorem dX11_join_92 : decode cX11_join 92 = .ok (.iconst 1, 1) := by decide +kernel
theorem dX11_join_93 : decode cX11_join 93 = .ok (.goto 4, 3) := by decide +kernel
theorem dX11_join_96 : decode cX11_join 96 = .ok (.iconst 0, 1) := by decide +kernel
theorem dX11_join_97 : decode cX11_join 97 = .ok (.invokestatic 198, 3) := by decide +kernel
theorem dX11_join_100 : decode cX11_join 100 = .ok (.iadd, 1) := by decide +kernel
theorem dX11_join_101 : decode cX11_join 101 = .ok (.istore_n 3, 1) := by decide +kernel
theorem dX11_join_102 : decode cX11_join 102 = .ok (.iinc 4 1, 3) := by decide +kernel
theorem dX11_join_105 : decode cX11_join 105 = .ok (.goto (-67), 3) := by decide +kernel
theorem dX11_join_108 : decode cX11_join 108 = .ok (.iload_n 3, 1) := by decide +kernel
theorem dX11_join_109 : decode cX11_join 109 = .ok (.ireturn, 1) := by decide +kernel
theorem updS_step {A B C : Nat → List (Nat × Int32)} {k : Nat} {X : List (Nat × Int32)} (h : B = updS A k (B k)) (h' : C = updS B k X) : C = updS A k (C k) ∧ C k = X := by
  have e : C k = X := by rw [h', updS_s]
  refine ⟨?_, e⟩
  rw [e, h', h, updS_2]
theorem updS_o {A B : Nat → List (Nat × Int32)} {k j : Nat} (h : B = updS A k (B k)) (hn : j ≠ k) : B j = A j := (congrFun h j).trans (updS_n hn)
theorem dropL_mid : ∀ (A : List (Nat × Int32)) (x : Nat) (v : Int32) (B : List (Nat × Int32)), (∀ p, p ∈ A → p.1 ≠ x) → dropL (A ++ (x, v) :: B) x = A ++ B := by
  intro A
  induction A with
  | nil =>
    intro x v B _
    show (if x = x then B else _) = B
    rw [if_pos rfl]
  | cons p A ih =>
    intro x v B h
    obtain ⟨a, b⟩ := p
    have h1 := h (a, b) (List.mem_cons_self ..)
    show (if x = a then _ else (a, b) :: dropL (A ++ (x, v) :: B) x) = (a, b) :: (A ++ B)
    rw [if_neg (fun e => h1 e.symm), ih x v B (fun q hq => h q (List.mem_cons_of_mem _ hq))]
theorem tabl_take_lt {cn y : Nat} {K : Nat → Nat} {V : Nat → Int32} (hs : ∀ i j, i < j → j < cn → K i < K j) (hy : y < cn) : ∀ p, p ∈ (tabl cn K V).take y → p.1 ≠ K y := by
  intro p hp
  obtain ⟨i, hi, rfl⟩ := List.mem_iff_getElem.mp hp
  rw [List.length_take, tabl_len] at hi
  have : ((tabl cn K V).take y)[i].1 = K i := by simp [tabl]
  rw [this]
  have := hs i y (by omega) hy
  omega
theorem tabl_cutd {cn y : Nat} {K : Nat → Nat} {V : Nat → Int32} (hs : ∀ i j, i < j → j < cn → K i < K j) (hy : y < cn) : dropL (tabl cn K V) (K y) = (tabl cn K V).take y ++ (tabl cn K V).drop (y + 1) := by
  have e : tabl cn K V = (tabl cn K V).take y ++ (K y, V y) :: (tabl cn K V).drop (y + 1) := by
    rw [← tabl_drop K V hy]
    exact (List.take_append_drop y _).symm
  have := dropL_mid ((tabl cn K V).take y) (K y) (V y) ((tabl cn K V).drop (y + 1)) (tabl_take_lt hs hy)
  rw [← e] at this
  exact this
/-- cut: the first y are kept, the rest is to come -/
def CtI (L1 L2 C : List (Nat × Int32)) (z : Int32) (y n : Nat) : Prop := C.take y ++ ctF (C.drop y) L2 z = ctF L1 L2 z ∧ n + C.length = L1.length
theorem CtI_0 (L1 L2 : List (Nat × Int32)) (z : Int32) : CtI L1 L2 L1 z 0 0 := ⟨rfl, Nat.zero_add _⟩
theorem CtI_e {L1 L2 C : List (Nat × Int32)} {z : Int32} {y n : Nat} (h : CtI L1 L2 C z y n) (hy : C.length ≤ y) : C = ctF L1 L2 z ∧ n = L1.length - (ctF L1 L2 z).length := by
  obtain ⟨h1, h2⟩ := h
  rw [List.take_of_length_le hy, List.drop_eq_nil_of_le hy] at h1
  have e : C = ctF L1 L2 z := by
    have : C ++ ctF [] L2 z = C := List.append_nil C
    rw [← h1, this]
  exact ⟨e, by rw [← e]; omega⟩
theorem CtI_k {L1 L2 : List (Nat × Int32)} {z : Int32} {y n cn : Nat} {K : Nat → Nat} {V : Nat → Int32} (h : CtI L1 L2 (tabl cn K V) z y n) (hy : y < cn) (hz : ctK L2 (K y) ≠ z) : CtI L1 L2 (tabl cn K V) z (y + 1) n := by
  obtain ⟨h1, h2⟩ := h
  refine ⟨?_, h2⟩
  rw [← h1, tabl_drop K V hy]
  have e : ctF ((K y, V y) :: (tabl cn K V).drop (y + 1)) L2 z = (K y, V y) :: ctF ((tabl cn K V).drop (y + 1)) L2 z := by
    unfold ctF
    rw [List.filter_cons_of_pos]
    exact bne_iff_ne.mpr hz
  rw [e]
  have e2 : (tabl cn K V).take (y + 1) = (tabl cn K V).take y ++ [(K y, V y)] := by
    have hl : y < (tabl cn K V).length := by rw [tabl_len]; exact hy
    rw [List.take_succ_eq_append_getElem hl]
    congr 2
    simp [tabl]
  rw [e2, List.append_assoc]
  rfl
theorem CtI_d {L1 L2 : List (Nat × Int32)} {z : Int32} {y n cn : Nat} {K : Nat → Nat} {V : Nat → Int32} (hs : ∀ i j, i < j → j < cn → K i < K j) (h : CtI L1 L2 (tabl cn K V) z y n) (hy : y < cn) (hz : ctK L2 (K y) = z) : CtI L1 L2 (dropL (tabl cn K V) (K y)) z y (n + 1) := by
  obtain ⟨h1, h2⟩ := h
  rw [tabl_cutd hs hy]
  have hl : ((tabl cn K V).take y).length = y := by rw [List.length_take, tabl_len]; omega
  refine ⟨?_, ?_⟩
  · rw [List.take_append_of_le_length (by omega), List.take_of_length_le (by omega), List.drop_append_of_le_length (by omega), List.drop_eq_nil_of_le (by omega), List.nil_append, ← h1, tabl_drop K V hy]
    congr 1
    unfold ctF
    rw [List.filter_cons_of_neg]
    intro q
    exact (bne_iff_ne.mp q) hz
  · rw [List.length_append, hl, List.length_drop, tabl_len]
    rw [tabl_len] at h2
    omega
theorem jnF_s {R L : List (Nat × Int32)} {x : Nat} {v : Int32} {n : Nat} {Z : List (Nat × Int32) × Nat} (h : jnF ((x, v) :: R) L n = Z) (hf : fulL L x = false) : jnF R (putL L x v) (if (lookL L x).isNone = true then n + 1 else n) = Z := by
  rw [← h]
  show _ = if fulL L x = true then _ else _
  rw [hf]
  rfl
theorem jnF_f {R L : List (Nat × Int32)} {x : Nat} {v : Int32} {n : Nat} (hf : fulL L x = true) : jnF ((x, v) :: R) L n = (L, n) := if_pos hf
theorem le0_of {r : Int32} (h : r = 0) : r ≤ 0 := by
  subst h
  decide
def own_c_joinM : List Cond := [.methodLink RX11 95 yX11_manyOf, .instanceMethod yX11_manyOf, .selects RX11 yX11_manyOf yX11_manyOf, .initialized RX11, .fieldLink RX11 17 "ClashFreeModel" "keys" "[I", .methodLink RX11 229 yX11_isFull, .instanceMethod yX11_isFull, .selects RX11 yX11_isFull yX11_isFull, .fieldLink RX11 21 "ClashFreeModel" "values" "[I", .methodLink RX11 232 yX11_putsKey, .instanceMethod yX11_putsKey, .selects RX11 yX11_putsKey yX11_putsKey, .methodLink RX11 198 yX11_flag, .static yX11_flag, .fieldLink RX11 73 "ClashFreeModel" "thrown" "I", .methodLink RX11 222 yX11_isThere, .instanceMethod yX11_isThere, .selects RX11 yX11_isThere yX11_isThere]
def wp_c_joinM : List Cond := .code yX11_join cX11_join 5 (some .int) :: (own_c_joinM ++ (wp_c_manyOf ++ (wp_c_isFull ++ (wp_c_putsKey ++ (wp_c_flag ++ (wp_c_isThere ++ (wsX110 ++ ([] : List Cond))))))))
set_option maxRecDepth 20000 in
theorem inown_c_joinM : ∀ w ∈ own_c_joinM, w ∈ lw_tbl := mem_places [1396, 1398, 40, 115, 1220, 1473, 1475, 55, 1221, 1485, 1487, 58, 1502, 1503, 1216, 1466, 1468, 54] (by decide +kernel)
set_option maxRecDepth 20000 in
theorem in_c_joinM : ∀ w ∈ wp_c_joinM, w ∈ lw_tbl := List.forall_mem_cons.mpr ⟨List.mem_of_getElem? (i := 1648) (by decide +kernel), List.forall_mem_append.mpr ⟨inown_c_joinM, List.forall_mem_append.mpr ⟨in_c_manyOf, List.forall_mem_append.mpr ⟨in_c_isFull, List.forall_mem_append.mpr ⟨in_c_putsKey, List.forall_mem_append.mpr ⟨in_c_flag, List.forall_mem_append.mpr ⟨in_c_isThere, List.forall_mem_append.mpr ⟨lwb_X11, fun _ h => absurd h List.not_mem_nil⟩⟩⟩⟩⟩⟩⟩⟩
set_option maxRecDepth 20000 in
theorem good_c_joinM : wp_c_joinM.all goodWord = true := by decide +kernel
set_option maxRecDepth 20000 in
theorem g_c_joinM_c_manyOf_95 : GoodIn wp_c_joinM (wsV RX11 95 RX11 yX11_manyOf wp_c_manyOf) := goodIn_sub (List.forall_mem_append.mpr ⟨List.forall_mem_cons.mpr ⟨(List.mem_of_getElem? (i := 1) rfl), List.forall_mem_cons.mpr ⟨(List.mem_of_getElem? (i := 2) rfl), List.forall_mem_cons.mpr ⟨(List.mem_of_getElem? (i := 3) rfl), List.forall_mem_cons.mpr ⟨(List.mem_of_getElem? (i := 4) rfl), fun _ h => absurd h List.not_mem_nil⟩⟩⟩⟩, (fun _ h => (List.mem_cons_of_mem _ (List.mem_append_right _ (List.mem_append_left _ h))))⟩) (by decide +kernel)
set_option maxRecDepth 20000 in
theorem g_c_joinM_c_isFull_229 : GoodIn wp_c_joinM (wsV RX11 229 RX11 yX11_isFull wp_c_isFull) := goodIn_sub (List.forall_mem_append.mpr ⟨List.forall_mem_cons.mpr ⟨(List.mem_of_getElem? (i := 6) rfl), List.forall_mem_cons.mpr ⟨(List.mem_of_getElem? (i := 7) rfl), List.forall_mem_cons.mpr ⟨(List.mem_of_getElem? (i := 8) rfl), List.forall_mem_cons.mpr ⟨(List.mem_of_getElem? (i := 4) rfl), fun _ h => absurd h List.not_mem_nil⟩⟩⟩⟩, (fun _ h => (List.mem_cons_of_mem _ (List.mem_append_right _ (List.mem_append_right _ (List.mem_append_left _ h)))))⟩) (by decide +kernel)
set_option maxRecDepth 20000 in
theorem g_c_joinM_c_putsKey_232 : GoodIn wp_c_joinM (wsV RX11 232 RX11 yX11_putsKey wp_c_putsKey) := goodIn_sub (List.forall_mem_append.mpr ⟨List.forall_mem_cons.mpr ⟨(List.mem_of_getElem? (i := 10) rfl), List.forall_mem_cons.mpr ⟨(List.mem_of_getElem? (i := 11) rfl), List.forall_mem_cons.mpr ⟨(List.mem_of_getElem? (i := 12) rfl), List.forall_mem_cons.mpr ⟨(List.mem_of_getElem? (i := 4) rfl), fun _ h => absurd h List.not_mem_nil⟩⟩⟩⟩, (fun _ h => (List.mem_cons_of_mem _ (List.mem_append_right _ (List.mem_append_right _ (List.mem_append_right _ (List.mem_append_left _ h))))))⟩) (by decide +kernel)
set_option maxRecDepth 20000 in
theorem g_c_joinM_c_flag_198 : GoodIn wp_c_joinM (va_wsS RX11 198 yX11_flag wp_c_flag) := goodIn_sub (List.forall_mem_append.mpr ⟨List.forall_mem_cons.mpr ⟨(List.mem_of_getElem? (i := 13) rfl), List.forall_mem_cons.mpr ⟨(List.mem_of_getElem? (i := 14) rfl), List.forall_mem_cons.mpr ⟨(List.mem_of_getElem? (i := 4) rfl), fun _ h => absurd h List.not_mem_nil⟩⟩⟩, (fun _ h => (List.mem_cons_of_mem _ (List.mem_append_right _ (List.mem_append_right _ (List.mem_append_right _ (List.mem_append_right _ (List.mem_append_left _ h)))))))⟩) (by decide +kernel)
set_option maxRecDepth 20000 in
theorem g_c_joinM_c_isThere_222 : GoodIn wp_c_joinM (wsV RX11 222 RX11 yX11_isThere wp_c_isThere) := goodIn_sub (List.forall_mem_append.mpr ⟨List.forall_mem_cons.mpr ⟨(List.mem_of_getElem? (i := 16) rfl), List.forall_mem_cons.mpr ⟨(List.mem_of_getElem? (i := 17) rfl), List.forall_mem_cons.mpr ⟨(List.mem_of_getElem? (i := 18) rfl), List.forall_mem_cons.mpr ⟨(List.mem_of_getElem? (i := 4) rfl), fun _ h => absurd h List.not_mem_nil⟩⟩⟩⟩, (fun _ h => (List.mem_cons_of_mem _ (List.mem_append_right _ (List.mem_append_right _ (List.mem_append_right _ (List.mem_append_right _ (List.mem_append_right _ (List.mem_append_left _ h))))))))⟩) (by decide +kernel)
set_option maxHeartbeats 4000000 in
set_option maxRecDepth 100000 in
theorem lp_join (l : Launch) {p : Program} {e : Env} {s : State} {m : MethodId} {args : Array Value} {below : List Frame} {meth : Method} {c : Code} {Q : State → Prop} {A : Nat → Prop} (D : va_G) (h0 : Nat) (a : Nat → Nat) (cm : Nat → ClassId) (i : Nat → Int32) (g : Nat → Int64) (k2 : Nat) (cn2 : Nat) (nb2 : Nat) (K2 : Nat → Nat) (J2 : Nat → Nat) (k : Nat) (fn0 : Nat → Int64) (fk0 : Nat → Int32) (fv0 : Nat → Int32) (hk : k < 4) (hk2 : k2 < 4) (hne : k ≠ k2) (hx : p.tables.exec = Jvm.exec) (hb : c.code = cX11_join) (hml : c.maxLocals = 5) (hown : s.vm.findClass RX11 = some m.cls) (hts : ∀ w ∈ wp_c_joinM, w.before args s = true) (hA : ∀ q, s.heap.size ≤ q → A q) (hK : va_K D vwCl [(cm 3, .long), (cm 4, .int), (cm 5, .int), (cm 6, .int), (cm 7, .int), (cm 8, .int), (cm 9, .int), (cm 10, .long), (cm 11, .long)] s) (kx108 : ∀ (x : Nat), ∀ (sn : Nat), ∀ (gn : Nat → Int64), ∀ (gk : Nat → Int32), ∀ (gv : Nat → Int32), ∀ (gb : Nat → Int32), ∀ (gr : Nat → Int32), ∀ (gf : Nat → Int32), ∀ (gh : Nat → Int32), ∀ (ga : Nat → Int64), ∀ (gs : Nat → Int64), ∀ (sd : Int64), ∀ (pa : Int64), ∀ (pb : Int64), ∀ (dr : Int32), (x ≤ cn2) → (MInv gn gk gb gf gh ga gs) → (gn (17 * k + 0) = 1) → (TabS k2 cn2 nb2 K2 J2 gn gk gb gf gh) → (SameT fn0 gn) → ((lsR gn gk gv) = updS (lsR fn0 fk0 fv0) k ((lsR gn gk gv) k)) → (jnF (((lsR fn0 fk0 fv0) k2).drop x) ((lsR gn gk gv) k) sn = jnF ((lsR fn0 fk0 fv0) k2) ((lsR fn0 fk0 fv0) k) 0) → (jnF ((lsR fn0 fk0 fv0) k2) ((lsR fn0 fk0 fv0) k) 0 = ((lsR gn gk gv) k, sn)) → ∀ (H : Heap) (locs : List Loc) (ls : Array Slot), va_P D vwCl [(h0, .inr (11, gM a (upd (upd i 0 0) 15 dr) (vp_updL (vp_updL (vp_updL (fun _ => 0) 12 sd) 13 pa) 14 pb))), (a 3, .inl (cm 3, 85, .inr (.inl gn))), (a 4, .inl (cm 4, 800, .inl gk)), (a 5, .inl (cm 5, 800, .inl gv)), (a 6, .inl (cm 6, 800, .inl gb)), (a 7, .inl (cm 7, 800, .inl gr)), (a 8, .inl (cm 8, 10240, .inl gf)), (a 9, .inl (cm 9, 10240, .inl gh)), (a 10, .inl (cm 10, 10240, .inr (.inl ga))), (a 11, .inl (cm 11, 10240, .inr (.inl gs)))] H → va_D A [(h0, .inr (11, gM a (upd (upd i 0 0) 15 dr) (vp_updL (vp_updL (vp_updL (fun _ => 0) 12 sd) 13 pa) 14 pb))), (a 3, .inl (cm 3, 85, .inr (.inl gn))), (a 4, .inl (cm 4, 800, .inl gk)), (a 5, .inl (cm 5, 800, .inl gv)), (a 6, .inl (cm 6, 800, .inl gb)), (a 7, .inl (cm 7, 800, .inl gr)), (a 8, .inl (cm 8, 10240, .inl gf)), (a 9, .inl (cm 9, 10240, .inl gh)), (a 10, .inl (cm 10, 10240, .inr (.inl ga))), (a 11, .inl (cm 11, 10240, .inr (.inl gs)))] → va_S A s.heap H locs → lv_has ls 5 [(3, .int (nI sn)), (0, .ref h0)] → W p l e ({ frames := 11, cells := 0, slots := 0, locals := 290 }) s m args below meth c H locs 0 0 Q (F0 m 108 ls [])) : ∀ (N : Nat), ∀ (x : Nat), ∀ (sn : Nat), ∀ (gn : Nat → Int64), ∀ (gk : Nat → Int32), ∀ (gv : Nat → Int32), ∀ (gb : Nat → Int32), ∀ (gr : Nat → Int32), ∀ (gf : Nat → Int32), ∀ (gh : Nat → Int32), ∀ (ga : Nat → Int64), ∀ (gs : Nat → Int64), ∀ (sd : Int64), ∀ (pa : Int64), ∀ (pb : Int64), ∀ (dr : Int32), (x ≤ cn2) → (MInv gn gk gb gf gh ga gs) → (gn (17 * k + 0) = 1) → (TabS k2 cn2 nb2 K2 J2 gn gk gb gf gh) → (SameT fn0 gn) → ((lsR gn gk gv) = updS (lsR fn0 fk0 fv0) k ((lsR gn gk gv) k)) → (jnF (((lsR fn0 fk0 fv0) k2).drop x) ((lsR gn gk gv) k) sn = jnF ((lsR fn0 fk0 fv0) k2) ((lsR fn0 fk0 fv0) k) 0) → cn2 - x < N → ∀ (H : Heap) (locs : List Loc) (ls : Array Slot), va_P D vwCl [(h0, .inr (11, gM a (upd (upd i 0 0) 15 dr) (vp_updL (vp_updL (vp_updL (fun _ => 0) 12 sd) 13 pa) 14 pb))), (a 3, .inl (cm 3, 85, .inr (.inl gn))), (a 4, .inl (cm 4, 800, .inl gk)), (a 5, .inl (cm 5, 800, .inl gv)), (a 6, .inl (cm 6, 800, .inl gb)), (a 7, .inl (cm 7, 800, .inl gr)), (a 8, .inl (cm 8, 10240, .inl gf)), (a 9, .inl (cm 9, 10240, .inl gh)), (a 10, .inl (cm 10, 10240, .inr (.inl ga))), (a 11, .inl (cm 11, 10240, .inr (.inl gs)))] H → va_D A [(h0, .inr (11, gM a (upd (upd i 0 0) 15 dr) (vp_updL (vp_updL (vp_updL (fun _ => 0) 12 sd) 13 pa) 14 pb))), (a 3, .inl (cm 3, 85, .inr (.inl gn))), (a 4, .inl (cm 4, 800, .inl gk)), (a 5, .inl (cm 5, 800, .inl gv)), (a 6, .inl (cm 6, 800, .inl gb)), (a 7, .inl (cm 7, 800, .inl gr)), (a 8, .inl (cm 8, 10240, .inl gf)), (a 9, .inl (cm 9, 10240, .inl gh)), (a 10, .inl (cm 10, 10240, .inr (.inl ga))), (a 11, .inl (cm 11, 10240, .inr (.inl gs)))] → va_S A s.heap H locs → lv_has ls 5 [(4, .int (nI (160 * k2 + x))), (3, .int (nI sn)), (0, .ref h0), (1, .int (nI k)), (2, .int (nI k2))] → W p l e ({ frames := 11, cells := 0, slots := 0, locals := 290 }) s m args below meth c H locs 0 0 Q (F0 m 38 ls []) := by
  have hin_X11 : ∀ w ∈ wsX110, w ∈ wp_c_joinM := fun _ h => (List.mem_cons_of_mem _ (List.mem_append_right _ (List.mem_append_right _ (List.mem_append_right _ (List.mem_append_right _ (List.mem_append_right _ (List.mem_append_right _ (List.mem_append_left _ h))))))))
  intro N
  induction N with
  | zero =>
    intro x sn gn gk gv gb gr gf gh ga gs sd pa pb dr hx2 hM hk1 hT2 hSm hL hJ hm
    exact absurd hm (Nat.not_lt_zero _)
  | succ N ih =>
    intro x sn gn gk gv gb gr gf gh ga gs sd pa pb dr hx2 hM hk1 hT2 hSm hL hJ hm H locs ls hP hD hS hl
    have hfa := hM.1
    have hfs := hM.2.1
    obtain ⟨cn, nb, K, J, hT⟩ := hM.2.2 k hk hk1
    have e2 : (lsR fn0 fk0 fv0) k2 = tabl cn2 K2 (fun j => gv (160 * k2 + j)) := (updS_o hL (fun e => hne e.symm)).symm.trans (lsR_T hk2 hT2 gv)
    rw [e2] at hJ
    obtain ⟨h12, hcn2, h42, hn12, hn22, hPr2, hKy2, hRest2⟩ := id hT2
    refine lv_iload hx hb dX11_join_38 (lv_at hl 0 rfl) ?_
    refine lv_sipush (v := 160) hx hb dX11_join_40 (by decide) ?_
    refine lv_iload_n hx hb dX11_join_43 rfl (lv_at hl 4 rfl) ?_
    refine lv_imul hx hb dX11_join_44 ?_
    refine lv_aload_n hx hb dX11_join_45 rfl (lv_at hl 2 rfl) ?_
    refine lv_iload_n hx hb dX11_join_46 rfl (lv_at hl 4 rfl) ?_
    have hPc := hP.sub (ws' := [(h0, .inr (11, gM a (upd (upd i 0 0) 15 dr) (vp_updL (vp_updL (vp_updL (fun _ => 0) 12 sd) 13 pa) 14 pb))), (a 3, .inl (cm 3, 85, .inr (.inl gn)))]) [0, 1] rfl
    have hKc := hK.sub (tys' := [(cm 3, .long)]) [0] rfl
    have hFc := va_free0 hS hA
    refine va_calli (va_runV (As := [.int (nI k2)]) (rest := [.int (160 * (nI k2)), .int (nI (160 * k2 + x))]) ⟨hx, hb, hml, hown, hts⟩ (c_manyOf l D _ h0 a cm (upd (upd i 0 0) 15 dr) (vp_updL (vp_updL (vp_updL (fun _ => 0) 12 sd) 13 pa) 14 pb) gn k2 cn2 (by first | assumption | omega) h12) (cwV 1 hts g_c_joinM_c_manyOf_95 rfl rfl rfl (by decide +kernel) ⟨(Nat.le_of_ble_eq_true rfl), (Nat.le_of_ble_eq_true rfl)⟩) (PcR_V (q0 := 0) hPc hKc rfl rfl) rfl rfl hl.1 rfl (lv_room (Nat.le_of_ble_eq_true rfl)) dX11_join_47 ⟨(Nat.le_of_ble_eq_true rfl), (Nat.le_of_ble_eq_true rfl)⟩) hS (fun q _ h => hFc q h) hFc (fun r1 uu tt H locs htt hvm hw hB hz1 hk1 hS => ?_)
    have hP := va_keep hP hk1
    try dsimp only at hw
    clear hB hz1 hk1 hFc hPc hKc
    obtain rfl : r1 = nI cn2 := hw
    refine lv_iadd hx hb dX11_join_50 ?_
    refine lv_topi (fun v2 ev2 => ?_)
    obtain rfl : v2 = nI (160 * k2 + cn2) := ev2.trans (ix160 k2 _)
    refine lv_icmp_ge (tgt := 108) hx hb dX11_join_51 (by decide) (fun hc3 => ?_) (fun hc3 => ?_)
    ·
      have hge_x : cn2 ≤ x := by
        have := (nI_leI (a := 160 * k2 + cn2) (b := 160 * k2 + x) (by omega) (by omega)).mp hc3
        omega
      exact kx108 x sn gn gk gv gb gr gf gh ga gs sd pa pb dr (hx2) (hM) (hk1) (hT2) (hSm) (hL) (by rw [e2]; exact hJ) (by rw [e2]; rw [tabl_dnil _ _ hge_x] at hJ; exact hJ.symm) H locs ls (hP.sub [0, 1, 2, 3, 4, 5, 6, 7, 8, 9] rfl) (hD.sub [0, 1, 2, 3, 4, 5, 6, 7, 8, 9] (by decide) rfl) hS (lv_sub hl [1, 2] rfl)
    ·
      have hlt_x : x < cn2 := by
        rcases Nat.lt_or_ge x cn2 with z | z
        · exact z
        · exact absurd (nI_le (show 160 * k2 + cn2 ≤ 160 * k2 + x by omega) (by omega)) hc3
      have hkxx : K2 x < 2147483647 := (hKy2.1 x hlt_x).2
      rw [tabl_drop _ _ hlt_x] at hJ
      refine lv_aload_n hx hb dX11_join_54 rfl (lv_at hl 2 rfl) ?_
      refine lv_iload_n hx hb dX11_join_55 rfl (lv_at hl 3 rfl) ?_
      refine lv_aload_n hx hb dX11_join_56 rfl (lv_at hl 2 rfl) ?_
      refine va_get (D := D) (ci := 11) (v := .ref (a 4)) (C := RX11) (T := TX11) (N := 47) hx hb hts hin_X11 hown hK hP 0 rfl rfl 4 (by decide) (hts (.fieldLink RX11 17 "ClashFreeModel" "keys" "[I") (List.mem_of_getElem? (i := 5) rfl)) (fun _ h9 => h9) rfl dX11_join_57 ?_
      refine lv_iload hx hb dX11_join_60 (lv_at hl 0 rfl) ?_
      refine va_iald hx hb hK hP 2 1 rfl rfl (vp_in_nI (by omega) (by decide)) dX11_join_62 ?_
      refine lv_topi (fun v4 ev4 => ?_)
      obtain rfl : v4 = nI (K2 x) := ev4.trans (by rw [nI_clamp (by omega)]; exact (hKy2.1 _ hlt_x).1)
      have hPc := hP.sub (ws' := [(h0, .inr (11, gM a (upd (upd i 0 0) 15 dr) (vp_updL (vp_updL (vp_updL (fun _ => 0) 12 sd) 13 pa) 14 pb))), (a 3, .inl (cm 3, 85, .inr (.inl gn))), (a 4, .inl (cm 4, 800, .inl gk)), (a 6, .inl (cm 6, 800, .inl gb)), (a 8, .inl (cm 8, 10240, .inl gf)), (a 9, .inl (cm 9, 10240, .inl gh))]) [0, 1, 2, 4, 6, 7] rfl
      have hKc := hK.sub (tys' := [(cm 3, .long), (cm 4, .int), (cm 6, .int), (cm 8, .int), (cm 9, .int)]) [0, 1, 3, 5, 6] rfl
      have hFc := va_free0 hS hA
      refine va_calli (va_runV (As := [.int (nI k), .int (nI (K2 x))]) (rest := []) ⟨hx, hb, hml, hown, hts⟩ (c_isFull l D _ h0 a cm (upd (upd i 0 0) 15 dr) (vp_updL (vp_updL (vp_updL (fun _ => 0) 12 sd) 13 pa) 14 pb) gn gk gb gf gh k cn nb K J (K2 x) (by first | assumption | omega) hT (by first | assumption | omega)) (cwV 2 hts g_c_joinM_c_isFull_229 rfl rfl rfl (by decide +kernel) ⟨(Nat.le_of_ble_eq_true rfl), (Nat.le_of_ble_eq_true rfl)⟩) (PcR_V (q0 := 0) hPc hKc rfl rfl) rfl rfl hl.1 rfl (lv_room (Nat.le_of_ble_eq_true rfl)) dX11_join_63 ⟨(Nat.le_of_ble_eq_true rfl), (Nat.le_of_ble_eq_true rfl)⟩) hS (fun q _ h => hFc q h) hFc (fun r5 uu tt H locs htt hvm hw hB hz1 hk1 hS => ?_)
      have hP := va_keep hP hk1
      try dsimp only at hw
      clear hB hz1 hk1 hFc hPc hKc
      rcases hw with ⟨rfl, hA_r5⟩ | ⟨rfl, hA_r5⟩
      ·
        refine lv_if_ne (tgt := 108) hx hb dX11_join_66 (by decide) (fun hc => ?_) (fun hc => absurd hc (by decide))
        exact kx108 x sn gn gk gv gb gr gf gh ga gs sd pa pb dr (hx2) (hM) (hk1) (hT2) (hSm) (hL) (by rw [e2, tabl_drop _ _ hlt_x]; exact hJ) (by rw [e2]; exact hJ.symm.trans (jnF_f (ful_T hk hT gv hA_r5))) H locs ls (hP.sub [0, 1, 2, 3, 4, 5, 6, 7, 8, 9] rfl) (hD.sub [0, 1, 2, 3, 4, 5, 6, 7, 8, 9] (by decide) rfl) hS (lv_sub hl [1, 2] rfl)
      ·
        refine lv_if_ne (tgt := 108) hx hb dX11_join_66 (by decide) (fun hc => absurd (by decide) hc) (fun hc => ?_)
        refine lv_iload_n hx hb dX11_join_69 rfl (lv_at hl 1 rfl) ?_
        refine lv_aload_n hx hb dX11_join_70 rfl (lv_at hl 2 rfl) ?_
        refine lv_iload_n hx hb dX11_join_71 rfl (lv_at hl 3 rfl) ?_
        refine lv_aload_n hx hb dX11_join_72 rfl (lv_at hl 2 rfl) ?_
        refine va_get (D := D) (ci := 11) (v := .ref (a 4)) (C := RX11) (T := TX11) (N := 47) hx hb hts hin_X11 hown hK hP 0 rfl rfl 4 (by decide) (hts (.fieldLink RX11 17 "ClashFreeModel" "keys" "[I") (List.mem_of_getElem? (i := 5) rfl)) (fun _ h9 => h9) rfl dX11_join_73 ?_
        refine lv_iload hx hb dX11_join_76 (lv_at hl 0 rfl) ?_
        refine va_iald hx hb hK hP 2 1 rfl rfl (vp_in_nI (by omega) (by decide)) dX11_join_78 ?_
        refine lv_topi (fun v6 ev6 => ?_)
        obtain rfl : v6 = nI (K2 x) := ev6.trans (by rw [nI_clamp (by omega)]; exact (hKy2.1 _ hlt_x).1)
        refine lv_aload_n hx hb dX11_join_79 rfl (lv_at hl 2 rfl) ?_
        refine va_get (D := D) (ci := 11) (v := .ref (a 5)) (C := RX11) (T := TX11) (N := 47) hx hb hts hin_X11 hown hK hP 0 rfl rfl 5 (by decide) (hts (.fieldLink RX11 21 "ClashFreeModel" "values" "[I") (List.mem_of_getElem? (i := 9) rfl)) (fun _ h9 => h9) rfl dX11_join_80 ?_
        refine lv_iload hx hb dX11_join_83 (lv_at hl 0 rfl) ?_
        refine va_iald hx hb hK hP 3 2 rfl rfl (vp_in_nI (by omega) (by decide)) dX11_join_85 ?_
        refine lv_topi (fun v7 ev7 => ?_)
        obtain rfl : v7 = gv (160 * k2 + x) := ev7.trans (by rw [nI_clamp (by omega)])
        have hPc := hP.sub (ws' := [(h0, .inr (11, gM a (upd (upd i 0 0) 15 dr) (vp_updL (vp_updL (vp_updL (fun _ => 0) 12 sd) 13 pa) 14 pb))), (a 3, .inl (cm 3, 85, .inr (.inl gn))), (a 4, .inl (cm 4, 800, .inl gk)), (a 5, .inl (cm 5, 800, .inl gv)), (a 6, .inl (cm 6, 800, .inl gb)), (a 7, .inl (cm 7, 800, .inl gr)), (a 8, .inl (cm 8, 10240, .inl gf)), (a 9, .inl (cm 9, 10240, .inl gh)), (a 10, .inl (cm 10, 10240, .inr (.inl ga))), (a 11, .inl (cm 11, 10240, .inr (.inl gs)))]) [0, 1, 2, 3, 4, 5, 6, 7, 8, 9] rfl
        have hKc := hK.sub (tys' := [(cm 3, .long), (cm 4, .int), (cm 5, .int), (cm 6, .int), (cm 7, .int), (cm 8, .int), (cm 9, .int), (cm 10, .long), (cm 11, .long)]) [0, 1, 2, 3, 4, 5, 6, 7, 8] rfl
        have hDc := hD.sub (ws' := [(h0, .inr (11, gM a (upd (upd i 0 0) 15 dr) (vp_updL (vp_updL (vp_updL (fun _ => 0) 12 sd) 13 pa) 14 pb))), (a 3, .inl (cm 3, 85, .inr (.inl gn))), (a 4, .inl (cm 4, 800, .inl gk)), (a 5, .inl (cm 5, 800, .inl gv)), (a 6, .inl (cm 6, 800, .inl gb)), (a 7, .inl (cm 7, 800, .inl gr)), (a 8, .inl (cm 8, 10240, .inl gf)), (a 9, .inl (cm 9, 10240, .inl gh)), (a 10, .inl (cm 10, 10240, .inr (.inl ga))), (a 11, .inl (cm 11, 10240, .inr (.inl gs)))]) [0, 1, 2, 3, 4, 5, 6, 7, 8, 9] (by decide) rfl
        have hFc := va_free (wc := [(h0, .inr (11, gM a (upd (upd i 0 0) 15 dr) (vp_updL (vp_updL (vp_updL (fun _ => 0) 12 sd) 13 pa) 14 pb))), (a 3, .inl (cm 3, 85, .inr (.inl gn))), (a 4, .inl (cm 4, 800, .inl gk)), (a 5, .inl (cm 5, 800, .inl gv)), (a 6, .inl (cm 6, 800, .inl gb)), (a 7, .inl (cm 7, 800, .inl gr)), (a 8, .inl (cm 8, 10240, .inl gf)), (a 9, .inl (cm 9, 10240, .inl gh)), (a 10, .inl (cm 10, 10240, .inr (.inl ga))), (a 11, .inl (cm 11, 10240, .inr (.inl gs)))]) hD hS hA [0, 1, 2, 3, 4, 5, 6, 7, 8, 9] rfl
        refine va_calli (va_runV (As := [.int (nI k), .int (nI (K2 x)), .int (gv (160 * k2 + x))]) (rest := [.int (nI sn)]) ⟨hx, hb, hml, hown, hts⟩ (c_putsKey l D _ h0 a cm (upd (upd i 0 0) 15 dr) (vp_updL (vp_updL (vp_updL (fun _ => 0) 12 sd) 13 pa) 14 pb) gn gk gv gb gr gf gh ga gs k cn nb K J (K2 x) (gv (160 * k2 + x)) (by first | assumption | omega) hT (by first | assumption | omega) (by first | assumption | omega) (by first | assumption | omega) (by first | assumption | omega)) (cwV 3 hts g_c_joinM_c_putsKey_232 rfl rfl rfl (by decide +kernel) ⟨(Nat.le_of_ble_eq_true rfl), (Nat.le_of_ble_eq_true rfl)⟩) (PcW_V (q0 := 0) hPc hKc hDc rfl rfl) rfl rfl hl.1 rfl (lv_room (Nat.le_of_ble_eq_true rfl)) dX11_join_86 ⟨(Nat.le_of_ble_eq_true rfl), (Nat.le_of_ble_eq_true rfl)⟩) hS (fun q _ h => hFc q h) hFc (fun r8 uu tt H locs htt hvm hw hB hz1 hk1 hS => ?_)
        obtain ⟨w9, w10, w11, w12, w13, w14, w15, w16, w17, w18, w19, w20, w21⟩ := uu
        obtain ⟨hP1, hK1, hD1⟩ := hB
        rw [htt] at hP1
        have hK1 := va_K.moved hvm.symm hK1
        have hP1 : va_P D vwCl [(h0, .inr (11, gM a (upd (upd i 0 0) 15 w21) (vp_updL (vp_updL (vp_updL (fun _ => 0) 12 w18) 13 w19) 14 w20))), (a 3, .inl (cm 3, 85, .inr (.inl w9))), (a 4, .inl (cm 4, 800, .inl w10)), (a 5, .inl (cm 5, 800, .inl w11)), (a 6, .inl (cm 6, 800, .inl w12)), (a 7, .inl (cm 7, 800, .inl w13)), (a 8, .inl (cm 8, 10240, .inl w14)), (a 9, .inl (cm 9, 10240, .inl w15)), (a 10, .inl (cm 10, 10240, .inr (.inl w16))), (a 11, .inl (cm 11, 10240, .inr (.inl w17)))] H := hP1
        obtain ⟨hP, hD⟩ := va_join (wr := []) (w1 := [(h0, .inr (11, gM a (upd (upd i 0 0) 15 w21) (vp_updL (vp_updL (vp_updL (fun _ => 0) 12 w18) 13 w19) 14 w20))), (a 3, .inl (cm 3, 85, .inr (.inl w9))), (a 4, .inl (cm 4, 800, .inl w10)), (a 5, .inl (cm 5, 800, .inl w11)), (a 6, .inl (cm 6, 800, .inl w12)), (a 7, .inl (cm 7, 800, .inl w13)), (a 8, .inl (cm 8, 10240, .inl w14)), (a 9, .inl (cm 9, 10240, .inl w15)), (a 10, .inl (cm 10, 10240, .inr (.inl w16))), (a 11, .inl (cm 11, 10240, .inr (.inl w17)))]) hP hD [0, 1, 2, 3, 4, 5, 6, 7, 8, 9] [] rfl rfl (by decide) (by decide) hk1 hFc hP1 hD1
        have hP : va_P D vwCl [(h0, .inr (11, gM a (upd (upd i 0 0) 15 w21) (vp_updL (vp_updL (vp_updL (fun _ => 0) 12 w18) 13 w19) 14 w20))), (a 3, .inl (cm 3, 85, .inr (.inl w9))), (a 4, .inl (cm 4, 800, .inl w10)), (a 5, .inl (cm 5, 800, .inl w11)), (a 6, .inl (cm 6, 800, .inl w12)), (a 7, .inl (cm 7, 800, .inl w13)), (a 8, .inl (cm 8, 10240, .inl w14)), (a 9, .inl (cm 9, 10240, .inl w15)), (a 10, .inl (cm 10, 10240, .inr (.inl w16))), (a 11, .inl (cm 11, 10240, .inr (.inl w17)))] H := hP
        have hD : va_D A [(h0, .inr (11, gM a (upd (upd i 0 0) 15 w21) (vp_updL (vp_updL (vp_updL (fun _ => 0) 12 w18) 13 w19) 14 w20))), (a 3, .inl (cm 3, 85, .inr (.inl w9))), (a 4, .inl (cm 4, 800, .inl w10)), (a 5, .inl (cm 5, 800, .inl w11)), (a 6, .inl (cm 6, 800, .inl w12)), (a 7, .inl (cm 7, 800, .inl w13)), (a 8, .inl (cm 8, 10240, .inl w14)), (a 9, .inl (cm 9, 10240, .inl w15)), (a 10, .inl (cm 10, 10240, .inr (.inl w16))), (a 11, .inl (cm 11, 10240, .inr (.inl w17)))] := hD
        try dsimp only at hw
        clear hz1 hk1 hFc hPc hKc hDc
        obtain ⟨⟨hk_22_c, hk_22_n, hk_22_K, hk_22_J, hk_22_T⟩, hk_22_a, hk_22_s, hk_22_r, hk_22_0, hk_22_4, hk_22_6, hk_22_8, hk_22_9, hk_22_L, hk_22_q⟩ := hw
        refine lv_if_le (tgt := 96) hx hb dX11_join_89 (by decide) (fun hc23 => ?_) (fun hc23 => ?_)
        ·
          have hnq : lookL ((lsR gn gk gv) k) (K2 x) ≠ none := by
            rcases hk_22_q with z | z
            · obtain ⟨-, q, hq, e⟩ := z
              rw [look_T hk hT gv hq e]
              exact fun q => by cases q
            · exact absurd hc23 (Int32.not_le.mpr z.1)
          refine lv_iconst (v := 0) hx hb dX11_join_96 (by decide) ?_
          have hPc := hP.sub (ws' := []) [] rfl
          have hKc := hK.sub (tys' := []) [] rfl
          have hFc := va_free0 hS hA
          refine va_calli (va_runS (As := [.int 0]) (rest := [.int (nI sn)]) ⟨hx, hb, hml, hown, hts⟩ (c_flag l D _ 0) (va_cwS 1 hts g_c_joinM_c_flag_198 rfl rfl rfl (by decide +kernel) ⟨(Nat.le_of_ble_eq_true rfl), (Nat.le_of_ble_eq_true rfl)⟩) (PcR_S hPc hKc) rfl rfl hl.1 rfl (lv_room (Nat.le_of_ble_eq_true rfl)) dX11_join_97 ⟨(Nat.le_of_ble_eq_true rfl), (Nat.le_of_ble_eq_true rfl)⟩) hS (fun q _ h => hFc q h) hFc (fun r24 uu tt H locs htt hvm hw hB hz1 hk1 hS => ?_)
          have hP := va_keep hP hk1
          try dsimp only at hw
          clear hB hz1 hk1 hFc hPc hKc
          obtain rfl : r24 = 0 := hw.trans (by decide)
          refine lv_iadd hx hb dX11_join_100 ?_
          refine lv_topi (fun v25 ev25 => ?_)
          obtain rfl : v25 = nI sn := ev25.trans (Int32.add_zero _)
          refine lv_istore_n (lv' := [(3, .int (nI sn)), (4, .int (nI (160 * k2 + x))), (0, .ref h0), (1, .int (nI k)), (2, .int (nI k2))]) hx hb dX11_join_101 rfl hl (by decide) rfl (fun ls hl => ?_)
          refine lv_iinc (v := nI (160 * k2 + (x + 1))) (lv' := [(4, .int (nI (160 * k2 + (x + 1)))), (3, .int (nI sn)), (0, .ref h0), (1, .int (nI k)), (2, .int (nI k2))]) hx hb dX11_join_102 hl (k := 1) rfl (nI_1 _) (by decide) rfl (fun ls hl => ?_)
          refine lv_goto (tgt := 38) hx hb dX11_join_105 (by decide) ?_
          have hstp := updS_step hL hk_22_L
          have hJ2 := jnF_s hJ (nful_T hk hT gv hA_r5)
          rw [if_neg (fun q => hnq (Option.isNone_iff_eq_none.mp q))] at hJ2
          exact ih (x + 1) sn w9 w10 w11 w12 w13 w14 w15 w16 w17 w18 w19 w20 w21 (by omega) (hM.upd (k := k) hk_22_a hk_22_s hk_22_r hk_22_4 hk_22_6 hk_22_8 hk_22_9 (fun _ => ⟨_, _, _, _, hk_22_T⟩)) (hk_22_0.trans hk1) (hT2.frame (fun x a b => hk_22_r x (by omega)) (fun x a b => hk_22_4 x (by omega)) (fun x a b => hk_22_6 x (by omega)) (fun x a b => hk_22_8 x (by omega)) (fun x a b => hk_22_9 x (by omega))) (hSm.trans (SameT.of (k := k) hk_22_r hk_22_0)) (hstp.1) (by rw [hstp.2, e2]; exact hJ2) (by omega) H locs ls (hP.sub [0, 1, 2, 3, 4, 5, 6, 7, 8, 9] rfl) (hD.sub [0, 1, 2, 3, 4, 5, 6, 7, 8, 9] (by decide) rfl) hS (lv_sub hl [0, 1, 2, 3, 4] rfl)
        ·
          have hnq : lookL ((lsR gn gk gv) k) (K2 x) = none := by
            rcases hk_22_q with z | z
            · exact absurd (le0_of z.1) hc23
            · exact nook_T hk hT gv z.2
          refine lv_iconst (v := 1) hx hb dX11_join_92 (by decide) ?_
          refine lv_goto (tgt := 97) hx hb dX11_join_93 (by decide) ?_
          have hPc := hP.sub (ws' := []) [] rfl
          have hKc := hK.sub (tys' := []) [] rfl
          have hFc := va_free0 hS hA
          refine va_calli (va_runS (As := [.int 1]) (rest := [.int (nI sn)]) ⟨hx, hb, hml, hown, hts⟩ (c_flag l D _ 1) (va_cwS 1 hts g_c_joinM_c_flag_198 rfl rfl rfl (by decide +kernel) ⟨(Nat.le_of_ble_eq_true rfl), (Nat.le_of_ble_eq_true rfl)⟩) (PcR_S hPc hKc) rfl rfl hl.1 rfl (lv_room (Nat.le_of_ble_eq_true rfl)) dX11_join_97 ⟨(Nat.le_of_ble_eq_true rfl), (Nat.le_of_ble_eq_true rfl)⟩) hS (fun q _ h => hFc q h) hFc (fun r26 uu tt H locs htt hvm hw hB hz1 hk1 hS => ?_)
          have hP := va_keep hP hk1
          try dsimp only at hw
          clear hB hz1 hk1 hFc hPc hKc
          obtain rfl : r26 = 1 := hw.trans (by decide)
          refine lv_iadd hx hb dX11_join_100 ?_
          refine lv_topi (fun v27 ev27 => ?_)
          obtain rfl : v27 = nI (sn + 1) := ev27.trans (nI_1 _)
          refine lv_istore_n (lv' := [(3, .int (nI (sn + 1))), (4, .int (nI (160 * k2 + x))), (0, .ref h0), (1, .int (nI k)), (2, .int (nI k2))]) hx hb dX11_join_101 rfl hl (by decide) rfl (fun ls hl => ?_)
          refine lv_iinc (v := nI (160 * k2 + (x + 1))) (lv' := [(4, .int (nI (160 * k2 + (x + 1)))), (3, .int (nI (sn + 1))), (0, .ref h0), (1, .int (nI k)), (2, .int (nI k2))]) hx hb dX11_join_102 hl (k := 1) rfl (nI_1 _) (by decide) rfl (fun ls hl => ?_)
          refine lv_goto (tgt := 38) hx hb dX11_join_105 (by decide) ?_
          have hstp := updS_step hL hk_22_L
          have hJ2 := jnF_s hJ (nful_T hk hT gv hA_r5)
          rw [if_pos (Option.isNone_iff_eq_none.mpr hnq)] at hJ2
          exact ih (x + 1) (sn + 1) w9 w10 w11 w12 w13 w14 w15 w16 w17 w18 w19 w20 w21 (by omega) (hM.upd (k := k) hk_22_a hk_22_s hk_22_r hk_22_4 hk_22_6 hk_22_8 hk_22_9 (fun _ => ⟨_, _, _, _, hk_22_T⟩)) (hk_22_0.trans hk1) (hT2.frame (fun x a b => hk_22_r x (by omega)) (fun x a b => hk_22_4 x (by omega)) (fun x a b => hk_22_6 x (by omega)) (fun x a b => hk_22_8 x (by omega)) (fun x a b => hk_22_9 x (by omega))) (hSm.trans (SameT.of (k := k) hk_22_r hk_22_0)) (hstp.1) (by rw [hstp.2, e2]; exact hJ2) (by omega) H locs ls (hP.sub [0, 1, 2, 3, 4, 5, 6, 7, 8, 9] rfl) (hD.sub [0, 1, 2, 3, 4, 5, 6, 7, 8, 9] (by decide) rfl) hS (lv_sub hl [0, 1, 2, 3, 4] rfl)
set_option maxHeartbeats 4000000 in
set_option maxRecDepth 100000 in
theorem c_joinM (l : Launch) (D : va_G) (sz : Nat) (h0 : Nat) (a : Nat → Nat) (cm : Nat → ClassId) (i : Nat → Int32) (g : Nat → Int64) (fn : Nat → Int64) (fk : Nat → Int32) (fv : Nat → Int32) (fb : Nat → Int32) (fr : Nat → Int32) (ff : Nat → Int32) (fh : Nat → Int32) (fa : Nat → Int64) (fs : Nat → Int64) (z1 : Int32) (z2 : Int32) (hM : MInv fn fk fb ff fh fa fs) : Met l yX11_join wp_c_joinM ({ frames := 11, cells := 0, slots := 0, locals := 290 }) (PcW D [.ref h0, .int z1, .int z2] sz [(h0, .inr (11, gM a i g)), (a 3, .inl (cm 3, 85, .inr (.inl fn))), (a 4, .inl (cm 4, 800, .inl fk)), (a 5, .inl (cm 5, 800, .inl fv)), (a 6, .inl (cm 6, 800, .inl fb)), (a 7, .inl (cm 7, 800, .inl fr)), (a 8, .inl (cm 8, 10240, .inl ff)), (a 9, .inl (cm 9, 10240, .inl fh)), (a 10, .inl (cm 10, 10240, .inr (.inl fa))), (a 11, .inl (cm 11, 10240, .inr (.inl fs)))] [(cm 3, .long), (cm 4, .int), (cm 5, .int), (cm 6, .int), (cm 7, .int), (cm 8, .int), (cm 9, .int), (cm 10, .long), (cm 11, .long)]) (va_Qi (fun (r : Int32) (u : (Nat → Int64) × (Nat → Int32) × (Nat → Int32) × (Nat → Int32) × (Nat → Int32) × (Nat → Int32) × (Nat → Int32) × (Nat → Int64) × (Nat → Int64) × (Int32) × (Int64) × (Int64) × (Int64) × (Int32)) => (MInv u.1 u.2.1 u.2.2.2.1 u.2.2.2.2.2.1 u.2.2.2.2.2.2.1 u.2.2.2.2.2.2.2.1 u.2.2.2.2.2.2.2.2.1) ∧ SameT fn u.1 ∧ lsR u.1 u.2.1 u.2.2.1 = jnS (there fn z1) (there fn z2) (lsR fn fk fv) z1 z2 ∧ r = jnA (there fn z1) (there fn z2) (lsR fn fk fv) z1 z2) (fun (u : (Nat → Int64) × (Nat → Int32) × (Nat → Int32) × (Nat → Int32) × (Nat → Int32) × (Nat → Int32) × (Nat → Int32) × (Nat → Int64) × (Nat → Int64) × (Int32) × (Int64) × (Int64) × (Int64) × (Int32)) t => va_P D vwCl [(h0, .inr (11, gM a (upd (upd i 0 u.2.2.2.2.2.2.2.2.2.1) 15 u.2.2.2.2.2.2.2.2.2.2.2.2.2) (vp_updL (vp_updL (vp_updL (fun _ => 0) 12 u.2.2.2.2.2.2.2.2.2.2.1) 13 u.2.2.2.2.2.2.2.2.2.2.2.1) 14 u.2.2.2.2.2.2.2.2.2.2.2.2.1))), (a 3, .inl (cm 3, 85, .inr (.inl u.1))), (a 4, .inl (cm 4, 800, .inl u.2.1)), (a 5, .inl (cm 5, 800, .inl u.2.2.1)), (a 6, .inl (cm 6, 800, .inl u.2.2.2.1)), (a 7, .inl (cm 7, 800, .inl u.2.2.2.2.1)), (a 8, .inl (cm 8, 10240, .inl u.2.2.2.2.2.1)), (a 9, .inl (cm 9, 10240, .inl u.2.2.2.2.2.2.1)), (a 10, .inl (cm 10, 10240, .inr (.inl u.2.2.2.2.2.2.2.1))), (a 11, .inl (cm 11, 10240, .inr (.inl u.2.2.2.2.2.2.2.2.1)))] t.heap ∧ va_K D vwCl [(cm 3, .long), (cm 4, .int), (cm 5, .int), (cm 6, .int), (cm 7, .int), (cm 8, .int), (cm 9, .int), (cm 10, .long), (cm 11, .long)] t ∧ va_D (va_A [(h0, .inr (11, gM a i g)), (a 3, .inl (cm 3, 85, .inr (.inl fn))), (a 4, .inl (cm 4, 800, .inl fk)), (a 5, .inl (cm 5, 800, .inl fv)), (a 6, .inl (cm 6, 800, .inl fb)), (a 7, .inl (cm 7, 800, .inl fr)), (a 8, .inl (cm 8, 10240, .inl ff)), (a 9, .inl (cm 9, 10240, .inl fh)), (a 10, .inl (cm 10, 10240, .inr (.inl fa))), (a 11, .inl (cm 11, 10240, .inr (.inl fs)))] sz) [(h0, .inr (11, gM a (upd (upd i 0 u.2.2.2.2.2.2.2.2.2.1) 15 u.2.2.2.2.2.2.2.2.2.2.2.2.2) (vp_updL (vp_updL (vp_updL (fun _ => 0) 12 u.2.2.2.2.2.2.2.2.2.2.1) 13 u.2.2.2.2.2.2.2.2.2.2.2.1) 14 u.2.2.2.2.2.2.2.2.2.2.2.2.1))), (a 3, .inl (cm 3, 85, .inr (.inl u.1))), (a 4, .inl (cm 4, 800, .inl u.2.1)), (a 5, .inl (cm 5, 800, .inl u.2.2.1)), (a 6, .inl (cm 6, 800, .inl u.2.2.2.1)), (a 7, .inl (cm 7, 800, .inl u.2.2.2.2.1)), (a 8, .inl (cm 8, 10240, .inl u.2.2.2.2.2.1)), (a 9, .inl (cm 9, 10240, .inl u.2.2.2.2.2.2.1)), (a 10, .inl (cm 10, 10240, .inr (.inl u.2.2.2.2.2.2.2.1))), (a 11, .inl (cm 11, 10240, .inr (.inl u.2.2.2.2.2.2.2.2.1)))]) (va_A [(h0, .inr (11, gM a i g)), (a 3, .inl (cm 3, 85, .inr (.inl fn))), (a 4, .inl (cm 4, 800, .inl fk)), (a 5, .inl (cm 5, 800, .inl fv)), (a 6, .inl (cm 6, 800, .inl fb)), (a 7, .inl (cm 7, 800, .inl fr)), (a 8, .inl (cm 8, 10240, .inl ff)), (a 9, .inl (cm 9, 10240, .inl fh)), (a 10, .inl (cm 10, 10240, .inr (.inl fa))), (a 11, .inl (cm 11, 10240, .inr (.inl fs)))] sz)) 0 0 (va_A [(h0, .inr (11, gM a i g)), (a 3, .inl (cm 3, 85, .inr (.inl fn))), (a 4, .inl (cm 4, 800, .inl fk)), (a 5, .inl (cm 5, 800, .inl fv)), (a 6, .inl (cm 6, 800, .inl fb)), (a 7, .inl (cm 7, 800, .inl fr)), (a 8, .inl (cm 8, 10240, .inl ff)), (a 9, .inl (cm 9, 10240, .inl fh)), (a 10, .inl (cm 10, 10240, .inr (.inl fa))), (a 11, .inl (cm 11, 10240, .inr (.inl fs)))] sz) := by
  refine Met.ofW (cc := cX11_join) (maxL := 5) (ret := (some .int)) (by decide) rfl ?_
  intro p e s m args below meth c s₁ B hml hv
  obtain ⟨rfl, hsz, hP, hK, hD0⟩ := hv
  have hx := B.exec
  have hb := B.bytes
  have hr := B.returns
  have hts := atoms_spec (ws := wp_c_joinM) B.pre
  have hin_X11 : ∀ w ∈ wsX110, w ∈ wp_c_joinM := fun _ h => (List.mem_cons_of_mem _ (List.mem_append_right _ (List.mem_append_right _ (List.mem_append_right _ (List.mem_append_right _ (List.mem_append_right _ (List.mem_append_right _ (List.mem_append_left _ h))))))))
  have hown : s.vm.findClass RX11 = some m.cls := findClass_of_methodNamed B.named
  have hlocks := B.notSynchronized
  subst hsz
  have hD := hD0.self (sz := s.heap.size)
  generalize hAe : va_A [(h0, .inr (11, gM a i g)), (a 3, .inl (cm 3, 85, .inr (.inl fn))), (a 4, .inl (cm 4, 800, .inl fk)), (a 5, .inl (cm 5, 800, .inl fv)), (a 6, .inl (cm 6, 800, .inl fb)), (a 7, .inl (cm 7, 800, .inl fr)), (a 8, .inl (cm 8, 10240, .inl ff)), (a 9, .inl (cm 9, 10240, .inl fh)), (a 10, .inl (cm 10, 10240, .inr (.inl fa))), (a 11, .inl (cm 11, 10240, .inr (.inl fs)))] s.heap.size = A at hD ⊢
  have hA : ∀ q : Nat, s.heap.size ≤ q → A q := fun q h => by rw [← hAe]; exact Or.inr h
  have hS : va_S A s.heap s.heap [] := va_S.rf
  have hP : va_P D vwCl [(h0, .inr (11, gM a i g)), (a 3, .inl (cm 3, 85, .inr (.inl fn))), (a 4, .inl (cm 4, 800, .inl fk)), (a 5, .inl (cm 5, 800, .inl fv)), (a 6, .inl (cm 6, 800, .inl fb)), (a 7, .inl (cm 7, 800, .inl fr)), (a 8, .inl (cm 8, 10240, .inl ff)), (a 9, .inl (cm 9, 10240, .inl fh)), (a 10, .inl (cm 10, 10240, .inr (.inl fa))), (a 11, .inl (cm 11, 10240, .inr (.inl fs)))] s.heap := hP
  have hl := lv_entry ([.ref h0, .int z1, .int z2]) (n := 5) (Nat.le_of_ble_eq_true rfl)
  rw [lg_entry_eq]
  generalize (lg_sl ([.ref h0, .int z1, .int z2]) ++ List.replicate (5 - (lg_sl ([.ref h0, .int z1, .int z2])).length) Slot.unset).toArray = ls at hl ⊢
  have hl : lv_has ls 5 [(0, .ref h0), (1, .int z1), (2, .int z2)] := hl
  refine lv_aload_n hx hb dX11_join_0 rfl (lv_at hl 0 rfl) ?_
  refine lv_iconst (v := 0) hx hb dX11_join_1 (by decide) ?_
  refine va_put (D := D) (ci := 11) (v := .int 0) (ty := .int) (C := RX11) (T := TX11) (N := 47) hx hb hts hin_X11 tyX11 tyX11_ok nmX11 hown hK hP hD hS 0 rfl rfl 0 (by decide) (hts (.fieldLink RX11 73 "ClashFreeModel" "thrown" "I") (List.mem_of_getElem? (i := 15) rfl)) (fun _ h9 => h9) rfl (by decide +kernel) rfl rfl (Nat.le_of_ble_eq_true rfl) dX11_join_2 (fun H locs hP hD hS => ?_)
  have hP : va_P D vwCl [(h0, .inr (11, gM a (upd i 0 0) g)), (a 3, .inl (cm 3, 85, .inr (.inl fn))), (a 4, .inl (cm 4, 800, .inl fk)), (a 5, .inl (cm 5, 800, .inl fv)), (a 6, .inl (cm 6, 800, .inl fb)), (a 7, .inl (cm 7, 800, .inl fr)), (a 8, .inl (cm 8, 10240, .inl ff)), (a 9, .inl (cm 9, 10240, .inl fh)), (a 10, .inl (cm 10, 10240, .inr (.inl fa))), (a 11, .inl (cm 11, 10240, .inr (.inl fs)))] H := hP
  have hD : va_D A [(h0, .inr (11, gM a (upd i 0 0) g)), (a 3, .inl (cm 3, 85, .inr (.inl fn))), (a 4, .inl (cm 4, 800, .inl fk)), (a 5, .inl (cm 5, 800, .inl fv)), (a 6, .inl (cm 6, 800, .inl fb)), (a 7, .inl (cm 7, 800, .inl fr)), (a 8, .inl (cm 8, 10240, .inl ff)), (a 9, .inl (cm 9, 10240, .inl fh)), (a 10, .inl (cm 10, 10240, .inr (.inl fa))), (a 11, .inl (cm 11, 10240, .inr (.inl fs)))] := hD
  refine lv_aload_n hx hb dX11_join_5 rfl (lv_at hl 0 rfl) ?_
  refine lv_iload_n hx hb dX11_join_6 rfl (lv_at hl 1 rfl) ?_
  have hPc := hP.sub (ws' := [(h0, .inr (11, gM a (upd i 0 0) g)), (a 3, .inl (cm 3, 85, .inr (.inl fn)))]) [0, 1] rfl
  have hKc := hK.sub (tys' := [(cm 3, .long)]) [0] rfl
  have hFc := va_free0 hS hA
  refine va_calli (va_runV (As := [.int z1]) (rest := []) ⟨hx, hb, hml, hown, hts⟩ (c_isThere l D _ h0 a cm (upd i 0 0) g fn z1) (cwV 1 hts g_c_joinM_c_isThere_222 rfl rfl rfl (by decide +kernel) ⟨(Nat.le_of_ble_eq_true rfl), (Nat.le_of_ble_eq_true rfl)⟩) (PcR_V (q0 := 0) hPc hKc rfl rfl) rfl rfl hl.1 rfl (lv_room (Nat.le_of_ble_eq_true rfl)) dX11_join_7 ⟨(Nat.le_of_ble_eq_true rfl), (Nat.le_of_ble_eq_true rfl)⟩) hS (fun q _ h => hFc q h) hFc (fun r1 uu tt H locs htt hvm hw hB hz1 hk1 hS => ?_)
  have hP := va_keep hP hk1
  try dsimp only at hw
  clear hB hz1 hk1 hFc hPc hKc
  rcases hw with ⟨rfl, hA_r1⟩ | ⟨rfl, hA_r1⟩
  ·
    obtain ⟨k, hk, rfl, ht⟩ := hA_r1
    obtain ⟨cn, nb, K, J, hT⟩ := hM.2.2 k hk ht
    have hth := (show there fn (nI k) from ⟨k, hk, rfl, ht⟩)
    obtain ⟨h1, hcn, h4, hn1, hn2, ⟨ka, kb, hka, hkb, h6, h7⟩, hKy, hBk, hHs, ⟨bn, ns, gr, h14, hbn, h15, hs1, hs2, h16, hgr⟩⟩ := id hT
    refine lv_if_eq (tgt := 26) hx hb dX11_join_10 (by decide) (fun hc => absurd hc (by decide)) (fun hc => ?_)
    refine lv_aload_n hx hb dX11_join_13 rfl (lv_at hl 0 rfl) ?_
    refine lv_iload_n hx hb dX11_join_14 rfl (lv_at hl 2 rfl) ?_
    have hPc := hP.sub (ws' := [(h0, .inr (11, gM a (upd i 0 0) g)), (a 3, .inl (cm 3, 85, .inr (.inl fn)))]) [0, 1] rfl
    have hKc := hK.sub (tys' := [(cm 3, .long)]) [0] rfl
    have hFc := va_free0 hS hA
    refine va_calli (va_runV (As := [.int z2]) (rest := []) ⟨hx, hb, hml, hown, hts⟩ (c_isThere l D _ h0 a cm (upd i 0 0) g fn z2) (cwV 1 hts g_c_joinM_c_isThere_222 rfl rfl rfl (by decide +kernel) ⟨(Nat.le_of_ble_eq_true rfl), (Nat.le_of_ble_eq_true rfl)⟩) (PcR_V (q0 := 0) hPc hKc rfl rfl) rfl rfl hl.1 rfl (lv_room (Nat.le_of_ble_eq_true rfl)) dX11_join_15 ⟨(Nat.le_of_ble_eq_true rfl), (Nat.le_of_ble_eq_true rfl)⟩) hS (fun q _ h => hFc q h) hFc (fun r2 uu tt H locs htt hvm hw hB hz1 hk1 hS => ?_)
    have hP := va_keep hP hk1
    try dsimp only at hw
    clear hB hz1 hk1 hFc hPc hKc
    rcases hw with ⟨rfl, hA_r2⟩ | ⟨rfl, hA_r2⟩
    ·
      obtain ⟨k2, hk2, rfl, ht2⟩ := hA_r2
      obtain ⟨cn2, nb2, K2, J2, hT2⟩ := hM.2.2 k2 hk2 ht2
      have hth2 := (show there fn (nI k2) from ⟨k2, hk2, rfl, ht2⟩)
      obtain ⟨h12, hcn2, h42, hn12, hn22, ⟨ka2, kb2, hka2, hkb2, h62, h72⟩, hKy2, hBk2, hHs2, ⟨bn2, ns2, gr2, h142, hbn2, h152, hs12, hs22, h162, hgr2⟩⟩ := id hT2
      refine lv_if_eq (tgt := 26) hx hb dX11_join_18 (by decide) (fun hc => absurd hc (by decide)) (fun hc => ?_)
      refine lv_iload_n hx hb dX11_join_21 rfl (lv_at hl 1 rfl) ?_
      refine lv_iload_n hx hb dX11_join_22 rfl (lv_at hl 2 rfl) ?_
      refine lv_icmp_ne (tgt := 29) hx hb dX11_join_23 (by decide) (fun hc3 => ?_) (fun hc3 => ?_)
      ·
        have hne : k ≠ k2 := fun e => hc3 (by rw [e])
        refine lv_iconst (v := 0) hx hb dX11_join_29 (by decide) ?_
        refine lv_istore_n (lv' := [(3, .int 0), (0, .ref h0), (1, .int (nI k)), (2, .int (nI k2))]) hx hb dX11_join_30 rfl hl (by decide) rfl (fun ls hl => ?_)
        refine lv_sipush (v := 160) hx hb dX11_join_31 (by decide) ?_
        refine lv_iload_n hx hb dX11_join_34 rfl (lv_at hl 3 rfl) ?_
        refine lv_imul hx hb dX11_join_35 ?_
        refine lv_topi (fun v4 ev4 => ?_)
        obtain rfl : v4 = nI (160 * k2 + 0) := ev4.trans (pk_mul 160 k2)
        refine lv_istore (lv' := [(4, .int (nI (160 * k2 + 0))), (3, .int 0), (0, .ref h0), (1, .int (nI k)), (2, .int (nI k2))]) hx hb dX11_join_36 hl (by decide) rfl (fun ls hl => ?_)
        refine lp_join l D h0 a cm (upd i 0 0) g k2 cn2 nb2 K2 J2 k fn fk fv (hk) (hk2) (hne) hx hb hml hown hts hA (hK.sub [0, 1, 2, 3, 4, 5, 6, 7, 8] rfl) ?_ (cn2 + 1) 0 0 fn fk fv fb fr ff fh fa fs (g 12) (g 13) (g 14) (i 15) (Nat.zero_le _) (hM) (ht) (hT2) (SameT.rfl) ((updS_id _ _).symm) (rfl) (by omega) _ _ _ (hP.sub [0, 1, 2, 3, 4, 5, 6, 7, 8, 9] rfl) (hD.sub [0, 1, 2, 3, 4, 5, 6, 7, 8, 9] (by decide) rfl) hS (lv_sub hl [0, 1, 2, 3, 4] rfl)
        intro x_5 sn_6 gn_7 gk_8 gv_9 gb_10 gr_11 gf_12 gh_13 ga_14 gs_15 sd_16 pa_17 pb_18 dr_19 hx2_20 hM_21 hk1_22 hT2_23 hSm_24 hL_25 hJ_26 hx27 H locs ls hP hD hS hl
        refine lv_iload_n hx hb dX11_join_108 rfl (lv_at hl 0 rfl) ?_
        have hc12 := jn_1 (t1 := there fn (nI k)) (t2 := there fn (nI k2)) (Ls := lsR fn fk fv) hk hk2 hth hth2 hne
        rw [hx27] at hc12
        exact W.iret (v := nI sn_6) hx hb hr (fun t ht hW => ⟨⟨nI sn_6, (gn_7, gk_8, gv_9, gb_10, gr_11, gf_12, gh_13, ga_14, gs_15, 0, sd_16, pa_17, pb_18, dr_19), rfl, ⟨hM_21, hSm_24, hL_25.trans hc12.1.symm, hc12.2.symm⟩, by rw [ht]; exact hP.sub [0, 1, 2, 3, 4, 5, 6, 7, 8, 9] rfl, va_K.moved hW.alike (hK.sub [0, 1, 2, 3, 4, 5, 6, 7, 8] rfl), hD.sub [0, 1, 2, 3, 4, 5, 6, 7, 8, 9] (by decide) rfl⟩, hS.F ht⟩) hS.2.2 dX11_join_109
      ·
        refine lv_bipush (v := (-2)) hx hb dX11_join_26 (by decide) ?_
        have hc12 : jnS (there fn (nI k)) (there fn (nI k2)) (lsR fn fk fv) (nI k) (nI k2) = _ ∧ jnA (there fn (nI k)) (there fn (nI k2)) (lsR fn fk fv) (nI k) (nI k2) = _ := jn_0 (fun q => q.2.2 hc3)
        exact W.iret (v := (-2)) hx hb hr (fun t ht hW => ⟨⟨(-2), (fn, fk, fv, fb, fr, ff, fh, fa, fs, 0, (g 12), (g 13), (g 14), (i 15)), rfl, ⟨hM, SameT.rfl, hc12.1.symm, hc12.2.symm⟩, by rw [ht]; exact hP.sub [0, 1, 2, 3, 4, 5, 6, 7, 8, 9] rfl, va_K.moved hW.alike (hK.sub [0, 1, 2, 3, 4, 5, 6, 7, 8] rfl), hD.sub [0, 1, 2, 3, 4, 5, 6, 7, 8, 9] (by decide) rfl⟩, hS.F ht⟩) hS.2.2 dX11_join_28
    ·
      refine lv_if_eq (tgt := 26) hx hb dX11_join_18 (by decide) (fun hc => ?_) (fun hc => absurd (by decide) hc)
      refine lv_bipush (v := (-2)) hx hb dX11_join_26 (by decide) ?_
      have hc12 : jnS (there fn (nI k)) (there fn z2) (lsR fn fk fv) (nI k) z2 = _ ∧ jnA (there fn (nI k)) (there fn z2) (lsR fn fk fv) (nI k) z2 = _ := jn_0 (fun q => hA_r2 q.2.1)
      exact W.iret (v := (-2)) hx hb hr (fun t ht hW => ⟨⟨(-2), (fn, fk, fv, fb, fr, ff, fh, fa, fs, 0, (g 12), (g 13), (g 14), (i 15)), rfl, ⟨hM, SameT.rfl, hc12.1.symm, hc12.2.symm⟩, by rw [ht]; exact hP.sub [0, 1, 2, 3, 4, 5, 6, 7, 8, 9] rfl, va_K.moved hW.alike (hK.sub [0, 1, 2, 3, 4, 5, 6, 7, 8] rfl), hD.sub [0, 1, 2, 3, 4, 5, 6, 7, 8, 9] (by decide) rfl⟩, hS.F ht⟩) hS.2.2 dX11_join_28
  ·
    refine lv_if_eq (tgt := 26) hx hb dX11_join_10 (by decide) (fun hc => ?_) (fun hc => absurd (by decide) hc)
    refine lv_bipush (v := (-2)) hx hb dX11_join_26 (by decide) ?_
    have hc12 : jnS (there fn z1) (there fn z2) (lsR fn fk fv) z1 z2 = _ ∧ jnA (there fn z1) (there fn z2) (lsR fn fk fv) z1 z2 = _ := jn_0 (fun q => hA_r1 q.1)
    exact W.iret (v := (-2)) hx hb hr (fun t ht hW => ⟨⟨(-2), (fn, fk, fv, fb, fr, ff, fh, fa, fs, 0, (g 12), (g 13), (g 14), (i 15)), rfl, ⟨hM, SameT.rfl, hc12.1.symm, hc12.2.symm⟩, by rw [ht]; exact hP.sub [0, 1, 2, 3, 4, 5, 6, 7, 8, 9] rfl, va_K.moved hW.alike (hK.sub [0, 1, 2, 3, 4, 5, 6, 7, 8] rfl), hD.sub [0, 1, 2, 3, 4, 5, 6, 7, 8, 9] (by decide) rfl⟩, hS.F ht⟩) hS.2.2 dX11_join_28

