theorem dX11_bytesAt_0 : decode cX11_bytesAt 0 = .ok (.lconst 0, 1) := by decide +kernel
theorem dX11_bytesAt_1 : decode cX11_bytesAt 1 = .ok (.lstore_n 3, 1) := by decide +kernel
theorem dX11_bytesAt_2 : decode cX11_bytesAt 2 = .ok (.iload_n 1, 1) := by decide +kernel
theorem dX11_bytesAt_3 : decode cX11_bytesAt 3 = .ok (.istore 5, 2) := by decide +kernel
theorem dX11_bytesAt_5 : decode cX11_bytesAt 5 = .ok (.iload 5, 2) := by decide +kernel
theorem dX11_bytesAt_7 : decode cX11_bytesAt 7 = .ok (.iload_n 1, 1) := by decide +kernel
theorem dX11_bytesAt_8 : decode cX11_bytesAt 8 = .ok (.iload_n 2, 1) := by decide +kernel
theorem dX11_bytesAt_9 : decode cX11_bytesAt 9 = .ok (.iadd, 1) := by decide +kernel
theorem dX11_bytesAt_10 : decode cX11_bytesAt 10 = .ok (.if_icmp .ge 27, 3) := by decide +kernel
theorem dX11_bytesAt_13 : decode cX11_bytesAt 13 = .ok (.lload_n 3, 1) := by decide +kernel
theorem dX11_bytesAt_14 : decode cX11_bytesAt 14 = .ok (.bipush 8, 2) := by decide +kernel
theorem dX11_bytesAt_16 : decode cX11_bytesAt 16 = .ok (.lshl, 1) := by decide +kernel
theorem dX11_bytesAt_17 : decode cX11_bytesAt 17 = .ok (.aload_n 0, 1) := by decide +kernel
theorem dX11_bytesAt_18 : decode cX11_bytesAt 18 = .ok (.getfield 7, 3) := by decide +kernel
theorem dX11_bytesAt_21 : decode cX11_bytesAt 21 = .ok (.iload 5, 2) := by decide +kernel
theorem dX11_bytesAt_23 : decode cX11_bytesAt 23 = .ok (.baload, 1) := by decide +kernel
theorem dX11_bytesAt_24 : decode cX11_bytesAt 24 = .ok (.sipush 255, 3) := by decide +kernel
theorem dX11_bytesAt_27 : decode cX11_bytesAt 27 = .ok (.iand, 1) := by decide +kernel
theorem dX11_bytesAt_28 : decode cX11_bytesAt 28 = .ok (.i2l, 1) := by decide +kernel
theorem dX11_bytesAt_29 : decode cX11_bytesAt 29 = .ok (.lor, 1) := by decide +kernel
theorem dX11_bytesAt_30 : decode cX11_bytesAt 30 = .ok (.lstore_n 3, 1) := by decide +kernel
theorem dX11_bytesAt_31 : decode cX11_bytesAt 31 = .ok (.iinc 5 1, 3) := by decide +kernel
theorem dX11_bytesAt_34 : decode cX11_bytesAt 34 = .ok (.goto (-29), 3) := by decide +kernel
theorem dX11_bytesAt_37 : decode cX11_bytesAt 37 = .ok (.lload_n 3, 1) := by decide +kernel
theorem dX11_bytesAt_38 : decode cX11_bytesAt 38 = .ok (.lreturn, 1) := by decide +kernel
theorem and255 (x : Int32) : ∃ c, c ≤ 255 ∧ x &&& 255 = nI c := by
  refine ⟨(x.toBitVec &&& 255#32).toNat, ?_, ?_⟩
  · rw [BitVec.toNat_and]
    exact Nat.and_le_right
  · apply Int32.toBitVec_inj.mp
    show x.toBitVec &&& 255#32 = BitVec.ofNat 32 (x.toBitVec &&& 255#32).toNat
    rw [BitVec.ofNat_toNat, BitVec.setWidth_eq]
def Rise (f : Nat → Int32) (x : Nat) : Prop := (∀ j, j < x → (0 : Int64) ≤ bF f (13 + 8 * j) 4 ∧ bF f (13 + 8 * j) 4 < 2147483647) ∧ ∀ i j, i < j → j < x → bF f (13 + 8 * i) 4 < bF f (13 + 8 * j) 4
def Last (f : Nat → Int32) (x : Nat) (la : Int64) : Prop := (-1 : Int64) ≤ la ∧ ∀ j, j < x → bF f (13 + 8 * j) 4 ≤ la
def ImgS (f : Nat → Int32) (tp : Nat) : Prop := ∃ cn, cn ≤ 160 ∧ tp = 14 + 8 * cn ∧ f 12 &&& 255 = nI cn ∧ ((8 : Int64) ≤ bF f 0 1 ∧ bF f 0 1 ≤ 64) ∧ ((25 : Int64) ≤ bF f 1 2 ∧ bF f 1 2 ≤ 400) ∧ ((0 : Int64) ≤ bF f 3 1 ∧ bF f 3 1 ≤ 200) ∧ Rise f cn
theorem up_m1 {a b : Int64} (h : (-1 : Int64) ≤ a) (h2 : a < b) : (0 : Int64) ≤ b := by
  rw [Int64.le_iff_toInt_le] at h ⊢
  rw [Int64.lt_iff_toInt_lt] at h2
  rw [show (-1 : Int64).toInt = -1 from by decide] at h
  rw [show (0 : Int64).toInt = 0 from by decide]
  omega
theorem Rise_0 (f : Nat → Int32) : Rise f 0 := ⟨fun j h => absurd h (Nat.not_lt_zero _), fun i j _ h => absurd h (Nat.not_lt_zero _)⟩
theorem Rise_s {f : Nat → Int32} {x : Nat} {la : Int64} (h : Rise f x) (hl : Last f x la) (h1 : la < bF f (13 + 8 * x) 4) (h2 : bF f (13 + 8 * x) 4 < 2147483647) : Rise f (x + 1) := by
  refine ⟨fun j hj => ?_, fun i j hij hj => ?_⟩
  · by_cases e : j = x
    · subst e
      exact ⟨up_m1 hl.1 h1, h2⟩
    · exact h.1 j (by omega)
  · by_cases e : j = x
    · subst e
      exact Int64.lt_of_le_of_lt (hl.2 i hij) h1
    · exact h.2 i j hij (by omega)
theorem Last_s {f : Nat → Int32} {x : Nat} {la : Int64} (hl : Last f x la) (h1 : la < bF f (13 + 8 * x) 4) : Last f (x + 1) (bF f (13 + 8 * x) 4) := by
  refine ⟨Int64.le_of_lt (Int64.lt_of_le_of_lt hl.1 h1), fun j hj => ?_⟩
  by_cases e : j = x
  · subst e
    exact Int64.le_refl _
  · exact Int64.le_of_lt (Int64.lt_of_le_of_lt (hl.2 j (by omega)) h1)
theorem lN_toN {n : Nat} (h : n < 4294967296) : (lN n).toInt = (n : Int) := by
  show (BitVec.ofNat 64 n).toInt = _
  rw [BitVec.toInt_eq_toNat_cond, BitVec.toNat_ofNat, Nat.mod_eq_of_lt (by omega), if_pos (by omega)]
theorem bF_tie {f : Nat → Int32} {fb : Nat → Nat} (h : TieR f fb) (x : Nat) : ∀ q, q ≤ 4 → bF f x q = lN (rdN fb x q) := by
  intro q
  induction q with
  | zero => intro _; rfl
  | succ q ih =>
    intro hq
    have hl := rdN_lt (fun j => (h j).2) x q
    have hm : 256 ^ q ≤ 256 ^ 3 := Nat.pow_le_pow_right (by decide) (by omega)
    have h9 := (h (x + q)).2
    show (bF f x q) <<< ((Int32.toInt64 8) &&& 63) ||| Int32.toInt64 (f (x + q) &&& 255) = lN (rdN fb x q * 256 + fb (x + q))
    rw [ih (by omega), (h (x + q)).1, nI_l (by omega)]
    exact lN_or8 (by omega) h9
theorem key_tie {f : Nat → Int32} {fb : Nat → Nat} (h : TieR f fb) (j : Nat) : bF f (13 + 8 * j) 4 = lN (keyN fb j) := bF_tie h _ 4 (by decide)
def laN (fb : Nat → Nat) : Nat → Int64
  | 0 => -1
  | m + 1 => lN (keyN fb m)
theorem st1 {f : Nat → Int32} {fb : Nat → Nat} (h : TieR f fb) : ((8 : Int64) ≤ bF f 0 1 ∧ bF f 0 1 ≤ 64) ↔ (8 ≤ fb 0 ∧ fb 0 ≤ 64) := by
  have h0 := (h 0).2
  rw [bF_tie h 0 1 (by decide), show rdN fb 0 1 = fb 0 from by show 0 * 256 + fb (0 + 0) = fb 0; simp, show (8 : Int64) = lN 8 from rfl, show (64 : Int64) = lN 64 from rfl, lN_le (by decide) (by omega), lN_le (by omega) (by decide)]
theorem st2 {f : Nat → Int32} {fb : Nat → Nat} (h : TieR f fb) : ((25 : Int64) ≤ bF f 1 2 ∧ bF f 1 2 ≤ 400) ↔ (25 ≤ rdN fb 1 2 ∧ rdN fb 1 2 ≤ 400) := by
  have h0 := rdN_lt (fun j => (h j).2) 1 2
  rw [bF_tie h 1 2 (by decide), show (25 : Int64) = lN 25 from rfl, show (400 : Int64) = lN 400 from rfl, lN_le (by decide) (by omega), lN_le (by omega) (by decide)]
theorem st3 {f : Nat → Int32} {fb : Nat → Nat} (h : TieR f fb) : ((0 : Int64) ≤ bF f 3 1 ∧ bF f 3 1 ≤ 200) ↔ fb 3 ≤ 200 := by
  have h0 := (h 3).2
  rw [bF_tie h 3 1 (by decide), show rdN fb 3 1 = fb 3 from by show 0 * 256 + fb (3 + 0) = fb 3; simp, show (0 : Int64) = lN 0 from rfl, show (200 : Int64) = lN 200 from rfl, lN_le (by decide) (by omega), lN_le (by omega) (by decide)]
  omega
theorem rs_ok {f : Nat → Int32} {fb : Nat → Nat} {x : Nat} {la : Int64} (h : TieR f fb) (hQ : RsN fb x) (hla : la = laN fb x) (h1 : la < bF f (13 + 8 * x) 4) (h2 : bF f (13 + 8 * x) 4 < 2147483647) : RsN fb (x + 1) := by
  rw [key_tie h] at h1 h2
  have hk := keyN_lt (fun j => (h j).2) x
  rw [Int64.lt_iff_toInt_lt, lN_toN hk, show (2147483647 : Int64).toInt = 2147483647 from by decide] at h2
  refine RsN_s hQ (by omega) ?_
  intro m e
  subst e
  have hm := keyN_lt (fun j => (h j).2) m
  subst hla
  change lN (keyN fb m) < _ at h1
  rw [Int64.lt_iff_toInt_lt, lN_toN hk, lN_toN hm] at h1
  omega
theorem rs_no1 {f : Nat → Int32} {fb : Nat → Nat} {x : Nat} {la : Int64} (h : TieR f fb) (hla : la = laN fb x) (h1 : bF f (13 + 8 * x) 4 ≤ la) : ¬ RsN fb (x + 1) := by
  intro q
  rw [key_tie h] at h1
  have hk := keyN_lt (fun j => (h j).2) x
  subst hla
  cases x with
  | zero =>
    change _ ≤ (-1 : Int64) at h1
    rw [Int64.le_iff_toInt_le, lN_toN hk, show (-1 : Int64).toInt = -1 from by decide] at h1
    omega
  | succ m =>
    have hm := keyN_lt (fun j => (h j).2) m
    change _ ≤ lN (keyN fb m) at h1
    rw [Int64.le_iff_toInt_le, lN_toN hk, lN_toN hm] at h1
    have := q.2 m (by omega)
    omega
theorem rs_no2 {f : Nat → Int32} {fb : Nat → Nat} {x : Nat} (h : TieR f fb) (h1 : ¬ bF f (13 + 8 * x) 4 < 2147483647) : ¬ RsN fb (x + 1) := by
  intro q
  rw [key_tie h, Int64.lt_iff_toInt_lt, lN_toN (keyN_lt (fun j => (h j).2) x), show (2147483647 : Int64).toInt = 2147483647 from by decide] at h1
  have := q.1 x (by omega)
  omega
def own_c_bytesAt : List Cond := [.fieldLink RX11 7 "ClashFreeModel" "tape" "[B"]
def wp_c_bytesAt : List Cond := .code yX11_bytesAt cX11_bytesAt 6 (some .long) :: (own_c_bytesAt ++ (wsX110 ++ ([] : List Cond)))
set_option maxRecDepth 20000 in
theorem inown_c_bytesAt : ∀ w ∈ own_c_bytesAt, w ∈ lw_tbl := mem_places [1217] (by decide +kernel)
set_option maxRecDepth 20000 in
theorem in_c_bytesAt : ∀ w ∈ wp_c_bytesAt, w ∈ lw_tbl := List.forall_mem_cons.mpr ⟨List.mem_of_getElem? (i := 1818) (by decide +kernel), List.forall_mem_append.mpr ⟨inown_c_bytesAt, List.forall_mem_append.mpr ⟨lwb_X11, fun _ h => absurd h List.not_mem_nil⟩⟩⟩
set_option maxRecDepth 20000 in
theorem good_c_bytesAt : wp_c_bytesAt.all goodWord = true := by decide +kernel
set_option maxHeartbeats 4000000 in
set_option maxRecDepth 100000 in
theorem lp_bytesAt (l : Launch) {p : Program} {e : Env} {s : State} {m : MethodId} {args : Array Value} {below : List Frame} {meth : Method} {c : Code} {Q : State → Prop} {A : Nat → Prop} (D : va_G) (h0 : Nat) (a : Nat → Nat) (cm : Nat → ClassId) (i : Nat → Int32) (g : Nat → Int64) (fT : Nat → Int32) (x : Nat) (q : Nat) (hq : x + q ≤ 1400) (hx : p.tables.exec = Jvm.exec) (hb : c.code = cX11_bytesAt) (hml : c.maxLocals = 6) (hown : s.vm.findClass RX11 = some m.cls) (hts : ∀ w ∈ wp_c_bytesAt, w.before args s = true) (hA : ∀ q, s.heap.size ≤ q → A q) (hK : va_K D vwCl [(cm 1, .byte)] s) (kx37 : ∀ (y : Nat), (y ≤ q) → (q ≤ y) → ∀ (H : Heap) (locs : List Loc) (ls : Array Slot), va_P D vwCl [(h0, .inr (11, gM a i g)), (a 1, .inl (cm 1, 1400, .inl fT))] H → va_S A s.heap H locs → lv_has ls 6 [(3, .long (bF fT x y))] → W p l e ({ frames := 2, cells := 0, slots := 0, locals := 20 }) s m args below meth c H locs 0 0 Q (F0 m 37 ls [])) : ∀ (N : Nat), ∀ (y : Nat), (y ≤ q) → q - y < N → ∀ (H : Heap) (locs : List Loc) (ls : Array Slot), va_P D vwCl [(h0, .inr (11, gM a i g)), (a 1, .inl (cm 1, 1400, .inl fT))] H → va_S A s.heap H locs → lv_has ls 6 [(5, .int (nI (x + y))), (3, .long (bF fT x y)), (0, .ref h0), (1, .int (nI x)), (2, .int (nI q))] → W p l e ({ frames := 2, cells := 0, slots := 0, locals := 20 }) s m args below meth c H locs 0 0 Q (F0 m 5 ls []) := by
  have hin_X11 : ∀ w ∈ wsX110, w ∈ wp_c_bytesAt := fun _ h => (List.mem_cons_of_mem _ (List.mem_append_right _ (List.mem_append_left _ h)))
  intro N
  induction N with
  | zero =>
    intro y hy1 hm
    exact absurd hm (Nat.not_lt_zero _)
  | succ N ih =>
    intro y hy1 hm H locs ls hP hS hl
    refine lv_iload hx hb dX11_bytesAt_5 (lv_at hl 0 rfl) ?_
    refine lv_iload_n hx hb dX11_bytesAt_7 rfl (lv_at hl 3 rfl) ?_
    refine lv_iload_n hx hb dX11_bytesAt_8 rfl (lv_at hl 4 rfl) ?_
    refine lv_iadd hx hb dX11_bytesAt_9 ?_
    refine lv_topi (fun v1 ev1 => ?_)
    obtain rfl : v1 = nI (x + q) := ev1.trans (nI_add x q)
    refine lv_icmp_ge (tgt := 37) hx hb dX11_bytesAt_10 (by decide) (fun hc2 => ?_) (fun hc2 => ?_)
    ·
      have hge_y : x + q ≤ x + y := (nI_leI (by omega) (by omega)).mp hc2
      exact kx37 y (hy1) (by omega) H locs ls (hP.sub [0, 1] rfl) hS (lv_sub hl [1] rfl)
    ·
      have hlt_y : y < q := by
        rcases Nat.lt_or_ge y q with z | z
        · exact z
        · exact absurd (nI_le (show x + q ≤ x + y by omega) (by omega)) hc2
      refine lv_lload_n hx hb dX11_bytesAt_13 rfl (lv_at hl 1 rfl) ?_
      refine lv_bipush (v := 8) hx hb dX11_bytesAt_14 (by decide) ?_
      refine lv_lshl hx hb dX11_bytesAt_16 rfl ?_
      refine lv_aload_n hx hb dX11_bytesAt_17 rfl (lv_at hl 2 rfl) ?_
      refine va_get (D := D) (ci := 11) (v := .ref (a 1)) (C := RX11) (T := TX11) (N := 47) hx hb hts hin_X11 hown hK hP 0 rfl rfl 1 (by decide) (hts (.fieldLink RX11 7 "ClashFreeModel" "tape" "[B") (List.mem_of_getElem? (i := 1) rfl)) (fun _ h9 => h9) rfl dX11_bytesAt_18 ?_
      refine lv_iload hx hb dX11_bytesAt_21 (lv_at hl 0 rfl) ?_
      refine va_bald hx hb hK hP 1 0 rfl rfl (vp_in_nI (by omega) (by decide)) dX11_bytesAt_23 ?_
      refine lv_sipush (v := 255) hx hb dX11_bytesAt_24 (by decide) ?_
      refine lv_iand hx hb dX11_bytesAt_27 ?_
      refine lv_i2l hx hb dX11_bytesAt_28 rfl ?_
      refine lv_lor hx hb dX11_bytesAt_29 ?_
      refine lv_topl (fun v3 ev3 => ?_)
      obtain rfl : v3 = bF fT x (y + 1) := ev3.trans (by rw [nI_clamp (by omega)]; rfl)
      refine lv_lstore_n (lv' := [(3, .long (bF fT x (y + 1))), (5, .int (nI (x + y))), (0, .ref h0), (1, .int (nI x)), (2, .int (nI q))]) hx hb dX11_bytesAt_30 rfl hl (by decide) rfl (fun ls hl => ?_)
      refine lv_iinc (v := nI (x + (y + 1))) (lv' := [(5, .int (nI (x + (y + 1)))), (3, .long (bF fT x (y + 1))), (0, .ref h0), (1, .int (nI x)), (2, .int (nI q))]) hx hb dX11_bytesAt_31 hl (k := 1) rfl (nI_1 _) (by decide) rfl (fun ls hl => ?_)
      refine lv_goto (tgt := 5) hx hb dX11_bytesAt_34 (by decide) ?_
      exact ih (y + 1) (by omega) (by omega) H locs ls (hP.sub [0, 1] rfl) hS (lv_sub hl [0, 1, 2, 3, 4] rfl)
set_option maxHeartbeats 4000000 in
set_option maxRecDepth 100000 in
theorem c_bytesAt (l : Launch) (D : va_G) (sz : Nat) (h0 : Nat) (a : Nat → Nat) (cm : Nat → ClassId) (i : Nat → Int32) (g : Nat → Int64) (fT : Nat → Int32) (x : Nat) (q : Nat) (hq : x + q ≤ 1400) : Met l yX11_bytesAt wp_c_bytesAt ({ frames := 2, cells := 0, slots := 0, locals := 20 }) (PcR D [.ref h0, .int (nI x), .int (nI q)] sz [(h0, .inr (11, gM a i g)), (a 1, .inl (cm 1, 1400, .inl fT))] [(cm 1, .byte)]) (va_Ql (fun (r : Int64) (u : Unit) => r = bF fT x q) (fun (_ : Unit) _ => True) (va_A [] sz)) 0 0 (va_A [] sz) := by
  refine Met.ofW (cc := cX11_bytesAt) (maxL := 6) (ret := (some .long)) (by decide) rfl ?_
  intro p e s m args below meth c s₁ B hml hv
  obtain ⟨rfl, hsz, hP, hK⟩ := hv
  have hx := B.exec
  have hb := B.bytes
  have hr := B.returns
  have hts := atoms_spec (ws := wp_c_bytesAt) B.pre
  have hin_X11 : ∀ w ∈ wsX110, w ∈ wp_c_bytesAt := fun _ h => (List.mem_cons_of_mem _ (List.mem_append_right _ (List.mem_append_left _ h)))
  have hown : s.vm.findClass RX11 = some m.cls := findClass_of_methodNamed B.named
  have hlocks := B.notSynchronized
  subst hsz
  generalize hAe : va_A [] s.heap.size = A at ⊢
  have hA : ∀ q : Nat, s.heap.size ≤ q → A q := fun q h => by rw [← hAe]; exact Or.inr h
  have hS : va_S A s.heap s.heap [] := va_S.rf
  have hP : va_P D vwCl [(h0, .inr (11, gM a i g)), (a 1, .inl (cm 1, 1400, .inl fT))] s.heap := hP
  have hl := lv_entry ([.ref h0, .int (nI x), .int (nI q)]) (n := 6) (Nat.le_of_ble_eq_true rfl)
  rw [lg_entry_eq]
  generalize (lg_sl ([.ref h0, .int (nI x), .int (nI q)]) ++ List.replicate (6 - (lg_sl ([.ref h0, .int (nI x), .int (nI q)])).length) Slot.unset).toArray = ls at hl ⊢
  have hl : lv_has ls 6 [(0, .ref h0), (1, .int (nI x)), (2, .int (nI q))] := hl
  refine lv_lconst (v := 0) hx hb dX11_bytesAt_0 (by decide) ?_
  refine lv_lstore_n (lv' := [(3, .long 0), (0, .ref h0), (1, .int (nI x)), (2, .int (nI q))]) hx hb dX11_bytesAt_1 rfl hl (by decide) rfl (fun ls hl => ?_)
  refine lv_iload_n hx hb dX11_bytesAt_2 rfl (lv_at hl 2 rfl) ?_
  refine lv_istore (lv' := [(5, .int (nI x)), (3, .long 0), (0, .ref h0), (1, .int (nI x)), (2, .int (nI q))]) hx hb dX11_bytesAt_3 hl (by decide) rfl (fun ls hl => ?_)
  refine lp_bytesAt l D h0 a cm i g fT x q (hq) hx hb hml hown hts hA (hK.sub [0] rfl) ?_ (q + 1) 0 (Nat.zero_le _) (by omega) _ _ _ (hP.sub [0, 1] rfl) hS (lv_sub hl [0, 1, 2, 3, 4] rfl)
  intro y_1 hy1_2 hx3 H locs ls hP hS hl
  refine lv_lload_n hx hb dX11_bytesAt_37 rfl (lv_at hl 0 rfl) ?_
  exact W.lret (v := bF fT x y_1) hx hb hr (fun t ht hW => ⟨⟨bF fT x y_1, (), rfl, by rw [show y_1 = q from by omega], trivial⟩, hS.F ht⟩) hS.2.2 dX11_bytesAt_38

