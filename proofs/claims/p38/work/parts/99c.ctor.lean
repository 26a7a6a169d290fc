theorem dX0_init_0 : decode cX0_init 0 = .ok (.aload_n 0, 1) := by decide +kernel
theorem dX0_init_1 : decode cX0_init 1 = .ok (.invokespecial 3, 3) := by decide +kernel
theorem dX0_init_4 : decode cX0_init 4 = .ok (.return_, 1) := by decide +kernel
theorem dX1_init_0 : decode cX1_init 0 = .ok (.aload_n 0, 1) := by decide +kernel
theorem dX1_init_1 : decode cX1_init 1 = .ok (.invokespecial 3, 3) := by decide +kernel
theorem dX1_init_4 : decode cX1_init 4 = .ok (.aload_n 0, 1) := by decide +kernel
theorem dX1_init_5 : decode cX1_init 5 = .ok (.sipush 1294, 3) := by decide +kernel
theorem dX1_init_8 : decode cX1_init 8 = .ok (.newarray .int, 2) := by decide +kernel
theorem dX1_init_10 : decode cX1_init 10 = .ok (.putfield 9, 3) := by decide +kernel
theorem dX1_init_13 : decode cX1_init 13 = .ok (.return_, 1) := by decide +kernel
theorem dX2_init_0 : decode cX2_init 0 = .ok (.aload_n 0, 1) := by decide +kernel
theorem dX2_init_1 : decode cX2_init 1 = .ok (.invokespecial 3, 3) := by decide +kernel
theorem dX2_init_4 : decode cX2_init 4 = .ok (.aload_n 0, 1) := by decide +kernel
theorem dX2_init_5 : decode cX2_init 5 = .ok (.sipush 160, 3) := by decide +kernel
theorem dX2_init_8 : decode cX2_init 8 = .ok (.newarray .int, 2) := by decide +kernel
theorem dX2_init_10 : decode cX2_init 10 = .ok (.putfield 9, 3) := by decide +kernel
theorem dX2_init_13 : decode cX2_init 13 = .ok (.aload_n 0, 1) := by decide +kernel
theorem dX2_init_14 : decode cX2_init 14 = .ok (.sipush 160, 3) := by decide +kernel
theorem dX2_init_17 : decode cX2_init 17 = .ok (.newarray .int, 2) := by decide +kernel
theorem dX2_init_19 : decode cX2_init 19 = .ok (.putfield 15, 3) := by decide +kernel
theorem dX2_init_22 : decode cX2_init 22 = .ok (.return_, 1) := by decide +kernel
theorem dX3_init_0 : decode cX3_init 0 = .ok (.aload_n 0, 1) := by decide +kernel
theorem dX3_init_1 : decode cX3_init 1 = .ok (.invokespecial 3, 3) := by decide +kernel
theorem dX3_init_4 : decode cX3_init 4 = .ok (.aload_n 0, 1) := by decide +kernel
theorem dX3_init_5 : decode cX3_init 5 = .ok (.sipush 2048, 3) := by decide +kernel
theorem dX3_init_8 : decode cX3_init 8 = .ok (.newarray .int, 2) := by decide +kernel
theorem dX3_init_10 : decode cX3_init 10 = .ok (.putfield 9, 3) := by decide +kernel
theorem dX3_init_13 : decode cX3_init 13 = .ok (.aload_n 0, 1) := by decide +kernel
theorem dX3_init_14 : decode cX3_init 14 = .ok (.sipush 2048, 3) := by decide +kernel
theorem dX3_init_17 : decode cX3_init 17 = .ok (.newarray .int, 2) := by decide +kernel
theorem dX3_init_19 : decode cX3_init 19 = .ok (.putfield 15, 3) := by decide +kernel
theorem dX3_init_22 : decode cX3_init 22 = .ok (.aload_n 0, 1) := by decide +kernel
theorem dX3_init_23 : decode cX3_init 23 = .ok (.sipush 2048, 3) := by decide +kernel
theorem dX3_init_26 : decode cX3_init 26 = .ok (.newarray .int, 2) := by decide +kernel
theorem dX3_init_28 : decode cX3_init 28 = .ok (.putfield 18, 3) := by decide +kernel
theorem dX3_init_31 : decode cX3_init 31 = .ok (.aload_n 0, 1) := by decide +kernel
theorem dX3_init_32 : decode cX3_init 32 = .ok (.sipush 2048, 3) := by decide +kernel
theorem dX3_init_35 : decode cX3_init 35 = .ok (.newarray .int, 2) := by decide +kernel
theorem dX3_init_37 : decode cX3_init 37 = .ok (.putfield 21, 3) := by decide +kernel
theorem dX3_init_40 : decode cX3_init 40 = .ok (.aload_n 0, 1) := by decide +kernel
theorem dX3_init_41 : decode cX3_init 41 = .ok (.sipush 2048, 3) := by decide +kernel
theorem dX3_init_44 : decode cX3_init 44 = .ok (.newarray .int, 2) := by decide +kernel
theorem dX3_init_46 : decode cX3_init 46 = .ok (.putfield 24, 3) := by decide +kernel
theorem dX3_init_49 : decode cX3_init 49 = .ok (.aload_n 0, 1) := by decide +kernel
theorem dX3_init_50 : decode cX3_init 50 = .ok (.sipush 160, 3) := by decide +kernel
theorem dX3_init_53 : decode cX3_init 53 = .ok (.newarray .int, 2) := by decide +kernel
theorem dX3_init_55 : decode cX3_init 55 = .ok (.putfield 27, 3) := by decide +kernel
theorem dX3_init_58 : decode cX3_init 58 = .ok (.aload_n 0, 1) := by decide +kernel
theorem dX3_init_59 : decode cX3_init 59 = .ok (.sipush 160, 3) := by decide +kernel
theorem dX3_init_62 : decode cX3_init 62 = .ok (.newarray .int, 2) := by decide +kernel
theorem dX3_init_64 : decode cX3_init 64 = .ok (.putfield 30, 3) := by decide +kernel
theorem dX3_init_67 : decode cX3_init 67 = .ok (.aload_n 0, 1) := by decide +kernel
theorem dX3_init_68 : decode cX3_init 68 = .ok (.sipush 160, 3) := by decide +kernel
theorem dX3_init_71 : decode cX3_init 71 = .ok (.newarray .int, 2) := by decide +kernel
theorem dX3_init_73 : decode cX3_init 73 = .ok (.putfield 33, 3) := by decide +kernel
theorem dX3_init_76 : decode cX3_init 76 = .ok (.return_, 1) := by decide +kernel
theorem dX4_init_0 : decode cX4_init 0 = .ok (.aload_n 0, 1) := by decide +kernel
theorem dX4_init_1 : decode cX4_init 1 = .ok (.invokespecial 3, 3) := by decide +kernel
theorem dX4_init_4 : decode cX4_init 4 = .ok (.aload_n 0, 1) := by decide +kernel
theorem dX4_init_5 : decode cX4_init 5 = .ok (.iconst 5, 1) := by decide +kernel
theorem dX4_init_6 : decode cX4_init 6 = .ok (.newarray .int, 2) := by decide +kernel
theorem dX4_init_8 : decode cX4_init 8 = .ok (.putfield 9, 3) := by decide +kernel
theorem dX4_init_11 : decode cX4_init 11 = .ok (.aload_n 0, 1) := by decide +kernel
theorem dX4_init_12 : decode cX4_init 12 = .ok (.bipush 64, 2) := by decide +kernel
theorem dX4_init_14 : decode cX4_init 14 = .ok (.newarray .int, 2) := by decide +kernel
theorem dX4_init_16 : decode cX4_init 16 = .ok (.putfield 15, 3) := by decide +kernel
theorem dX4_init_19 : decode cX4_init 19 = .ok (.return_, 1) := by decide +kernel
theorem dX5_init_0 : decode cX5_init 0 = .ok (.aload_n 0, 1) := by decide +kernel
theorem dX5_init_1 : decode cX5_init 1 = .ok (.invokespecial 3, 3) := by decide +kernel
theorem dX5_init_4 : decode cX5_init 4 = .ok (.aload_n 0, 1) := by decide +kernel
theorem dX5_init_5 : decode cX5_init 5 = .ok (.new 9, 3) := by decide +kernel
theorem dX5_init_8 : decode cX5_init 8 = .ok (.dup, 1) := by decide +kernel
theorem dX5_init_9 : decode cX5_init 9 = .ok (.invokespecial 11, 3) := by decide +kernel
theorem dX5_init_12 : decode cX5_init 12 = .ok (.putfield 12, 3) := by decide +kernel
theorem dX5_init_15 : decode cX5_init 15 = .ok (.aload_n 0, 1) := by decide +kernel
theorem dX5_init_16 : decode cX5_init 16 = .ok (.new 18, 3) := by decide +kernel
theorem dX5_init_19 : decode cX5_init 19 = .ok (.dup, 1) := by decide +kernel
theorem dX5_init_20 : decode cX5_init 20 = .ok (.invokespecial 20, 3) := by decide +kernel
theorem dX5_init_23 : decode cX5_init 23 = .ok (.putfield 21, 3) := by decide +kernel
theorem dX5_init_26 : decode cX5_init 26 = .ok (.return_, 1) := by decide +kernel
theorem dX6_init_0 : decode cX6_init 0 = .ok (.aload_n 0, 1) := by decide +kernel
theorem dX6_init_1 : decode cX6_init 1 = .ok (.invokespecial 3, 3) := by decide +kernel
theorem dX6_init_4 : decode cX6_init 4 = .ok (.aload_n 0, 1) := by decide +kernel
theorem dX6_init_5 : decode cX6_init 5 = .ok (.new 9, 3) := by decide +kernel
theorem dX6_init_8 : decode cX6_init 8 = .ok (.dup, 1) := by decide +kernel
theorem dX6_init_9 : decode cX6_init 9 = .ok (.invokespecial 11, 3) := by decide +kernel
theorem dX6_init_12 : decode cX6_init 12 = .ok (.putfield 12, 3) := by decide +kernel
theorem dX6_init_15 : decode cX6_init 15 = .ok (.aload_n 0, 1) := by decide +kernel
theorem dX6_init_16 : decode cX6_init 16 = .ok (.new 18, 3) := by decide +kernel
theorem dX6_init_19 : decode cX6_init 19 = .ok (.dup, 1) := by decide +kernel
theorem dX6_init_20 : decode cX6_init 20 = .ok (.invokespecial 20, 3) := by decide +kernel
theorem dX6_init_23 : decode cX6_init 23 = .ok (.putfield 21, 3) := by decide +kernel
theorem dX6_init_26 : decode cX6_init 26 = .ok (.aload_n 0, 1) := by decide +kernel
theorem dX6_init_27 : decode cX6_init 27 = .ok (.iconst 5, 1) := by decide +kernel
theorem dX6_init_28 : decode cX6_init 28 = .ok (.newarray .int, 2) := by decide +kernel
theorem dX6_init_30 : decode cX6_init 30 = .ok (.putfield 25, 3) := by decide +kernel
theorem dX6_init_33 : decode cX6_init 33 = .ok (.aload_n 0, 1) := by decide +kernel
theorem dX6_init_34 : decode cX6_init 34 = .ok (.sipush 600, 3) := by decide +kernel
theorem dX6_init_37 : decode cX6_init 37 = .ok (.newarray .int, 2) := by decide +kernel
theorem dX6_init_39 : decode cX6_init 39 = .ok (.putfield 29, 3) := by decide +kernel
theorem dX6_init_42 : decode cX6_init 42 = .ok (.return_, 1) := by decide +kernel
theorem dX7_init_0 : decode cX7_init 0 = .ok (.aload_n 0, 1) := by decide +kernel
theorem dX7_init_1 : decode cX7_init 1 = .ok (.invokespecial 3, 3) := by decide +kernel
theorem dX7_init_4 : decode cX7_init 4 = .ok (.aload_n 0, 1) := by decide +kernel
theorem dX7_init_5 : decode cX7_init 5 = .ok (.sipush 600, 3) := by decide +kernel
theorem dX7_init_8 : decode cX7_init 8 = .ok (.newarray .int, 2) := by decide +kernel
theorem dX7_init_10 : decode cX7_init 10 = .ok (.putfield 9, 3) := by decide +kernel
theorem dX7_init_13 : decode cX7_init 13 = .ok (.aload_n 0, 1) := by decide +kernel
theorem dX7_init_14 : decode cX7_init 14 = .ok (.sipush 600, 3) := by decide +kernel
theorem dX7_init_17 : decode cX7_init 17 = .ok (.newarray .int, 2) := by decide +kernel
theorem dX7_init_19 : decode cX7_init 19 = .ok (.putfield 15, 3) := by decide +kernel
theorem dX7_init_22 : decode cX7_init 22 = .ok (.aload_n 0, 1) := by decide +kernel
theorem dX7_init_23 : decode cX7_init 23 = .ok (.sipush 600, 3) := by decide +kernel
theorem dX7_init_26 : decode cX7_init 26 = .ok (.newarray .int, 2) := by decide +kernel
theorem dX7_init_28 : decode cX7_init 28 = .ok (.putfield 18, 3) := by decide +kernel
theorem dX7_init_31 : decode cX7_init 31 = .ok (.return_, 1) := by decide +kernel
theorem dX8_init_0 : decode cX8_init 0 = .ok (.aload_n 0, 1) := by decide +kernel
theorem dX8_init_1 : decode cX8_init 1 = .ok (.invokespecial 3, 3) := by decide +kernel
theorem dX8_init_4 : decode cX8_init 4 = .ok (.return_, 1) := by decide +kernel
theorem dX9_init_0 : decode cX9_init 0 = .ok (.aload_n 0, 1) := by decide +kernel
theorem dX9_init_1 : decode cX9_init 1 = .ok (.invokespecial 3, 3) := by decide +kernel
theorem dX9_init_4 : decode cX9_init 4 = .ok (.aload_n 0, 1) := by decide +kernel
theorem dX9_init_5 : decode cX9_init 5 = .ok (.new 9, 3) := by decide +kernel
theorem dX9_init_8 : decode cX9_init 8 = .ok (.dup, 1) := by decide +kernel
theorem dX9_init_9 : decode cX9_init 9 = .ok (.invokespecial 11, 3) := by decide +kernel
theorem dX9_init_12 : decode cX9_init 12 = .ok (.putfield 12, 3) := by decide +kernel
theorem dX9_init_15 : decode cX9_init 15 = .ok (.aload_n 0, 1) := by decide +kernel
theorem dX9_init_16 : decode cX9_init 16 = .ok (.new 18, 3) := by decide +kernel
theorem dX9_init_19 : decode cX9_init 19 = .ok (.dup, 1) := by decide +kernel
theorem dX9_init_20 : decode cX9_init 20 = .ok (.invokespecial 20, 3) := by decide +kernel
theorem dX9_init_23 : decode cX9_init 23 = .ok (.putfield 21, 3) := by decide +kernel
theorem dX9_init_26 : decode cX9_init 26 = .ok (.aload_n 0, 1) := by decide +kernel
theorem dX9_init_27 : decode cX9_init 27 = .ok (.new 25, 3) := by decide +kernel
theorem dX9_init_30 : decode cX9_init 30 = .ok (.dup, 1) := by decide +kernel
theorem dX9_init_31 : decode cX9_init 31 = .ok (.invokespecial 27, 3) := by decide +kernel
theorem dX9_init_34 : decode cX9_init 34 = .ok (.putfield 28, 3) := by decide +kernel
theorem dX9_init_37 : decode cX9_init 37 = .ok (.return_, 1) := by decide +kernel
theorem va_K1 {D : va_G} {cl : List vw_C} {tys : List (ClassId × FieldType)} {s : State} (h : va_K D cl tys s) {i j : Nat} {a b : ClassId} (hi : tys[i]? = some (a, .int)) (hj : tys[j]? = some (b, .int)) : a = b := by
  have h1 : s.vm.findClass _ = some a := (h.2 i _ hi).2
  have h2 : s.vm.findClass _ = some b := (h.2 j _ hj).2
  exact Option.some.inj (h1.symm.trans h2)
def own_i_X0 : List Cond := [.methodLink RX0 3 objectInit, .instanceMethod objectInit, .code objectInit ⟨#[0xb1]⟩ 1 none]
def wp_i_X0 : List Cond := .code yX0_init cX0_init 1 none :: (own_i_X0 ++ ([] : List Cond))
set_option maxRecDepth 20000 in
theorem inown_i_X0 : ∀ w ∈ own_i_X0, w ∈ lw_tbl := mem_places [145, 130, 131] (by decide +kernel)
set_option maxRecDepth 20000 in
theorem in_i_X0 : ∀ w ∈ wp_i_X0, w ∈ lw_tbl := List.forall_mem_cons.mpr ⟨List.mem_of_getElem? (i := 144) (by decide +kernel), List.forall_mem_append.mpr ⟨inown_i_X0, fun _ h => absurd h List.not_mem_nil⟩⟩
set_option maxRecDepth 20000 in
theorem good_i_X0 : wp_i_X0.all goodWord = true := by decide +kernel
set_option maxHeartbeats 4000000 in
set_option maxRecDepth 100000 in
theorem i_X0 (l : Launch) (D : va_G) (sz : Nat) (h0 : Nat)  : Met l yX0_init wp_i_X0 ({ frames := 1, cells := 0, slots := 0, locals := 12 }) (PcWC D [.ref h0] sz [(h0, .inr (0, [.long 0, .int 0, .int 0, .int 0]))] []) (va_Qv (fun (_ : Unit) => True) (fun (u : Unit) t => va_P D vwCl [(h0, .inr (0, [.long 0, .int 0, .int 0, .int 0]))] t.heap ∧ va_K D vwCl [] t ∧ va_D (va_A [(h0, .inr (0, [.long 0, .int 0, .int 0, .int 0]))] sz) [(h0, .inr (0, [.long 0, .int 0, .int 0, .int 0]))]) (va_A [(h0, .inr (0, [.long 0, .int 0, .int 0, .int 0]))] sz)) 0 0 (va_A [(h0, .inr (0, [.long 0, .int 0, .int 0, .int 0]))] sz) := by
  refine Met.ofW (cc := cX0_init) (maxL := 1) (ret := none) (by decide) rfl ?_
  intro p e s m args below meth c s₁ B hml hv
  obtain ⟨rfl, hsz, hP, hK, hD0, hN⟩ := hv
  have hx := B.exec
  have hb := B.bytes
  have hr := B.returns
  have hts := atoms_spec (ws := wp_i_X0) B.pre
  have hown : s.vm.findClass RX0 = some m.cls := findClass_of_methodNamed B.named
  have hlocks := B.notSynchronized
  have hin : meth.name = "<init>" := (name_of_methodNamed B.named B.method).1
  subst hsz
  have hD := hD0.self (sz := s.heap.size)
  generalize hAe : va_A [(h0, .inr (0, [.long 0, .int 0, .int 0, .int 0]))] s.heap.size = A at hD ⊢
  have hA : ∀ q : Nat, s.heap.size ≤ q → A q := fun q h => by rw [← hAe]; exact Or.inr h
  have hS : va_S A s.heap s.heap [] := va_S.rf
  have hP : va_P D vwCl [(h0, .inr (0, [.long 0, .int 0, .int 0, .int 0]))] s.heap := hP
  have hl := lv_entry ([.ref h0]) (n := 1) (Nat.le_of_ble_eq_true rfl)
  rw [lg_entry_eq]
  generalize (lg_sl ([.ref h0]) ++ List.replicate (1 - (lg_sl ([.ref h0])).length) Slot.unset).toArray = ls at hl ⊢
  have hl : lv_has ls 1 [(0, .ref h0)] := hl
  refine lv_aload_n hx hb dX0_init_0 rfl (lv_at hl 0 rfl) ?_
  refine W.objInit hx hb hown (hts (.methodLink RX0 3 objectInit) (List.mem_of_getElem? (i := 1) rfl)) (hts (.instanceMethod objectInit) (List.mem_of_getElem? (i := 2) rfl)) (hts (.code objectInit ⟨#[0xb1]⟩ 1 none) (List.mem_of_getElem? (i := 3) rfl)) rfl (by rw [hml]; exact hl.1) rfl dX0_init_1 (Nat.le_of_ble_eq_true rfl) (Nat.le_of_ble_eq_true rfl) ?_
  refine W.eq (g2 := F0 m 4 ls []) rfl ?_
  exact W.vret hx hb hr (fun t ht hW => ⟨⟨(), rfl, trivial, by rw [ht]; exact hP.sub [0] rfl, va_K.moved hW.alike (hK.sub [] rfl), hD.sub [0] (by decide) rfl⟩, hS.F ht⟩) hS.2.2 dX0_init_4

def own_i_X8 : List Cond := [.methodLink RX8 3 objectInit, .instanceMethod objectInit, .code objectInit ⟨#[0xb1]⟩ 1 none]
def wp_i_X8 : List Cond := .code yX8_init cX8_init 1 none :: (own_i_X8 ++ ([] : List Cond))
set_option maxRecDepth 20000 in
theorem inown_i_X8 : ∀ w ∈ own_i_X8, w ∈ lw_tbl := mem_places [301, 130, 131] (by decide +kernel)
set_option maxRecDepth 20000 in
theorem in_i_X8 : ∀ w ∈ wp_i_X8, w ∈ lw_tbl := List.forall_mem_cons.mpr ⟨List.mem_of_getElem? (i := 300) (by decide +kernel), List.forall_mem_append.mpr ⟨inown_i_X8, fun _ h => absurd h List.not_mem_nil⟩⟩
set_option maxRecDepth 20000 in
theorem good_i_X8 : wp_i_X8.all goodWord = true := by decide +kernel
set_option maxHeartbeats 4000000 in
set_option maxRecDepth 100000 in
theorem i_X8 (l : Launch) (D : va_G) (sz : Nat) (h0 : Nat)  : Met l yX8_init wp_i_X8 ({ frames := 1, cells := 0, slots := 0, locals := 12 }) (PcWC D [.ref h0] sz [(h0, .inr (8, [.null, .int 0, .int 0, .int 0, .int 0, .int 0, .int 0]))] []) (va_Qv (fun (_ : Unit) => True) (fun (u : Unit) t => va_P D vwCl [(h0, .inr (8, [.null, .int 0, .int 0, .int 0, .int 0, .int 0, .int 0]))] t.heap ∧ va_K D vwCl [] t ∧ va_D (va_A [(h0, .inr (8, [.null, .int 0, .int 0, .int 0, .int 0, .int 0, .int 0]))] sz) [(h0, .inr (8, [.null, .int 0, .int 0, .int 0, .int 0, .int 0, .int 0]))]) (va_A [(h0, .inr (8, [.null, .int 0, .int 0, .int 0, .int 0, .int 0, .int 0]))] sz)) 0 0 (va_A [(h0, .inr (8, [.null, .int 0, .int 0, .int 0, .int 0, .int 0, .int 0]))] sz) := by
  refine Met.ofW (cc := cX8_init) (maxL := 1) (ret := none) (by decide) rfl ?_
  intro p e s m args below meth c s₁ B hml hv
  obtain ⟨rfl, hsz, hP, hK, hD0, hN⟩ := hv
  have hx := B.exec
  have hb := B.bytes
  have hr := B.returns
  have hts := atoms_spec (ws := wp_i_X8) B.pre
  have hown : s.vm.findClass RX8 = some m.cls := findClass_of_methodNamed B.named
  have hlocks := B.notSynchronized
  have hin : meth.name = "<init>" := (name_of_methodNamed B.named B.method).1
  subst hsz
  have hD := hD0.self (sz := s.heap.size)
  generalize hAe : va_A [(h0, .inr (8, [.null, .int 0, .int 0, .int 0, .int 0, .int 0, .int 0]))] s.heap.size = A at hD ⊢
  have hA : ∀ q : Nat, s.heap.size ≤ q → A q := fun q h => by rw [← hAe]; exact Or.inr h
  have hS : va_S A s.heap s.heap [] := va_S.rf
  have hP : va_P D vwCl [(h0, .inr (8, [.null, .int 0, .int 0, .int 0, .int 0, .int 0, .int 0]))] s.heap := hP
  have hl := lv_entry ([.ref h0]) (n := 1) (Nat.le_of_ble_eq_true rfl)
  rw [lg_entry_eq]
  generalize (lg_sl ([.ref h0]) ++ List.replicate (1 - (lg_sl ([.ref h0])).length) Slot.unset).toArray = ls at hl ⊢
  have hl : lv_has ls 1 [(0, .ref h0)] := hl
  refine lv_aload_n hx hb dX8_init_0 rfl (lv_at hl 0 rfl) ?_
  refine W.objInit hx hb hown (hts (.methodLink RX8 3 objectInit) (List.mem_of_getElem? (i := 1) rfl)) (hts (.instanceMethod objectInit) (List.mem_of_getElem? (i := 2) rfl)) (hts (.code objectInit ⟨#[0xb1]⟩ 1 none) (List.mem_of_getElem? (i := 3) rfl)) rfl (by rw [hml]; exact hl.1) rfl dX8_init_1 (Nat.le_of_ble_eq_true rfl) (Nat.le_of_ble_eq_true rfl) ?_
  refine W.eq (g2 := F0 m 4 ls []) rfl ?_
  exact W.vret hx hb hr (fun t ht hW => ⟨⟨(), rfl, trivial, by rw [ht]; exact hP.sub [0] rfl, va_K.moved hW.alike (hK.sub [] rfl), hD.sub [0] (by decide) rfl⟩, hS.F ht⟩) hS.2.2 dX8_init_4

def own_i_X2 : List Cond := [.methodLink RX2 3 objectInit, .instanceMethod objectInit, .code objectInit ⟨#[0xb1]⟩ 1 none, .arrayClass .int, .fieldLink RX2 9 "ClashFree$Keys" "keys" "[I", .fieldLink RX2 15 "ClashFree$Keys" "values" "[I"]
def wp_i_X2 : List Cond := .code yX2_init cX2_init 1 none :: (own_i_X2 ++ (wsX20 ++ ([] : List Cond)))
set_option maxRecDepth 20000 in
theorem inown_i_X2 : ∀ w ∈ own_i_X2, w ∈ lw_tbl := mem_places [471, 130, 131, 171, 478, 480] (by decide +kernel)
set_option maxRecDepth 20000 in
theorem in_i_X2 : ∀ w ∈ wp_i_X2, w ∈ lw_tbl := List.forall_mem_cons.mpr ⟨List.mem_of_getElem? (i := 470) (by decide +kernel), List.forall_mem_append.mpr ⟨inown_i_X2, List.forall_mem_append.mpr ⟨lwb_X2, fun _ h => absurd h List.not_mem_nil⟩⟩⟩
set_option maxRecDepth 20000 in
theorem good_i_X2 : wp_i_X2.all goodWord = true := by decide +kernel
set_option maxHeartbeats 4000000 in
set_option maxRecDepth 100000 in
theorem i_X2 (l : Launch) (D : va_G) (sz : Nat) (h0 : Nat) (cI : ClassId)  : Met l yX2_init wp_i_X2 ({ frames := 1, cells := 2, slots := 320, locals := 12 }) (PcWC D [.ref h0] sz [(h0, .inr (2, [.int 0, .null, .null]))] [(cI, .int)]) (va_Qv (fun (u : Nat → Nat) => u 2 = h0) (fun (u : Nat → Nat) t => va_P D vwCl [(u 2, .inr (2, [.int 0, .ref (u 3), .ref (u 4)])), (u 3, .inl (cI, 160, .inl (fun _ => 0))), (u 4, .inl (cI, 160, .inl (fun _ => 0)))] t.heap ∧ va_K D vwCl [(cI, .int)] t ∧ va_D (va_A [(h0, .inr (2, [.int 0, .null, .null]))] sz) [(u 2, .inr (2, [.int 0, .ref (u 3), .ref (u 4)])), (u 3, .inl (cI, 160, .inl (fun _ => 0))), (u 4, .inl (cI, 160, .inl (fun _ => 0)))]) (va_A [(h0, .inr (2, [.int 0, .null, .null]))] sz)) 2 320 (va_A [(h0, .inr (2, [.int 0, .null, .null]))] sz) := by
  refine Met.ofW (cc := cX2_init) (maxL := 1) (ret := none) (by decide) rfl ?_
  intro p e s m args below meth c s₁ B hml hv
  obtain ⟨rfl, hsz, hP, hK, hD0, hN⟩ := hv
  have hx := B.exec
  have hb := B.bytes
  have hr := B.returns
  have hts := atoms_spec (ws := wp_i_X2) B.pre
  have hin_X2 : ∀ w ∈ wsX20, w ∈ wp_i_X2 := fun _ h => (List.mem_cons_of_mem _ (List.mem_append_right _ (List.mem_append_left _ h)))
  have hown : s.vm.findClass RX2 = some m.cls := findClass_of_methodNamed B.named
  have hlocks := B.notSynchronized
  have hin : meth.name = "<init>" := (name_of_methodNamed B.named B.method).1
  subst hsz
  have hD := hD0.self (sz := s.heap.size)
  generalize hAe : va_A [(h0, .inr (2, [.int 0, .null, .null]))] s.heap.size = A at hD ⊢
  have hA : ∀ q : Nat, s.heap.size ≤ q → A q := fun q h => by rw [← hAe]; exact Or.inr h
  have hS : va_S A s.heap s.heap [] := va_S.rf
  have hP : va_P D vwCl [(h0, .inr (2, [.int 0, .null, .null]))] s.heap := hP
  have hl := lv_entry ([.ref h0]) (n := 1) (Nat.le_of_ble_eq_true rfl)
  rw [lg_entry_eq]
  generalize (lg_sl ([.ref h0]) ++ List.replicate (1 - (lg_sl ([.ref h0])).length) Slot.unset).toArray = ls at hl ⊢
  have hl : lv_has ls 1 [(0, .ref h0)] := hl
  refine lv_aload_n hx hb dX2_init_0 rfl (lv_at hl 0 rfl) ?_
  refine W.objInit hx hb hown (hts (.methodLink RX2 3 objectInit) (List.mem_of_getElem? (i := 1) rfl)) (hts (.instanceMethod objectInit) (List.mem_of_getElem? (i := 2) rfl)) (hts (.code objectInit ⟨#[0xb1]⟩ 1 none) (List.mem_of_getElem? (i := 3) rfl)) rfl (by rw [hml]; exact hl.1) rfl dX2_init_1 (Nat.le_of_ble_eq_true rfl) (Nat.le_of_ble_eq_true rfl) ?_
  refine W.eq (g2 := F0 m 4 ls []) rfl ?_
  refine lv_aload_n hx hb dX2_init_4 rfl (lv_at hl 0 rfl) ?_
  refine lv_sipush (v := 160) hx hb dX2_init_5 (by decide) ?_
  refine va_newa (atype := .int) (ty := .int) (N' := 160) (a0 := (160, .inl (fun _ => 0))) hx hb (hts (.arrayClass .int) (List.mem_of_getElem? (i := 4) rfl)) rfl hK hP hD hS hA (fun _ => rfl) (by decide) (by decide) (Nat.le_of_ble_eq_true rfl) (Nat.le_of_ble_eq_true rfl) (Nat.le_of_ble_eq_true rfl) dX2_init_8 (fun q1 cq1 H hK hP hD hS => ?_)
  refine W.widen (k := 1) (n := 160) (Nat.le_of_ble_eq_true rfl) (Nat.le_of_ble_eq_true rfl) ?_
  have hK : va_K D vwCl [(cI, .int), (cq1, .int)] s := hK
  have hP : va_P D vwCl [(h0, .inr (2, [.int 0, .null, .null])), (q1, .inl (cq1, 160, .inl (fun _ => 0)))] H := hP
  have hD : va_D A [(h0, .inr (2, [.int 0, .null, .null])), (q1, .inl (cq1, 160, .inl (fun _ => 0)))] := hD
  obtain rfl : cI = cq1 := va_K1 hK (i := 0) (j := 1) rfl rfl
  have hK := hK.sub (tys' := [(cI, .int)]) [0] rfl
  have hP : va_P D vwCl [(h0, .inr (2, [.int 0, .null, .null])), (q1, .inl (cI, 160, .inl (fun _ => 0)))] H := hP
  have hD : va_D A [(h0, .inr (2, [.int 0, .null, .null])), (q1, .inl (cI, 160, .inl (fun _ => 0)))] := hD
  refine va_putF (D := D) (ci := 2) (v := .ref q1) (ty := (.array .int)) (C := RX2) (T := TX2) (N := 3) hx hb hts hin_X2 tyX2 tyX2_ok nmX2 hown hK hP hD hS 0 rfl rfl 1 (by decide) (hts (.fieldLink RX2 9 "ClashFree$Keys" "keys" "[I") (List.mem_of_getElem? (i := 5) rfl)) (fun _ h9 => h9) rfl hin rfl (by decide +kernel) rfl rfl (Nat.le_of_ble_eq_true rfl) dX2_init_10 (fun H locs hP hD hS => ?_)
  have hP : va_P D vwCl [(h0, .inr (2, [.int 0, .ref q1, .null])), (q1, .inl (cI, 160, .inl (fun _ => 0)))] H := hP
  have hD : va_D A [(h0, .inr (2, [.int 0, .ref q1, .null])), (q1, .inl (cI, 160, .inl (fun _ => 0)))] := hD
  refine lv_aload_n hx hb dX2_init_13 rfl (lv_at hl 0 rfl) ?_
  refine lv_sipush (v := 160) hx hb dX2_init_14 (by decide) ?_
  refine va_newa (atype := .int) (ty := .int) (N' := 160) (a0 := (160, .inl (fun _ => 0))) hx hb (hts (.arrayClass .int) (List.mem_of_getElem? (i := 4) rfl)) rfl hK hP hD hS hA (fun _ => rfl) (by decide) (by decide) (Nat.le_of_ble_eq_true rfl) (Nat.le_of_ble_eq_true rfl) (Nat.le_of_ble_eq_true rfl) dX2_init_17 (fun q2 cq2 H hK hP hD hS => ?_)
  refine W.widen (k := 2) (n := 320) (Nat.le_of_ble_eq_true rfl) (Nat.le_of_ble_eq_true rfl) ?_
  have hK : va_K D vwCl [(cI, .int), (cq2, .int)] s := hK
  have hP : va_P D vwCl [(h0, .inr (2, [.int 0, .ref q1, .null])), (q1, .inl (cI, 160, .inl (fun _ => 0))), (q2, .inl (cq2, 160, .inl (fun _ => 0)))] H := hP
  have hD : va_D A [(h0, .inr (2, [.int 0, .ref q1, .null])), (q1, .inl (cI, 160, .inl (fun _ => 0))), (q2, .inl (cq2, 160, .inl (fun _ => 0)))] := hD
  obtain rfl : cI = cq2 := va_K1 hK (i := 0) (j := 1) rfl rfl
  have hK := hK.sub (tys' := [(cI, .int)]) [0] rfl
  have hP : va_P D vwCl [(h0, .inr (2, [.int 0, .ref q1, .null])), (q1, .inl (cI, 160, .inl (fun _ => 0))), (q2, .inl (cI, 160, .inl (fun _ => 0)))] H := hP
  have hD : va_D A [(h0, .inr (2, [.int 0, .ref q1, .null])), (q1, .inl (cI, 160, .inl (fun _ => 0))), (q2, .inl (cI, 160, .inl (fun _ => 0)))] := hD
  refine va_putF (D := D) (ci := 2) (v := .ref q2) (ty := (.array .int)) (C := RX2) (T := TX2) (N := 3) hx hb hts hin_X2 tyX2 tyX2_ok nmX2 hown hK hP hD hS 0 rfl rfl 2 (by decide) (hts (.fieldLink RX2 15 "ClashFree$Keys" "values" "[I") (List.mem_of_getElem? (i := 6) rfl)) (fun _ h9 => h9) rfl hin rfl (by decide +kernel) rfl rfl (Nat.le_of_ble_eq_true rfl) dX2_init_19 (fun H locs hP hD hS => ?_)
  have hP : va_P D vwCl [(h0, .inr (2, [.int 0, .ref q1, .ref q2])), (q1, .inl (cI, 160, .inl (fun _ => 0))), (q2, .inl (cI, 160, .inl (fun _ => 0)))] H := hP
  have hD : va_D A [(h0, .inr (2, [.int 0, .ref q1, .ref q2])), (q1, .inl (cI, 160, .inl (fun _ => 0))), (q2, .inl (cI, 160, .inl (fun _ => 0)))] := hD
  exact W.vret hx hb hr (fun t ht hW => ⟨⟨(fun i => [0, 0, h0, q1, q2].getD i 0), rfl, rfl, by rw [ht]; exact hP.sub [0, 1, 2] rfl, va_K.moved hW.alike (hK.sub [0] rfl), hD.sub [0, 1, 2] (by decide) rfl⟩, hS.F ht⟩) hS.2.2 dX2_init_22

def own_i_X3 : List Cond := [.methodLink RX3 3 objectInit, .instanceMethod objectInit, .code objectInit ⟨#[0xb1]⟩ 1 none, .arrayClass .int, .fieldLink RX3 9 "ClashFree$Layout" "held" "[I", .fieldLink RX3 15 "ClashFree$Layout" "roof" "[I", .fieldLink RX3 18 "ClashFree$Layout" "pairA" "[I", .fieldLink RX3 21 "ClashFree$Layout" "pairB" "[I", .fieldLink RX3 24 "ClashFree$Layout" "next" "[I", .fieldLink RX3 27 "ClashFree$Layout" "home" "[I", .fieldLink RX3 30 "ClashFree$Layout" "lies" "[I", .fieldLink RX3 33 "ClashFree$Layout" "order" "[I"]
def wp_i_X3 : List Cond := .code yX3_init cX3_init 1 none :: (own_i_X3 ++ (wsX30 ++ ([] : List Cond)))
set_option maxRecDepth 20000 in
theorem inown_i_X3 : ∀ w ∈ own_i_X3, w ∈ lw_tbl := mem_places [177, 130, 131, 171, 191, 195, 198, 200, 208, 202, 203, 206] (by decide +kernel)
set_option maxRecDepth 20000 in
theorem in_i_X3 : ∀ w ∈ wp_i_X3, w ∈ lw_tbl := List.forall_mem_cons.mpr ⟨List.mem_of_getElem? (i := 176) (by decide +kernel), List.forall_mem_append.mpr ⟨inown_i_X3, List.forall_mem_append.mpr ⟨lwb_X3, fun _ h => absurd h List.not_mem_nil⟩⟩⟩
set_option maxRecDepth 20000 in
theorem good_i_X3 : wp_i_X3.all goodWord = true := by decide +kernel
set_option maxHeartbeats 4000000 in
set_option maxRecDepth 100000 in
theorem i_X3 (l : Launch) (D : va_G) (sz : Nat) (h0 : Nat) (cI : ClassId)  : Met l yX3_init wp_i_X3 ({ frames := 1, cells := 8, slots := 10720, locals := 12 }) (PcWC D [.ref h0] sz [(h0, .inr (3, [.int 0, .int 0, .int 0, .int 0, .int 0, .null, .null, .null, .null, .null, .null, .null, .null]))] [(cI, .int)]) (va_Qv (fun (u : Nat → Nat) => u 5 = h0) (fun (u : Nat → Nat) t => va_P D vwCl [(u 5, .inr (3, gY u 0 0 0 0 0)), (u 6, .inl (cI, 2048, .inl (fun _ => 0))), (u 7, .inl (cI, 2048, .inl (fun _ => 0))), (u 8, .inl (cI, 2048, .inl (fun _ => 0))), (u 9, .inl (cI, 2048, .inl (fun _ => 0))), (u 10, .inl (cI, 160, .inl (fun _ => 0))), (u 11, .inl (cI, 160, .inl (fun _ => 0))), (u 12, .inl (cI, 160, .inl (fun _ => 0))), (u 13, .inl (cI, 2048, .inl (fun _ => 0)))] t.heap ∧ va_K D vwCl [(cI, .int)] t ∧ va_D (va_A [(h0, .inr (3, [.int 0, .int 0, .int 0, .int 0, .int 0, .null, .null, .null, .null, .null, .null, .null, .null]))] sz) [(u 5, .inr (3, gY u 0 0 0 0 0)), (u 6, .inl (cI, 2048, .inl (fun _ => 0))), (u 7, .inl (cI, 2048, .inl (fun _ => 0))), (u 8, .inl (cI, 2048, .inl (fun _ => 0))), (u 9, .inl (cI, 2048, .inl (fun _ => 0))), (u 10, .inl (cI, 160, .inl (fun _ => 0))), (u 11, .inl (cI, 160, .inl (fun _ => 0))), (u 12, .inl (cI, 160, .inl (fun _ => 0))), (u 13, .inl (cI, 2048, .inl (fun _ => 0)))]) (va_A [(h0, .inr (3, [.int 0, .int 0, .int 0, .int 0, .int 0, .null, .null, .null, .null, .null, .null, .null, .null]))] sz)) 8 10720 (va_A [(h0, .inr (3, [.int 0, .int 0, .int 0, .int 0, .int 0, .null, .null, .null, .null, .null, .null, .null, .null]))] sz) := by
  refine Met.ofW (cc := cX3_init) (maxL := 1) (ret := none) (by decide) rfl ?_
  intro p e s m args below meth c s₁ B hml hv
  obtain ⟨rfl, hsz, hP, hK, hD0, hN⟩ := hv
  have hx := B.exec
  have hb := B.bytes
  have hr := B.returns
  have hts := atoms_spec (ws := wp_i_X3) B.pre
  have hin_X3 : ∀ w ∈ wsX30, w ∈ wp_i_X3 := fun _ h => (List.mem_cons_of_mem _ (List.mem_append_right _ (List.mem_append_left _ h)))
  have hown : s.vm.findClass RX3 = some m.cls := findClass_of_methodNamed B.named
  have hlocks := B.notSynchronized
  have hin : meth.name = "<init>" := (name_of_methodNamed B.named B.method).1
  subst hsz
  have hD := hD0.self (sz := s.heap.size)
  generalize hAe : va_A [(h0, .inr (3, [.int 0, .int 0, .int 0, .int 0, .int 0, .null, .null, .null, .null, .null, .null, .null, .null]))] s.heap.size = A at hD ⊢
  have hA : ∀ q : Nat, s.heap.size ≤ q → A q := fun q h => by rw [← hAe]; exact Or.inr h
  have hS : va_S A s.heap s.heap [] := va_S.rf
  have hP : va_P D vwCl [(h0, .inr (3, [.int 0, .int 0, .int 0, .int 0, .int 0, .null, .null, .null, .null, .null, .null, .null, .null]))] s.heap := hP
  have hl := lv_entry ([.ref h0]) (n := 1) (Nat.le_of_ble_eq_true rfl)
  rw [lg_entry_eq]
  generalize (lg_sl ([.ref h0]) ++ List.replicate (1 - (lg_sl ([.ref h0])).length) Slot.unset).toArray = ls at hl ⊢
  have hl : lv_has ls 1 [(0, .ref h0)] := hl
  refine lv_aload_n hx hb dX3_init_0 rfl (lv_at hl 0 rfl) ?_
  refine W.objInit hx hb hown (hts (.methodLink RX3 3 objectInit) (List.mem_of_getElem? (i := 1) rfl)) (hts (.instanceMethod objectInit) (List.mem_of_getElem? (i := 2) rfl)) (hts (.code objectInit ⟨#[0xb1]⟩ 1 none) (List.mem_of_getElem? (i := 3) rfl)) rfl (by rw [hml]; exact hl.1) rfl dX3_init_1 (Nat.le_of_ble_eq_true rfl) (Nat.le_of_ble_eq_true rfl) ?_
  refine W.eq (g2 := F0 m 4 ls []) rfl ?_
  refine lv_aload_n hx hb dX3_init_4 rfl (lv_at hl 0 rfl) ?_
  refine lv_sipush (v := 2048) hx hb dX3_init_5 (by decide) ?_
  refine va_newa (atype := .int) (ty := .int) (N' := 2048) (a0 := (2048, .inl (fun _ => 0))) hx hb (hts (.arrayClass .int) (List.mem_of_getElem? (i := 4) rfl)) rfl hK hP hD hS hA (fun _ => rfl) (by decide) (by decide) (Nat.le_of_ble_eq_true rfl) (Nat.le_of_ble_eq_true rfl) (Nat.le_of_ble_eq_true rfl) dX3_init_8 (fun q1 cq1 H hK hP hD hS => ?_)
  refine W.widen (k := 1) (n := 2048) (Nat.le_of_ble_eq_true rfl) (Nat.le_of_ble_eq_true rfl) ?_
  have hK : va_K D vwCl [(cI, .int), (cq1, .int)] s := hK
  have hP : va_P D vwCl [(h0, .inr (3, [.int 0, .int 0, .int 0, .int 0, .int 0, .null, .null, .null, .null, .null, .null, .null, .null])), (q1, .inl (cq1, 2048, .inl (fun _ => 0)))] H := hP
  have hD : va_D A [(h0, .inr (3, [.int 0, .int 0, .int 0, .int 0, .int 0, .null, .null, .null, .null, .null, .null, .null, .null])), (q1, .inl (cq1, 2048, .inl (fun _ => 0)))] := hD
  obtain rfl : cI = cq1 := va_K1 hK (i := 0) (j := 1) rfl rfl
  have hK := hK.sub (tys' := [(cI, .int)]) [0] rfl
  have hP : va_P D vwCl [(h0, .inr (3, [.int 0, .int 0, .int 0, .int 0, .int 0, .null, .null, .null, .null, .null, .null, .null, .null])), (q1, .inl (cI, 2048, .inl (fun _ => 0)))] H := hP
  have hD : va_D A [(h0, .inr (3, [.int 0, .int 0, .int 0, .int 0, .int 0, .null, .null, .null, .null, .null, .null, .null, .null])), (q1, .inl (cI, 2048, .inl (fun _ => 0)))] := hD
  refine va_putF (D := D) (ci := 3) (v := .ref q1) (ty := (.array .int)) (C := RX3) (T := TX3) (N := 13) hx hb hts hin_X3 tyX3 tyX3_ok nmX3 hown hK hP hD hS 0 rfl rfl 5 (by decide) (hts (.fieldLink RX3 9 "ClashFree$Layout" "held" "[I") (List.mem_of_getElem? (i := 5) rfl)) (fun _ h9 => h9) rfl hin rfl (by decide +kernel) rfl rfl (Nat.le_of_ble_eq_true rfl) dX3_init_10 (fun H locs hP hD hS => ?_)
  have hP : va_P D vwCl [(h0, .inr (3, [.int 0, .int 0, .int 0, .int 0, .int 0, .ref q1, .null, .null, .null, .null, .null, .null, .null])), (q1, .inl (cI, 2048, .inl (fun _ => 0)))] H := hP
  have hD : va_D A [(h0, .inr (3, [.int 0, .int 0, .int 0, .int 0, .int 0, .ref q1, .null, .null, .null, .null, .null, .null, .null])), (q1, .inl (cI, 2048, .inl (fun _ => 0)))] := hD
  refine lv_aload_n hx hb dX3_init_13 rfl (lv_at hl 0 rfl) ?_
  refine lv_sipush (v := 2048) hx hb dX3_init_14 (by decide) ?_
  refine va_newa (atype := .int) (ty := .int) (N' := 2048) (a0 := (2048, .inl (fun _ => 0))) hx hb (hts (.arrayClass .int) (List.mem_of_getElem? (i := 4) rfl)) rfl hK hP hD hS hA (fun _ => rfl) (by decide) (by decide) (Nat.le_of_ble_eq_true rfl) (Nat.le_of_ble_eq_true rfl) (Nat.le_of_ble_eq_true rfl) dX3_init_17 (fun q2 cq2 H hK hP hD hS => ?_)
  refine W.widen (k := 2) (n := 4096) (Nat.le_of_ble_eq_true rfl) (Nat.le_of_ble_eq_true rfl) ?_
  have hK : va_K D vwCl [(cI, .int), (cq2, .int)] s := hK
  have hP : va_P D vwCl [(h0, .inr (3, [.int 0, .int 0, .int 0, .int 0, .int 0, .ref q1, .null, .null, .null, .null, .null, .null, .null])), (q1, .inl (cI, 2048, .inl (fun _ => 0))), (q2, .inl (cq2, 2048, .inl (fun _ => 0)))] H := hP
  have hD : va_D A [(h0, .inr (3, [.int 0, .int 0, .int 0, .int 0, .int 0, .ref q1, .null, .null, .null, .null, .null, .null, .null])), (q1, .inl (cI, 2048, .inl (fun _ => 0))), (q2, .inl (cq2, 2048, .inl (fun _ => 0)))] := hD
  obtain rfl : cI = cq2 := va_K1 hK (i := 0) (j := 1) rfl rfl
  have hK := hK.sub (tys' := [(cI, .int)]) [0] rfl
  have hP : va_P D vwCl [(h0, .inr (3, [.int 0, .int 0, .int 0, .int 0, .int 0, .ref q1, .null, .null, .null, .null, .null, .null, .null])), (q1, .inl (cI, 2048, .inl (fun _ => 0))), (q2, .inl (cI, 2048, .inl (fun _ => 0)))] H := hP
  have hD : va_D A [(h0, .inr (3, [.int 0, .int 0, .int 0, .int 0, .int 0, .ref q1, .null, .null, .null, .null, .null, .null, .null])), (q1, .inl (cI, 2048, .inl (fun _ => 0))), (q2, .inl (cI, 2048, .inl (fun _ => 0)))] := hD
  refine va_putF (D := D) (ci := 3) (v := .ref q2) (ty := (.array .int)) (C := RX3) (T := TX3) (N := 13) hx hb hts hin_X3 tyX3 tyX3_ok nmX3 hown hK hP hD hS 0 rfl rfl 6 (by decide) (hts (.fieldLink RX3 15 "ClashFree$Layout" "roof" "[I") (List.mem_of_getElem? (i := 6) rfl)) (fun _ h9 => h9) rfl hin rfl (by decide +kernel) rfl rfl (Nat.le_of_ble_eq_true rfl) dX3_init_19 (fun H locs hP hD hS => ?_)
  have hP : va_P D vwCl [(h0, .inr (3, [.int 0, .int 0, .int 0, .int 0, .int 0, .ref q1, .ref q2, .null, .null, .null, .null, .null, .null])), (q1, .inl (cI, 2048, .inl (fun _ => 0))), (q2, .inl (cI, 2048, .inl (fun _ => 0)))] H := hP
  have hD : va_D A [(h0, .inr (3, [.int 0, .int 0, .int 0, .int 0, .int 0, .ref q1, .ref q2, .null, .null, .null, .null, .null, .null])), (q1, .inl (cI, 2048, .inl (fun _ => 0))), (q2, .inl (cI, 2048, .inl (fun _ => 0)))] := hD
  refine lv_aload_n hx hb dX3_init_22 rfl (lv_at hl 0 rfl) ?_
  refine lv_sipush (v := 2048) hx hb dX3_init_23 (by decide) ?_
  refine va_newa (atype := .int) (ty := .int) (N' := 2048) (a0 := (2048, .inl (fun _ => 0))) hx hb (hts (.arrayClass .int) (List.mem_of_getElem? (i := 4) rfl)) rfl hK hP hD hS hA (fun _ => rfl) (by decide) (by decide) (Nat.le_of_ble_eq_true rfl) (Nat.le_of_ble_eq_true rfl) (Nat.le_of_ble_eq_true rfl) dX3_init_26 (fun q3 cq3 H hK hP hD hS => ?_)
  refine W.widen (k := 3) (n := 6144) (Nat.le_of_ble_eq_true rfl) (Nat.le_of_ble_eq_true rfl) ?_
  have hK : va_K D vwCl [(cI, .int), (cq3, .int)] s := hK
  have hP : va_P D vwCl [(h0, .inr (3, [.int 0, .int 0, .int 0, .int 0, .int 0, .ref q1, .ref q2, .null, .null, .null, .null, .null, .null])), (q1, .inl (cI, 2048, .inl (fun _ => 0))), (q2, .inl (cI, 2048, .inl (fun _ => 0))), (q3, .inl (cq3, 2048, .inl (fun _ => 0)))] H := hP
  have hD : va_D A [(h0, .inr (3, [.int 0, .int 0, .int 0, .int 0, .int 0, .ref q1, .ref q2, .null, .null, .null, .null, .null, .null])), (q1, .inl (cI, 2048, .inl (fun _ => 0))), (q2, .inl (cI, 2048, .inl (fun _ => 0))), (q3, .inl (cq3, 2048, .inl (fun _ => 0)))] := hD
  obtain rfl : cI = cq3 := va_K1 hK (i := 0) (j := 1) rfl rfl
  have hK := hK.sub (tys' := [(cI, .int)]) [0] rfl
  have hP : va_P D vwCl [(h0, .inr (3, [.int 0, .int 0, .int 0, .int 0, .int 0, .ref q1, .ref q2, .null, .null, .null, .null, .null, .null])), (q1, .inl (cI, 2048, .inl (fun _ => 0))), (q2, .inl (cI, 2048, .inl (fun _ => 0))), (q3, .inl (cI, 2048, .inl (fun _ => 0)))] H := hP
  have hD : va_D A [(h0, .inr (3, [.int 0, .int 0, .int 0, .int 0, .int 0, .ref q1, .ref q2, .null, .null, .null, .null, .null, .null])), (q1, .inl (cI, 2048, .inl (fun _ => 0))), (q2, .inl (cI, 2048, .inl (fun _ => 0))), (q3, .inl (cI, 2048, .inl (fun _ => 0)))] := hD
  refine va_putF (D := D) (ci := 3) (v := .ref q3) (ty := (.array .int)) (C := RX3) (T := TX3) (N := 13) hx hb hts hin_X3 tyX3 tyX3_ok nmX3 hown hK hP hD hS 0 rfl rfl 7 (by decide) (hts (.fieldLink RX3 18 "ClashFree$Layout" "pairA" "[I") (List.mem_of_getElem? (i := 7) rfl)) (fun _ h9 => h9) rfl hin rfl (by decide +kernel) rfl rfl (Nat.le_of_ble_eq_true rfl) dX3_init_28 (fun H locs hP hD hS => ?_)
  have hP : va_P D vwCl [(h0, .inr (3, [.int 0, .int 0, .int 0, .int 0, .int 0, .ref q1, .ref q2, .ref q3, .null, .null, .null, .null, .null])), (q1, .inl (cI, 2048, .inl (fun _ => 0))), (q2, .inl (cI, 2048, .inl (fun _ => 0))), (q3, .inl (cI, 2048, .inl (fun _ => 0)))] H := hP
  have hD : va_D A [(h0, .inr (3, [.int 0, .int 0, .int 0, .int 0, .int 0, .ref q1, .ref q2, .ref q3, .null, .null, .null, .null, .null])), (q1, .inl (cI, 2048, .inl (fun _ => 0))), (q2, .inl (cI, 2048, .inl (fun _ => 0))), (q3, .inl (cI, 2048, .inl (fun _ => 0)))] := hD
  refine lv_aload_n hx hb dX3_init_31 rfl (lv_at hl 0 rfl) ?_
  refine lv_sipush (v := 2048) hx hb dX3_init_32 (by decide) ?_
  refine va_newa (atype := .int) (ty := .int) (N' := 2048) (a0 := (2048, .inl (fun _ => 0))) hx hb (hts (.arrayClass .int) (List.mem_of_getElem? (i := 4) rfl)) rfl hK hP hD hS hA (fun _ => rfl) (by decide) (by decide) (Nat.le_of_ble_eq_true rfl) (Nat.le_of_ble_eq_true rfl) (Nat.le_of_ble_eq_true rfl) dX3_init_35 (fun q4 cq4 H hK hP hD hS => ?_)
  refine W.widen (k := 4) (n := 8192) (Nat.le_of_ble_eq_true rfl) (Nat.le_of_ble_eq_true rfl) ?_
  have hK : va_K D vwCl [(cI, .int), (cq4, .int)] s := hK
  have hP : va_P D vwCl [(h0, .inr (3, [.int 0, .int 0, .int 0, .int 0, .int 0, .ref q1, .ref q2, .ref q3, .null, .null, .null, .null, .null])), (q1, .inl (cI, 2048, .inl (fun _ => 0))), (q2, .inl (cI, 2048, .inl (fun _ => 0))), (q3, .inl (cI, 2048, .inl (fun _ => 0))), (q4, .inl (cq4, 2048, .inl (fun _ => 0)))] H := hP
  have hD : va_D A [(h0, .inr (3, [.int 0, .int 0, .int 0, .int 0, .int 0, .ref q1, .ref q2, .ref q3, .null, .null, .null, .null, .null])), (q1, .inl (cI, 2048, .inl (fun _ => 0))), (q2, .inl (cI, 2048, .inl (fun _ => 0))), (q3, .inl (cI, 2048, .inl (fun _ => 0))), (q4, .inl (cq4, 2048, .inl (fun _ => 0)))] := hD
  obtain rfl : cI = cq4 := va_K1 hK (i := 0) (j := 1) rfl rfl
  have hK := hK.sub (tys' := [(cI, .int)]) [0] rfl
  have hP : va_P D vwCl [(h0, .inr (3, [.int 0, .int 0, .int 0, .int 0, .int 0, .ref q1, .ref q2, .ref q3, .null, .null, .null, .null, .null])), (q1, .inl (cI, 2048, .inl (fun _ => 0))), (q2, .inl (cI, 2048, .inl (fun _ => 0))), (q3, .inl (cI, 2048, .inl (fun _ => 0))), (q4, .inl (cI, 2048, .inl (fun _ => 0)))] H := hP
  have hD : va_D A [(h0, .inr (3, [.int 0, .int 0, .int 0, .int 0, .int 0, .ref q1, .ref q2, .ref q3, .null, .null, .null, .null, .null])), (q1, .inl (cI, 2048, .inl (fun _ => 0))), (q2, .inl (cI, 2048, .inl (fun _ => 0))), (q3, .inl (cI, 2048, .inl (fun _ => 0))), (q4, .inl (cI, 2048, .inl (fun _ => 0)))] := hD
  refine va_putF (D := D) (ci := 3) (v := .ref q4) (ty := (.array .int)) (C := RX3) (T := TX3) (N := 13) hx hb hts hin_X3 tyX3 tyX3_ok nmX3 hown hK hP hD hS 0 rfl rfl 8 (by decide) (hts (.fieldLink RX3 21 "ClashFree$Layout" "pairB" "[I") (List.mem_of_getElem? (i := 8) rfl)) (fun _ h9 => h9) rfl hin rfl (by decide +kernel) rfl rfl (Nat.le_of_ble_eq_true rfl) dX3_init_37 (fun H locs hP hD hS => ?_)
  have hP : va_P D vwCl [(h0, .inr (3, [.int 0, .int 0, .int 0, .int 0, .int 0, .ref q1, .ref q2, .ref q3, .ref q4, .null, .null, .null, .null])), (q1, .inl (cI, 2048, .inl (fun _ => 0))), (q2, .inl (cI, 2048, .inl (fun _ => 0))), (q3, .inl (cI, 2048, .inl (fun _ => 0))), (q4, .inl (cI, 2048, .inl (fun _ => 0)))] H := hP
  have hD : va_D A [(h0, .inr (3, [.int 0, .int 0, .int 0, .int 0, .int 0, .ref q1, .ref q2, .ref q3, .ref q4, .null, .null, .null, .null])), (q1, .inl (cI, 2048, .inl (fun _ => 0))), (q2, .inl (cI, 2048, .inl (fun _ => 0))), (q3, .inl (cI, 2048, .inl (fun _ => 0))), (q4, .inl (cI, 2048, .inl (fun _ => 0)))] := hD
  refine lv_aload_n hx hb dX3_init_40 rfl (lv_at hl 0 rfl) ?_
  refine lv_sipush (v := 2048) hx hb dX3_init_41 (by decide) ?_
  refine va_newa (atype := .int) (ty := .int) (N' := 2048) (a0 := (2048, .inl (fun _ => 0))) hx hb (hts (.arrayClass .int) (List.mem_of_getElem? (i := 4) rfl)) rfl hK hP hD hS hA (fun _ => rfl) (by decide) (by decide) (Nat.le_of_ble_eq_true rfl) (Nat.le_of_ble_eq_true rfl) (Nat.le_of_ble_eq_true rfl) dX3_init_44 (fun q5 cq5 H hK hP hD hS => ?_)
  refine W.widen (k := 5) (n := 10240) (Nat.le_of_ble_eq_true rfl) (Nat.le_of_ble_eq_true rfl) ?_
  have hK : va_K D vwCl [(cI, .int), (cq5, .int)] s := hK
  have hP : va_P D vwCl [(h0, .inr (3, [.int 0, .int 0, .int 0, .int 0, .int 0, .ref q1, .ref q2, .ref q3, .ref q4, .null, .null, .null, .null])), (q1, .inl (cI, 2048, .inl (fun _ => 0))), (q2, .inl (cI, 2048, .inl (fun _ => 0))), (q3, .inl (cI, 2048, .inl (fun _ => 0))), (q4, .inl (cI, 2048, .inl (fun _ => 0))), (q5, .inl (cq5, 2048, .inl (fun _ => 0)))] H := hP
  have hD : va_D A [(h0, .inr (3, [.int 0, .int 0, .int 0, .int 0, .int 0, .ref q1, .ref q2, .ref q3, .ref q4, .null, .null, .null, .null])), (q1, .inl (cI, 2048, .inl (fun _ => 0))), (q2, .inl (cI, 2048, .inl (fun _ => 0))), (q3, .inl (cI, 2048, .inl (fun _ => 0))), (q4, .inl (cI, 2048, .inl (fun _ => 0))), (q5, .inl (cq5, 2048, .inl (fun _ => 0)))] := hD
  obtain rfl : cI = cq5 := va_K1 hK (i := 0) (j := 1) rfl rfl
  have hK := hK.sub (tys' := [(cI, .int)]) [0] rfl
  have hP : va_P D vwCl [(h0, .inr (3, [.int 0, .int 0, .int 0, .int 0, .int 0, .ref q1, .ref q2, .ref q3, .ref q4, .null, .null, .null, .null])), (q1, .inl (cI, 2048, .inl (fun _ => 0))), (q2, .inl (cI, 2048, .inl (fun _ => 0))), (q3, .inl (cI, 2048, .inl (fun _ => 0))), (q4, .inl (cI, 2048, .inl (fun _ => 0))), (q5, .inl (cI, 2048, .inl (fun _ => 0)))] H := hP
  have hD : va_D A [(h0, .inr (3, [.int 0, .int 0, .int 0, .int 0, .int 0, .ref q1, .ref q2, .ref q3, .ref q4, .null, .null, .null, .null])), (q1, .inl (cI, 2048, .inl (fun _ => 0))), (q2, .inl (cI, 2048, .inl (fun _ => 0))), (q3, .inl (cI, 2048, .inl (fun _ => 0))), (q4, .inl (cI, 2048, .inl (fun _ => 0))), (q5, .inl (cI, 2048, .inl (fun _ => 0)))] := hD
  refine va_putF (D := D) (ci := 3) (v := .ref q5) (ty := (.array .int)) (C := RX3) (T := TX3) (N := 13) hx hb hts hin_X3 tyX3 tyX3_ok nmX3 hown hK hP hD hS 0 rfl rfl 12 (by decide) (hts (.fieldLink RX3 24 "ClashFree$Layout" "next" "[I") (List.mem_of_getElem? (i := 9) rfl)) (fun _ h9 => h9) rfl hin rfl (by decide +kernel) rfl rfl (Nat.le_of_ble_eq_true rfl) dX3_init_46 (fun H locs hP hD hS => ?_)
  have hP : va_P D vwCl [(h0, .inr (3, [.int 0, .int 0, .int 0, .int 0, .int 0, .ref q1, .ref q2, .ref q3, .ref q4, .null, .null, .null, .ref q5])), (q1, .inl (cI, 2048, .inl (fun _ => 0))), (q2, .inl (cI, 2048, .inl (fun _ => 0))), (q3, .inl (cI, 2048, .inl (fun _ => 0))), (q4, .inl (cI, 2048, .inl (fun _ => 0))), (q5, .inl (cI, 2048, .inl (fun _ => 0)))] H := hP
  have hD : va_D A [(h0, .inr (3, [.int 0, .int 0, .int 0, .int 0, .int 0, .ref q1, .ref q2, .ref q3, .ref q4, .null, .null, .null, .ref q5])), (q1, .inl (cI, 2048, .inl (fun _ => 0))), (q2, .inl (cI, 2048, .inl (fun _ => 0))), (q3, .inl (cI, 2048, .inl (fun _ => 0))), (q4, .inl (cI, 2048, .inl (fun _ => 0))), (q5, .inl (cI, 2048, .inl (fun _ => 0)))] := hD
  refine lv_aload_n hx hb dX3_init_49 rfl (lv_at hl 0 rfl) ?_
  refine lv_sipush (v := 160) hx hb dX3_init_50 (by decide) ?_
  refine va_newa (atype := .int) (ty := .int) (N' := 160) (a0 := (160, .inl (fun _ => 0))) hx hb (hts (.arrayClass .int) (List.mem_of_getElem? (i := 4) rfl)) rfl hK hP hD hS hA (fun _ => rfl) (by decide) (by decide) (Nat.le_of_ble_eq_true rfl) (Nat.le_of_ble_eq_true rfl) (Nat.le_of_ble_eq_true rfl) dX3_init_53 (fun q6 cq6 H hK hP hD hS => ?_)
  refine W.widen (k := 6) (n := 10400) (Nat.le_of_ble_eq_true rfl) (Nat.le_of_ble_eq_true rfl) ?_
  have hK : va_K D vwCl [(cI, .int), (cq6, .int)] s := hK
  have hP : va_P D vwCl [(h0, .inr (3, [.int 0, .int 0, .int 0, .int 0, .int 0, .ref q1, .ref q2, .ref q3, .ref q4, .null, .null, .null, .ref q5])), (q1, .inl (cI, 2048, .inl (fun _ => 0))), (q2, .inl (cI, 2048, .inl (fun _ => 0))), (q3, .inl (cI, 2048, .inl (fun _ => 0))), (q4, .inl (cI, 2048, .inl (fun _ => 0))), (q5, .inl (cI, 2048, .inl (fun _ => 0))), (q6, .inl (cq6, 160, .inl (fun _ => 0)))] H := hP
  have hD : va_D A [(h0, .inr (3, [.int 0, .int 0, .int 0, .int 0, .int 0, .ref q1, .ref q2, .ref q3, .ref q4, .null, .null, .null, .ref q5])), (q1, .inl (cI, 2048, .inl (fun _ => 0))), (q2, .inl (cI, 2048, .inl (fun _ => 0))), (q3, .inl (cI, 2048, .inl (fun _ => 0))), (q4, .inl (cI, 2048, .inl (fun _ => 0))), (q5, .inl (cI, 2048, .inl (fun _ => 0))), (q6, .inl (cq6, 160, .inl (fun _ => 0)))] := hD
  obtain rfl : cI = cq6 := va_K1 hK (i := 0) (j := 1) rfl rfl
  have hK := hK.sub (tys' := [(cI, .int)]) [0] rfl
  have hP : va_P D vwCl [(h0, .inr (3, [.int 0, .int 0, .int 0, .int 0, .int 0, .ref q1, .ref q2, .ref q3, .ref q4, .null, .null, .null, .ref q5])), (q1, .inl (cI, 2048, .inl (fun _ => 0))), (q2, .inl (cI, 2048, .inl (fun _ => 0))), (q3, .inl (cI, 2048, .inl (fun _ => 0))), (q4, .inl (cI, 2048, .inl (fun _ => 0))), (q5, .inl (cI, 2048, .inl (fun _ => 0))), (q6, .inl (cI, 160, .inl (fun _ => 0)))] H := hP
  have hD : va_D A [(h0, .inr (3, [.int 0, .int 0, .int 0, .int 0, .int 0, .ref q1, .ref q2, .ref q3, .ref q4, .null, .null, .null, .ref q5])), (q1, .inl (cI, 2048, .inl (fun _ => 0))), (q2, .inl (cI, 2048, .inl (fun _ => 0))), (q3, .inl (cI, 2048, .inl (fun _ => 0))), (q4, .inl (cI, 2048, .inl (fun _ => 0))), (q5, .inl (cI, 2048, .inl (fun _ => 0))), (q6, .inl (cI, 160, .inl (fun _ => 0)))] := hD
  refine va_putF (D := D) (ci := 3) (v := .ref q6) (ty := (.array .int)) (C := RX3) (T := TX3) (N := 13) hx hb hts hin_X3 tyX3 tyX3_ok nmX3 hown hK hP hD hS 0 rfl rfl 9 (by decide) (hts (.fieldLink RX3 27 "ClashFree$Layout" "home" "[I") (List.mem_of_getElem? (i := 10) rfl)) (fun _ h9 => h9) rfl hin rfl (by decide +kernel) rfl rfl (Nat.le_of_ble_eq_true rfl) dX3_init_55 (fun H locs hP hD hS => ?_)
  have hP : va_P D vwCl [(h0, .inr (3, [.int 0, .int 0, .int 0, .int 0, .int 0, .ref q1, .ref q2, .ref q3, .ref q4, .ref q6, .null, .null, .ref q5])), (q1, .inl (cI, 2048, .inl (fun _ => 0))), (q2, .inl (cI, 2048, .inl (fun _ => 0))), (q3, .inl (cI, 2048, .inl (fun _ => 0))), (q4, .inl (cI, 2048, .inl (fun _ => 0))), (q5, .inl (cI, 2048, .inl (fun _ => 0))), (q6, .inl (cI, 160, .inl (fun _ => 0)))] H := hP
  have hD : va_D A [(h0, .inr (3, [.int 0, .int 0, .int 0, .int 0, .int 0, .ref q1, .ref q2, .ref q3, .ref q4, .ref q6, .null, .null, .ref q5])), (q1, .inl (cI, 2048, .inl (fun _ => 0))), (q2, .inl (cI, 2048, .inl (fun _ => 0))), (q3, .inl (cI, 2048, .inl (fun _ => 0))), (q4, .inl (cI, 2048, .inl (fun _ => 0))), (q5, .inl (cI, 2048, .inl (fun _ => 0))), (q6, .inl (cI, 160, .inl (fun _ => 0)))] := hD
  refine lv_aload_n hx hb dX3_init_58 rfl (lv_at hl 0 rfl) ?_
  refine lv_sipush (v := 160) hx hb dX3_init_59 (by decide) ?_
  refine va_newa (atype := .int) (ty := .int) (N' := 160) (a0 := (160, .inl (fun _ => 0))) hx hb (hts (.arrayClass .int) (List.mem_of_getElem? (i := 4) rfl)) rfl hK hP hD hS hA (fun _ => rfl) (by decide) (by decide) (Nat.le_of_ble_eq_true rfl) (Nat.le_of_ble_eq_true rfl) (Nat.le_of_ble_eq_true rfl) dX3_init_62 (fun q7 cq7 H hK hP hD hS => ?_)
  refine W.widen (k := 7) (n := 10560) (Nat.le_of_ble_eq_true rfl) (Nat.le_of_ble_eq_true rfl) ?_
  have hK : va_K D vwCl [(cI, .int), (cq7, .int)] s := hK
  have hP : va_P D vwCl [(h0, .inr (3, [.int 0, .int 0, .int 0, .int 0, .int 0, .ref q1, .ref q2, .ref q3, .ref q4, .ref q6, .null, .null, .ref q5])), (q1, .inl (cI, 2048, .inl (fun _ => 0))), (q2, .inl (cI, 2048, .inl (fun _ => 0))), (q3, .inl (cI, 2048, .inl (fun _ => 0))), (q4, .inl (cI, 2048, .inl (fun _ => 0))), (q5, .inl (cI, 2048, .inl (fun _ => 0))), (q6, .inl (cI, 160, .inl (fun _ => 0))), (q7, .inl (cq7, 160, .inl (fun _ => 0)))] H := hP
  have hD : va_D A [(h0, .inr (3, [.int 0, .int 0, .int 0, .int 0, .int 0, .ref q1, .ref q2, .ref q3, .ref q4, .ref q6, .null, .null, .ref q5])), (q1, .inl (cI, 2048, .inl (fun _ => 0))), (q2, .inl (cI, 2048, .inl (fun _ => 0))), (q3, .inl (cI, 2048, .inl (fun _ => 0))), (q4, .inl (cI, 2048, .inl (fun _ => 0))), (q5, .inl (cI, 2048, .inl (fun _ => 0))), (q6, .inl (cI, 160, .inl (fun _ => 0))), (q7, .inl (cq7, 160, .inl (fun _ => 0)))] := hD
  obtain rfl : cI = cq7 := va_K1 hK (i := 0) (j := 1) rfl rfl
  have hK := hK.sub (tys' := [(cI, .int)]) [0] rfl
  have hP : va_P D vwCl [(h0, .inr (3, [.int 0, .int 0, .int 0, .int 0, .int 0, .ref q1, .ref q2, .ref q3, .ref q4, .ref q6, .null, .null, .ref q5])), (q1, .inl (cI, 2048, .inl (fun _ => 0))), (q2, .inl (cI, 2048, .inl (fun _ => 0))), (q3, .inl (cI, 2048, .inl (fun _ => 0))), (q4, .inl (cI, 2048, .inl (fun _ => 0))), (q5, .inl (cI, 2048, .inl (fun _ => 0))), (q6, .inl (cI, 160, .inl (fun _ => 0))), (q7, .inl (cI, 160, .inl (fun _ => 0)))] H := hP
  have hD : va_D A [(h0, .inr (3, [.int 0, .int 0, .int 0, .int 0, .int 0, .ref q1, .ref q2, .ref q3, .ref q4, .ref q6, .null, .null, .ref q5])), (q1, .inl (cI, 2048, .inl (fun _ => 0))), (q2, .inl (cI, 2048, .inl (fun _ => 0))), (q3, .inl (cI, 2048, .inl (fun _ => 0))), (q4, .inl (cI, 2048, .inl (fun _ => 0))), (q5, .inl (cI, 2048, .inl (fun _ => 0))), (q6, .inl (cI, 160, .inl (fun _ => 0))), (q7, .inl (cI, 160, .inl (fun _ => 0)))] := hD
  refine va_putF (D := D) (ci := 3) (v := .ref q7) (ty := (.array .int)) (C := RX3) (T := TX3) (N := 13) hx hb hts hin_X3 tyX3 tyX3_ok nmX3 hown hK hP hD hS 0 rfl rfl 10 (by decide) (hts (.fieldLink RX3 30 "ClashFree$Layout" "lies" "[I") (List.mem_of_getElem? (i := 11) rfl)) (fun _ h9 => h9) rfl hin rfl (by decide +kernel) rfl rfl (Nat.le_of_ble_eq_true rfl) dX3_init_64 (fun H locs hP hD hS => ?_)
  have hP : va_P D vwCl [(h0, .inr (3, [.int 0, .int 0, .int 0, .int 0, .int 0, .ref q1, .ref q2, .ref q3, .ref q4, .ref q6, .ref q7, .null, .ref q5])), (q1, .inl (cI, 2048, .inl (fun _ => 0))), (q2, .inl (cI, 2048, .inl (fun _ => 0))), (q3, .inl (cI, 2048, .inl (fun _ => 0))), (q4, .inl (cI, 2048, .inl (fun _ => 0))), (q5, .inl (cI, 2048, .inl (fun _ => 0))), (q6, .inl (cI, 160, .inl (fun _ => 0))), (q7, .inl (cI, 160, .inl (fun _ => 0)))] H := hP
  have hD : va_D A [(h0, .inr (3, [.int 0, .int 0, .int 0, .int 0, .int 0, .ref q1, .ref q2, .ref q3, .ref q4, .ref q6, .ref q7, .null, .ref q5])), (q1, .inl (cI, 2048, .inl (fun _ => 0))), (q2, .inl (cI, 2048, .inl (fun _ => 0))), (q3, .inl (cI, 2048, .inl (fun _ => 0))), (q4, .inl (cI, 2048, .inl (fun _ => 0))), (q5, .inl (cI, 2048, .inl (fun _ => 0))), (q6, .inl (cI, 160, .inl (fun _ => 0))), (q7, .inl (cI, 160, .inl (fun _ => 0)))] := hD
  refine lv_aload_n hx hb dX3_init_67 rfl (lv_at hl 0 rfl) ?_
  refine lv_sipush (v := 160) hx hb dX3_init_68 (by decide) ?_
  refine va_newa (atype := .int) (ty := .int) (N' := 160) (a0 := (160, .inl (fun _ => 0))) hx hb (hts (.arrayClass .int) (List.mem_of_getElem? (i := 4) rfl)) rfl hK hP hD hS hA (fun _ => rfl) (by decide) (by decide) (Nat.le_of_ble_eq_true rfl) (Nat.le_of_ble_eq_true rfl) (Nat.le_of_ble_eq_true rfl) dX3_init_71 (fun q8 cq8 H hK hP hD hS => ?_)
  refine W.widen (k := 8) (n := 10720) (Nat.le_of_ble_eq_true rfl) (Nat.le_of_ble_eq_true rfl) ?_
  have hK : va_K D vwCl [(cI, .int), (cq8, .int)] s := hK
  have hP : va_P D vwCl [(h0, .inr (3, [.int 0, .int 0, .int 0, .int 0, .int 0, .ref q1, .ref q2, .ref q3, .ref q4, .ref q6, .ref q7, .null, .ref q5])), (q1, .inl (cI, 2048, .inl (fun _ => 0))), (q2, .inl (cI, 2048, .inl (fun _ => 0))), (q3, .inl (cI, 2048, .inl (fun _ => 0))), (q4, .inl (cI, 2048, .inl (fun _ => 0))), (q5, .inl (cI, 2048, .inl (fun _ => 0))), (q6, .inl (cI, 160, .inl (fun _ => 0))), (q7, .inl (cI, 160, .inl (fun _ => 0))), (q8, .inl (cq8, 160, .inl (fun _ => 0)))] H := hP
  have hD : va_D A [(h0, .inr (3, [.int 0, .int 0, .int 0, .int 0, .int 0, .ref q1, .ref q2, .ref q3, .ref q4, .ref q6, .ref q7, .null, .ref q5])), (q1, .inl (cI, 2048, .inl (fun _ => 0))), (q2, .inl (cI, 2048, .inl (fun _ => 0))), (q3, .inl (cI, 2048, .inl (fun _ => 0))), (q4, .inl (cI, 2048, .inl (fun _ => 0))), (q5, .inl (cI, 2048, .inl (fun _ => 0))), (q6, .inl (cI, 160, .inl (fun _ => 0))), (q7, .inl (cI, 160, .inl (fun _ => 0))), (q8, .inl (cq8, 160, .inl (fun _ => 0)))] := hD
  obtain rfl : cI = cq8 := va_K1 hK (i := 0) (j := 1) rfl rfl
  have hK := hK.sub (tys' := [(cI, .int)]) [0] rfl
  have hP : va_P D vwCl [(h0, .inr (3, [.int 0, .int 0, .int 0, .int 0, .int 0, .ref q1, .ref q2, .ref q3, .ref q4, .ref q6, .ref q7, .null, .ref q5])), (q1, .inl (cI, 2048, .inl (fun _ => 0))), (q2, .inl (cI, 2048, .inl (fun _ => 0))), (q3, .inl (cI, 2048, .inl (fun _ => 0))), (q4, .inl (cI, 2048, .inl (fun _ => 0))), (q5, .inl (cI, 2048, .inl (fun _ => 0))), (q6, .inl (cI, 160, .inl (fun _ => 0))), (q7, .inl (cI, 160, .inl (fun _ => 0))), (q8, .inl (cI, 160, .inl (fun _ => 0)))] H := hP
  have hD : va_D A [(h0, .inr (3, [.int 0, .int 0, .int 0, .int 0, .int 0, .ref q1, .ref q2, .ref q3, .ref q4, .ref q6, .ref q7, .null, .ref q5])), (q1, .inl (cI, 2048, .inl (fun _ => 0))), (q2, .inl (cI, 2048, .inl (fun _ => 0))), (q3, .inl (cI, 2048, .inl (fun _ => 0))), (q4, .inl (cI, 2048, .inl (fun _ => 0))), (q5, .inl (cI, 2048, .inl (fun _ => 0))), (q6, .inl (cI, 160, .inl (fun _ => 0))), (q7, .inl (cI, 160, .inl (fun _ => 0))), (q8, .inl (cI, 160, .inl (fun _ => 0)))] := hD
  refine va_putF (D := D) (ci := 3) (v := .ref q8) (ty := (.array .int)) (C := RX3) (T := TX3) (N := 13) hx hb hts hin_X3 tyX3 tyX3_ok nmX3 hown hK hP hD hS 0 rfl rfl 11 (by decide) (hts (.fieldLink RX3 33 "ClashFree$Layout" "order" "[I") (List.mem_of_getElem? (i := 12) rfl)) (fun _ h9 => h9) rfl hin rfl (by decide +kernel) rfl rfl (Nat.le_of_ble_eq_true rfl) dX3_init_73 (fun H locs hP hD hS => ?_)
  have hP : va_P D vwCl [(h0, .inr (3, [.int 0, .int 0, .int 0, .int 0, .int 0, .ref q1, .ref q2, .ref q3, .ref q4, .ref q6, .ref q7, .ref q8, .ref q5])), (q1, .inl (cI, 2048, .inl (fun _ => 0))), (q2, .inl (cI, 2048, .inl (fun _ => 0))), (q3, .inl (cI, 2048, .inl (fun _ => 0))), (q4, .inl (cI, 2048, .inl (fun _ => 0))), (q5, .inl (cI, 2048, .inl (fun _ => 0))), (q6, .inl (cI, 160, .inl (fun _ => 0))), (q7, .inl (cI, 160, .inl (fun _ => 0))), (q8, .inl (cI, 160, .inl (fun _ => 0)))] H := hP
  have hD : va_D A [(h0, .inr (3, [.int 0, .int 0, .int 0, .int 0, .int 0, .ref q1, .ref q2, .ref q3, .ref q4, .ref q6, .ref q7, .ref q8, .ref q5])), (q1, .inl (cI, 2048, .inl (fun _ => 0))), (q2, .inl (cI, 2048, .inl (fun _ => 0))), (q3, .inl (cI, 2048, .inl (fun _ => 0))), (q4, .inl (cI, 2048, .inl (fun _ => 0))), (q5, .inl (cI, 2048, .inl (fun _ => 0))), (q6, .inl (cI, 160, .inl (fun _ => 0))), (q7, .inl (cI, 160, .inl (fun _ => 0))), (q8, .inl (cI, 160, .inl (fun _ => 0)))] := hD
  exact W.vret hx hb hr (fun t ht hW => ⟨⟨(fun i => [0, 0, 0, 0, 0, h0, q1, q2, q3, q4, q6, q7, q8, q5].getD i 0), rfl, rfl, by rw [ht]; exact hP.sub [0, 1, 2, 3, 4, 6, 7, 8, 5] rfl, va_K.moved hW.alike (hK.sub [0] rfl), hD.sub [0, 1, 2, 3, 4, 6, 7, 8, 5] (by decide) rfl⟩, hS.F ht⟩) hS.2.2 dX3_init_76

def own_i_X1 : List Cond := [.methodLink RX1 3 objectInit, .instanceMethod objectInit, .code objectInit ⟨#[0xb1]⟩ 1 none, .arrayClass .int, .fieldLink RX1 9 "ClashFree$Image" "bytes" "[I"]
def wp_i_X1 : List Cond := .code yX1_init cX1_init 1 none :: (own_i_X1 ++ (wsX10 ++ ([] : List Cond)))
set_option maxRecDepth 20000 in
theorem inown_i_X1 : ∀ w ∈ own_i_X1, w ∈ lw_tbl := mem_places [256, 130, 131, 171, 259] (by decide +kernel)
set_option maxRecDepth 20000 in
theorem in_i_X1 : ∀ w ∈ wp_i_X1, w ∈ lw_tbl := List.forall_mem_cons.mpr ⟨List.mem_of_getElem? (i := 255) (by decide +kernel), List.forall_mem_append.mpr ⟨inown_i_X1, List.forall_mem_append.mpr ⟨lwb_X1, fun _ h => absurd h List.not_mem_nil⟩⟩⟩
set_option maxRecDepth 20000 in
theorem good_i_X1 : wp_i_X1.all goodWord = true := by decide +kernel
set_option maxHeartbeats 4000000 in
set_option maxRecDepth 100000 in
theorem i_X1 (l : Launch) (D : va_G) (sz : Nat) (h0 : Nat) (cI : ClassId)  : Met l yX1_init wp_i_X1 ({ frames := 1, cells := 1, slots := 1294, locals := 12 }) (PcWC D [.ref h0] sz [(h0, .inr (1, [.int 0, .null]))] [(cI, .int)]) (va_Qv (fun (u : Nat → Nat) => u 0 = h0) (fun (u : Nat → Nat) t => va_P D vwCl [(u 0, .inr (1, [.int 0, .ref (u 1)])), (u 1, .inl (cI, 1294, .inl (fun _ => 0)))] t.heap ∧ va_K D vwCl [(cI, .int)] t ∧ va_D (va_A [(h0, .inr (1, [.int 0, .null]))] sz) [(u 0, .inr (1, [.int 0, .ref (u 1)])), (u 1, .inl (cI, 1294, .inl (fun _ => 0)))]) (va_A [(h0, .inr (1, [.int 0, .null]))] sz)) 1 1294 (va_A [(h0, .inr (1, [.int 0, .null]))] sz) := by
  refine Met.ofW (cc := cX1_init) (maxL := 1) (ret := none) (by decide) rfl ?_
  intro p e s m args below meth c s₁ B hml hv
  obtain ⟨rfl, hsz, hP, hK, hD0, hN⟩ := hv
  have hx := B.exec
  have hb := B.bytes
  have hr := B.returns
  have hts := atoms_spec (ws := wp_i_X1) B.pre
  have hin_X1 : ∀ w ∈ wsX10, w ∈ wp_i_X1 := fun _ h => (List.mem_cons_of_mem _ (List.mem_append_right _ (List.mem_append_left _ h)))
  have hown : s.vm.findClass RX1 = some m.cls := findClass_of_methodNamed B.named
  have hlocks := B.notSynchronized
  have hin : meth.name = "<init>" := (name_of_methodNamed B.named B.method).1
  subst hsz
  have hD := hD0.self (sz := s.heap.size)
  generalize hAe : va_A [(h0, .inr (1, [.int 0, .null]))] s.heap.size = A at hD ⊢
  have hA : ∀ q : Nat, s.heap.size ≤ q → A q := fun q h => by rw [← hAe]; exact Or.inr h
  have hS : va_S A s.heap s.heap [] := va_S.rf
  have hP : va_P D vwCl [(h0, .inr (1, [.int 0, .null]))] s.heap := hP
  have hl := lv_entry ([.ref h0]) (n := 1) (Nat.le_of_ble_eq_true rfl)
  rw [lg_entry_eq]
  generalize (lg_sl ([.ref h0]) ++ List.replicate (1 - (lg_sl ([.ref h0])).length) Slot.unset).toArray = ls at hl ⊢
  have hl : lv_has ls 1 [(0, .ref h0)] := hl
  refine lv_aload_n hx hb dX1_init_0 rfl (lv_at hl 0 rfl) ?_
  refine W.objInit hx hb hown (hts (.methodLink RX1 3 objectInit) (List.mem_of_getElem? (i := 1) rfl)) (hts (.instanceMethod objectInit) (List.mem_of_getElem? (i := 2) rfl)) (hts (.code objectInit ⟨#[0xb1]⟩ 1 none) (List.mem_of_getElem? (i := 3) rfl)) rfl (by rw [hml]; exact hl.1) rfl dX1_init_1 (Nat.le_of_ble_eq_true rfl) (Nat.le_of_ble_eq_true rfl) ?_
  refine W.eq (g2 := F0 m 4 ls []) rfl ?_
  refine lv_aload_n hx hb dX1_init_4 rfl (lv_at hl 0 rfl) ?_
  refine lv_sipush (v := 1294) hx hb dX1_init_5 (by decide) ?_
  refine va_newa (atype := .int) (ty := .int) (N' := 1294) (a0 := (1294, .inl (fun _ => 0))) hx hb (hts (.arrayClass .int) (List.mem_of_getElem? (i := 4) rfl)) rfl hK hP hD hS hA (fun _ => rfl) (by decide) (by decide) (Nat.le_of_ble_eq_true rfl) (Nat.le_of_ble_eq_true rfl) (Nat.le_of_ble_eq_true rfl) dX1_init_8 (fun q1 cq1 H hK hP hD hS => ?_)
  refine W.widen (k := 1) (n := 1294) (Nat.le_of_ble_eq_true rfl) (Nat.le_of_ble_eq_true rfl) ?_
  have hK : va_K D vwCl [(cI, .int), (cq1, .int)] s := hK
  have hP : va_P D vwCl [(h0, .inr (1, [.int 0, .null])), (q1, .inl (cq1, 1294, .inl (fun _ => 0)))] H := hP
  have hD : va_D A [(h0, .inr (1, [.int 0, .null])), (q1, .inl (cq1, 1294, .inl (fun _ => 0)))] := hD
  obtain rfl : cI = cq1 := va_K1 hK (i := 0) (j := 1) rfl rfl
  have hK := hK.sub (tys' := [(cI, .int)]) [0] rfl
  have hP : va_P D vwCl [(h0, .inr (1, [.int 0, .null])), (q1, .inl (cI, 1294, .inl (fun _ => 0)))] H := hP
  have hD : va_D A [(h0, .inr (1, [.int 0, .null])), (q1, .inl (cI, 1294, .inl (fun _ => 0)))] := hD
  refine va_putF (D := D) (ci := 1) (v := .ref q1) (ty := (.array .int)) (C := RX1) (T := TX1) (N := 2) hx hb hts hin_X1 tyX1 tyX1_ok nmX1 hown hK hP hD hS 0 rfl rfl 1 (by decide) (hts (.fieldLink RX1 9 "ClashFree$Image" "bytes" "[I") (List.mem_of_getElem? (i := 5) rfl)) (fun _ h9 => h9) rfl hin rfl (by decide +kernel) rfl rfl (Nat.le_of_ble_eq_true rfl) dX1_init_10 (fun H locs hP hD hS => ?_)
  have hP : va_P D vwCl [(h0, .inr (1, [.int 0, .ref q1])), (q1, .inl (cI, 1294, .inl (fun _ => 0)))] H := hP
  have hD : va_D A [(h0, .inr (1, [.int 0, .ref q1])), (q1, .inl (cI, 1294, .inl (fun _ => 0)))] := hD
  exact W.vret hx hb hr (fun t ht hW => ⟨⟨(fun i => [h0, q1].getD i 0), rfl, rfl, by rw [ht]; exact hP.sub [0, 1] rfl, va_K.moved hW.alike (hK.sub [0] rfl), hD.sub [0, 1] (by decide) rfl⟩, hS.F ht⟩) hS.2.2 dX1_init_13

def own_i_X4 : List Cond := [.methodLink RX4 3 objectInit, .instanceMethod objectInit, .code objectInit ⟨#[0xb1]⟩ 1 none, .arrayClass .int, .fieldLink RX4 9 "ClashFree$Machine" "roundOf" "[I", .fieldLink RX4 15 "ClashFree$Machine" "operands" "[I"]
def wp_i_X4 : List Cond := .code yX4_init cX4_init 1 none :: (own_i_X4 ++ (wsX40 ++ ([] : List Cond)))
set_option maxRecDepth 20000 in
theorem inown_i_X4 : ∀ w ∈ own_i_X4, w ∈ lw_tbl := mem_places [382, 130, 131, 171, 392, 394] (by decide +kernel)
set_option maxRecDepth 20000 in
theorem in_i_X4 : ∀ w ∈ wp_i_X4, w ∈ lw_tbl := List.forall_mem_cons.mpr ⟨List.mem_of_getElem? (i := 381) (by decide +kernel), List.forall_mem_append.mpr ⟨inown_i_X4, List.forall_mem_append.mpr ⟨lwb_X4, fun _ h => absurd h List.not_mem_nil⟩⟩⟩
set_option maxRecDepth 20000 in
theorem good_i_X4 : wp_i_X4.all goodWord = true := by decide +kernel
set_option maxHeartbeats 4000000 in
set_option maxRecDepth 100000 in
theorem i_X4 (l : Launch) (D : va_G) (sz : Nat) (h0 : Nat) (cI : ClassId)  : Met l yX4_init wp_i_X4 ({ frames := 1, cells := 2, slots := 69, locals := 12 }) (PcWC D [.ref h0] sz [(h0, .inr (4, [.int 0, .int 0, .int 0, .int 0, .int 0, .null, .int 0, .null]))] [(cI, .int)]) (va_Qv (fun (u : Nat → Nat) => u 0 = h0) (fun (u : Nat → Nat) t => va_P D vwCl [(u 0, .inr (4, gMa u 0 0 0 0 0 0)), (u 1, .inl (cI, 5, .inl (fun _ => 0))), (u 2, .inl (cI, 64, .inl (fun _ => 0)))] t.heap ∧ va_K D vwCl [(cI, .int)] t ∧ va_D (va_A [(h0, .inr (4, [.int 0, .int 0, .int 0, .int 0, .int 0, .null, .int 0, .null]))] sz) [(u 0, .inr (4, gMa u 0 0 0 0 0 0)), (u 1, .inl (cI, 5, .inl (fun _ => 0))), (u 2, .inl (cI, 64, .inl (fun _ => 0)))]) (va_A [(h0, .inr (4, [.int 0, .int 0, .int 0, .int 0, .int 0, .null, .int 0, .null]))] sz)) 2 69 (va_A [(h0, .inr (4, [.int 0, .int 0, .int 0, .int 0, .int 0, .null, .int 0, .null]))] sz) := by
  refine Met.ofW (cc := cX4_init) (maxL := 1) (ret := none) (by decide) rfl ?_
  intro p e s m args below meth c s₁ B hml hv
  obtain ⟨rfl, hsz, hP, hK, hD0, hN⟩ := hv
  have hx := B.exec
  have hb := B.bytes
  have hr := B.returns
  have hts := atoms_spec (ws := wp_i_X4) B.pre
  have hin_X4 : ∀ w ∈ wsX40, w ∈ wp_i_X4 := fun _ h => (List.mem_cons_of_mem _ (List.mem_append_right _ (List.mem_append_left _ h)))
  have hown : s.vm.findClass RX4 = some m.cls := findClass_of_methodNamed B.named
  have hlocks := B.notSynchronized
  have hin : meth.name = "<init>" := (name_of_methodNamed B.named B.method).1
  subst hsz
  have hD := hD0.self (sz := s.heap.size)
  generalize hAe : va_A [(h0, .inr (4, [.int 0, .int 0, .int 0, .int 0, .int 0, .null, .int 0, .null]))] s.heap.size = A at hD ⊢
  have hA : ∀ q : Nat, s.heap.size ≤ q → A q := fun q h => by rw [← hAe]; exact Or.inr h
  have hS : va_S A s.heap s.heap [] := va_S.rf
  have hP : va_P D vwCl [(h0, .inr (4, [.int 0, .int 0, .int 0, .int 0, .int 0, .null, .int 0, .null]))] s.heap := hP
  have hl := lv_entry ([.ref h0]) (n := 1) (Nat.le_of_ble_eq_true rfl)
  rw [lg_entry_eq]
  generalize (lg_sl ([.ref h0]) ++ List.replicate (1 - (lg_sl ([.ref h0])).length) Slot.unset).toArray = ls at hl ⊢
  have hl : lv_has ls 1 [(0, .ref h0)] := hl
  refine lv_aload_n hx hb dX4_init_0 rfl (lv_at hl 0 rfl) ?_
  refine W.objInit hx hb hown (hts (.methodLink RX4 3 objectInit) (List.mem_of_getElem? (i := 1) rfl)) (hts (.instanceMethod objectInit) (List.mem_of_getElem? (i := 2) rfl)) (hts (.code objectInit ⟨#[0xb1]⟩ 1 none) (List.mem_of_getElem? (i := 3) rfl)) rfl (by rw [hml]; exact hl.1) rfl dX4_init_1 (Nat.le_of_ble_eq_true rfl) (Nat.le_of_ble_eq_true rfl) ?_
  refine W.eq (g2 := F0 m 4 ls []) rfl ?_
  refine lv_aload_n hx hb dX4_init_4 rfl (lv_at hl 0 rfl) ?_
  refine lv_iconst (v := 5) hx hb dX4_init_5 (by decide) ?_
  refine va_newa (atype := .int) (ty := .int) (N' := 5) (a0 := (5, .inl (fun _ => 0))) hx hb (hts (.arrayClass .int) (List.mem_of_getElem? (i := 4) rfl)) rfl hK hP hD hS hA (fun _ => rfl) (by decide) (by decide) (Nat.le_of_ble_eq_true rfl) (Nat.le_of_ble_eq_true rfl) (Nat.le_of_ble_eq_true rfl) dX4_init_6 (fun q1 cq1 H hK hP hD hS => ?_)
  refine W.widen (k := 1) (n := 5) (Nat.le_of_ble_eq_true rfl) (Nat.le_of_ble_eq_true rfl) ?_
  have hK : va_K D vwCl [(cI, .int), (cq1, .int)] s := hK
  have hP : va_P D vwCl [(h0, .inr (4, [.int 0, .int 0, .int 0, .int 0, .int 0, .null, .int 0, .null])), (q1, .inl (cq1, 5, .inl (fun _ => 0)))] H := hP
  have hD : va_D A [(h0, .inr (4, [.int 0, .int 0, .int 0, .int 0, .int 0, .null, .int 0, .null])), (q1, .inl (cq1, 5, .inl (fun _ => 0)))] := hD
  obtain rfl : cI = cq1 := va_K1 hK (i := 0) (j := 1) rfl rfl
  have hK := hK.sub (tys' := [(cI, .int)]) [0] rfl
  have hP : va_P D vwCl [(h0, .inr (4, [.int 0, .int 0, .int 0, .int 0, .int 0, .null, .int 0, .null])), (q1, .inl (cI, 5, .inl (fun _ => 0)))] H := hP
  have hD : va_D A [(h0, .inr (4, [.int 0, .int 0, .int 0, .int 0, .int 0, .null, .int 0, .null])), (q1, .inl (cI, 5, .inl (fun _ => 0)))] := hD
  refine va_putF (D := D) (ci := 4) (v := .ref q1) (ty := (.array .int)) (C := RX4) (T := TX4) (N := 8) hx hb hts hin_X4 tyX4 tyX4_ok nmX4 hown hK hP hD hS 0 rfl rfl 5 (by decide) (hts (.fieldLink RX4 9 "ClashFree$Machine" "roundOf" "[I") (List.mem_of_getElem? (i := 5) rfl)) (fun _ h9 => h9) rfl hin rfl (by decide +kernel) rfl rfl (Nat.le_of_ble_eq_true rfl) dX4_init_8 (fun H locs hP hD hS => ?_)
  have hP : va_P D vwCl [(h0, .inr (4, [.int 0, .int 0, .int 0, .int 0, .int 0, .ref q1, .int 0, .null])), (q1, .inl (cI, 5, .inl (fun _ => 0)))] H := hP
  have hD : va_D A [(h0, .inr (4, [.int 0, .int 0, .int 0, .int 0, .int 0, .ref q1, .int 0, .null])), (q1, .inl (cI, 5, .inl (fun _ => 0)))] := hD
  refine lv_aload_n hx hb dX4_init_11 rfl (lv_at hl 0 rfl) ?_
  refine lv_bipush (v := 64) hx hb dX4_init_12 (by decide) ?_
  refine va_newa (atype := .int) (ty := .int) (N' := 64) (a0 := (64, .inl (fun _ => 0))) hx hb (hts (.arrayClass .int) (List.mem_of_getElem? (i := 4) rfl)) rfl hK hP hD hS hA (fun _ => rfl) (by decide) (by decide) (Nat.le_of_ble_eq_true rfl) (Nat.le_of_ble_eq_true rfl) (Nat.le_of_ble_eq_true rfl) dX4_init_14 (fun q2 cq2 H hK hP hD hS => ?_)
  refine W.widen (k := 2) (n := 69) (Nat.le_of_ble_eq_true rfl) (Nat.le_of_ble_eq_true rfl) ?_
  have hK : va_K D vwCl [(cI, .int), (cq2, .int)] s := hK
  have hP : va_P D vwCl [(h0, .inr (4, [.int 0, .int 0, .int 0, .int 0, .int 0, .ref q1, .int 0, .null])), (q1, .inl (cI, 5, .inl (fun _ => 0))), (q2, .inl (cq2, 64, .inl (fun _ => 0)))] H := hP
  have hD : va_D A [(h0, .inr (4, [.int 0, .int 0, .int 0, .int 0, .int 0, .ref q1, .int 0, .null])), (q1, .inl (cI, 5, .inl (fun _ => 0))), (q2, .inl (cq2, 64, .inl (fun _ => 0)))] := hD
  obtain rfl : cI = cq2 := va_K1 hK (i := 0) (j := 1) rfl rfl
  have hK := hK.sub (tys' := [(cI, .int)]) [0] rfl
  have hP : va_P D vwCl [(h0, .inr (4, [.int 0, .int 0, .int 0, .int 0, .int 0, .ref q1, .int 0, .null])), (q1, .inl (cI, 5, .inl (fun _ => 0))), (q2, .inl (cI, 64, .inl (fun _ => 0)))] H := hP
  have hD : va_D A [(h0, .inr (4, [.int 0, .int 0, .int 0, .int 0, .int 0, .ref q1, .int 0, .null])), (q1, .inl (cI, 5, .inl (fun _ => 0))), (q2, .inl (cI, 64, .inl (fun _ => 0)))] := hD
  refine va_putF (D := D) (ci := 4) (v := .ref q2) (ty := (.array .int)) (C := RX4) (T := TX4) (N := 8) hx hb hts hin_X4 tyX4 tyX4_ok nmX4 hown hK hP hD hS 0 rfl rfl 7 (by decide) (hts (.fieldLink RX4 15 "ClashFree$Machine" "operands" "[I") (List.mem_of_getElem? (i := 6) rfl)) (fun _ h9 => h9) rfl hin rfl (by decide +kernel) rfl rfl (Nat.le_of_ble_eq_true rfl) dX4_init_16 (fun H locs hP hD hS => ?_)
  have hP : va_P D vwCl [(h0, .inr (4, [.int 0, .int 0, .int 0, .int 0, .int 0, .ref q1, .int 0, .ref q2])), (q1, .inl (cI, 5, .inl (fun _ => 0))), (q2, .inl (cI, 64, .inl (fun _ => 0)))] H := hP
  have hD : va_D A [(h0, .inr (4, [.int 0, .int 0, .int 0, .int 0, .int 0, .ref q1, .int 0, .ref q2])), (q1, .inl (cI, 5, .inl (fun _ => 0))), (q2, .inl (cI, 64, .inl (fun _ => 0)))] := hD
  exact W.vret hx hb hr (fun t ht hW => ⟨⟨(fun i => [h0, q1, q2].getD i 0), rfl, rfl, by rw [ht]; exact hP.sub [0, 1, 2] rfl, va_K.moved hW.alike (hK.sub [0] rfl), hD.sub [0, 1, 2] (by decide) rfl⟩, hS.F ht⟩) hS.2.2 dX4_init_19

def own_i_X7 : List Cond := [.methodLink RX7 3 objectInit, .instanceMethod objectInit, .code objectInit ⟨#[0xb1]⟩ 1 none, .arrayClass .int, .fieldLink RX7 9 "ClashFree$Program" "kinds" "[I", .fieldLink RX7 15 "ClashFree$Program" "numbers" "[I", .fieldLink RX7 18 "ClashFree$Program" "links" "[I"]
def wp_i_X7 : List Cond := .code yX7_init cX7_init 1 none :: (own_i_X7 ++ (wsX70 ++ ([] : List Cond)))
set_option maxRecDepth 20000 in
theorem inown_i_X7 : ∀ w ∈ own_i_X7, w ∈ lw_tbl := mem_places [277, 130, 131, 171, 281, 283, 285] (by decide +kernel)
set_option maxRecDepth 20000 in
theorem in_i_X7 : ∀ w ∈ wp_i_X7, w ∈ lw_tbl := List.forall_mem_cons.mpr ⟨List.mem_of_getElem? (i := 276) (by decide +kernel), List.forall_mem_append.mpr ⟨inown_i_X7, List.forall_mem_append.mpr ⟨lwb_X7, fun _ h => absurd h List.not_mem_nil⟩⟩⟩
set_option maxRecDepth 20000 in
theorem good_i_X7 : wp_i_X7.all goodWord = true := by decide +kernel
set_option maxHeartbeats 4000000 in
set_option maxRecDepth 100000 in
theorem i_X7 (l : Launch) (D : va_G) (sz : Nat) (h0 : Nat) (cI : ClassId)  : Met l yX7_init wp_i_X7 ({ frames := 1, cells := 3, slots := 1800, locals := 12 }) (PcWC D [.ref h0] sz [(h0, .inr (7, [.int 0, .null, .null, .null]))] [(cI, .int)]) (va_Qv (fun (u : Nat → Nat) => u 1 = h0) (fun (u : Nat → Nat) t => va_P D vwCl [(u 1, .inr (7, [.int 0, .ref (u 2), .ref (u 3), .ref (u 4)])), (u 2, .inl (cI, 600, .inl (fun _ => 0))), (u 3, .inl (cI, 600, .inl (fun _ => 0))), (u 4, .inl (cI, 600, .inl (fun _ => 0)))] t.heap ∧ va_K D vwCl [(cI, .int)] t ∧ va_D (va_A [(h0, .inr (7, [.int 0, .null, .null, .null]))] sz) [(u 1, .inr (7, [.int 0, .ref (u 2), .ref (u 3), .ref (u 4)])), (u 2, .inl (cI, 600, .inl (fun _ => 0))), (u 3, .inl (cI, 600, .inl (fun _ => 0))), (u 4, .inl (cI, 600, .inl (fun _ => 0)))]) (va_A [(h0, .inr (7, [.int 0, .null, .null, .null]))] sz)) 3 1800 (va_A [(h0, .inr (7, [.int 0, .null, .null, .null]))] sz) := by
  refine Met.ofW (cc := cX7_init) (maxL := 1) (ret := none) (by decide) rfl ?_
  intro p e s m args below meth c s₁ B hml hv
  obtain ⟨rfl, hsz, hP, hK, hD0, hN⟩ := hv
  have hx := B.exec
  have hb := B.bytes
  have hr := B.returns
  have hts := atoms_spec (ws := wp_i_X7) B.pre
  have hin_X7 : ∀ w ∈ wsX70, w ∈ wp_i_X7 := fun _ h => (List.mem_cons_of_mem _ (List.mem_append_right _ (List.mem_append_left _ h)))
  have hown : s.vm.findClass RX7 = some m.cls := findClass_of_methodNamed B.named
  have hlocks := B.notSynchronized
  have hin : meth.name = "<init>" := (name_of_methodNamed B.named B.method).1
  subst hsz
  have hD := hD0.self (sz := s.heap.size)
  generalize hAe : va_A [(h0, .inr (7, [.int 0, .null, .null, .null]))] s.heap.size = A at hD ⊢
  have hA : ∀ q : Nat, s.heap.size ≤ q → A q := fun q h => by rw [← hAe]; exact Or.inr h
  have hS : va_S A s.heap s.heap [] := va_S.rf
  have hP : va_P D vwCl [(h0, .inr (7, [.int 0, .null, .null, .null]))] s.heap := hP
  have hl := lv_entry ([.ref h0]) (n := 1) (Nat.le_of_ble_eq_true rfl)
  rw [lg_entry_eq]
  generalize (lg_sl ([.ref h0]) ++ List.replicate (1 - (lg_sl ([.ref h0])).length) Slot.unset).toArray = ls at hl ⊢
  have hl : lv_has ls 1 [(0, .ref h0)] := hl
  refine lv_aload_n hx hb dX7_init_0 rfl (lv_at hl 0 rfl) ?_
  refine W.objInit hx hb hown (hts (.methodLink RX7 3 objectInit) (List.mem_of_getElem? (i := 1) rfl)) (hts (.instanceMethod objectInit) (List.mem_of_getElem? (i := 2) rfl)) (hts (.code objectInit ⟨#[0xb1]⟩ 1 none) (List.mem_of_getElem? (i := 3) rfl)) rfl (by rw [hml]; exact hl.1) rfl dX7_init_1 (Nat.le_of_ble_eq_true rfl) (Nat.le_of_ble_eq_true rfl) ?_
  refine W.eq (g2 := F0 m 4 ls []) rfl ?_
  refine lv_aload_n hx hb dX7_init_4 rfl (lv_at hl 0 rfl) ?_
  refine lv_sipush (v := 600) hx hb dX7_init_5 (by decide) ?_
  refine va_newa (atype := .int) (ty := .int) (N' := 600) (a0 := (600, .inl (fun _ => 0))) hx hb (hts (.arrayClass .int) (List.mem_of_getElem? (i := 4) rfl)) rfl hK hP hD hS hA (fun _ => rfl) (by decide) (by decide) (Nat.le_of_ble_eq_true rfl) (Nat.le_of_ble_eq_true rfl) (Nat.le_of_ble_eq_true rfl) dX7_init_8 (fun q1 cq1 H hK hP hD hS => ?_)
  refine W.widen (k := 1) (n := 600) (Nat.le_of_ble_eq_true rfl) (Nat.le_of_ble_eq_true rfl) ?_
  have hK : va_K D vwCl [(cI, .int), (cq1, .int)] s := hK
  have hP : va_P D vwCl [(h0, .inr (7, [.int 0, .null, .null, .null])), (q1, .inl (cq1, 600, .inl (fun _ => 0)))] H := hP
  have hD : va_D A [(h0, .inr (7, [.int 0, .null, .null, .null])), (q1, .inl (cq1, 600, .inl (fun _ => 0)))] := hD
  obtain rfl : cI = cq1 := va_K1 hK (i := 0) (j := 1) rfl rfl
  have hK := hK.sub (tys' := [(cI, .int)]) [0] rfl
  have hP : va_P D vwCl [(h0, .inr (7, [.int 0, .null, .null, .null])), (q1, .inl (cI, 600, .inl (fun _ => 0)))] H := hP
  have hD : va_D A [(h0, .inr (7, [.int 0, .null, .null, .null])), (q1, .inl (cI, 600, .inl (fun _ => 0)))] := hD
  refine va_putF (D := D) (ci := 7) (v := .ref q1) (ty := (.array .int)) (C := RX7) (T := TX7) (N := 4) hx hb hts hin_X7 tyX7 tyX7_ok nmX7 hown hK hP hD hS 0 rfl rfl 1 (by decide) (hts (.fieldLink RX7 9 "ClashFree$Program" "kinds" "[I") (List.mem_of_getElem? (i := 5) rfl)) (fun _ h9 => h9) rfl hin rfl (by decide +kernel) rfl rfl (Nat.le_of_ble_eq_true rfl) dX7_init_10 (fun H locs hP hD hS => ?_)
  have hP : va_P D vwCl [(h0, .inr (7, [.int 0, .ref q1, .null, .null])), (q1, .inl (cI, 600, .inl (fun _ => 0)))] H := hP
  have hD : va_D A [(h0, .inr (7, [.int 0, .ref q1, .null, .null])), (q1, .inl (cI, 600, .inl (fun _ => 0)))] := hD
  refine lv_aload_n hx hb dX7_init_13 rfl (lv_at hl 0 rfl) ?_
  refine lv_sipush (v := 600) hx hb dX7_init_14 (by decide) ?_
  refine va_newa (atype := .int) (ty := .int) (N' := 600) (a0 := (600, .inl (fun _ => 0))) hx hb (hts (.arrayClass .int) (List.mem_of_getElem? (i := 4) rfl)) rfl hK hP hD hS hA (fun _ => rfl) (by decide) (by decide) (Nat.le_of_ble_eq_true rfl) (Nat.le_of_ble_eq_true rfl) (Nat.le_of_ble_eq_true rfl) dX7_init_17 (fun q2 cq2 H hK hP hD hS => ?_)
  refine W.widen (k := 2) (n := 1200) (Nat.le_of_ble_eq_true rfl) (Nat.le_of_ble_eq_true rfl) ?_
  have hK : va_K D vwCl [(cI, .int), (cq2, .int)] s := hK
  have hP : va_P D vwCl [(h0, .inr (7, [.int 0, .ref q1, .null, .null])), (q1, .inl (cI, 600, .inl (fun _ => 0))), (q2, .inl (cq2, 600, .inl (fun _ => 0)))] H := hP
  have hD : va_D A [(h0, .inr (7, [.int 0, .ref q1, .null, .null])), (q1, .inl (cI, 600, .inl (fun _ => 0))), (q2, .inl (cq2, 600, .inl (fun _ => 0)))] := hD
  obtain rfl : cI = cq2 := va_K1 hK (i := 0) (j := 1) rfl rfl
  have hK := hK.sub (tys' := [(cI, .int)]) [0] rfl
  have hP : va_P D vwCl [(h0, .inr (7, [.int 0, .ref q1, .null, .null])), (q1, .inl (cI, 600, .inl (fun _ => 0))), (q2, .inl (cI, 600, .inl (fun _ => 0)))] H := hP
  have hD : va_D A [(h0, .inr (7, [.int 0, .ref q1, .null, .null])), (q1, .inl (cI, 600, .inl (fun _ => 0))), (q2, .inl (cI, 600, .inl (fun _ => 0)))] := hD
  refine va_putF (D := D) (ci := 7) (v := .ref q2) (ty := (.array .int)) (C := RX7) (T := TX7) (N := 4) hx hb hts hin_X7 tyX7 tyX7_ok nmX7 hown hK hP hD hS 0 rfl rfl 2 (by decide) (hts (.fieldLink RX7 15 "ClashFree$Program" "numbers" "[I") (List.mem_of_getElem? (i := 6) rfl)) (fun _ h9 => h9) rfl hin rfl (by decide +kernel) rfl rfl (Nat.le_of_ble_eq_true rfl) dX7_init_19 (fun H locs hP hD hS => ?_)
  have hP : va_P D vwCl [(h0, .inr (7, [.int 0, .ref q1, .ref q2, .null])), (q1, .inl (cI, 600, .inl (fun _ => 0))), (q2, .inl (cI, 600, .inl (fun _ => 0)))] H := hP
  have hD : va_D A [(h0, .inr (7, [.int 0, .ref q1, .ref q2, .null])), (q1, .inl (cI, 600, .inl (fun _ => 0))), (q2, .inl (cI, 600, .inl (fun _ => 0)))] := hD
  refine lv_aload_n hx hb dX7_init_22 rfl (lv_at hl 0 rfl) ?_
  refine lv_sipush (v := 600) hx hb dX7_init_23 (by decide) ?_
  refine va_newa (atype := .int) (ty := .int) (N' := 600) (a0 := (600, .inl (fun _ => 0))) hx hb (hts (.arrayClass .int) (List.mem_of_getElem? (i := 4) rfl)) rfl hK hP hD hS hA (fun _ => rfl) (by decide) (by decide) (Nat.le_of_ble_eq_true rfl) (Nat.le_of_ble_eq_true rfl) (Nat.le_of_ble_eq_true rfl) dX7_init_26 (fun q3 cq3 H hK hP hD hS => ?_)
  refine W.widen (k := 3) (n := 1800) (Nat.le_of_ble_eq_true rfl) (Nat.le_of_ble_eq_true rfl) ?_
  have hK : va_K D vwCl [(cI, .int), (cq3, .int)] s := hK
  have hP : va_P D vwCl [(h0, .inr (7, [.int 0, .ref q1, .ref q2, .null])), (q1, .inl (cI, 600, .inl (fun _ => 0))), (q2, .inl (cI, 600, .inl (fun _ => 0))), (q3, .inl (cq3, 600, .inl (fun _ => 0)))] H := hP
  have hD : va_D A [(h0, .inr (7, [.int 0, .ref q1, .ref q2, .null])), (q1, .inl (cI, 600, .inl (fun _ => 0))), (q2, .inl (cI, 600, .inl (fun _ => 0))), (q3, .inl (cq3, 600, .inl (fun _ => 0)))] := hD
  obtain rfl : cI = cq3 := va_K1 hK (i := 0) (j := 1) rfl rfl
  have hK := hK.sub (tys' := [(cI, .int)]) [0] rfl
  have hP : va_P D vwCl [(h0, .inr (7, [.int 0, .ref q1, .ref q2, .null])), (q1, .inl (cI, 600, .inl (fun _ => 0))), (q2, .inl (cI, 600, .inl (fun _ => 0))), (q3, .inl (cI, 600, .inl (fun _ => 0)))] H := hP
  have hD : va_D A [(h0, .inr (7, [.int 0, .ref q1, .ref q2, .null])), (q1, .inl (cI, 600, .inl (fun _ => 0))), (q2, .inl (cI, 600, .inl (fun _ => 0))), (q3, .inl (cI, 600, .inl (fun _ => 0)))] := hD
  refine va_putF (D := D) (ci := 7) (v := .ref q3) (ty := (.array .int)) (C := RX7) (T := TX7) (N := 4) hx hb hts hin_X7 tyX7 tyX7_ok nmX7 hown hK hP hD hS 0 rfl rfl 3 (by decide) (hts (.fieldLink RX7 18 "ClashFree$Program" "links" "[I") (List.mem_of_getElem? (i := 7) rfl)) (fun _ h9 => h9) rfl hin rfl (by decide +kernel) rfl rfl (Nat.le_of_ble_eq_true rfl) dX7_init_28 (fun H locs hP hD hS => ?_)
  have hP : va_P D vwCl [(h0, .inr (7, [.int 0, .ref q1, .ref q2, .ref q3])), (q1, .inl (cI, 600, .inl (fun _ => 0))), (q2, .inl (cI, 600, .inl (fun _ => 0))), (q3, .inl (cI, 600, .inl (fun _ => 0)))] H := hP
  have hD : va_D A [(h0, .inr (7, [.int 0, .ref q1, .ref q2, .ref q3])), (q1, .inl (cI, 600, .inl (fun _ => 0))), (q2, .inl (cI, 600, .inl (fun _ => 0))), (q3, .inl (cI, 600, .inl (fun _ => 0)))] := hD
  exact W.vret hx hb hr (fun t ht hW => ⟨⟨(fun i => [0, h0, q1, q2, q3].getD i 0), rfl, rfl, by rw [ht]; exact hP.sub [0, 1, 2, 3] rfl, va_K.moved hW.alike (hK.sub [0] rfl), hD.sub [0, 1, 2, 3] (by decide) rfl⟩, hS.F ht⟩) hS.2.2 dX7_init_31

def own_i_X9 : List Cond := [.methodLink RX9 3 objectInit, .instanceMethod objectInit, .code objectInit ⟨#[0xb1]⟩ 1 none, .classLink RX9 9 RX0, .instantiable RX0 4, .initialized RX0, .instanceMethod yX0_init, .fieldLink RX9 12 "ClashFree$Table" "draw" "LClashFree$Draw;", .classLink RX9 18 RX2, .instantiable RX2 3, .initialized RX2, .methodLink RX9 20 yX2_init, .instanceMethod yX2_init, .fieldLink RX9 21 "ClashFree$Table" "keys" "LClashFree$Keys;", .classLink RX9 25 RX3, .instantiable RX3 13, .initialized RX3, .methodLink RX9 27 yX3_init, .instanceMethod yX3_init, .fieldLink RX9 28 "ClashFree$Table" "layout" "LClashFree$Layout;"]
def wp_i_X9 : List Cond := .code yX9_init cX9_init 1 none :: (own_i_X9 ++ (wp_i_X0 ++ (wp_i_X2 ++ (wp_i_X3 ++ (wsX00 ++ (wsX90 ++ (wsX20 ++ (wsX30 ++ ([] : List Cond)))))))))
set_option maxRecDepth 20000 in
theorem inown_i_X9 : ∀ w ∈ own_i_X9, w ∈ lw_tbl := mem_places [463, 130, 131, 464, 141, 108, 143, 512, 466, 467, 117, 468, 469, 515, 489, 173, 109, 490, 175, 520] (by decide +kernel)
set_option maxRecDepth 20000 in
theorem in_i_X9 : ∀ w ∈ wp_i_X9, w ∈ lw_tbl := List.forall_mem_cons.mpr ⟨List.mem_of_getElem? (i := 462) (by decide +kernel), List.forall_mem_append.mpr ⟨inown_i_X9, List.forall_mem_append.mpr ⟨in_i_X0, List.forall_mem_append.mpr ⟨in_i_X2, List.forall_mem_append.mpr ⟨in_i_X3, List.forall_mem_append.mpr ⟨lwb_X0, List.forall_mem_append.mpr ⟨lwb_X9, List.forall_mem_append.mpr ⟨lwb_X2, List.forall_mem_append.mpr ⟨lwb_X3, fun _ h => absurd h List.not_mem_nil⟩⟩⟩⟩⟩⟩⟩⟩⟩
set_option maxRecDepth 20000 in
theorem good_i_X9 : wp_i_X9.all goodWord = true := by decide +kernel
set_option maxRecDepth 20000 in
theorem g_i_X9_i_X0_11 : GoodIn wp_i_X9 (wp_i_X0) := goodIn_sub ((fun _ h => (List.mem_cons_of_mem _ (List.mem_append_right _ (List.mem_append_left _ h))))) (by decide +kernel)
set_option maxRecDepth 20000 in
theorem g_i_X9_i_X2_20 : GoodIn wp_i_X9 (wp_i_X2) := goodIn_sub ((fun _ h => (List.mem_cons_of_mem _ (List.mem_append_right _ (List.mem_append_right _ (List.mem_append_left _ h)))))) (by decide +kernel)
set_option maxRecDepth 20000 in
theorem g_i_X9_i_X3_27 : GoodIn wp_i_X9 (wp_i_X3) := goodIn_sub ((fun _ h => (List.mem_cons_of_mem _ (List.mem_append_right _ (List.mem_append_right _ (List.mem_append_right _ (List.mem_append_left _ h))))))) (by decide +kernel)
set_option maxHeartbeats 4000000 in
set_option maxRecDepth 100000 in
theorem i_X9 (l : Launch) (D : va_G) (sz : Nat) (h0 : Nat) (cI : ClassId)  : Met l yX9_init wp_i_X9 ({ frames := 2, cells := 13, slots := 11060, locals := 32 }) (PcWC D [.ref h0] sz [(h0, .inr (9, [.int 0, .int 0, .int 0, .int 0, .int 0, .int 0, .int 0, .int 0, .int 0, .null, .null, .null]))] [(cI, .int)]) (va_Qv (fun (u : Nat → Nat) => u 0 = h0) (fun (u : Nat → Nat) t => va_P D vwCl [(u 0, .inr (9, gT u 0 0 0 0 0 0 0 0 0)), (u 1, .inr (0, [.long 0, .int 0, .int 0, .int 0])), (u 2, .inr (2, [.int 0, .ref (u 3), .ref (u 4)])), (u 3, .inl (cI, 160, .inl (fun _ => 0))), (u 4, .inl (cI, 160, .inl (fun _ => 0))), (u 5, .inr (3, gY u 0 0 0 0 0)), (u 6, .inl (cI, 2048, .inl (fun _ => 0))), (u 7, .inl (cI, 2048, .inl (fun _ => 0))), (u 8, .inl (cI, 2048, .inl (fun _ => 0))), (u 9, .inl (cI, 2048, .inl (fun _ => 0))), (u 10, .inl (cI, 160, .inl (fun _ => 0))), (u 11, .inl (cI, 160, .inl (fun _ => 0))), (u 12, .inl (cI, 160, .inl (fun _ => 0))), (u 13, .inl (cI, 2048, .inl (fun _ => 0)))] t.heap ∧ va_K D vwCl [(cI, .int)] t ∧ va_D (va_A [(h0, .inr (9, [.int 0, .int 0, .int 0, .int 0, .int 0, .int 0, .int 0, .int 0, .int 0, .null, .null, .null]))] sz) [(u 0, .inr (9, gT u 0 0 0 0 0 0 0 0 0)), (u 1, .inr (0, [.long 0, .int 0, .int 0, .int 0])), (u 2, .inr (2, [.int 0, .ref (u 3), .ref (u 4)])), (u 3, .inl (cI, 160, .inl (fun _ => 0))), (u 4, .inl (cI, 160, .inl (fun _ => 0))), (u 5, .inr (3, gY u 0 0 0 0 0)), (u 6, .inl (cI, 2048, .inl (fun _ => 0))), (u 7, .inl (cI, 2048, .inl (fun _ => 0))), (u 8, .inl (cI, 2048, .inl (fun _ => 0))), (u 9, .inl (cI, 2048, .inl (fun _ => 0))), (u 10, .inl (cI, 160, .inl (fun _ => 0))), (u 11, .inl (cI, 160, .inl (fun _ => 0))), (u 12, .inl (cI, 160, .inl (fun _ => 0))), (u 13, .inl (cI, 2048, .inl (fun _ => 0)))]) (va_A [(h0, .inr (9, [.int 0, .int 0, .int 0, .int 0, .int 0, .int 0, .int 0, .int 0, .int 0, .null, .null, .null]))] sz)) 13 11060 (va_A [(h0, .inr (9, [.int 0, .int 0, .int 0, .int 0, .int 0, .int 0, .int 0, .int 0, .int 0, .null, .null, .null]))] sz) := by
  refine Met.ofW (cc := cX9_init) (maxL := 1) (ret := none) (by decide) rfl ?_
  intro p e s m args below meth c s₁ B hml hv
  obtain ⟨rfl, hsz, hP, hK, hD0, hN⟩ := hv
  have hx := B.exec
  have hb := B.bytes
  have hr := B.returns
  have hts := atoms_spec (ws := wp_i_X9) B.pre
  have hin_X0 : ∀ w ∈ wsX00, w ∈ wp_i_X9 := fun _ h => (List.mem_cons_of_mem _ (List.mem_append_right _ (List.mem_append_right _ (List.mem_append_right _ (List.mem_append_right _ (List.mem_append_left _ h))))))
  have hin_X9 : ∀ w ∈ wsX90, w ∈ wp_i_X9 := fun _ h => (List.mem_cons_of_mem _ (List.mem_append_right _ (List.mem_append_right _ (List.mem_append_right _ (List.mem_append_right _ (List.mem_append_right _ (List.mem_append_left _ h)))))))
  have hin_X2 : ∀ w ∈ wsX20, w ∈ wp_i_X9 := fun _ h => (List.mem_cons_of_mem _ (List.mem_append_right _ (List.mem_append_right _ (List.mem_append_right _ (List.mem_append_right _ (List.mem_append_right _ (List.mem_append_right _ (List.mem_append_left _ h))))))))
  have hin_X3 : ∀ w ∈ wsX30, w ∈ wp_i_X9 := fun _ h => (List.mem_cons_of_mem _ (List.mem_append_right _ (List.mem_append_right _ (List.mem_append_right _ (List.mem_append_right _ (List.mem_append_right _ (List.mem_append_right _ (List.mem_append_right _ (List.mem_append_left _ h)))))))))
  have hown : s.vm.findClass RX9 = some m.cls := findClass_of_methodNamed B.named
  have hlocks := B.notSynchronized
  have hin : meth.name = "<init>" := (name_of_methodNamed B.named B.method).1
  subst hsz
  have hD := hD0.self (sz := s.heap.size)
  generalize hAe : va_A [(h0, .inr (9, [.int 0, .int 0, .int 0, .int 0, .int 0, .int 0, .int 0, .int 0, .int 0, .null, .null, .null]))] s.heap.size = A at hD ⊢
  have hA : ∀ q : Nat, s.heap.size ≤ q → A q := fun q h => by rw [← hAe]; exact Or.inr h
  have hS : va_S A s.heap s.heap [] := va_S.rf
  have hP : va_P D vwCl [(h0, .inr (9, [.int 0, .int 0, .int 0, .int 0, .int 0, .int 0, .int 0, .int 0, .int 0, .null, .null, .null]))] s.heap := hP
  have hl := lv_entry ([.ref h0]) (n := 1) (Nat.le_of_ble_eq_true rfl)
  rw [lg_entry_eq]
  generalize (lg_sl ([.ref h0]) ++ List.replicate (1 - (lg_sl ([.ref h0])).length) Slot.unset).toArray = ls at hl ⊢
  have hl : lv_has ls 1 [(0, .ref h0)] := hl
  refine lv_aload_n hx hb dX9_init_0 rfl (lv_at hl 0 rfl) ?_
  refine W.objInit hx hb hown (hts (.methodLink RX9 3 objectInit) (List.mem_of_getElem? (i := 1) rfl)) (hts (.instanceMethod objectInit) (List.mem_of_getElem? (i := 2) rfl)) (hts (.code objectInit ⟨#[0xb1]⟩ 1 none) (List.mem_of_getElem? (i := 3) rfl)) rfl (by rw [hml]; exact hl.1) rfl dX9_init_1 (Nat.le_of_ble_eq_true rfl) (Nat.le_of_ble_eq_true rfl) ?_
  refine W.eq (g2 := F0 m 4 ls []) rfl ?_
  refine lv_aload_n hx hb dX9_init_4 rfl (lv_at hl 0 rfl) ?_
  refine va_new (ci := 0) (fs := [.long 0, .int 0, .int 0, .int 0]) (C := RX0) (T := TX0) (N := 4) hx hb hts hin_X0 tyX0 tyX0_ok hown (hts (.classLink RX9 9 RX0) (List.mem_of_getElem? (i := 4) rfl)) (hts (.instantiable RX0 4) (List.mem_of_getElem? (i := 5) rfl)) (hts (.initialized RX0) (List.mem_of_getElem? (i := 6) rfl)) hK hP hD hS hA rfl (fun j hj => by rcases (show j = 0 ∨ j = 1 ∨ j = 2 ∨ j = 3 by omega) with rfl | rfl | rfl | rfl <;> rfl) (Nat.le_of_ble_eq_true rfl) (Nat.le_of_ble_eq_true rfl) dX9_init_5 (fun q1 H hP hD hS => ?_)
  refine W.widen (k := 1) (n := 4) (Nat.le_of_ble_eq_true rfl) (Nat.le_of_ble_eq_true rfl) ?_
  have hP : va_P D vwCl [(h0, .inr (9, [.int 0, .int 0, .int 0, .int 0, .int 0, .int 0, .int 0, .int 0, .int 0, .null, .null, .null])), (q1, .inr (0, [.long 0, .int 0, .int 0, .int 0]))] H := hP
  have hD : va_D A [(h0, .inr (9, [.int 0, .int 0, .int 0, .int 0, .int 0, .int 0, .int 0, .int 0, .int 0, .null, .null, .null])), (q1, .inr (0, [.long 0, .int 0, .int 0, .int 0]))] := hD
  refine lv_dup hx hb dX9_init_8 rfl ?_
  have hPc := hP.sub (ws' := [(q1, .inr (0, [.long 0, .int 0, .int 0, .int 0]))]) [1] rfl
  have hKc := hK.sub (tys' := []) [] rfl
  have hDc := hD.sub (ws' := [(q1, .inr (0, [.long 0, .int 0, .int 0, .int 0]))]) [1] (by decide) rfl
  have hFc := va_free (wc := [(q1, .inr (0, [.long 0, .int 0, .int 0, .int 0]))]) hD hS hA [1] rfl
  refine va_callv (va_runIN (As := []) (rest := [.ref q1, .ref h0]) ⟨hx, hb, hml, hown, hts⟩ (i_X0 l D _ q1) ⟨va_cnB 0 hts g_i_X9_i_X0_11 rfl rfl rfl hN.2.2.2.2.2.2.2.1 (hts (.initialized RX0) (List.mem_of_getElem? (i := 6) rfl)) (by decide +kernel) ⟨(Nat.le_of_ble_eq_true rfl), (Nat.le_of_ble_eq_true rfl)⟩, rfl, (hts (.instanceMethod yX0_init) (List.mem_of_getElem? (i := 7) rfl))⟩ (PcWC_S hPc hKc hDc hN) rfl rfl hl.1 rfl (lv_room (Nat.le_of_ble_eq_true rfl)) dX9_init_9 ⟨(Nat.le_of_ble_eq_true rfl), (Nat.le_of_ble_eq_true rfl)⟩) hS (fun q _ h => hFc q h) hFc (fun uu tt H locs htt hvm hw hB hz1 hk1 hS => ?_)
  have hu := uu
  obtain ⟨hP1, hK1, hD1⟩ := hB
  rw [htt] at hP1
  have hK1 := va_K.moved hvm.symm hK1
  have hP1 : va_P D vwCl [(q1, .inr (0, [.long 0, .int 0, .int 0, .int 0]))] H := hP1
  obtain ⟨hP, hD⟩ := va_join (wr := [(h0, .inr (9, [.int 0, .int 0, .int 0, .int 0, .int 0, .int 0, .int 0, .int 0, .int 0, .null, .null, .null]))]) (w1 := [(q1, .inr (0, [.long 0, .int 0, .int 0, .int 0]))]) hP hD [1] [0] rfl rfl (by decide) (by decide) hk1 hFc hP1 hD1
  have hP : va_P D vwCl [(h0, .inr (9, [.int 0, .int 0, .int 0, .int 0, .int 0, .int 0, .int 0, .int 0, .int 0, .null, .null, .null])), (q1, .inr (0, [.long 0, .int 0, .int 0, .int 0]))] H := hP
  have hD : va_D A [(h0, .inr (9, [.int 0, .int 0, .int 0, .int 0, .int 0, .int 0, .int 0, .int 0, .int 0, .null, .null, .null])), (q1, .inr (0, [.long 0, .int 0, .int 0, .int 0]))] := hD
  try dsimp only at hw
  clear hz1 hk1 hFc hPc hKc hDc
  refine va_putF (D := D) (ci := 9) (v := .ref q1) (ty := (.object "ClashFree$Draw")) (C := RX9) (T := TX9) (N := 12) hx hb hts hin_X9 tyX9 tyX9_ok nmX9 hown hK hP hD hS 0 rfl rfl 9 (by decide) (hts (.fieldLink RX9 12 "ClashFree$Table" "draw" "LClashFree$Draw;") (List.mem_of_getElem? (i := 8) rfl)) (fun _ h9 => h9) rfl hin rfl (by decide +kernel) rfl rfl (Nat.le_of_ble_eq_true rfl) dX9_init_12 (fun H locs hP hD hS => ?_)
  have hP : va_P D vwCl [(h0, .inr (9, [.int 0, .int 0, .int 0, .int 0, .int 0, .int 0, .int 0, .int 0, .int 0, .ref q1, .null, .null])), (q1, .inr (0, [.long 0, .int 0, .int 0, .int 0]))] H := hP
  have hD : va_D A [(h0, .inr (9, [.int 0, .int 0, .int 0, .int 0, .int 0, .int 0, .int 0, .int 0, .int 0, .ref q1, .null, .null])), (q1, .inr (0, [.long 0, .int 0, .int 0, .int 0]))] := hD
  refine lv_aload_n hx hb dX9_init_15 rfl (lv_at hl 0 rfl) ?_
  refine va_new (ci := 2) (fs := [.int 0, .null, .null]) (C := RX2) (T := TX2) (N := 3) hx hb hts hin_X2 tyX2 tyX2_ok hown (hts (.classLink RX9 18 RX2) (List.mem_of_getElem? (i := 9) rfl)) (hts (.instantiable RX2 3) (List.mem_of_getElem? (i := 10) rfl)) (hts (.initialized RX2) (List.mem_of_getElem? (i := 11) rfl)) hK hP hD hS hA rfl (fun j hj => by rcases (show j = 0 ∨ j = 1 ∨ j = 2 by omega) with rfl | rfl | rfl <;> rfl) (Nat.le_of_ble_eq_true rfl) (Nat.le_of_ble_eq_true rfl) dX9_init_16 (fun q3 H hP hD hS => ?_)
  refine W.widen (k := 2) (n := 7) (Nat.le_of_ble_eq_true rfl) (Nat.le_of_ble_eq_true rfl) ?_
  have hP : va_P D vwCl [(h0, .inr (9, [.int 0, .int 0, .int 0, .int 0, .int 0, .int 0, .int 0, .int 0, .int 0, .ref q1, .null, .null])), (q1, .inr (0, [.long 0, .int 0, .int 0, .int 0])), (q3, .inr (2, [.int 0, .null, .null]))] H := hP
  have hD : va_D A [(h0, .inr (9, [.int 0, .int 0, .int 0, .int 0, .int 0, .int 0, .int 0, .int 0, .int 0, .ref q1, .null, .null])), (q1, .inr (0, [.long 0, .int 0, .int 0, .int 0])), (q3, .inr (2, [.int 0, .null, .null]))] := hD
  refine lv_dup hx hb dX9_init_19 rfl ?_
  have hPc := hP.sub (ws' := [(q3, .inr (2, [.int 0, .null, .null]))]) [2] rfl
  have hKc := hK.sub (tys' := [(cI, .int)]) [0] rfl
  have hDc := hD.sub (ws' := [(q3, .inr (2, [.int 0, .null, .null]))]) [2] (by decide) rfl
  have hFc := va_free (wc := [(q3, .inr (2, [.int 0, .null, .null]))]) hD hS hA [2] rfl
  refine va_callv (va_runI (As := []) (rest := [.ref q3, .ref h0]) ⟨hx, hb, hml, hown, hts⟩ (i_X2 l D _ q3 cI) (cwI 0 hts g_i_X9_i_X2_20 rfl rfl rfl (hts (.initialized RX2) (List.mem_of_getElem? (i := 11) rfl)) (hts (.methodLink RX9 20 yX2_init) (List.mem_of_getElem? (i := 12) rfl)) (hts (.instanceMethod yX2_init) (List.mem_of_getElem? (i := 13) rfl)) rfl (by decide +kernel) ⟨(Nat.le_of_ble_eq_true rfl), (Nat.le_of_ble_eq_true rfl)⟩) (PcWC_S hPc hKc hDc hN) rfl rfl hl.1 rfl (lv_room (Nat.le_of_ble_eq_true rfl)) dX9_init_20 ⟨(Nat.le_of_ble_eq_true rfl), (Nat.le_of_ble_eq_true rfl)⟩) hS (fun q _ h => hFc q h) hFc (fun uu tt H locs htt hvm hw hB hz1 hk1 hS => ?_)
  obtain ⟨qb5, rfl⟩ : ∃ z, z = uu := ⟨_, rfl⟩
  obtain ⟨hP1, hK1, hD1⟩ := hB
  rw [htt] at hP1
  have hK1 := va_K.moved hvm.symm hK1
  have hP1 : va_P D vwCl [(qb5 2, .inr (2, [.int 0, .ref (qb5 3), .ref (qb5 4)])), (qb5 3, .inl (cI, 160, .inl (fun _ => 0))), (qb5 4, .inl (cI, 160, .inl (fun _ => 0)))] H := hP1
  obtain ⟨hP, hD⟩ := va_join (wr := [(h0, .inr (9, [.int 0, .int 0, .int 0, .int 0, .int 0, .int 0, .int 0, .int 0, .int 0, .ref q1, .null, .null])), (q1, .inr (0, [.long 0, .int 0, .int 0, .int 0]))]) (w1 := [(qb5 2, .inr (2, [.int 0, .ref (qb5 3), .ref (qb5 4)])), (qb5 3, .inl (cI, 160, .inl (fun _ => 0))), (qb5 4, .inl (cI, 160, .inl (fun _ => 0)))]) hP hD [2] [0, 1] rfl rfl (by decide) (by decide) hk1 hFc hP1 hD1
  have hP : va_P D vwCl [(h0, .inr (9, [.int 0, .int 0, .int 0, .int 0, .int 0, .int 0, .int 0, .int 0, .int 0, .ref q1, .null, .null])), (q1, .inr (0, [.long 0, .int 0, .int 0, .int 0])), (qb5 2, .inr (2, [.int 0, .ref (qb5 3), .ref (qb5 4)])), (qb5 3, .inl (cI, 160, .inl (fun _ => 0))), (qb5 4, .inl (cI, 160, .inl (fun _ => 0)))] H := hP
  have hD : va_D A [(h0, .inr (9, [.int 0, .int 0, .int 0, .int 0, .int 0, .int 0, .int 0, .int 0, .int 0, .ref q1, .null, .null])), (q1, .inr (0, [.long 0, .int 0, .int 0, .int 0])), (qb5 2, .inr (2, [.int 0, .ref (qb5 3), .ref (qb5 4)])), (qb5 3, .inl (cI, 160, .inl (fun _ => 0))), (qb5 4, .inl (cI, 160, .inl (fun _ => 0)))] := hD
  refine W.widen (k := 4) (n := 327) (Nat.le_of_ble_eq_true rfl) (Nat.le_of_ble_eq_true rfl) ?_
  try dsimp only at hw
  clear hz1 hk1 hFc hPc hKc hDc
  have hq_qb5 : qb5 2 = q3 := hw
  rw [hq_qb5] at hP hD
  have hP : va_P D vwCl [(h0, .inr (9, [.int 0, .int 0, .int 0, .int 0, .int 0, .int 0, .int 0, .int 0, .int 0, .ref q1, .null, .null])), (q1, .inr (0, [.long 0, .int 0, .int 0, .int 0])), (q3, .inr (2, [.int 0, .ref (qb5 3), .ref (qb5 4)])), (qb5 3, .inl (cI, 160, .inl (fun _ => 0))), (qb5 4, .inl (cI, 160, .inl (fun _ => 0)))] H := hP
  have hD : va_D A [(h0, .inr (9, [.int 0, .int 0, .int 0, .int 0, .int 0, .int 0, .int 0, .int 0, .int 0, .ref q1, .null, .null])), (q1, .inr (0, [.long 0, .int 0, .int 0, .int 0])), (q3, .inr (2, [.int 0, .ref (qb5 3), .ref (qb5 4)])), (qb5 3, .inl (cI, 160, .inl (fun _ => 0))), (qb5 4, .inl (cI, 160, .inl (fun _ => 0)))] := hD
  refine va_putF (D := D) (ci := 9) (v := .ref q3) (ty := (.object "ClashFree$Keys")) (C := RX9) (T := TX9) (N := 12) hx hb hts hin_X9 tyX9 tyX9_ok nmX9 hown hK hP hD hS 0 rfl rfl 10 (by decide) (hts (.fieldLink RX9 21 "ClashFree$Table" "keys" "LClashFree$Keys;") (List.mem_of_getElem? (i := 14) rfl)) (fun _ h9 => h9) rfl hin rfl (by decide +kernel) rfl rfl (Nat.le_of_ble_eq_true rfl) dX9_init_23 (fun H locs hP hD hS => ?_)
  have hP : va_P D vwCl [(h0, .inr (9, [.int 0, .int 0, .int 0, .int 0, .int 0, .int 0, .int 0, .int 0, .int 0, .ref q1, .ref q3, .null])), (q1, .inr (0, [.long 0, .int 0, .int 0, .int 0])), (q3, .inr (2, [.int 0, .ref (qb5 3), .ref (qb5 4)])), (qb5 3, .inl (cI, 160, .inl (fun _ => 0))), (qb5 4, .inl (cI, 160, .inl (fun _ => 0)))] H := hP
  have hD : va_D A [(h0, .inr (9, [.int 0, .int 0, .int 0, .int 0, .int 0, .int 0, .int 0, .int 0, .int 0, .ref q1, .ref q3, .null])), (q1, .inr (0, [.long 0, .int 0, .int 0, .int 0])), (q3, .inr (2, [.int 0, .ref (qb5 3), .ref (qb5 4)])), (qb5 3, .inl (cI, 160, .inl (fun _ => 0))), (qb5 4, .inl (cI, 160, .inl (fun _ => 0)))] := hD
  refine lv_aload_n hx hb dX9_init_26 rfl (lv_at hl 0 rfl) ?_
  refine va_new (ci := 3) (fs := [.int 0, .int 0, .int 0, .int 0, .int 0, .null, .null, .null, .null, .null, .null, .null, .null]) (C := RX3) (T := TX3) (N := 13) hx hb hts hin_X3 tyX3 tyX3_ok hown (hts (.classLink RX9 25 RX3) (List.mem_of_getElem? (i := 15) rfl)) (hts (.instantiable RX3 13) (List.mem_of_getElem? (i := 16) rfl)) (hts (.initialized RX3) (List.mem_of_getElem? (i := 17) rfl)) hK hP hD hS hA rfl (fun j hj => by rcases (show j = 0 ∨ j = 1 ∨ j = 2 ∨ j = 3 ∨ j = 4 ∨ j = 5 ∨ j = 6 ∨ j = 7 ∨ j = 8 ∨ j = 9 ∨ j = 10 ∨ j = 11 ∨ j = 12 by omega) with rfl | rfl | rfl | rfl | rfl | rfl | rfl | rfl | rfl | rfl | rfl | rfl | rfl <;> rfl) (Nat.le_of_ble_eq_true rfl) (Nat.le_of_ble_eq_true rfl) dX9_init_27 (fun q6 H hP hD hS => ?_)
  refine W.widen (k := 5) (n := 340) (Nat.le_of_ble_eq_true rfl) (Nat.le_of_ble_eq_true rfl) ?_
  have hP : va_P D vwCl [(h0, .inr (9, [.int 0, .int 0, .int 0, .int 0, .int 0, .int 0, .int 0, .int 0, .int 0, .ref q1, .ref q3, .null])), (q1, .inr (0, [.long 0, .int 0, .int 0, .int 0])), (q3, .inr (2, [.int 0, .ref (qb5 3), .ref (qb5 4)])), (qb5 3, .inl (cI, 160, .inl (fun _ => 0))), (qb5 4, .inl (cI, 160, .inl (fun _ => 0))), (q6, .inr (3, [.int 0, .int 0, .int 0, .int 0, .int 0, .null, .null, .null, .null, .null, .null, .null, .null]))] H := hP
  have hD : va_D A [(h0, .inr (9, [.int 0, .int 0, .int 0, .int 0, .int 0, .int 0, .int 0, .int 0, .int 0, .ref q1, .ref q3, .null])), (q1, .inr (0, [.long 0, .int 0, .int 0, .int 0])), (q3, .inr (2, [.int 0, .ref (qb5 3), .ref (qb5 4)])), (qb5 3, .inl (cI, 160, .inl (fun _ => 0))), (qb5 4, .inl (cI, 160, .inl (fun _ => 0))), (q6, .inr (3, [.int 0, .int 0, .int 0, .int 0, .int 0, .null, .null, .null, .null, .null, .null, .null, .null]))] := hD
  refine lv_dup hx hb dX9_init_30 rfl ?_
  have hPc := hP.sub (ws' := [(q6, .inr (3, [.int 0, .int 0, .int 0, .int 0, .int 0, .null, .null, .null, .null, .null, .null, .null, .null]))]) [5] rfl
  have hKc := hK.sub (tys' := [(cI, .int)]) [0] rfl
  have hDc := hD.sub (ws' := [(q6, .inr (3, [.int 0, .int 0, .int 0, .int 0, .int 0, .null, .null, .null, .null, .null, .null, .null, .null]))]) [5] (by decide) rfl
  have hFc := va_free (wc := [(q6, .inr (3, [.int 0, .int 0, .int 0, .int 0, .int 0, .null, .null, .null, .null, .null, .null, .null, .null]))]) hD hS hA [5] rfl
  refine va_callv (va_runI (As := []) (rest := [.ref q6, .ref h0]) ⟨hx, hb, hml, hown, hts⟩ (i_X3 l D _ q6 cI) (cwI 0 hts g_i_X9_i_X3_27 rfl rfl rfl (hts (.initialized RX3) (List.mem_of_getElem? (i := 17) rfl)) (hts (.methodLink RX9 27 yX3_init) (List.mem_of_getElem? (i := 18) rfl)) (hts (.instanceMethod yX3_init) (List.mem_of_getElem? (i := 19) rfl)) rfl (by decide +kernel) ⟨(Nat.le_of_ble_eq_true rfl), (Nat.le_of_ble_eq_true rfl)⟩) (PcWC_S hPc hKc hDc hN) rfl rfl hl.1 rfl (lv_room (Nat.le_of_ble_eq_true rfl)) dX9_init_31 ⟨(Nat.le_of_ble_eq_true rfl), (Nat.le_of_ble_eq_true rfl)⟩) hS (fun q _ h => hFc q h) hFc (fun uu tt H locs htt hvm hw hB hz1 hk1 hS => ?_)
  obtain ⟨qb8, rfl⟩ : ∃ z, z = uu := ⟨_, rfl⟩
  obtain ⟨hP1, hK1, hD1⟩ := hB
  rw [htt] at hP1
  have hK1 := va_K.moved hvm.symm hK1
  have hP1 : va_P D vwCl [(qb8 5, .inr (3, gY qb8 0 0 0 0 0)), (qb8 6, .inl (cI, 2048, .inl (fun _ => 0))), (qb8 7, .inl (cI, 2048, .inl (fun _ => 0))), (qb8 8, .inl (cI, 2048, .inl (fun _ => 0))), (qb8 9, .inl (cI, 2048, .inl (fun _ => 0))), (qb8 10, .inl (cI, 160, .inl (fun _ => 0))), (qb8 11, .inl (cI, 160, .inl (fun _ => 0))), (qb8 12, .inl (cI, 160, .inl (fun _ => 0))), (qb8 13, .inl (cI, 2048, .inl (fun _ => 0)))] H := hP1
  obtain ⟨hP, hD⟩ := va_join (wr := [(h0, .inr (9, [.int 0, .int 0, .int 0, .int 0, .int 0, .int 0, .int 0, .int 0, .int 0, .ref q1, .ref q3, .null])), (q1, .inr (0, [.long 0, .int 0, .int 0, .int 0])), (q3, .inr (2, [.int 0, .ref (qb5 3), .ref (qb5 4)])), (qb5 3, .inl (cI, 160, .inl (fun _ => 0))), (qb5 4, .inl (cI, 160, .inl (fun _ => 0)))]) (w1 := [(qb8 5, .inr (3, gY qb8 0 0 0 0 0)), (qb8 6, .inl (cI, 2048, .inl (fun _ => 0))), (qb8 7, .inl (cI, 2048, .inl (fun _ => 0))), (qb8 8, .inl (cI, 2048, .inl (fun _ => 0))), (qb8 9, .inl (cI, 2048, .inl (fun _ => 0))), (qb8 10, .inl (cI, 160, .inl (fun _ => 0))), (qb8 11, .inl (cI, 160, .inl (fun _ => 0))), (qb8 12, .inl (cI, 160, .inl (fun _ => 0))), (qb8 13, .inl (cI, 2048, .inl (fun _ => 0)))]) hP hD [5] [0, 1, 2, 3, 4] rfl rfl (by decide) (by decide) hk1 hFc hP1 hD1
  have hP : va_P D vwCl [(h0, .inr (9, [.int 0, .int 0, .int 0, .int 0, .int 0, .int 0, .int 0, .int 0, .int 0, .ref q1, .ref q3, .null])), (q1, .inr (0, [.long 0, .int 0, .int 0, .int 0])), (q3, .inr (2, [.int 0, .ref (qb5 3), .ref (qb5 4)])), (qb5 3, .inl (cI, 160, .inl (fun _ => 0))), (qb5 4, .inl (cI, 160, .inl (fun _ => 0))), (qb8 5, .inr (3, gY qb8 0 0 0 0 0)), (qb8 6, .inl (cI, 2048, .inl (fun _ => 0))), (qb8 7, .inl (cI, 2048, .inl (fun _ => 0))), (qb8 8, .inl (cI, 2048, .inl (fun _ => 0))), (qb8 9, .inl (cI, 2048, .inl (fun _ => 0))), (qb8 10, .inl (cI, 160, .inl (fun _ => 0))), (qb8 11, .inl (cI, 160, .inl (fun _ => 0))), (qb8 12, .inl (cI, 160, .inl (fun _ => 0))), (qb8 13, .inl (cI, 2048, .inl (fun _ => 0)))] H := hP
  have hD : va_D A [(h0, .inr (9, [.int 0, .int 0, .int 0, .int 0, .int 0, .int 0, .int 0, .int 0, .int 0, .ref q1, .ref q3, .null])), (q1, .inr (0, [.long 0, .int 0, .int 0, .int 0])), (q3, .inr (2, [.int 0, .ref (qb5 3), .ref (qb5 4)])), (qb5 3, .inl (cI, 160, .inl (fun _ => 0))), (qb5 4, .inl (cI, 160, .inl (fun _ => 0))), (qb8 5, .inr (3, gY qb8 0 0 0 0 0)), (qb8 6, .inl (cI, 2048, .inl (fun _ => 0))), (qb8 7, .inl (cI, 2048, .inl (fun _ => 0))), (qb8 8, .inl (cI, 2048, .inl (fun _ => 0))), (qb8 9, .inl (cI, 2048, .inl (fun _ => 0))), (qb8 10, .inl (cI, 160, .inl (fun _ => 0))), (qb8 11, .inl (cI, 160, .inl (fun _ => 0))), (qb8 12, .inl (cI, 160, .inl (fun _ => 0))), (qb8 13, .inl (cI, 2048, .inl (fun _ => 0)))] := hD
  refine W.widen (k := 13) (n := 11060) (Nat.le_of_ble_eq_true rfl) (Nat.le_of_ble_eq_true rfl) ?_
  try dsimp only at hw
  clear hz1 hk1 hFc hPc hKc hDc
  have hq_qb8 : qb8 5 = q6 := hw
  rw [hq_qb8] at hP hD
  have hP : va_P D vwCl [(h0, .inr (9, [.int 0, .int 0, .int 0, .int 0, .int 0, .int 0, .int 0, .int 0, .int 0, .ref q1, .ref q3, .null])), (q1, .inr (0, [.long 0, .int 0, .int 0, .int 0])), (q3, .inr (2, [.int 0, .ref (qb5 3), .ref (qb5 4)])), (qb5 3, .inl (cI, 160, .inl (fun _ => 0))), (qb5 4, .inl (cI, 160, .inl (fun _ => 0))), (q6, .inr (3, gY qb8 0 0 0 0 0)), (qb8 6, .inl (cI, 2048, .inl (fun _ => 0))), (qb8 7, .inl (cI, 2048, .inl (fun _ => 0))), (qb8 8, .inl (cI, 2048, .inl (fun _ => 0))), (qb8 9, .inl (cI, 2048, .inl (fun _ => 0))), (qb8 10, .inl (cI, 160, .inl (fun _ => 0))), (qb8 11, .inl (cI, 160, .inl (fun _ => 0))), (qb8 12, .inl (cI, 160, .inl (fun _ => 0))), (qb8 13, .inl (cI, 2048, .inl (fun _ => 0)))] H := hP
  have hD : va_D A [(h0, .inr (9, [.int 0, .int 0, .int 0, .int 0, .int 0, .int 0, .int 0, .int 0, .int 0, .ref q1, .ref q3, .null])), (q1, .inr (0, [.long 0, .int 0, .int 0, .int 0])), (q3, .inr (2, [.int 0, .ref (qb5 3), .ref (qb5 4)])), (qb5 3, .inl (cI, 160, .inl (fun _ => 0))), (qb5 4, .inl (cI, 160, .inl (fun _ => 0))), (q6, .inr (3, gY qb8 0 0 0 0 0)), (qb8 6, .inl (cI, 2048, .inl (fun _ => 0))), (qb8 7, .inl (cI, 2048, .inl (fun _ => 0))), (qb8 8, .inl (cI, 2048, .inl (fun _ => 0))), (qb8 9, .inl (cI, 2048, .inl (fun _ => 0))), (qb8 10, .inl (cI, 160, .inl (fun _ => 0))), (qb8 11, .inl (cI, 160, .inl (fun _ => 0))), (qb8 12, .inl (cI, 160, .inl (fun _ => 0))), (qb8 13, .inl (cI, 2048, .inl (fun _ => 0)))] := hD
  refine va_putF (D := D) (ci := 9) (v := .ref q6) (ty := (.object "ClashFree$Layout")) (C := RX9) (T := TX9) (N := 12) hx hb hts hin_X9 tyX9 tyX9_ok nmX9 hown hK hP hD hS 0 rfl rfl 11 (by decide) (hts (.fieldLink RX9 28 "ClashFree$Table" "layout" "LClashFree$Layout;") (List.mem_of_getElem? (i := 20) rfl)) (fun _ h9 => h9) rfl hin rfl (by decide +kernel) rfl rfl (Nat.le_of_ble_eq_true rfl) dX9_init_34 (fun H locs hP hD hS => ?_)
  have hP : va_P D vwCl [(h0, .inr (9, [.int 0, .int 0, .int 0, .int 0, .int 0, .int 0, .int 0, .int 0, .int 0, .ref q1, .ref q3, .ref q6])), (q1, .inr (0, [.long 0, .int 0, .int 0, .int 0])), (q3, .inr (2, [.int 0, .ref (qb5 3), .ref (qb5 4)])), (qb5 3, .inl (cI, 160, .inl (fun _ => 0))), (qb5 4, .inl (cI, 160, .inl (fun _ => 0))), (q6, .inr (3, gY qb8 0 0 0 0 0)), (qb8 6, .inl (cI, 2048, .inl (fun _ => 0))), (qb8 7, .inl (cI, 2048, .inl (fun _ => 0))), (qb8 8, .inl (cI, 2048, .inl (fun _ => 0))), (qb8 9, .inl (cI, 2048, .inl (fun _ => 0))), (qb8 10, .inl (cI, 160, .inl (fun _ => 0))), (qb8 11, .inl (cI, 160, .inl (fun _ => 0))), (qb8 12, .inl (cI, 160, .inl (fun _ => 0))), (qb8 13, .inl (cI, 2048, .inl (fun _ => 0)))] H := hP
  have hD : va_D A [(h0, .inr (9, [.int 0, .int 0, .int 0, .int 0, .int 0, .int 0, .int 0, .int 0, .int 0, .ref q1, .ref q3, .ref q6])), (q1, .inr (0, [.long 0, .int 0, .int 0, .int 0])), (q3, .inr (2, [.int 0, .ref (qb5 3), .ref (qb5 4)])), (qb5 3, .inl (cI, 160, .inl (fun _ => 0))), (qb5 4, .inl (cI, 160, .inl (fun _ => 0))), (q6, .inr (3, gY qb8 0 0 0 0 0)), (qb8 6, .inl (cI, 2048, .inl (fun _ => 0))), (qb8 7, .inl (cI, 2048, .inl (fun _ => 0))), (qb8 8, .inl (cI, 2048, .inl (fun _ => 0))), (qb8 9, .inl (cI, 2048, .inl (fun _ => 0))), (qb8 10, .inl (cI, 160, .inl (fun _ => 0))), (qb8 11, .inl (cI, 160, .inl (fun _ => 0))), (qb8 12, .inl (cI, 160, .inl (fun _ => 0))), (qb8 13, .inl (cI, 2048, .inl (fun _ => 0)))] := hD
  exact W.vret hx hb hr (fun t ht hW => ⟨⟨(fun i => [h0, q1, q3, qb5 3, qb5 4, q6, qb8 6, qb8 7, qb8 8, qb8 9, qb8 10, qb8 11, qb8 12, qb8 13].getD i 0), rfl, rfl, by rw [ht]; exact hP.sub [0, 1, 2, 3, 4, 5, 6, 7, 8, 9, 10, 11, 12, 13] rfl, va_K.moved hW.alike (hK.sub [0] rfl), hD.sub [0, 1, 2, 3, 4, 5, 6, 7, 8, 9, 10, 11, 12, 13] (by decide) rfl⟩, hS.F ht⟩) hS.2.2 dX9_init_37

def own_i_X5 : List Cond := [.methodLink RX5 3 objectInit, .instanceMethod objectInit, .code objectInit ⟨#[0xb1]⟩ 1 none, .classLink RX5 9 RX0, .instantiable RX0 4, .initialized RX0, .instanceMethod yX0_init, .fieldLink RX5 12 "ClashFree$Paper" "draw" "LClashFree$Draw;", .classLink RX5 18 RX3, .instantiable RX3 13, .initialized RX3, .methodLink RX5 20 yX3_init, .instanceMethod yX3_init, .fieldLink RX5 21 "ClashFree$Paper" "layout" "LClashFree$Layout;"]
def wp_i_X5 : List Cond := .code yX5_init cX5_init 1 none :: (own_i_X5 ++ (wp_i_X0 ++ (wp_i_X3 ++ (wsX00 ++ (wsX50 ++ (wsX30 ++ ([] : List Cond)))))))
set_option maxRecDepth 20000 in
theorem inown_i_X5 : ∀ w ∈ own_i_X5, w ∈ lw_tbl := mem_places [139, 130, 131, 140, 141, 108, 143, 238, 172, 173, 109, 174, 175, 240] (by decide +kernel)
set_option maxRecDepth 20000 in
theorem in_i_X5 : ∀ w ∈ wp_i_X5, w ∈ lw_tbl := List.forall_mem_cons.mpr ⟨List.mem_of_getElem? (i := 138) (by decide +kernel), List.forall_mem_append.mpr ⟨inown_i_X5, List.forall_mem_append.mpr ⟨in_i_X0, List.forall_mem_append.mpr ⟨in_i_X3, List.forall_mem_append.mpr ⟨lwb_X0, List.forall_mem_append.mpr ⟨lwb_X5, List.forall_mem_append.mpr ⟨lwb_X3, fun _ h => absurd h List.not_mem_nil⟩⟩⟩⟩⟩⟩⟩
set_option maxRecDepth 20000 in
theorem good_i_X5 : wp_i_X5.all goodWord = true := by decide +kernel
set_option maxRecDepth 20000 in
theorem g_i_X5_i_X0_11 : GoodIn wp_i_X5 (wp_i_X0) := goodIn_sub ((fun _ h => (List.mem_cons_of_mem _ (List.mem_append_right _ (List.mem_append_left _ h))))) (by decide +kernel)
set_option maxRecDepth 20000 in
theorem g_i_X5_i_X3_20 : GoodIn wp_i_X5 (wp_i_X3) := goodIn_sub ((fun _ h => (List.mem_cons_of_mem _ (List.mem_append_right _ (List.mem_append_right _ (List.mem_append_left _ h)))))) (by decide +kernel)
set_option maxHeartbeats 4000000 in
set_option maxRecDepth 100000 in
theorem i_X5 (l : Launch) (D : va_G) (sz : Nat) (h0 : Nat) (cI : ClassId)  : Met l yX5_init wp_i_X5 ({ frames := 2, cells := 10, slots := 10737, locals := 32 }) (PcWC D [.ref h0] sz [(h0, .inr (5, [.null, .null, .int 0]))] [(cI, .int)]) (va_Qv (fun (u : Nat → Nat) => u 0 = h0) (fun (u : Nat → Nat) t => va_P D vwCl [(u 0, .inr (5, [.ref (u 1), .ref (u 5), .int 0])), (u 1, .inr (0, [.long 0, .int 0, .int 0, .int 0])), (u 5, .inr (3, gY u 0 0 0 0 0)), (u 6, .inl (cI, 2048, .inl (fun _ => 0))), (u 7, .inl (cI, 2048, .inl (fun _ => 0))), (u 8, .inl (cI, 2048, .inl (fun _ => 0))), (u 9, .inl (cI, 2048, .inl (fun _ => 0))), (u 10, .inl (cI, 160, .inl (fun _ => 0))), (u 11, .inl (cI, 160, .inl (fun _ => 0))), (u 12, .inl (cI, 160, .inl (fun _ => 0))), (u 13, .inl (cI, 2048, .inl (fun _ => 0)))] t.heap ∧ va_K D vwCl [(cI, .int)] t ∧ va_D (va_A [(h0, .inr (5, [.null, .null, .int 0]))] sz) [(u 0, .inr (5, [.ref (u 1), .ref (u 5), .int 0])), (u 1, .inr (0, [.long 0, .int 0, .int 0, .int 0])), (u 5, .inr (3, gY u 0 0 0 0 0)), (u 6, .inl (cI, 2048, .inl (fun _ => 0))), (u 7, .inl (cI, 2048, .inl (fun _ => 0))), (u 8, .inl (cI, 2048, .inl (fun _ => 0))), (u 9, .inl (cI, 2048, .inl (fun _ => 0))), (u 10, .inl (cI, 160, .inl (fun _ => 0))), (u 11, .inl (cI, 160, .inl (fun _ => 0))), (u 12, .inl (cI, 160, .inl (fun _ => 0))), (u 13, .inl (cI, 2048, .inl (fun _ => 0)))]) (va_A [(h0, .inr (5, [.null, .null, .int 0]))] sz)) 10 10737 (va_A [(h0, .inr (5, [.null, .null, .int 0]))] sz) := by
  refine Met.ofW (cc := cX5_init) (maxL := 1) (ret := none) (by decide) rfl ?_
  intro p e s m args below meth c s₁ B hml hv
  obtain ⟨rfl, hsz, hP, hK, hD0, hN⟩ := hv
  have hx := B.exec
  have hb := B.bytes
  have hr := B.returns
  have hts := atoms_spec (ws := wp_i_X5) B.pre
  have hin_X0 : ∀ w ∈ wsX00, w ∈ wp_i_X5 := fun _ h => (List.mem_cons_of_mem _ (List.mem_append_right _ (List.mem_append_right _ (List.mem_append_right _ (List.mem_append_left _ h)))))
  have hin_X5 : ∀ w ∈ wsX50, w ∈ wp_i_X5 := fun _ h => (List.mem_cons_of_mem _ (List.mem_append_right _ (List.mem_append_right _ (List.mem_append_right _ (List.mem_append_right _ (List.mem_append_left _ h))))))
  have hin_X3 : ∀ w ∈ wsX30, w ∈ wp_i_X5 := fun _ h => (List.mem_cons_of_mem _ (List.mem_append_right _ (List.mem_append_right _ (List.mem_append_right _ (List.mem_append_right _ (List.mem_append_right _ (List.mem_append_left _ h)))))))
  have hown : s.vm.findClass RX5 = some m.cls := findClass_of_methodNamed B.named
  have hlocks := B.notSynchronized
  have hin : meth.name = "<init>" := (name_of_methodNamed B.named B.method).1
  subst hsz
  have hD := hD0.self (sz := s.heap.size)
  generalize hAe : va_A [(h0, .inr (5, [.null, .null, .int 0]))] s.heap.size = A at hD ⊢
  have hA : ∀ q : Nat, s.heap.size ≤ q → A q := fun q h => by rw [← hAe]; exact Or.inr h
  have hS : va_S A s.heap s.heap [] := va_S.rf
  have hP : va_P D vwCl [(h0, .inr (5, [.null, .null, .int 0]))] s.heap := hP
  have hl := lv_entry ([.ref h0]) (n := 1) (Nat.le_of_ble_eq_true rfl)
  rw [lg_entry_eq]
  generalize (lg_sl ([.ref h0]) ++ List.replicate (1 - (lg_sl ([.ref h0])).length) Slot.unset).toArray = ls at hl ⊢
  have hl : lv_has ls 1 [(0, .ref h0)] := hl
  refine lv_aload_n hx hb dX5_init_0 rfl (lv_at hl 0 rfl) ?_
  refine W.objInit hx hb hown (hts (.methodLink RX5 3 objectInit) (List.mem_of_getElem? (i := 1) rfl)) (hts (.instanceMethod objectInit) (List.mem_of_getElem? (i := 2) rfl)) (hts (.code objectInit ⟨#[0xb1]⟩ 1 none) (List.mem_of_getElem? (i := 3) rfl)) rfl (by rw [hml]; exact hl.1) rfl dX5_init_1 (Nat.le_of_ble_eq_true rfl) (Nat.le_of_ble_eq_true rfl) ?_
  refine W.eq (g2 := F0 m 4 ls []) rfl ?_
  refine lv_aload_n hx hb dX5_init_4 rfl (lv_at hl 0 rfl) ?_
  refine va_new (ci := 0) (fs := [.long 0, .int 0, .int 0, .int 0]) (C := RX0) (T := TX0) (N := 4) hx hb hts hin_X0 tyX0 tyX0_ok hown (hts (.classLink RX5 9 RX0) (List.mem_of_getElem? (i := 4) rfl)) (hts (.instantiable RX0 4) (List.mem_of_getElem? (i := 5) rfl)) (hts (.initialized RX0) (List.mem_of_getElem? (i := 6) rfl)) hK hP hD hS hA rfl (fun j hj => by rcases (show j = 0 ∨ j = 1 ∨ j = 2 ∨ j = 3 by omega) with rfl | rfl | rfl | rfl <;> rfl) (Nat.le_of_ble_eq_true rfl) (Nat.le_of_ble_eq_true rfl) dX5_init_5 (fun q1 H hP hD hS => ?_)
  refine W.widen (k := 1) (n := 4) (Nat.le_of_ble_eq_true rfl) (Nat.le_of_ble_eq_true rfl) ?_
  have hP : va_P D vwCl [(h0, .inr (5, [.null, .null, .int 0])), (q1, .inr (0, [.long 0, .int 0, .int 0, .int 0]))] H := hP
  have hD : va_D A [(h0, .inr (5, [.null, .null, .int 0])), (q1, .inr (0, [.long 0, .int 0, .int 0, .int 0]))] := hD
  refine lv_dup hx hb dX5_init_8 rfl ?_
  have hPc := hP.sub (ws' := [(q1, .inr (0, [.long 0, .int 0, .int 0, .int 0]))]) [1] rfl
  have hKc := hK.sub (tys' := []) [] rfl
  have hDc := hD.sub (ws' := [(q1, .inr (0, [.long 0, .int 0, .int 0, .int 0]))]) [1] (by decide) rfl
  have hFc := va_free (wc := [(q1, .inr (0, [.long 0, .int 0, .int 0, .int 0]))]) hD hS hA [1] rfl
  refine va_callv (va_runIN (As := []) (rest := [.ref q1, .ref h0]) ⟨hx, hb, hml, hown, hts⟩ (i_X0 l D _ q1) ⟨va_cnB 0 hts g_i_X5_i_X0_11 rfl rfl rfl hN.2.2.2.2.1 (hts (.initialized RX0) (List.mem_of_getElem? (i := 6) rfl)) (by decide +kernel) ⟨(Nat.le_of_ble_eq_true rfl), (Nat.le_of_ble_eq_true rfl)⟩, rfl, (hts (.instanceMethod yX0_init) (List.mem_of_getElem? (i := 7) rfl))⟩ (PcWC_S hPc hKc hDc hN) rfl rfl hl.1 rfl (lv_room (Nat.le_of_ble_eq_true rfl)) dX5_init_9 ⟨(Nat.le_of_ble_eq_true rfl), (Nat.le_of_ble_eq_true rfl)⟩) hS (fun q _ h => hFc q h) hFc (fun uu tt H locs htt hvm hw hB hz1 hk1 hS => ?_)
  have hu := uu
  obtain ⟨hP1, hK1, hD1⟩ := hB
  rw [htt] at hP1
  have hK1 := va_K.moved hvm.symm hK1
  have hP1 : va_P D vwCl [(q1, .inr (0, [.long 0, .int 0, .int 0, .int 0]))] H := hP1
  obtain ⟨hP, hD⟩ := va_join (wr := [(h0, .inr (5, [.null, .null, .int 0]))]) (w1 := [(q1, .inr (0, [.long 0, .int 0, .int 0, .int 0]))]) hP hD [1] [0] rfl rfl (by decide) (by decide) hk1 hFc hP1 hD1
  have hP : va_P D vwCl [(h0, .inr (5, [.null, .null, .int 0])), (q1, .inr (0, [.long 0, .int 0, .int 0, .int 0]))] H := hP
  have hD : va_D A [(h0, .inr (5, [.null, .null, .int 0])), (q1, .inr (0, [.long 0, .int 0, .int 0, .int 0]))] := hD
  try dsimp only at hw
  clear hz1 hk1 hFc hPc hKc hDc
  refine va_putF (D := D) (ci := 5) (v := .ref q1) (ty := (.object "ClashFree$Draw")) (C := RX5) (T := TX5) (N := 3) hx hb hts hin_X5 tyX5 tyX5_ok nmX5 hown hK hP hD hS 0 rfl rfl 0 (by decide) (hts (.fieldLink RX5 12 "ClashFree$Paper" "draw" "LClashFree$Draw;") (List.mem_of_getElem? (i := 8) rfl)) (fun _ h9 => h9) rfl hin rfl (by decide +kernel) rfl rfl (Nat.le_of_ble_eq_true rfl) dX5_init_12 (fun H locs hP hD hS => ?_)
  have hP : va_P D vwCl [(h0, .inr (5, [.ref q1, .null, .int 0])), (q1, .inr (0, [.long 0, .int 0, .int 0, .int 0]))] H := hP
  have hD : va_D A [(h0, .inr (5, [.ref q1, .null, .int 0])), (q1, .inr (0, [.long 0, .int 0, .int 0, .int 0]))] := hD
  refine lv_aload_n hx hb dX5_init_15 rfl (lv_at hl 0 rfl) ?_
  refine va_new (ci := 3) (fs := [.int 0, .int 0, .int 0, .int 0, .int 0, .null, .null, .null, .null, .null, .null, .null, .null]) (C := RX3) (T := TX3) (N := 13) hx hb hts hin_X3 tyX3 tyX3_ok hown (hts (.classLink RX5 18 RX3) (List.mem_of_getElem? (i := 9) rfl)) (hts (.instantiable RX3 13) (List.mem_of_getElem? (i := 10) rfl)) (hts (.initialized RX3) (List.mem_of_getElem? (i := 11) rfl)) hK hP hD hS hA rfl (fun j hj => by rcases (show j = 0 ∨ j = 1 ∨ j = 2 ∨ j = 3 ∨ j = 4 ∨ j = 5 ∨ j = 6 ∨ j = 7 ∨ j = 8 ∨ j = 9 ∨ j = 10 ∨ j = 11 ∨ j = 12 by omega) with rfl | rfl | rfl | rfl | rfl | rfl | rfl | rfl | rfl | rfl | rfl | rfl | rfl <;> rfl) (Nat.le_of_ble_eq_true rfl) (Nat.le_of_ble_eq_true rfl) dX5_init_16 (fun q3 H hP hD hS => ?_)
  refine W.widen (k := 2) (n := 17) (Nat.le_of_ble_eq_true rfl) (Nat.le_of_ble_eq_true rfl) ?_
  have hP : va_P D vwCl [(h0, .inr (5, [.ref q1, .null, .int 0])), (q1, .inr (0, [.long 0, .int 0, .int 0, .int 0])), (q3, .inr (3, [.int 0, .int 0, .int 0, .int 0, .int 0, .null, .null, .null, .null, .null, .null, .null, .null]))] H := hP
  have hD : va_D A [(h0, .inr (5, [.ref q1, .null, .int 0])), (q1, .inr (0, [.long 0, .int 0, .int 0, .int 0])), (q3, .inr (3, [.int 0, .int 0, .int 0, .int 0, .int 0, .null, .null, .null, .null, .null, .null, .null, .null]))] := hD
  refine lv_dup hx hb dX5_init_19 rfl ?_
  have hPc := hP.sub (ws' := [(q3, .inr (3, [.int 0, .int 0, .int 0, .int 0, .int 0, .null, .null, .null, .null, .null, .null, .null, .null]))]) [2] rfl
  have hKc := hK.sub (tys' := [(cI, .int)]) [0] rfl
  have hDc := hD.sub (ws' := [(q3, .inr (3, [.int 0, .int 0, .int 0, .int 0, .int 0, .null, .null, .null, .null, .null, .null, .null, .null]))]) [2] (by decide) rfl
  have hFc := va_free (wc := [(q3, .inr (3, [.int 0, .int 0, .int 0, .int 0, .int 0, .null, .null, .null, .null, .null, .null, .null, .null]))]) hD hS hA [2] rfl
  refine va_callv (va_runI (As := []) (rest := [.ref q3, .ref h0]) ⟨hx, hb, hml, hown, hts⟩ (i_X3 l D _ q3 cI) (cwI 0 hts g_i_X5_i_X3_20 rfl rfl rfl (hts (.initialized RX3) (List.mem_of_getElem? (i := 11) rfl)) (hts (.methodLink RX5 20 yX3_init) (List.mem_of_getElem? (i := 12) rfl)) (hts (.instanceMethod yX3_init) (List.mem_of_getElem? (i := 13) rfl)) rfl (by decide +kernel) ⟨(Nat.le_of_ble_eq_true rfl), (Nat.le_of_ble_eq_true rfl)⟩) (PcWC_S hPc hKc hDc hN) rfl rfl hl.1 rfl (lv_room (Nat.le_of_ble_eq_true rfl)) dX5_init_20 ⟨(Nat.le_of_ble_eq_true rfl), (Nat.le_of_ble_eq_true rfl)⟩) hS (fun q _ h => hFc q h) hFc (fun uu tt H locs htt hvm hw hB hz1 hk1 hS => ?_)
  obtain ⟨qb5, rfl⟩ : ∃ z, z = uu := ⟨_, rfl⟩
  obtain ⟨hP1, hK1, hD1⟩ := hB
  rw [htt] at hP1
  have hK1 := va_K.moved hvm.symm hK1
  have hP1 : va_P D vwCl [(qb5 5, .inr (3, gY qb5 0 0 0 0 0)), (qb5 6, .inl (cI, 2048, .inl (fun _ => 0))), (qb5 7, .inl (cI, 2048, .inl (fun _ => 0))), (qb5 8, .inl (cI, 2048, .inl (fun _ => 0))), (qb5 9, .inl (cI, 2048, .inl (fun _ => 0))), (qb5 10, .inl (cI, 160, .inl (fun _ => 0))), (qb5 11, .inl (cI, 160, .inl (fun _ => 0))), (qb5 12, .inl (cI, 160, .inl (fun _ => 0))), (qb5 13, .inl (cI, 2048, .inl (fun _ => 0)))] H := hP1
  obtain ⟨hP, hD⟩ := va_join (wr := [(h0, .inr (5, [.ref q1, .null, .int 0])), (q1, .inr (0, [.long 0, .int 0, .int 0, .int 0]))]) (w1 := [(qb5 5, .inr (3, gY qb5 0 0 0 0 0)), (qb5 6, .inl (cI, 2048, .inl (fun _ => 0))), (qb5 7, .inl (cI, 2048, .inl (fun _ => 0))), (qb5 8, .inl (cI, 2048, .inl (fun _ => 0))), (qb5 9, .inl (cI, 2048, .inl (fun _ => 0))), (qb5 10, .inl (cI, 160, .inl (fun _ => 0))), (qb5 11, .inl (cI, 160, .inl (fun _ => 0))), (qb5 12, .inl (cI, 160, .inl (fun _ => 0))), (qb5 13, .inl (cI, 2048, .inl (fun _ => 0)))]) hP hD [2] [0, 1] rfl rfl (by decide) (by decide) hk1 hFc hP1 hD1
  have hP : va_P D vwCl [(h0, .inr (5, [.ref q1, .null, .int 0])), (q1, .inr (0, [.long 0, .int 0, .int 0, .int 0])), (qb5 5, .inr (3, gY qb5 0 0 0 0 0)), (qb5 6, .inl (cI, 2048, .inl (fun _ => 0))), (qb5 7, .inl (cI, 2048, .inl (fun _ => 0))), (qb5 8, .inl (cI, 2048, .inl (fun _ => 0))), (qb5 9, .inl (cI, 2048, .inl (fun _ => 0))), (qb5 10, .inl (cI, 160, .inl (fun _ => 0))), (qb5 11, .inl (cI, 160, .inl (fun _ => 0))), (qb5 12, .inl (cI, 160, .inl (fun _ => 0))), (qb5 13, .inl (cI, 2048, .inl (fun _ => 0)))] H := hP
  have hD : va_D A [(h0, .inr (5, [.ref q1, .null, .int 0])), (q1, .inr (0, [.long 0, .int 0, .int 0, .int 0])), (qb5 5, .inr (3, gY qb5 0 0 0 0 0)), (qb5 6, .inl (cI, 2048, .inl (fun _ => 0))), (qb5 7, .inl (cI, 2048, .inl (fun _ => 0))), (qb5 8, .inl (cI, 2048, .inl (fun _ => 0))), (qb5 9, .inl (cI, 2048, .inl (fun _ => 0))), (qb5 10, .inl (cI, 160, .inl (fun _ => 0))), (qb5 11, .inl (cI, 160, .inl (fun _ => 0))), (qb5 12, .inl (cI, 160, .inl (fun _ => 0))), (qb5 13, .inl (cI, 2048, .inl (fun _ => 0)))] := hD
  refine W.widen (k := 10) (n := 10737) (Nat.le_of_ble_eq_true rfl) (Nat.le_of_ble_eq_true rfl) ?_
  try dsimp only at hw
  clear hz1 hk1 hFc hPc hKc hDc
  have hq_qb5 : qb5 5 = q3 := hw
  rw [hq_qb5] at hP hD
  have hP : va_P D vwCl [(h0, .inr (5, [.ref q1, .null, .int 0])), (q1, .inr (0, [.long 0, .int 0, .int 0, .int 0])), (q3, .inr (3, gY qb5 0 0 0 0 0)), (qb5 6, .inl (cI, 2048, .inl (fun _ => 0))), (qb5 7, .inl (cI, 2048, .inl (fun _ => 0))), (qb5 8, .inl (cI, 2048, .inl (fun _ => 0))), (qb5 9, .inl (cI, 2048, .inl (fun _ => 0))), (qb5 10, .inl (cI, 160, .inl (fun _ => 0))), (qb5 11, .inl (cI, 160, .inl (fun _ => 0))), (qb5 12, .inl (cI, 160, .inl (fun _ => 0))), (qb5 13, .inl (cI, 2048, .inl (fun _ => 0)))] H := hP
  have hD : va_D A [(h0, .inr (5, [.ref q1, .null, .int 0])), (q1, .inr (0, [.long 0, .int 0, .int 0, .int 0])), (q3, .inr (3, gY qb5 0 0 0 0 0)), (qb5 6, .inl (cI, 2048, .inl (fun _ => 0))), (qb5 7, .inl (cI, 2048, .inl (fun _ => 0))), (qb5 8, .inl (cI, 2048, .inl (fun _ => 0))), (qb5 9, .inl (cI, 2048, .inl (fun _ => 0))), (qb5 10, .inl (cI, 160, .inl (fun _ => 0))), (qb5 11, .inl (cI, 160, .inl (fun _ => 0))), (qb5 12, .inl (cI, 160, .inl (fun _ => 0))), (qb5 13, .inl (cI, 2048, .inl (fun _ => 0)))] := hD
  refine va_putF (D := D) (ci := 5) (v := .ref q3) (ty := (.object "ClashFree$Layout")) (C := RX5) (T := TX5) (N := 3) hx hb hts hin_X5 tyX5 tyX5_ok nmX5 hown hK hP hD hS 0 rfl rfl 1 (by decide) (hts (.fieldLink RX5 21 "ClashFree$Paper" "layout" "LClashFree$Layout;") (List.mem_of_getElem? (i := 14) rfl)) (fun _ h9 => h9) rfl hin rfl (by decide +kernel) rfl rfl (Nat.le_of_ble_eq_true rfl) dX5_init_23 (fun H locs hP hD hS => ?_)
  have hP : va_P D vwCl [(h0, .inr (5, [.ref q1, .ref q3, .int 0])), (q1, .inr (0, [.long 0, .int 0, .int 0, .int 0])), (q3, .inr (3, gY qb5 0 0 0 0 0)), (qb5 6, .inl (cI, 2048, .inl (fun _ => 0))), (qb5 7, .inl (cI, 2048, .inl (fun _ => 0))), (qb5 8, .inl (cI, 2048, .inl (fun _ => 0))), (qb5 9, .inl (cI, 2048, .inl (fun _ => 0))), (qb5 10, .inl (cI, 160, .inl (fun _ => 0))), (qb5 11, .inl (cI, 160, .inl (fun _ => 0))), (qb5 12, .inl (cI, 160, .inl (fun _ => 0))), (qb5 13, .inl (cI, 2048, .inl (fun _ => 0)))] H := hP
  have hD : va_D A [(h0, .inr (5, [.ref q1, .ref q3, .int 0])), (q1, .inr (0, [.long 0, .int 0, .int 0, .int 0])), (q3, .inr (3, gY qb5 0 0 0 0 0)), (qb5 6, .inl (cI, 2048, .inl (fun _ => 0))), (qb5 7, .inl (cI, 2048, .inl (fun _ => 0))), (qb5 8, .inl (cI, 2048, .inl (fun _ => 0))), (qb5 9, .inl (cI, 2048, .inl (fun _ => 0))), (qb5 10, .inl (cI, 160, .inl (fun _ => 0))), (qb5 11, .inl (cI, 160, .inl (fun _ => 0))), (qb5 12, .inl (cI, 160, .inl (fun _ => 0))), (qb5 13, .inl (cI, 2048, .inl (fun _ => 0)))] := hD
  exact W.vret hx hb hr (fun t ht hW => ⟨⟨(fun i => [h0, q1, 0, 0, 0, q3, qb5 6, qb5 7, qb5 8, qb5 9, qb5 10, qb5 11, qb5 12, qb5 13].getD i 0), rfl, rfl, by rw [ht]; exact hP.sub [0, 1, 2, 3, 4, 5, 6, 7, 8, 9, 10] rfl, va_K.moved hW.alike (hK.sub [0] rfl), hD.sub [0, 1, 2, 3, 4, 5, 6, 7, 8, 9, 10] (by decide) rfl⟩, hS.F ht⟩) hS.2.2 dX5_init_26

def own_i_X6 : List Cond := [.methodLink RX6 3 objectInit, .instanceMethod objectInit, .code objectInit ⟨#[0xb1]⟩ 1 none, .classLink RX6 9 RX7, .instantiable RX7 4, .initialized RX7, .methodLink RX6 11 yX7_init, .instanceMethod yX7_init, .fieldLink RX6 12 "ClashFree$Parser" "program" "LClashFree$Program;", .classLink RX6 18 RX8, .instantiable RX8 7, .initialized RX8, .instanceMethod yX8_init, .fieldLink RX6 21 "ClashFree$Parser" "scan" "LClashFree$Scanner;", .arrayClass .int, .fieldLink RX6 25 "ClashFree$Parser" "opened" "[I", .fieldLink RX6 29 "ClashFree$Parser" "waiting" "[I"]
def wp_i_X6 : List Cond := .code yX6_init cX6_init 1 none :: (own_i_X6 ++ (wp_i_X7 ++ (wp_i_X8 ++ (wsX70 ++ (wsX60 ++ (wsX80 ++ ([] : List Cond)))))))
set_option maxRecDepth 20000 in
theorem inown_i_X6 : ∀ w ∈ own_i_X6, w ∈ lw_tbl := mem_places [271, 130, 131, 272, 273, 112, 274, 275, 333, 296, 297, 113, 299, 335, 171, 343, 345] (by decide +kernel)
set_option maxRecDepth 20000 in
theorem in_i_X6 : ∀ w ∈ wp_i_X6, w ∈ lw_tbl := List.forall_mem_cons.mpr ⟨List.mem_of_getElem? (i := 270) (by decide +kernel), List.forall_mem_append.mpr ⟨inown_i_X6, List.forall_mem_append.mpr ⟨in_i_X7, List.forall_mem_append.mpr ⟨in_i_X8, List.forall_mem_append.mpr ⟨lwb_X7, List.forall_mem_append.mpr ⟨lwb_X6, List.forall_mem_append.mpr ⟨lwb_X8, fun _ h => absurd h List.not_mem_nil⟩⟩⟩⟩⟩⟩⟩
set_option maxRecDepth 20000 in
theorem good_i_X6 : wp_i_X6.all goodWord = true := by decide +kernel
set_option maxRecDepth 20000 in
theorem g_i_X6_i_X7_11 : GoodIn wp_i_X6 (wp_i_X7) := goodIn_sub ((fun _ h => (List.mem_cons_of_mem _ (List.mem_append_right _ (List.mem_append_left _ h))))) (by decide +kernel)
set_option maxRecDepth 20000 in
theorem g_i_X6_i_X8_20 : GoodIn wp_i_X6 (wp_i_X8) := goodIn_sub ((fun _ h => (List.mem_cons_of_mem _ (List.mem_append_right _ (List.mem_append_right _ (List.mem_append_left _ h)))))) (by decide +kernel)
set_option maxHeartbeats 4000000 in
set_option maxRecDepth 100000 in
theorem i_X6 (l : Launch) (D : va_G) (sz : Nat) (h0 : Nat) (cI : ClassId)  : Met l yX6_init wp_i_X6 ({ frames := 2, cells := 7, slots := 2416, locals := 32 }) (PcWC D [.ref h0] sz [(h0, .inr (6, [.int 0, .int 0, .int 0, .null, .null, .int 0, .int 0, .int 0, .int 0, .int 0, .int 0, .int 0, .null, .int 0, .null]))] [(cI, .int)]) (va_Qv (fun (u : Nat → Nat) => u 0 = h0) (fun (u : Nat → Nat) t => va_P D vwCl [(u 0, .inr (6, gPs u 0 0 0 0 0 0 0 0 0 0 0)), (u 1, .inr (7, [.int 0, .ref (u 2), .ref (u 3), .ref (u 4)])), (u 2, .inl (cI, 600, .inl (fun _ => 0))), (u 3, .inl (cI, 600, .inl (fun _ => 0))), (u 4, .inl (cI, 600, .inl (fun _ => 0))), (u 5, .inr (8, [.null, .int 0, .int 0, .int 0, .int 0, .int 0, .int 0])), (u 6, .inl (cI, 5, .inl (fun _ => 0))), (u 7, .inl (cI, 600, .inl (fun _ => 0)))] t.heap ∧ va_K D vwCl [(cI, .int)] t ∧ va_D (va_A [(h0, .inr (6, [.int 0, .int 0, .int 0, .null, .null, .int 0, .int 0, .int 0, .int 0, .int 0, .int 0, .int 0, .null, .int 0, .null]))] sz) [(u 0, .inr (6, gPs u 0 0 0 0 0 0 0 0 0 0 0)), (u 1, .inr (7, [.int 0, .ref (u 2), .ref (u 3), .ref (u 4)])), (u 2, .inl (cI, 600, .inl (fun _ => 0))), (u 3, .inl (cI, 600, .inl (fun _ => 0))), (u 4, .inl (cI, 600, .inl (fun _ => 0))), (u 5, .inr (8, [.null, .int 0, .int 0, .int 0, .int 0, .int 0, .int 0])), (u 6, .inl (cI, 5, .inl (fun _ => 0))), (u 7, .inl (cI, 600, .inl (fun _ => 0)))]) (va_A [(h0, .inr (6, [.int 0, .int 0, .int 0, .null, .null, .int 0, .int 0, .int 0, .int 0, .int 0, .int 0, .int 0, .null, .int 0, .null]))] sz)) 7 2416 (va_A [(h0, .inr (6, [.int 0, .int 0, .int 0, .null, .null, .int 0, .int 0, .int 0, .int 0, .int 0, .int 0, .int 0, .null, .int 0, .null]))] sz) := by
  refine Met.ofW (cc := cX6_init) (maxL := 1) (ret := none) (by decide) rfl ?_
  intro p e s m args below meth c s₁ B hml hv
  obtain ⟨rfl, hsz, hP, hK, hD0, hN⟩ := hv
  have hx := B.exec
  have hb := B.bytes
  have hr := B.returns
  have hts := atoms_spec (ws := wp_i_X6) B.pre
  have hin_X7 : ∀ w ∈ wsX70, w ∈ wp_i_X6 := fun _ h => (List.mem_cons_of_mem _ (List.mem_append_right _ (List.mem_append_right _ (List.mem_append_right _ (List.mem_append_left _ h)))))
  have hin_X6 : ∀ w ∈ wsX60, w ∈ wp_i_X6 := fun _ h => (List.mem_cons_of_mem _ (List.mem_append_right _ (List.mem_append_right _ (List.mem_append_right _ (List.mem_append_right _ (List.mem_append_left _ h))))))
  have hin_X8 : ∀ w ∈ wsX80, w ∈ wp_i_X6 := fun _ h => (List.mem_cons_of_mem _ (List.mem_append_right _ (List.mem_append_right _ (List.mem_append_right _ (List.mem_append_right _ (List.mem_append_right _ (List.mem_append_left _ h)))))))
  have hown : s.vm.findClass RX6 = some m.cls := findClass_of_methodNamed B.named
  have hlocks := B.notSynchronized
  have hin : meth.name = "<init>" := (name_of_methodNamed B.named B.method).1
  subst hsz
  have hD := hD0.self (sz := s.heap.size)
  generalize hAe : va_A [(h0, .inr (6, [.int 0, .int 0, .int 0, .null, .null, .int 0, .int 0, .int 0, .int 0, .int 0, .int 0, .int 0, .null, .int 0, .null]))] s.heap.size = A at hD ⊢
  have hA : ∀ q : Nat, s.heap.size ≤ q → A q := fun q h => by rw [← hAe]; exact Or.inr h
  have hS : va_S A s.heap s.heap [] := va_S.rf
  have hP : va_P D vwCl [(h0, .inr (6, [.int 0, .int 0, .int 0, .null, .null, .int 0, .int 0, .int 0, .int 0, .int 0, .int 0, .int 0, .null, .int 0, .null]))] s.heap := hP
  have hl := lv_entry ([.ref h0]) (n := 1) (Nat.le_of_ble_eq_true rfl)
  rw [lg_entry_eq]
  generalize (lg_sl ([.ref h0]) ++ List.replicate (1 - (lg_sl ([.ref h0])).length) Slot.unset).toArray = ls at hl ⊢
  have hl : lv_has ls 1 [(0, .ref h0)] := hl
  refine lv_aload_n hx hb dX6_init_0 rfl (lv_at hl 0 rfl) ?_
  refine W.objInit hx hb hown (hts (.methodLink RX6 3 objectInit) (List.mem_of_getElem? (i := 1) rfl)) (hts (.instanceMethod objectInit) (List.mem_of_getElem? (i := 2) rfl)) (hts (.code objectInit ⟨#[0xb1]⟩ 1 none) (List.mem_of_getElem? (i := 3) rfl)) rfl (by rw [hml]; exact hl.1) rfl dX6_init_1 (Nat.le_of_ble_eq_true rfl) (Nat.le_of_ble_eq_true rfl) ?_
  refine W.eq (g2 := F0 m 4 ls []) rfl ?_
  refine lv_aload_n hx hb dX6_init_4 rfl (lv_at hl 0 rfl) ?_
  refine va_new (ci := 7) (fs := [.int 0, .null, .null, .null]) (C := RX7) (T := TX7) (N := 4) hx hb hts hin_X7 tyX7 tyX7_ok hown (hts (.classLink RX6 9 RX7) (List.mem_of_getElem? (i := 4) rfl)) (hts (.instantiable RX7 4) (List.mem_of_getElem? (i := 5) rfl)) (hts (.initialized RX7) (List.mem_of_getElem? (i := 6) rfl)) hK hP hD hS hA rfl (fun j hj => by rcases (show j = 0 ∨ j = 1 ∨ j = 2 ∨ j = 3 by omega) with rfl | rfl | rfl | rfl <;> rfl) (Nat.le_of_ble_eq_true rfl) (Nat.le_of_ble_eq_true rfl) dX6_init_5 (fun q1 H hP hD hS => ?_)
  refine W.widen (k := 1) (n := 4) (Nat.le_of_ble_eq_true rfl) (Nat.le_of_ble_eq_true rfl) ?_
  have hP : va_P D vwCl [(h0, .inr (6, [.int 0, .int 0, .int 0, .null, .null, .int 0, .int 0, .int 0, .int 0, .int 0, .int 0, .int 0, .null, .int 0, .null])), (q1, .inr (7, [.int 0, .null, .null, .null]))] H := hP
  have hD : va_D A [(h0, .inr (6, [.int 0, .int 0, .int 0, .null, .null, .int 0, .int 0, .int 0, .int 0, .int 0, .int 0, .int 0, .null, .int 0, .null])), (q1, .inr (7, [.int 0, .null, .null, .null]))] := hD
  refine lv_dup hx hb dX6_init_8 rfl ?_
  have hPc := hP.sub (ws' := [(q1, .inr (7, [.int 0, .null, .null, .null]))]) [1] rfl
  have hKc := hK.sub (tys' := [(cI, .int)]) [0] rfl
  have hDc := hD.sub (ws' := [(q1, .inr (7, [.int 0, .null, .null, .null]))]) [1] (by decide) rfl
  have hFc := va_free (wc := [(q1, .inr (7, [.int 0, .null, .null, .null]))]) hD hS hA [1] rfl
  refine va_callv (va_runI (As := []) (rest := [.ref q1, .ref h0]) ⟨hx, hb, hml, hown, hts⟩ (i_X7 l D _ q1 cI) (cwI 0 hts g_i_X6_i_X7_11 rfl rfl rfl (hts (.initialized RX7) (List.mem_of_getElem? (i := 6) rfl)) (hts (.methodLink RX6 11 yX7_init) (List.mem_of_getElem? (i := 7) rfl)) (hts (.instanceMethod yX7_init) (List.mem_of_getElem? (i := 8) rfl)) rfl (by decide +kernel) ⟨(Nat.le_of_ble_eq_true rfl), (Nat.le_of_ble_eq_true rfl)⟩) (PcWC_S hPc hKc hDc hN) rfl rfl hl.1 rfl (lv_room (Nat.le_of_ble_eq_true rfl)) dX6_init_9 ⟨(Nat.le_of_ble_eq_true rfl), (Nat.le_of_ble_eq_true rfl)⟩) hS (fun q _ h => hFc q h) hFc (fun uu tt H locs htt hvm hw hB hz1 hk1 hS => ?_)
  obtain ⟨qb3, rfl⟩ : ∃ z, z = uu := ⟨_, rfl⟩
  obtain ⟨hP1, hK1, hD1⟩ := hB
  rw [htt] at hP1
  have hK1 := va_K.moved hvm.symm hK1
  have hP1 : va_P D vwCl [(qb3 1, .inr (7, [.int 0, .ref (qb3 2), .ref (qb3 3), .ref (qb3 4)])), (qb3 2, .inl (cI, 600, .inl (fun _ => 0))), (qb3 3, .inl (cI, 600, .inl (fun _ => 0))), (qb3 4, .inl (cI, 600, .inl (fun _ => 0)))] H := hP1
  obtain ⟨hP, hD⟩ := va_join (wr := [(h0, .inr (6, [.int 0, .int 0, .int 0, .null, .null, .int 0, .int 0, .int 0, .int 0, .int 0, .int 0, .int 0, .null, .int 0, .null]))]) (w1 := [(qb3 1, .inr (7, [.int 0, .ref (qb3 2), .ref (qb3 3), .ref (qb3 4)])), (qb3 2, .inl (cI, 600, .inl (fun _ => 0))), (qb3 3, .inl (cI, 600, .inl (fun _ => 0))), (qb3 4, .inl (cI, 600, .inl (fun _ => 0)))]) hP hD [1] [0] rfl rfl (by decide) (by decide) hk1 hFc hP1 hD1
  have hP : va_P D vwCl [(h0, .inr (6, [.int 0, .int 0, .int 0, .null, .null, .int 0, .int 0, .int 0, .int 0, .int 0, .int 0, .int 0, .null, .int 0, .null])), (qb3 1, .inr (7, [.int 0, .ref (qb3 2), .ref (qb3 3), .ref (qb3 4)])), (qb3 2, .inl (cI, 600, .inl (fun _ => 0))), (qb3 3, .inl (cI, 600, .inl (fun _ => 0))), (qb3 4, .inl (cI, 600, .inl (fun _ => 0)))] H := hP
  have hD : va_D A [(h0, .inr (6, [.int 0, .int 0, .int 0, .null, .null, .int 0, .int 0, .int 0, .int 0, .int 0, .int 0, .int 0, .null, .int 0, .null])), (qb3 1, .inr (7, [.int 0, .ref (qb3 2), .ref (qb3 3), .ref (qb3 4)])), (qb3 2, .inl (cI, 600, .inl (fun _ => 0))), (qb3 3, .inl (cI, 600, .inl (fun _ => 0))), (qb3 4, .inl (cI, 600, .inl (fun _ => 0)))] := hD
  refine W.widen (k := 4) (n := 1804) (Nat.le_of_ble_eq_true rfl) (Nat.le_of_ble_eq_true rfl) ?_
  try dsimp only at hw
  clear hz1 hk1 hFc hPc hKc hDc
  have hq_qb3 : qb3 1 = q1 := hw
  rw [hq_qb3] at hP hD
  have hP : va_P D vwCl [(h0, .inr (6, [.int 0, .int 0, .int 0, .null, .null, .int 0, .int 0, .int 0, .int 0, .int 0, .int 0, .int 0, .null, .int 0, .null])), (q1, .inr (7, [.int 0, .ref (qb3 2), .ref (qb3 3), .ref (qb3 4)])), (qb3 2, .inl (cI, 600, .inl (fun _ => 0))), (qb3 3, .inl (cI, 600, .inl (fun _ => 0))), (qb3 4, .inl (cI, 600, .inl (fun _ => 0)))] H := hP
  have hD : va_D A [(h0, .inr (6, [.int 0, .int 0, .int 0, .null, .null, .int 0, .int 0, .int 0, .int 0, .int 0, .int 0, .int 0, .null, .int 0, .null])), (q1, .inr (7, [.int 0, .ref (qb3 2), .ref (qb3 3), .ref (qb3 4)])), (qb3 2, .inl (cI, 600, .inl (fun _ => 0))), (qb3 3, .inl (cI, 600, .inl (fun _ => 0))), (qb3 4, .inl (cI, 600, .inl (fun _ => 0)))] := hD
  refine va_putF (D := D) (ci := 6) (v := .ref q1) (ty := (.object "ClashFree$Program")) (C := RX6) (T := TX6) (N := 15) hx hb hts hin_X6 tyX6 tyX6_ok nmX6 hown hK hP hD hS 0 rfl rfl 3 (by decide) (hts (.fieldLink RX6 12 "ClashFree$Parser" "program" "LClashFree$Program;") (List.mem_of_getElem? (i := 9) rfl)) (fun _ h9 => h9) rfl hin rfl (by decide +kernel) rfl rfl (Nat.le_of_ble_eq_true rfl) dX6_init_12 (fun H locs hP hD hS => ?_)
  have hP : va_P D vwCl [(h0, .inr (6, [.int 0, .int 0, .int 0, .ref q1, .null, .int 0, .int 0, .int 0, .int 0, .int 0, .int 0, .int 0, .null, .int 0, .null])), (q1, .inr (7, [.int 0, .ref (qb3 2), .ref (qb3 3), .ref (qb3 4)])), (qb3 2, .inl (cI, 600, .inl (fun _ => 0))), (qb3 3, .inl (cI, 600, .inl (fun _ => 0))), (qb3 4, .inl (cI, 600, .inl (fun _ => 0)))] H := hP
  have hD : va_D A [(h0, .inr (6, [.int 0, .int 0, .int 0, .ref q1, .null, .int 0, .int 0, .int 0, .int 0, .int 0, .int 0, .int 0, .null, .int 0, .null])), (q1, .inr (7, [.int 0, .ref (qb3 2), .ref (qb3 3), .ref (qb3 4)])), (qb3 2, .inl (cI, 600, .inl (fun _ => 0))), (qb3 3, .inl (cI, 600, .inl (fun _ => 0))), (qb3 4, .inl (cI, 600, .inl (fun _ => 0)))] := hD
  refine lv_aload_n hx hb dX6_init_15 rfl (lv_at hl 0 rfl) ?_
  refine va_new (ci := 8) (fs := [.null, .int 0, .int 0, .int 0, .int 0, .int 0, .int 0]) (C := RX8) (T := TX8) (N := 7) hx hb hts hin_X8 tyX8 tyX8_ok hown (hts (.classLink RX6 18 RX8) (List.mem_of_getElem? (i := 10) rfl)) (hts (.instantiable RX8 7) (List.mem_of_getElem? (i := 11) rfl)) (hts (.initialized RX8) (List.mem_of_getElem? (i := 12) rfl)) hK hP hD hS hA rfl (fun j hj => by rcases (show j = 0 ∨ j = 1 ∨ j = 2 ∨ j = 3 ∨ j = 4 ∨ j = 5 ∨ j = 6 by omega) with rfl | rfl | rfl | rfl | rfl | rfl | rfl <;> rfl) (Nat.le_of_ble_eq_true rfl) (Nat.le_of_ble_eq_true rfl) dX6_init_16 (fun q4 H hP hD hS => ?_)
  refine W.widen (k := 5) (n := 1811) (Nat.le_of_ble_eq_true rfl) (Nat.le_of_ble_eq_true rfl) ?_
  have hP : va_P D vwCl [(h0, .inr (6, [.int 0, .int 0, .int 0, .ref q1, .null, .int 0, .int 0, .int 0, .int 0, .int 0, .int 0, .int 0, .null, .int 0, .null])), (q1, .inr (7, [.int 0, .ref (qb3 2), .ref (qb3 3), .ref (qb3 4)])), (qb3 2, .inl (cI, 600, .inl (fun _ => 0))), (qb3 3, .inl (cI, 600, .inl (fun _ => 0))), (qb3 4, .inl (cI, 600, .inl (fun _ => 0))), (q4, .inr (8, [.null, .int 0, .int 0, .int 0, .int 0, .int 0, .int 0]))] H := hP
  have hD : va_D A [(h0, .inr (6, [.int 0, .int 0, .int 0, .ref q1, .null, .int 0, .int 0, .int 0, .int 0, .int 0, .int 0, .int 0, .null, .int 0, .null])), (q1, .inr (7, [.int 0, .ref (qb3 2), .ref (qb3 3), .ref (qb3 4)])), (qb3 2, .inl (cI, 600, .inl (fun _ => 0))), (qb3 3, .inl (cI, 600, .inl (fun _ => 0))), (qb3 4, .inl (cI, 600, .inl (fun _ => 0))), (q4, .inr (8, [.null, .int 0, .int 0, .int 0, .int 0, .int 0, .int 0]))] := hD
  refine lv_dup hx hb dX6_init_19 rfl ?_
  have hPc := hP.sub (ws' := [(q4, .inr (8, [.null, .int 0, .int 0, .int 0, .int 0, .int 0, .int 0]))]) [5] rfl
  have hKc := hK.sub (tys' := []) [] rfl
  have hDc := hD.sub (ws' := [(q4, .inr (8, [.null, .int 0, .int 0, .int 0, .int 0, .int 0, .int 0]))]) [5] (by decide) rfl
  have hFc := va_free (wc := [(q4, .inr (8, [.null, .int 0, .int 0, .int 0, .int 0, .int 0, .int 0]))]) hD hS hA [5] rfl
  refine va_callv (va_runIN (As := []) (rest := [.ref q4, .ref h0]) ⟨hx, hb, hml, hown, hts⟩ (i_X8 l D _ q4) ⟨va_cnB 0 hts g_i_X6_i_X8_20 rfl rfl rfl hN.2.2.2.2.2.2.1 (hts (.initialized RX8) (List.mem_of_getElem? (i := 12) rfl)) (by decide +kernel) ⟨(Nat.le_of_ble_eq_true rfl), (Nat.le_of_ble_eq_true rfl)⟩, rfl, (hts (.instanceMethod yX8_init) (List.mem_of_getElem? (i := 13) rfl))⟩ (PcWC_S hPc hKc hDc hN) rfl rfl hl.1 rfl (lv_room (Nat.le_of_ble_eq_true rfl)) dX6_init_20 ⟨(Nat.le_of_ble_eq_true rfl), (Nat.le_of_ble_eq_true rfl)⟩) hS (fun q _ h => hFc q h) hFc (fun uu tt H locs htt hvm hw hB hz1 hk1 hS => ?_)
  have hu := uu
  obtain ⟨hP1, hK1, hD1⟩ := hB
  rw [htt] at hP1
  have hK1 := va_K.moved hvm.symm hK1
  have hP1 : va_P D vwCl [(q4, .inr (8, [.null, .int 0, .int 0, .int 0, .int 0, .int 0, .int 0]))] H := hP1
  obtain ⟨hP, hD⟩ := va_join (wr := [(h0, .inr (6, [.int 0, .int 0, .int 0, .ref q1, .null, .int 0, .int 0, .int 0, .int 0, .int 0, .int 0, .int 0, .null, .int 0, .null])), (q1, .inr (7, [.int 0, .ref (qb3 2), .ref (qb3 3), .ref (qb3 4)])), (qb3 2, .inl (cI, 600, .inl (fun _ => 0))), (qb3 3, .inl (cI, 600, .inl (fun _ => 0))), (qb3 4, .inl (cI, 600, .inl (fun _ => 0)))]) (w1 := [(q4, .inr (8, [.null, .int 0, .int 0, .int 0, .int 0, .int 0, .int 0]))]) hP hD [5] [0, 1, 2, 3, 4] rfl rfl (by decide) (by decide) hk1 hFc hP1 hD1
  have hP : va_P D vwCl [(h0, .inr (6, [.int 0, .int 0, .int 0, .ref q1, .null, .int 0, .int 0, .int 0, .int 0, .int 0, .int 0, .int 0, .null, .int 0, .null])), (q1, .inr (7, [.int 0, .ref (qb3 2), .ref (qb3 3), .ref (qb3 4)])), (qb3 2, .inl (cI, 600, .inl (fun _ => 0))), (qb3 3, .inl (cI, 600, .inl (fun _ => 0))), (qb3 4, .inl (cI, 600, .inl (fun _ => 0))), (q4, .inr (8, [.null, .int 0, .int 0, .int 0, .int 0, .int 0, .int 0]))] H := hP
  have hD : va_D A [(h0, .inr (6, [.int 0, .int 0, .int 0, .ref q1, .null, .int 0, .int 0, .int 0, .int 0, .int 0, .int 0, .int 0, .null, .int 0, .null])), (q1, .inr (7, [.int 0, .ref (qb3 2), .ref (qb3 3), .ref (qb3 4)])), (qb3 2, .inl (cI, 600, .inl (fun _ => 0))), (qb3 3, .inl (cI, 600, .inl (fun _ => 0))), (qb3 4, .inl (cI, 600, .inl (fun _ => 0))), (q4, .inr (8, [.null, .int 0, .int 0, .int 0, .int 0, .int 0, .int 0]))] := hD
  try dsimp only at hw
  clear hz1 hk1 hFc hPc hKc hDc
  refine va_putF (D := D) (ci := 6) (v := .ref q4) (ty := (.object "ClashFree$Scanner")) (C := RX6) (T := TX6) (N := 15) hx hb hts hin_X6 tyX6 tyX6_ok nmX6 hown hK hP hD hS 0 rfl rfl 4 (by decide) (hts (.fieldLink RX6 21 "ClashFree$Parser" "scan" "LClashFree$Scanner;") (List.mem_of_getElem? (i := 14) rfl)) (fun _ h9 => h9) rfl hin rfl (by decide +kernel) rfl rfl (Nat.le_of_ble_eq_true rfl) dX6_init_23 (fun H locs hP hD hS => ?_)
  have hP : va_P D vwCl [(h0, .inr (6, [.int 0, .int 0, .int 0, .ref q1, .ref q4, .int 0, .int 0, .int 0, .int 0, .int 0, .int 0, .int 0, .null, .int 0, .null])), (q1, .inr (7, [.int 0, .ref (qb3 2), .ref (qb3 3), .ref (qb3 4)])), (qb3 2, .inl (cI, 600, .inl (fun _ => 0))), (qb3 3, .inl (cI, 600, .inl (fun _ => 0))), (qb3 4, .inl (cI, 600, .inl (fun _ => 0))), (q4, .inr (8, [.null, .int 0, .int 0, .int 0, .int 0, .int 0, .int 0]))] H := hP
  have hD : va_D A [(h0, .inr (6, [.int 0, .int 0, .int 0, .ref q1, .ref q4, .int 0, .int 0, .int 0, .int 0, .int 0, .int 0, .int 0, .null, .int 0, .null])), (q1, .inr (7, [.int 0, .ref (qb3 2), .ref (qb3 3), .ref (qb3 4)])), (qb3 2, .inl (cI, 600, .inl (fun _ => 0))), (qb3 3, .inl (cI, 600, .inl (fun _ => 0))), (qb3 4, .inl (cI, 600, .inl (fun _ => 0))), (q4, .inr (8, [.null, .int 0, .int 0, .int 0, .int 0, .int 0, .int 0]))] := hD
  refine lv_aload_n hx hb dX6_init_26 rfl (lv_at hl 0 rfl) ?_
  refine lv_iconst (v := 5) hx hb dX6_init_27 (by decide) ?_
  refine va_newa (atype := .int) (ty := .int) (N' := 5) (a0 := (5, .inl (fun _ => 0))) hx hb (hts (.arrayClass .int) (List.mem_of_getElem? (i := 15) rfl)) rfl hK hP hD hS hA (fun _ => rfl) (by decide) (by decide) (Nat.le_of_ble_eq_true rfl) (Nat.le_of_ble_eq_true rfl) (Nat.le_of_ble_eq_true rfl) dX6_init_28 (fun q6 cq6 H hK hP hD hS => ?_)
  refine W.widen (k := 6) (n := 1816) (Nat.le_of_ble_eq_true rfl) (Nat.le_of_ble_eq_true rfl) ?_
  have hK : va_K D vwCl [(cI, .int), (cq6, .int)] s := hK
  have hP : va_P D vwCl [(h0, .inr (6, [.int 0, .int 0, .int 0, .ref q1, .ref q4, .int 0, .int 0, .int 0, .int 0, .int 0, .int 0, .int 0, .null, .int 0, .null])), (q1, .inr (7, [.int 0, .ref (qb3 2), .ref (qb3 3), .ref (qb3 4)])), (qb3 2, .inl (cI, 600, .inl (fun _ => 0))), (qb3 3, .inl (cI, 600, .inl (fun _ => 0))), (qb3 4, .inl (cI, 600, .inl (fun _ => 0))), (q4, .inr (8, [.null, .int 0, .int 0, .int 0, .int 0, .int 0, .int 0])), (q6, .inl (cq6, 5, .inl (fun _ => 0)))] H := hP
  have hD : va_D A [(h0, .inr (6, [.int 0, .int 0, .int 0, .ref q1, .ref q4, .int 0, .int 0, .int 0, .int 0, .int 0, .int 0, .int 0, .null, .int 0, .null])), (q1, .inr (7, [.int 0, .ref (qb3 2), .ref (qb3 3), .ref (qb3 4)])), (qb3 2, .inl (cI, 600, .inl (fun _ => 0))), (qb3 3, .inl (cI, 600, .inl (fun _ => 0))), (qb3 4, .inl (cI, 600, .inl (fun _ => 0))), (q4, .inr (8, [.null, .int 0, .int 0, .int 0, .int 0, .int 0, .int 0])), (q6, .inl (cq6, 5, .inl (fun _ => 0)))] := hD
  obtain rfl : cI = cq6 := va_K1 hK (i := 0) (j := 1) rfl rfl
  have hK := hK.sub (tys' := [(cI, .int)]) [0] rfl
  have hP : va_P D vwCl [(h0, .inr (6, [.int 0, .int 0, .int 0, .ref q1, .ref q4, .int 0, .int 0, .int 0, .int 0, .int 0, .int 0, .int 0, .null, .int 0, .null])), (q1, .inr (7, [.int 0, .ref (qb3 2), .ref (qb3 3), .ref (qb3 4)])), (qb3 2, .inl (cI, 600, .inl (fun _ => 0))), (qb3 3, .inl (cI, 600, .inl (fun _ => 0))), (qb3 4, .inl (cI, 600, .inl (fun _ => 0))), (q4, .inr (8, [.null, .int 0, .int 0, .int 0, .int 0, .int 0, .int 0])), (q6, .inl (cI, 5, .inl (fun _ => 0)))] H := hP
  have hD : va_D A [(h0, .inr (6, [.int 0, .int 0, .int 0, .ref q1, .ref q4, .int 0, .int 0, .int 0, .int 0, .int 0, .int 0, .int 0, .null, .int 0, .null])), (q1, .inr (7, [.int 0, .ref (qb3 2), .ref (qb3 3), .ref (qb3 4)])), (qb3 2, .inl (cI, 600, .inl (fun _ => 0))), (qb3 3, .inl (cI, 600, .inl (fun _ => 0))), (qb3 4, .inl (cI, 600, .inl (fun _ => 0))), (q4, .inr (8, [.null, .int 0, .int 0, .int 0, .int 0, .int 0, .int 0])), (q6, .inl (cI, 5, .inl (fun _ => 0)))] := hD
  refine va_putF (D := D) (ci := 6) (v := .ref q6) (ty := (.array .int)) (C := RX6) (T := TX6) (N := 15) hx hb hts hin_X6 tyX6 tyX6_ok nmX6 hown hK hP hD hS 0 rfl rfl 12 (by decide) (hts (.fieldLink RX6 25 "ClashFree$Parser" "opened" "[I") (List.mem_of_getElem? (i := 16) rfl)) (fun _ h9 => h9) rfl hin rfl (by decide +kernel) rfl rfl (Nat.le_of_ble_eq_true rfl) dX6_init_30 (fun H locs hP hD hS => ?_)
  have hP : va_P D vwCl [(h0, .inr (6, [.int 0, .int 0, .int 0, .ref q1, .ref q4, .int 0, .int 0, .int 0, .int 0, .int 0, .int 0, .int 0, .ref q6, .int 0, .null])), (q1, .inr (7, [.int 0, .ref (qb3 2), .ref (qb3 3), .ref (qb3 4)])), (qb3 2, .inl (cI, 600, .inl (fun _ => 0))), (qb3 3, .inl (cI, 600, .inl (fun _ => 0))), (qb3 4, .inl (cI, 600, .inl (fun _ => 0))), (q4, .inr (8, [.null, .int 0, .int 0, .int 0, .int 0, .int 0, .int 0])), (q6, .inl (cI, 5, .inl (fun _ => 0)))] H := hP
  have hD : va_D A [(h0, .inr (6, [.int 0, .int 0, .int 0, .ref q1, .ref q4, .int 0, .int 0, .int 0, .int 0, .int 0, .int 0, .int 0, .ref q6, .int 0, .null])), (q1, .inr (7, [.int 0, .ref (qb3 2), .ref (qb3 3), .ref (qb3 4)])), (qb3 2, .inl (cI, 600, .inl (fun _ => 0))), (qb3 3, .inl (cI, 600, .inl (fun _ => 0))), (qb3 4, .inl (cI, 600, .inl (fun _ => 0))), (q4, .inr (8, [.null, .int 0, .int 0, .int 0, .int 0, .int 0, .int 0])), (q6, .inl (cI, 5, .inl (fun _ => 0)))] := hD
  refine lv_aload_n hx hb dX6_init_33 rfl (lv_at hl 0 rfl) ?_
  refine lv_sipush (v := 600) hx hb dX6_init_34 (by decide) ?_
  refine va_newa (atype := .int) (ty := .int) (N' := 600) (a0 := (600, .inl (fun _ => 0))) hx hb (hts (.arrayClass .int) (List.mem_of_getElem? (i := 15) rfl)) rfl hK hP hD hS hA (fun _ => rfl) (by decide) (by decide) (Nat.le_of_ble_eq_true rfl) (Nat.le_of_ble_eq_true rfl) (Nat.le_of_ble_eq_true rfl) dX6_init_37 (fun q7 cq7 H hK hP hD hS => ?_)
  refine W.widen (k := 7) (n := 2416) (Nat.le_of_ble_eq_true rfl) (Nat.le_of_ble_eq_true rfl) ?_
  have hK : va_K D vwCl [(cI, .int), (cq7, .int)] s := hK
  have hP : va_P D vwCl [(h0, .inr (6, [.int 0, .int 0, .int 0, .ref q1, .ref q4, .int 0, .int 0, .int 0, .int 0, .int 0, .int 0, .int 0, .ref q6, .int 0, .null])), (q1, .inr (7, [.int 0, .ref (qb3 2), .ref (qb3 3), .ref (qb3 4)])), (qb3 2, .inl (cI, 600, .inl (fun _ => 0))), (qb3 3, .inl (cI, 600, .inl (fun _ => 0))), (qb3 4, .inl (cI, 600, .inl (fun _ => 0))), (q4, .inr (8, [.null, .int 0, .int 0, .int 0, .int 0, .int 0, .int 0])), (q6, .inl (cI, 5, .inl (fun _ => 0))), (q7, .inl (cq7, 600, .inl (fun _ => 0)))] H := hP
  have hD : va_D A [(h0, .inr (6, [.int 0, .int 0, .int 0, .ref q1, .ref q4, .int 0, .int 0, .int 0, .int 0, .int 0, .int 0, .int 0, .ref q6, .int 0, .null])), (q1, .inr (7, [.int 0, .ref (qb3 2), .ref (qb3 3), .ref (qb3 4)])), (qb3 2, .inl (cI, 600, .inl (fun _ => 0))), (qb3 3, .inl (cI, 600, .inl (fun _ => 0))), (qb3 4, .inl (cI, 600, .inl (fun _ => 0))), (q4, .inr (8, [.null, .int 0, .int 0, .int 0, .int 0, .int 0, .int 0])), (q6, .inl (cI, 5, .inl (fun _ => 0))), (q7, .inl (cq7, 600, .inl (fun _ => 0)))] := hD
  obtain rfl : cI = cq7 := va_K1 hK (i := 0) (j := 1) rfl rfl
  have hK := hK.sub (tys' := [(cI, .int)]) [0] rfl
  have hP : va_P D vwCl [(h0, .inr (6, [.int 0, .int 0, .int 0, .ref q1, .ref q4, .int 0, .int 0, .int 0, .int 0, .int 0, .int 0, .int 0, .ref q6, .int 0, .null])), (q1, .inr (7, [.int 0, .ref (qb3 2), .ref (qb3 3), .ref (qb3 4)])), (qb3 2, .inl (cI, 600, .inl (fun _ => 0))), (qb3 3, .inl (cI, 600, .inl (fun _ => 0))), (qb3 4, .inl (cI, 600, .inl (fun _ => 0))), (q4, .inr (8, [.null, .int 0, .int 0, .int 0, .int 0, .int 0, .int 0])), (q6, .inl (cI, 5, .inl (fun _ => 0))), (q7, .inl (cI, 600, .inl (fun _ => 0)))] H := hP
  have hD : va_D A [(h0, .inr (6, [.int 0, .int 0, .int 0, .ref q1, .ref q4, .int 0, .int 0, .int 0, .int 0, .int 0, .int 0, .int 0, .ref q6, .int 0, .null])), (q1, .inr (7, [.int 0, .ref (qb3 2), .ref (qb3 3), .ref (qb3 4)])), (qb3 2, .inl (cI, 600, .inl (fun _ => 0))), (qb3 3, .inl (cI, 600, .inl (fun _ => 0))), (qb3 4, .inl (cI, 600, .inl (fun _ => 0))), (q4, .inr (8, [.null, .int 0, .int 0, .int 0, .int 0, .int 0, .int 0])), (q6, .inl (cI, 5, .inl (fun _ => 0))), (q7, .inl (cI, 600, .inl (fun _ => 0)))] := hD
  refine va_putF (D := D) (ci := 6) (v := .ref q7) (ty := (.array .int)) (C := RX6) (T := TX6) (N := 15) hx hb hts hin_X6 tyX6 tyX6_ok nmX6 hown hK hP hD hS 0 rfl rfl 14 (by decide) (hts (.fieldLink RX6 29 "ClashFree$Parser" "waiting" "[I") (List.mem_of_getElem? (i := 17) rfl)) (fun _ h9 => h9) rfl hin rfl (by decide +kernel) rfl rfl (Nat.le_of_ble_eq_true rfl) dX6_init_39 (fun H locs hP hD hS => ?_)
  have hP : va_P D vwCl [(h0, .inr (6, [.int 0, .int 0, .int 0, .ref q1, .ref q4, .int 0, .int 0, .int 0, .int 0, .int 0, .int 0, .int 0, .ref q6, .int 0, .ref q7])), (q1, .inr (7, [.int 0, .ref (qb3 2), .ref (qb3 3), .ref (qb3 4)])), (qb3 2, .inl (cI, 600, .inl (fun _ => 0))), (qb3 3, .inl (cI, 600, .inl (fun _ => 0))), (qb3 4, .inl (cI, 600, .inl (fun _ => 0))), (q4, .inr (8, [.null, .int 0, .int 0, .int 0, .int 0, .int 0, .int 0])), (q6, .inl (cI, 5, .inl (fun _ => 0))), (q7, .inl (cI, 600, .inl (fun _ => 0)))] H := hP
  have hD : va_D A [(h0, .inr (6, [.int 0, .int 0, .int 0, .ref q1, .ref q4, .int 0, .int 0, .int 0, .int 0, .int 0, .int 0, .int 0, .ref q6, .int 0, .ref q7])), (q1, .inr (7, [.int 0, .ref (qb3 2), .ref (qb3 3), .ref (qb3 4)])), (qb3 2, .inl (cI, 600, .inl (fun _ => 0))), (qb3 3, .inl (cI, 600, .inl (fun _ => 0))), (qb3 4, .inl (cI, 600, .inl (fun _ => 0))), (q4, .inr (8, [.null, .int 0, .int 0, .int 0, .int 0, .int 0, .int 0])), (q6, .inl (cI, 5, .inl (fun _ => 0))), (q7, .inl (cI, 600, .inl (fun _ => 0)))] := hD
  exact W.vret hx hb hr (fun t ht hW => ⟨⟨(fun i => [h0, q1, qb3 2, qb3 3, qb3 4, q4, q6, q7].getD i 0), rfl, rfl, by rw [ht]; exact hP.sub [0, 1, 2, 3, 4, 5, 6, 7] rfl, va_K.moved hW.alike (hK.sub [0] rfl), hD.sub [0, 1, 2, 3, 4, 5, 6, 7] (by decide) rfl⟩, hS.F ht⟩) hS.2.2 dX6_init_42

