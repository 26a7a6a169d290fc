theorem dX6_note_0 : decode cX6_note 0 = .ok (.aload_n 0, 1) := by decide +kernel
theorem dX6_note_1 : decode cX6_note 1 = .ok (.getfield 32, 3) := by decide +kernel
theorem dX6_note_4 : decode cX6_note 4 = .ok (.ifCond .eq 27, 3) := by decide +kernel
theorem dX6_note_7 : decode cX6_note 7 = .ok (.iload_n 2, 1) := by decide +kernel
theorem dX6_note_8 : decode cX6_note 8 = .ok (.aload_n 0, 1) := by decide +kernel
theorem dX6_note_9 : decode cX6_note 9 = .ok (.getfield 73, 3) := by decide +kernel
theorem dX6_note_12 : decode cX6_note 12 = .ok (.if_icmp .lt 19, 3) := by decide +kernel
theorem dX6_note_15 : decode cX6_note 15 = .ok (.iload_n 2, 1) := by decide +kernel
theorem dX6_note_16 : decode cX6_note 16 = .ok (.aload_n 0, 1) := by decide +kernel
theorem dX6_note_17 : decode cX6_note 17 = .ok (.getfield 73, 3) := by decide +kernel
theorem dX6_note_20 : decode cX6_note 20 = .ok (.if_icmp .ne 29, 3) := by decide +kernel
theorem dX6_note_23 : decode cX6_note 23 = .ok (.iload_n 1, 1) := by decide +kernel
theorem dX6_note_24 : decode cX6_note 24 = .ok (.aload_n 0, 1) := by decide +kernel
theorem dX6_note_25 : decode cX6_note 25 = .ok (.getfield 32, 3) := by decide +kernel
theorem dX6_note_28 : decode cX6_note 28 = .ok (.if_icmp .ge 21, 3) := by decide +kernel
theorem dX6_note_31 : decode cX6_note 31 = .ok (.aload_n 0, 1) := by decide +kernel
theorem dX6_note_32 : decode cX6_note 32 = .ok (.iload_n 1, 1) := by decide +kernel
theorem dX6_note_33 : decode cX6_note 33 = .ok (.putfield 32, 3) := by decide +kernel
theorem dX6_note_36 : decode cX6_note 36 = .ok (.aload_n 0, 1) := by decide +kernel
theorem dX6_note_37 : decode cX6_note 37 = .ok (.iload_n 2, 1) := by decide +kernel
theorem dX6_note_38 : decode cX6_note 38 = .ok (.putfield 73, 3) := by decide +kernel
theorem dX6_note_41 : decode cX6_note 41 = .ok (.aload_n 0, 1) := by decide +kernel
theorem dX6_note_42 : decode cX6_note 42 = .ok (.aload_n 0, 1) := by decide +kernel
theorem dX6_note_43 : decode cX6_note 43 = .ok (.getfield 49, 3) := by decide +kernel
theorem dX6_note_46 : decode cX6_note 46 = .ok (.putfield 76, 3) := by decide +kernel
theorem dX6_note_49 : decode cX6_note 49 = .ok (.return_, 1) := by decide +kernel
theorem dX6_refuse_0 : decode cX6_refuse 0 = .ok (.aload_n 0, 1) := by decide +kernel
theorem dX6_refuse_1 : decode cX6_refuse 1 = .ok (.iconst 1, 1) := by decide +kernel
theorem dX6_refuse_2 : decode cX6_refuse 2 = .ok (.aload_n 0, 1) := by decide +kernel
theorem dX6_refuse_3 : decode cX6_refuse 3 = .ok (.getfield 21, 3) := by decide +kernel
theorem dX6_refuse_6 : decode cX6_refuse 6 = .ok (.getfield 79, 3) := by decide +kernel
theorem dX6_refuse_9 : decode cX6_refuse 9 = .ok (.invokevirtual 55, 3) := by decide +kernel
theorem dX6_refuse_12 : decode cX6_refuse 12 = .ok (.aload_n 0, 1) := by decide +kernel
theorem dX6_refuse_13 : decode cX6_refuse 13 = .ok (.iconst 0, 1) := by decide +kernel
theorem dX6_refuse_14 : decode cX6_refuse 14 = .ok (.putfield 42, 3) := by decide +kernel
theorem dX6_refuse_17 : decode cX6_refuse 17 = .ok (.return_, 1) := by decide +kernel
theorem dX6_open_0 : decode cX6_open 0 = .ok (.aload_n 0, 1) := by decide +kernel
theorem dX6_open_1 : decode cX6_open 1 = .ok (.iconst 0, 1) := by decide +kernel
theorem dX6_open_2 : decode cX6_open 2 = .ok (.putfield 42, 3) := by decide +kernel
theorem dX6_open_5 : decode cX6_open 5 = .ok (.aload_n 0, 1) := by decide +kernel
theorem dX6_open_6 : decode cX6_open 6 = .ok (.getfield 49, 3) := by decide +kernel
theorem dX6_open_9 : decode cX6_open 9 = .ok (.iconst 5, 1) := by decide +kernel
theorem dX6_open_10 : decode cX6_open 10 = .ok (.if_icmp .lt 13, 3) := by decide +kernel
theorem dX6_open_13 : decode cX6_open 13 = .ok (.aload_n 0, 1) := by decide +kernel
theorem dX6_open_14 : decode cX6_open 14 = .ok (.iconst 3, 1) := by decide +kernel
theorem dX6_open_15 : decode cX6_open 15 = .ok (.aload_n 0, 1) := by decide +kernel
theorem dX6_open_16 : decode cX6_open 16 = .ok (.getfield 100, 3) := by decide +kernel
theorem dX6_open_19 : decode cX6_open 19 = .ok (.invokevirtual 55, 3) := by decide +kernel
theorem dX6_open_22 : decode cX6_open 22 = .ok (.return_, 1) := by decide +kernel
theorem dX6_open_23 : decode cX6_open 23 = .ok (.aload_n 0, 1) := by decide +kernel
theorem dX6_open_24 : decode cX6_open 24 = .ok (.getfield 25, 3) := by decide +kernel
theorem dX6_open_27 : decode cX6_open 27 = .ok (.aload_n 0, 1) := by decide +kernel
theorem dX6_open_28 : decode cX6_open 28 = .ok (.getfield 49, 3) := by decide +kernel
theorem dX6_open_31 : decode cX6_open 31 = .ok (.aload_n 0, 1) := by decide +kernel
theorem dX6_open_32 : decode cX6_open 32 = .ok (.getfield 12, 3) := by decide +kernel
theorem dX6_open_35 : decode cX6_open 35 = .ok (.getfield 36, 3) := by decide +kernel
theorem dX6_open_38 : decode cX6_open 38 = .ok (.iastore, 1) := by decide +kernel
theorem dX6_open_39 : decode cX6_open 39 = .ok (.aload_n 0, 1) := by decide +kernel
theorem dX6_open_40 : decode cX6_open 40 = .ok (.dup, 1) := by decide +kernel
theorem dX6_open_41 : decode cX6_open 41 = .ok (.getfield 49, 3) := by decide +kernel
theorem dX6_open_44 : decode cX6_open 44 = .ok (.iconst 1, 1) := by decide +kernel
theorem dX6_open_45 : decode cX6_open 45 = .ok (.iadd, 1) := by decide +kernel
theorem dX6_open_46 : decode cX6_open 46 = .ok (.putfield 49, 3) := by decide +kernel
theorem dX6_open_49 : decode cX6_open 49 = .ok (.aload_n 0, 1) := by decide +kernel
theorem dX6_open_50 : decode cX6_open 50 = .ok (.getfield 12, 3) := by decide +kernel
theorem dX6_open_53 : decode cX6_open 53 = .ok (.iload_n 1, 1) := by decide +kernel
theorem dX6_open_54 : decode cX6_open 54 = .ok (.iload_n 2, 1) := by decide +kernel
theorem dX6_open_55 : decode cX6_open 55 = .ok (.invokevirtual 118, 3) := by decide +kernel
theorem dX6_open_58 : decode cX6_open 58 = .ok (.aload_n 0, 1) := by decide +kernel
theorem dX6_open_59 : decode cX6_open 59 = .ok (.iconst 0, 1) := by decide +kernel
theorem dX6_open_60 : decode cX6_open 60 = .ok (.putfield 39, 3) := by decide +kernel
theorem dX6_open_63 : decode cX6_open 63 = .ok (.return_, 1) := by decide +kernel
theorem dX6_close_0 : decode cX6_close 0 = .ok (.aload_n 0, 1) := by decide +kernel
theorem dX6_close_1 : decode cX6_close 1 = .ok (.dup, 1) := by decide +kernel
theorem dX6_close_2 : decode cX6_close 2 = .ok (.getfield 49, 3) := by decide +kernel
theorem dX6_close_5 : decode cX6_close 5 = .ok (.iconst 1, 1) := by decide +kernel
theorem dX6_close_6 : decode cX6_close 6 = .ok (.isub, 1) := by decide +kernel
theorem dX6_close_7 : decode cX6_close 7 = .ok (.putfield 49, 3) := by decide +kernel
theorem dX6_close_10 : decode cX6_close 10 = .ok (.aload_n 0, 1) := by decide +kernel
theorem dX6_close_11 : decode cX6_close 11 = .ok (.getfield 25, 3) := by decide +kernel
theorem dX6_close_14 : decode cX6_close 14 = .ok (.aload_n 0, 1) := by decide +kernel
theorem dX6_close_15 : decode cX6_close 15 = .ok (.getfield 49, 3) := by decide +kernel
theorem dX6_close_18 : decode cX6_close 18 = .ok (.iaload, 1) := by decide +kernel
theorem dX6_close_19 : decode cX6_close 19 = .ok (.istore_n 1, 1) := by decide +kernel
theorem dX6_close_20 : decode cX6_close 20 = .ok (.aload_n 0, 1) := by decide +kernel
theorem dX6_close_21 : decode cX6_close 21 = .ok (.getfield 12, 3) := by decide +kernel
theorem dX6_close_24 : decode cX6_close 24 = .ok (.iload_n 1, 1) := by decide +kernel
theorem dX6_close_25 : decode cX6_close 25 = .ok (.aload_n 0, 1) := by decide +kernel
theorem dX6_close_26 : decode cX6_close 26 = .ok (.getfield 12, 3) := by decide +kernel
theorem dX6_close_29 : decode cX6_close 29 = .ok (.getfield 36, 3) := by decide +kernel
theorem dX6_close_32 : decode cX6_close 32 = .ok (.invokevirtual 143, 3) := by decide +kernel
theorem dX6_close_35 : decode cX6_close 35 = .ok (.aload_n 0, 1) := by decide +kernel
theorem dX6_close_36 : decode cX6_close 36 = .ok (.getfield 12, 3) := by decide +kernel
theorem dX6_close_39 : decode cX6_close 39 = .ok (.iload_n 1, 1) := by decide +kernel
theorem dX6_close_40 : decode cX6_close 40 = .ok (.invokevirtual 146, 3) := by decide +kernel
theorem dX6_close_43 : decode cX6_close 43 = .ok (.ifCond .eq 30, 3) := by decide +kernel
theorem dX6_close_46 : decode cX6_close 46 = .ok (.aload_n 0, 1) := by decide +kernel
theorem dX6_close_47 : decode cX6_close 47 = .ok (.getfield 12, 3) := by decide +kernel
theorem dX6_close_50 : decode cX6_close 50 = .ok (.bipush 93, 2) := by decide +kernel
theorem dX6_close_52 : decode cX6_close 52 = .ok (.iconst 0, 1) := by decide +kernel
theorem dX6_close_53 : decode cX6_close 53 = .ok (.invokevirtual 118, 3) := by decide +kernel
theorem dX6_close_56 : decode cX6_close 56 = .ok (.aload_n 0, 1) := by decide +kernel
theorem dX6_close_57 : decode cX6_close 57 = .ok (.getfield 12, 3) := by decide +kernel
theorem dX6_close_60 : decode cX6_close 60 = .ok (.aload_n 0, 1) := by decide +kernel
theorem dX6_close_61 : decode cX6_close 61 = .ok (.getfield 12, 3) := by decide +kernel
theorem dX6_close_64 : decode cX6_close 64 = .ok (.getfield 36, 3) := by decide +kernel
theorem dX6_close_67 : decode cX6_close 67 = .ok (.iconst 1, 1) := by decide +kernel
theorem dX6_close_68 : decode cX6_close 68 = .ok (.isub, 1) := by decide +kernel
theorem dX6_close_69 : decode cX6_close 69 = .ok (.iload_n 1, 1) := by decide +kernel
theorem dX6_close_70 : decode cX6_close 70 = .ok (.invokevirtual 143, 3) := by decide +kernel
theorem dX6_close_73 : decode cX6_close 73 = .ok (.aload_n 0, 1) := by decide +kernel
theorem dX6_close_74 : decode cX6_close 74 = .ok (.iconst 5, 1) := by decide +kernel
theorem dX6_close_75 : decode cX6_close 75 = .ok (.putfield 39, 3) := by decide +kernel
theorem dX6_close_78 : decode cX6_close 78 = .ok (.return_, 1) := by decide +kernel
theorem dX6_strength_0 : decode cX6_strength 0 = .ok (.iload_n 0, 1) := by decide +kernel
theorem dX6_strength_1 : decode cX6_strength 1 = .ok (.tableswitch 63 37 47 #[61, 63, 63, 63, 63, 61, 59, 63, 59, 63, 61], 59) := by decide +kernel
theorem dX6_strength_60 : decode cX6_strength 60 = .ok (.iconst 1, 1) := by decide +kernel
theorem dX6_strength_61 : decode cX6_strength 61 = .ok (.ireturn, 1) := by decide +kernel
theorem dX6_strength_62 : decode cX6_strength 62 = .ok (.iconst 2, 1) := by decide +kernel
theorem dX6_strength_63 : decode cX6_strength 63 = .ok (.ireturn, 1) := by decide +kernel
theorem dX6_strength_64 : decode cX6_strength 64 = .ok (.iconst 0, 1) := by decide +kernel
theorem dX6_strength_65 : decode cX6_strength 65 = .ok (.ireturn, 1) := by decide +kernel
theorem dX6_await_0 : decode cX6_await 0 = .ok (.aload_n 0, 1) := by decide +kernel
theorem dX6_await_1 : decode cX6_await 1 = .ok (.getfield 52, 3) := by decide +kernel
theorem dX6_await_4 : decode cX6_await 4 = .ok (.aload_n 0, 1) := by decide +kernel
theorem dX6_await_5 : decode cX6_await 5 = .ok (.getfield 29, 3) := by decide +kernel
theorem dX6_await_8 : decode cX6_await 8 = .ok (.arraylength, 1) := by decide +kernel
theorem dX6_await_9 : decode cX6_await 9 = .ok (.if_icmp .ge 23, 3) := by decide +kernel
theorem dX6_await_12 : decode cX6_await 12 = .ok (.aload_n 0, 1) := by decide +kernel
theorem dX6_await_13 : decode cX6_await 13 = .ok (.getfield 29, 3) := by decide +kernel
theorem dX6_await_16 : decode cX6_await 16 = .ok (.aload_n 0, 1) := by decide +kernel
theorem dX6_await_17 : decode cX6_await 17 = .ok (.getfield 52, 3) := by decide +kernel
theorem dX6_await_20 : decode cX6_await 20 = .ok (.iload_n 1, 1) := by decide +kernel
theorem dX6_await_21 : decode cX6_await 21 = .ok (.iastore, 1) := by decide +kernel
theorem dX6_await_22 : decode cX6_await 22 = .ok (.aload_n 0, 1) := by decide +kernel
theorem dX6_await_23 : decode cX6_await 23 = .ok (.dup, 1) := by decide +kernel
theorem dX6_await_24 : decode cX6_await 24 = .ok (.getfield 52, 3) := by decide +kernel
theorem dX6_await_27 : decode cX6_await 27 = .ok (.iconst 1, 1) := by decide +kernel
theorem dX6_await_28 : decode cX6_await 28 = .ok (.iadd, 1) := by decide +kernel
theorem dX6_await_29 : decode cX6_await 29 = .ok (.putfield 52, 3) := by decide +kernel
theorem dX6_await_32 : decode cX6_await 32 = .ok (.return_, 1) := by decide +kernel
theorem dX6_release_0 : decode cX6_release 0 = .ok (.aload_n 0, 1) := by decide +kernel
theorem dX6_release_1 : decode cX6_release 1 = .ok (.getfield 52, 3) := by decide +kernel
theorem dX6_release_4 : decode cX6_release 4 = .ok (.ifCond .le 51, 3) := by decide +kernel
theorem dX6_release_7 : decode cX6_release 7 = .ok (.aload_n 0, 1) := by decide +kernel
theorem dX6_release_8 : decode cX6_release 8 = .ok (.getfield 29, 3) := by decide +kernel
theorem dX6_release_11 : decode cX6_release 11 = .ok (.aload_n 0, 1) := by decide +kernel
theorem dX6_release_12 : decode cX6_release 12 = .ok (.getfield 52, 3) := by decide +kernel
theorem dX6_release_15 : decode cX6_release 15 = .ok (.iconst 1, 1) := by decide +kernel
theorem dX6_release_16 : decode cX6_release 16 = .ok (.isub, 1) := by decide +kernel
theorem dX6_release_17 : decode cX6_release 17 = .ok (.iaload, 1) := by decide +kernel
theorem dX6_release_18 : decode cX6_release 18 = .ok (.invokestatic 124, 3) := by decide +kernel
theorem dX6_release_21 : decode cX6_release 21 = .ok (.iload_n 1, 1) := by decide +kernel
theorem dX6_release_22 : decode cX6_release 22 = .ok (.if_icmp .lt 33, 3) := by decide +kernel
theorem dX6_release_25 : decode cX6_release 25 = .ok (.aload_n 0, 1) := by decide +kernel
theorem dX6_release_26 : decode cX6_release 26 = .ok (.dup, 1) := by decide +kernel
theorem dX6_release_27 : decode cX6_release 27 = .ok (.getfield 52, 3) := by decide +kernel
theorem dX6_release_30 : decode cX6_release 30 = .ok (.iconst 1, 1) := by decide +kernel
theorem dX6_release_31 : decode cX6_release 31 = .ok (.isub, 1) := by decide +kernel
theorem dX6_release_32 : decode cX6_release 32 = .ok (.putfield 52, 3) := by decide +kernel
theorem dX6_release_35 : decode cX6_release 35 = .ok (.aload_n 0, 1) := by decide +kernel
theorem dX6_release_36 : decode cX6_release 36 = .ok (.getfield 12, 3) := by decide +kernel
theorem dX6_release_39 : decode cX6_release 39 = .ok (.aload_n 0, 1) := by decide +kernel
theorem dX6_release_40 : decode cX6_release 40 = .ok (.getfield 29, 3) := by decide +kernel
theorem dX6_release_43 : decode cX6_release 43 = .ok (.aload_n 0, 1) := by decide +kernel
theorem dX6_release_44 : decode cX6_release 44 = .ok (.getfield 52, 3) := by decide +kernel
theorem dX6_release_47 : decode cX6_release 47 = .ok (.iaload, 1) := by decide +kernel
theorem dX6_release_48 : decode cX6_release 48 = .ok (.iconst 0, 1) := by decide +kernel
theorem dX6_release_49 : decode cX6_release 49 = .ok (.invokevirtual 118, 3) := by decide +kernel
theorem dX6_release_52 : decode cX6_release 52 = .ok (.goto (-52), 3) := by decide +kernel
theorem dX6_release_55 : decode cX6_release 55 = .ok (.return_, 1) := by decide +kernel
def own_k_note : List Cond := [.fieldLink RX6 32 "ClashFree$Parser" "fault" "I", .fieldLink RX6 73 "ClashFree$Parser" "faultPlace" "I", .fieldLink RX6 49 "ClashFree$Parser" "blocks" "I", .fieldLink RX6 76 "ClashFree$Parser" "faultDepth" "I"]
def wp_k_note : List Cond := .code yX6_note cX6_note 3 none :: (own_k_note ++ (wsX60 ++ ([] : List Cond)))
set_option maxRecDepth 20000 in
theorem inown_k_note : ∀ w ∈ own_k_note, w ∈ lw_tbl := mem_places [327, 329, 342, 331] (by decide +kernel)
set_option maxRecDepth 20000 in
theorem in_k_note : ∀ w ∈ wp_k_note, w ∈ lw_tbl := List.forall_mem_cons.mpr ⟨List.mem_of_getElem? (i := 918) (by decide +kernel), List.forall_mem_append.mpr ⟨inown_k_note, List.forall_mem_append.mpr ⟨lwb_X6, fun _ h => absurd h List.not_mem_nil⟩⟩⟩
set_option maxRecDepth 20000 in
theorem good_k_note : wp_k_note.all goodWord = true := by decide +kernel
set_option maxHeartbeats 4000000 in
set_option maxRecDepth 100000 in
theorem k_note (l : Launch) (D : va_G) (sz : Nat) (oq : Nat → Nat) (cI : ClassId) (qf : Int32) (qp : Int32) (qd : Int32) (qs : Int32) (qt : Int32) (qb : Int32) (qh : Int32) (qr : Int32) (qn : Int32) (bk : Nat) (wz : Nat) (z1 : Int32) (z2 : Int32) (hz1 : ¬ z1 = 0) : Met l yX6_note wp_k_note ({ frames := 0, cells := 0, slots := 0, locals := 0 }) (PcWC D [.ref (oq 0), .int z1, .int z2] sz [(oq 0, .inr (6, gPs oq qf qp qd qs qt qb qh qr qn (nI bk) (nI wz)))] []) (va_Qv (fun (u : (Int32) × (Int32) × (Int32)) => ¬ u.1 = 0) (fun (u : (Int32) × (Int32) × (Int32)) t => va_P D vwCl [(oq 0, .inr (6, gPs oq u.1 u.2.1 u.2.2 qs qt qb qh qr qn (nI bk) (nI wz)))] t.heap ∧ va_K D vwCl [] t ∧ va_D (va_A [(oq 0, .inr (6, gPs oq qf qp qd qs qt qb qh qr qn (nI bk) (nI wz)))] sz) [(oq 0, .inr (6, gPs oq u.1 u.2.1 u.2.2 qs qt qb qh qr qn (nI bk) (nI wz)))]) (va_A [(oq 0, .inr (6, gPs oq qf qp qd qs qt qb qh qr qn (nI bk) (nI wz)))] sz)) 0 0 (va_A [(oq 0, .inr (6, gPs oq qf qp qd qs qt qb qh qr qn (nI bk) (nI wz)))] sz) := by
  refine Met.ofW (cc := cX6_note) (maxL := 3) (ret := none) (by decide) rfl ?_
  intro p e s m args below meth c s₁ B hml hv
  obtain ⟨rfl, hsz, hP, hK, hD0, hN⟩ := hv
  have hx := B.exec
  have hb := B.bytes
  have hr := B.returns
  have hts := atoms_spec (ws := wp_k_note) B.pre
  have hin_X6 : ∀ w ∈ wsX60, w ∈ wp_k_note := fun _ h => (List.mem_cons_of_mem _ (List.mem_append_right _ (List.mem_append_left _ h)))
  have hown : s.vm.findClass RX6 = some m.cls := findClass_of_methodNamed B.named
  have hlocks := B.notSynchronized
  subst hsz
  have hD := hD0.self (sz := s.heap.size)
  generalize hAe : va_A [(oq 0, .inr (6, gPs oq qf qp qd qs qt qb qh qr qn (nI bk) (nI wz)))] s.heap.size = A at hD ⊢
  have hA : ∀ q : Nat, s.heap.size ≤ q → A q := fun q h => by rw [← hAe]; exact Or.inr h
  have hS : va_S A s.heap s.heap [] := va_S.rf
  have hP : va_P D vwCl [(oq 0, .inr (6, gPs oq qf qp qd qs qt qb qh qr qn (nI bk) (nI wz)))] s.heap := hP
  have hl := lv_entry ([.ref (oq 0), .int z1, .int z2]) (n := 3) (Nat.le_of_ble_eq_true rfl)
  rw [lg_entry_eq]
  generalize (lg_sl ([.ref (oq 0), .int z1, .int z2]) ++ List.replicate (3 - (lg_sl ([.ref (oq 0), .int z1, .int z2])).length) Slot.unset).toArray = ls at hl ⊢
  have hl : lv_has ls 3 [(0, .ref (oq 0)), (1, .int z1), (2, .int z2)] := hl
  refine lv_aload_n hx hb dX6_note_0 rfl (lv_at hl 0 rfl) ?_
  refine va_get (D := D) (ci := 6) (v := .int qf) (C := RX6) (T := TX6) (N := 15) hx hb hts hin_X6 hown hK hP 0 rfl rfl 0 (by decide) (hts (.fieldLink RX6 32 "ClashFree$Parser" "fault" "I") (List.mem_of_getElem? (i := 1) rfl)) (fun _ h9 => h9) rfl dX6_note_1 ?_
  refine lv_if_eq (tgt := 31) hx hb dX6_note_4 (by decide) (fun hc1 => ?_) (fun hc1 => ?_)
  ·
    refine lv_aload_n hx hb dX6_note_31 rfl (lv_at hl 0 rfl) ?_
    refine lv_iload_n hx hb dX6_note_32 rfl (lv_at hl 1 rfl) ?_
    refine va_put (D := D) (ci := 6) (v := .int z1) (ty := .int) (C := RX6) (T := TX6) (N := 15) hx hb hts hin_X6 tyX6 tyX6_ok nmX6 hown hK hP hD hS 0 rfl rfl 0 (by decide) (hts (.fieldLink RX6 32 "ClashFree$Parser" "fault" "I") (List.mem_of_getElem? (i := 1) rfl)) (fun _ h9 => h9) rfl (by decide +kernel) rfl rfl (Nat.le_of_ble_eq_true rfl) dX6_note_33 (fun H locs hP hD hS => ?_)
    have hP : va_P D vwCl [(oq 0, .inr (6, gPs oq z1 qp qd qs qt qb qh qr qn (nI bk) (nI wz)))] H := hP
    have hD : va_D A [(oq 0, .inr (6, gPs oq z1 qp qd qs qt qb qh qr qn (nI bk) (nI wz)))] := hD
    refine lv_aload_n hx hb dX6_note_36 rfl (lv_at hl 0 rfl) ?_
    refine lv_iload_n hx hb dX6_note_37 rfl (lv_at hl 2 rfl) ?_
    refine va_put (D := D) (ci := 6) (v := .int z2) (ty := .int) (C := RX6) (T := TX6) (N := 15) hx hb hts hin_X6 tyX6 tyX6_ok nmX6 hown hK hP hD hS 0 rfl rfl 1 (by decide) (hts (.fieldLink RX6 73 "ClashFree$Parser" "faultPlace" "I") (List.mem_of_getElem? (i := 2) rfl)) (fun _ h9 => h9) rfl (by decide +kernel) rfl rfl (Nat.le_of_ble_eq_true rfl) dX6_note_38 (fun H locs hP hD hS => ?_)
    have hP : va_P D vwCl [(oq 0, .inr (6, gPs oq z1 z2 qd qs qt qb qh qr qn (nI bk) (nI wz)))] H := hP
    have hD : va_D A [(oq 0, .inr (6, gPs oq z1 z2 qd qs qt qb qh qr qn (nI bk) (nI wz)))] := hD
    refine lv_aload_n hx hb dX6_note_41 rfl (lv_at hl 0 rfl) ?_
    refine lv_aload_n hx hb dX6_note_42 rfl (lv_at hl 0 rfl) ?_
    refine va_get (D := D) (ci := 6) (v := .int (nI bk)) (C := RX6) (T := TX6) (N := 15) hx hb hts hin_X6 hown hK hP 0 rfl rfl 11 (by decide) (hts (.fieldLink RX6 49 "ClashFree$Parser" "blocks" "I") (List.mem_of_getElem? (i := 3) rfl)) (fun _ h9 => h9) rfl dX6_note_43 ?_
    refine va_put (D := D) (ci := 6) (v := .int (nI bk)) (ty := .int) (C := RX6) (T := TX6) (N := 15) hx hb hts hin_X6 tyX6 tyX6_ok nmX6 hown hK hP hD hS 0 rfl rfl 2 (by decide) (hts (.fieldLink RX6 76 "ClashFree$Parser" "faultDepth" "I") (List.mem_of_getElem? (i := 4) rfl)) (fun _ h9 => h9) rfl (by decide +kernel) rfl rfl (Nat.le_of_ble_eq_true rfl) dX6_note_46 (fun H locs hP hD hS => ?_)
    have hP : va_P D vwCl [(oq 0, .inr (6, gPs oq z1 z2 (nI bk) qs qt qb qh qr qn (nI bk) (nI wz)))] H := hP
    have hD : va_D A [(oq 0, .inr (6, gPs oq z1 z2 (nI bk) qs qt qb qh qr qn (nI bk) (nI wz)))] := hD
    exact W.vret hx hb hr (fun t ht hW => ⟨⟨(z1, z2, (nI bk)), rfl, (by (try dsimp only); first | done | exact hz1), by rw [ht]; exact hP.sub [0] rfl, va_K.moved hW.alike (hK.sub [] rfl), hD.sub [0] (by decide) rfl⟩, hS.F ht⟩) hS.2.2 dX6_note_49
  ·
    refine lv_iload_n hx hb dX6_note_7 rfl (lv_at hl 2 rfl) ?_
    refine lv_aload_n hx hb dX6_note_8 rfl (lv_at hl 0 rfl) ?_
    refine va_get (D := D) (ci := 6) (v := .int qp) (C := RX6) (T := TX6) (N := 15) hx hb hts hin_X6 hown hK hP 0 rfl rfl 1 (by decide) (hts (.fieldLink RX6 73 "ClashFree$Parser" "faultPlace" "I") (List.mem_of_getElem? (i := 2) rfl)) (fun _ h9 => h9) rfl dX6_note_9 ?_
    refine lv_icmp_lt (tgt := 31) hx hb dX6_note_12 (by decide) (fun hc2 => ?_) (fun hc2 => ?_)
    ·
      refine lv_aload_n hx hb dX6_note_31 rfl (lv_at hl 0 rfl) ?_
      refine lv_iload_n hx hb dX6_note_32 rfl (lv_at hl 1 rfl) ?_
      refine va_put (D := D) (ci := 6) (v := .int z1) (ty := .int) (C := RX6) (T := TX6) (N := 15) hx hb hts hin_X6 tyX6 tyX6_ok nmX6 hown hK hP hD hS 0 rfl rfl 0 (by decide) (hts (.fieldLink RX6 32 "ClashFree$Parser" "fault" "I") (List.mem_of_getElem? (i := 1) rfl)) (fun _ h9 => h9) rfl (by decide +kernel) rfl rfl (Nat.le_of_ble_eq_true rfl) dX6_note_33 (fun H locs hP hD hS => ?_)
      have hP : va_P D vwCl [(oq 0, .inr (6, gPs oq z1 qp qd qs qt qb qh qr qn (nI bk) (nI wz)))] H := hP
      have hD : va_D A [(oq 0, .inr (6, gPs oq z1 qp qd qs qt qb qh qr qn (nI bk) (nI wz)))] := hD
      refine lv_aload_n hx hb dX6_note_36 rfl (lv_at hl 0 rfl) ?_
      refine lv_iload_n hx hb dX6_note_37 rfl (lv_at hl 2 rfl) ?_
      refine va_put (D := D) (ci := 6) (v := .int z2) (ty := .int) (C := RX6) (T := TX6) (N := 15) hx hb hts hin_X6 tyX6 tyX6_ok nmX6 hown hK hP hD hS 0 rfl rfl 1 (by decide) (hts (.fieldLink RX6 73 "ClashFree$Parser" "faultPlace" "I") (List.mem_of_getElem? (i := 2) rfl)) (fun _ h9 => h9) rfl (by decide +kernel) rfl rfl (Nat.le_of_ble_eq_true rfl) dX6_note_38 (fun H locs hP hD hS => ?_)
      have hP : va_P D vwCl [(oq 0, .inr (6, gPs oq z1 z2 qd qs qt qb qh qr qn (nI bk) (nI wz)))] H := hP
      have hD : va_D A [(oq 0, .inr (6, gPs oq z1 z2 qd qs qt qb qh qr qn (nI bk) (nI wz)))] := hD
      refine lv_aload_n hx hb dX6_note_41 rfl (lv_at hl 0 rfl) ?_
      refine lv_aload_n hx hb dX6_note_42 rfl (lv_at hl 0 rfl) ?_
      refine va_get (D := D) (ci := 6) (v := .int (nI bk)) (C := RX6) (T := TX6) (N := 15) hx hb hts hin_X6 hown hK hP 0 rfl rfl 11 (by decide) (hts (.fieldLink RX6 49 "ClashFree$Parser" "blocks" "I") (List.mem_of_getElem? (i := 3) rfl)) (fun _ h9 => h9) rfl dX6_note_43 ?_
      refine va_put (D := D) (ci := 6) (v := .int (nI bk)) (ty := .int) (C := RX6) (T := TX6) (N := 15) hx hb hts hin_X6 tyX6 tyX6_ok nmX6 hown hK hP hD hS 0 rfl rfl 2 (by decide) (hts (.fieldLink RX6 76 "ClashFree$Parser" "faultDepth" "I") (List.mem_of_getElem? (i := 4) rfl)) (fun _ h9 => h9) rfl (by decide +kernel) rfl rfl (Nat.le_of_ble_eq_true rfl) dX6_note_46 (fun H locs hP hD hS => ?_)
      have hP : va_P D vwCl [(oq 0, .inr (6, gPs oq z1 z2 (nI bk) qs qt qb qh qr qn (nI bk) (nI wz)))] H := hP
      have hD : va_D A [(oq 0, .inr (6, gPs oq z1 z2 (nI bk) qs qt qb qh qr qn (nI bk) (nI wz)))] := hD
      exact W.vret hx hb hr (fun t ht hW => ⟨⟨(z1, z2, (nI bk)), rfl, (by (try dsimp only); first | done | exact hz1), by rw [ht]; exact hP.sub [0] rfl, va_K.moved hW.alike (hK.sub [] rfl), hD.sub [0] (by decide) rfl⟩, hS.F ht⟩) hS.2.2 dX6_note_49
    ·
      refine lv_iload_n hx hb dX6_note_15 rfl (lv_at hl 2 rfl) ?_
      refine lv_aload_n hx hb dX6_note_16 rfl (lv_at hl 0 rfl) ?_
      refine va_get (D := D) (ci := 6) (v := .int qp) (C := RX6) (T := TX6) (N := 15) hx hb hts hin_X6 hown hK hP 0 rfl rfl 1 (by decide) (hts (.fieldLink RX6 73 "ClashFree$Parser" "faultPlace" "I") (List.mem_of_getElem? (i := 2) rfl)) (fun _ h9 => h9) rfl dX6_note_17 ?_
      refine lv_icmp_ne (tgt := 49) hx hb dX6_note_20 (by decide) (fun hc3 => ?_) (fun hc3 => ?_)
      ·
        exact W.vret hx hb hr (fun t ht hW => ⟨⟨(qf, qp, qd), rfl, (by (try dsimp only); first | done | exact hc1), by rw [ht]; exact hP.sub [0] rfl, va_K.moved hW.alike (hK.sub [] rfl), hD.sub [0] (by decide) rfl⟩, hS.F ht⟩) hS.2.2 dX6_note_49
      ·
        refine lv_iload_n hx hb dX6_note_23 rfl (lv_at hl 1 rfl) ?_
        refine lv_aload_n hx hb dX6_note_24 rfl (lv_at hl 0 rfl) ?_
        refine va_get (D := D) (ci := 6) (v := .int qf) (C := RX6) (T := TX6) (N := 15) hx hb hts hin_X6 hown hK hP 0 rfl rfl 0 (by decide) (hts (.fieldLink RX6 32 "ClashFree$Parser" "fault" "I") (List.mem_of_getElem? (i := 1) rfl)) (fun _ h9 => h9) rfl dX6_note_25 ?_
        refine lv_icmp_ge (tgt := 49) hx hb dX6_note_28 (by decide) (fun hc4 => ?_) (fun hc4 => ?_)
        ·
          exact W.vret hx hb hr (fun t ht hW => ⟨⟨(qf, qp, qd), rfl, (by (try dsimp only); first | done | exact hc1), by rw [ht]; exact hP.sub [0] rfl, va_K.moved hW.alike (hK.sub [] rfl), hD.sub [0] (by decide) rfl⟩, hS.F ht⟩) hS.2.2 dX6_note_49
        ·
          refine lv_aload_n hx hb dX6_note_31 rfl (lv_at hl 0 rfl) ?_
          refine lv_iload_n hx hb dX6_note_32 rfl (lv_at hl 1 rfl) ?_
          refine va_put (D := D) (ci := 6) (v := .int z1) (ty := .int) (C := RX6) (T := TX6) (N := 15) hx hb hts hin_X6 tyX6 tyX6_ok nmX6 hown hK hP hD hS 0 rfl rfl 0 (by decide) (hts (.fieldLink RX6 32 "ClashFree$Parser" "fault" "I") (List.mem_of_getElem? (i := 1) rfl)) (fun _ h9 => h9) rfl (by decide +kernel) rfl rfl (Nat.le_of_ble_eq_true rfl) dX6_note_33 (fun H locs hP hD hS => ?_)
          have hP : va_P D vwCl [(oq 0, .inr (6, gPs oq z1 qp qd qs qt qb qh qr qn (nI bk) (nI wz)))] H := hP
          have hD : va_D A [(oq 0, .inr (6, gPs oq z1 qp qd qs qt qb qh qr qn (nI bk) (nI wz)))] := hD
          refine lv_aload_n hx hb dX6_note_36 rfl (lv_at hl 0 rfl) ?_
          refine lv_iload_n hx hb dX6_note_37 rfl (lv_at hl 2 rfl) ?_
          refine va_put (D := D) (ci := 6) (v := .int z2) (ty := .int) (C := RX6) (T := TX6) (N := 15) hx hb hts hin_X6 tyX6 tyX6_ok nmX6 hown hK hP hD hS 0 rfl rfl 1 (by decide) (hts (.fieldLink RX6 73 "ClashFree$Parser" "faultPlace" "I") (List.mem_of_getElem? (i := 2) rfl)) (fun _ h9 => h9) rfl (by decide +kernel) rfl rfl (Nat.le_of_ble_eq_true rfl) dX6_note_38 (fun H locs hP hD hS => ?_)
          have hP : va_P D vwCl [(oq 0, .inr (6, gPs oq z1 z2 qd qs qt qb qh qr qn (nI bk) (nI wz)))] H := hP
          have hD : va_D A [(oq 0, .inr (6, gPs oq z1 z2 qd qs qt qb qh qr qn (nI bk) (nI wz)))] := hD
          refine lv_aload_n hx hb dX6_note_41 rfl (lv_at hl 0 rfl) ?_
          refine lv_aload_n hx hb dX6_note_42 rfl (lv_at hl 0 rfl) ?_
          refine va_get (D := D) (ci := 6) (v := .int (nI bk)) (C := RX6) (T := TX6) (N := 15) hx hb hts hin_X6 hown hK hP 0 rfl rfl 11 (by decide) (hts (.fieldLink RX6 49 "ClashFree$Parser" "blocks" "I") (List.mem_of_getElem? (i := 3) rfl)) (fun _ h9 => h9) rfl dX6_note_43 ?_
          refine va_put (D := D) (ci := 6) (v := .int (nI bk)) (ty := .int) (C := RX6) (T := TX6) (N := 15) hx hb hts hin_X6 tyX6 tyX6_ok nmX6 hown hK hP hD hS 0 rfl rfl 2 (by decide) (hts (.fieldLink RX6 76 "ClashFree$Parser" "faultDepth" "I") (List.mem_of_getElem? (i := 4) rfl)) (fun _ h9 => h9) rfl (by decide +kernel) rfl rfl (Nat.le_of_ble_eq_true rfl) dX6_note_46 (fun H locs hP hD hS => ?_)
          have hP : va_P D vwCl [(oq 0, .inr (6, gPs oq z1 z2 (nI bk) qs qt qb qh qr qn (nI bk) (nI wz)))] H := hP
          have hD : va_D A [(oq 0, .inr (6, gPs oq z1 z2 (nI bk) qs qt qb qh qr qn (nI bk) (nI wz)))] := hD
          exact W.vret hx hb hr (fun t ht hW => ⟨⟨(z1, z2, (nI bk)), rfl, (by (try dsimp only); first | done | exact hz1), by rw [ht]; exact hP.sub [0] rfl, va_K.moved hW.alike (hK.sub [] rfl), hD.sub [0] (by decide) rfl⟩, hS.F ht⟩) hS.2.2 dX6_note_49

def own_k_refuse : List Cond := [.fieldLink RX6 21 "ClashFree$Parser" "scan" "LClashFree$Scanner;", .fieldLink RX6 79 "ClashFree$Scanner" "at" "I", .methodLink RX6 55 yX6_note, .instanceMethod yX6_note, .selects RX6 yX6_note yX6_note, .initialized RX6, .fieldLink RX6 42 "ClashFree$Parser" "heading" "Z"]
def wp_k_refuse : List Cond := .code yX6_refuse cX6_refuse 1 none :: (own_k_refuse ++ (wp_k_note ++ (wsX60 ++ (wsX80 ++ ([] : List Cond)))))
set_option maxRecDepth 20000 in
theorem inown_k_refuse : ∀ w ∈ own_k_refuse, w ∈ lw_tbl := mem_places [335, 305, 915, 917, 4, 111, 339] (by decide +kernel)
set_option maxRecDepth 20000 in
theorem in_k_refuse : ∀ w ∈ wp_k_refuse, w ∈ lw_tbl := List.forall_mem_cons.mpr ⟨List.mem_of_getElem? (i := 1046) (by decide +kernel), List.forall_mem_append.mpr ⟨inown_k_refuse, List.forall_mem_append.mpr ⟨in_k_note, List.forall_mem_append.mpr ⟨lwb_X6, List.forall_mem_append.mpr ⟨lwb_X8, fun _ h => absurd h List.not_mem_nil⟩⟩⟩⟩⟩
set_option maxRecDepth 20000 in
theorem good_k_refuse : wp_k_refuse.all goodWord = true := by decide +kernel
set_option maxRecDepth 20000 in
theorem g_k_refuse_k_note_55 : GoodIn wp_k_refuse (wsV RX6 55 RX6 yX6_note wp_k_note) := goodIn_sub (List.forall_mem_append.mpr ⟨List.forall_mem_cons.mpr ⟨(List.mem_of_getElem? (i := 3) rfl), List.forall_mem_cons.mpr ⟨(List.mem_of_getElem? (i := 4) rfl), List.forall_mem_cons.mpr ⟨(List.mem_of_getElem? (i := 5) rfl), List.forall_mem_cons.mpr ⟨(List.mem_of_getElem? (i := 6) rfl), fun _ h => absurd h List.not_mem_nil⟩⟩⟩⟩, (fun _ h => (List.mem_cons_of_mem _ (List.mem_append_right _ (List.mem_append_left _ h))))⟩) (by decide +kernel)
set_option maxHeartbeats 4000000 in
set_option maxRecDepth 100000 in
theorem k_refuse (l : Launch) (D : va_G) (sz : Nat) (oq : Nat → Nat) (cI : ClassId) (qf : Int32) (qp : Int32) (qd : Int32) (qs : Int32) (qt : Int32) (qb : Int32) (qh : Int32) (qr : Int32) (qn : Int32) (bk : Nat) (wz : Nat) (tx : Value) (zl : Int32) (ta : Int32) (be : Int32) (ki : Int32) (nu : Int32) (wo : Int32)  : Met l yX6_refuse wp_k_refuse ({ frames := 1, cells := 0, slots := 0, locals := 22 }) (PcWC D [.ref (oq 0)] sz [(oq 0, .inr (6, gPs oq qf qp qd qs qt qb qh qr qn (nI bk) (nI wz))), (oq 5, .inr (8, [tx, .int zl, .int ta, .int be, .int ki, .int nu, .int wo]))] []) (va_Qv (fun (u : (Int32) × (Int32) × (Int32) × (Int32)) => ¬ u.1 = 0 ∧ u.2.2.2 = 0) (fun (u : (Int32) × (Int32) × (Int32) × (Int32)) t => va_P D vwCl [(oq 0, .inr (6, gPs oq u.1 u.2.1 u.2.2.1 qs qt qb u.2.2.2 qr qn (nI bk) (nI wz))), (oq 5, .inr (8, [tx, .int zl, .int ta, .int be, .int ki, .int nu, .int wo]))] t.heap ∧ va_K D vwCl [] t ∧ va_D (va_A [(oq 0, .inr (6, gPs oq qf qp qd qs qt qb qh qr qn (nI bk) (nI wz))), (oq 5, .inr (8, [tx, .int zl, .int ta, .int be, .int ki, .int nu, .int wo]))] sz) [(oq 0, .inr (6, gPs oq u.1 u.2.1 u.2.2.1 qs qt qb u.2.2.2 qr qn (nI bk) (nI wz))), (oq 5, .inr (8, [tx, .int zl, .int ta, .int be, .int ki, .int nu, .int wo]))]) (va_A [(oq 0, .inr (6, gPs oq qf qp qd qs qt qb qh qr qn (nI bk) (nI wz))), (oq 5, .inr (8, [tx, .int zl, .int ta, .int be, .int ki, .int nu, .int wo]))] sz)) 0 0 (va_A [(oq 0, .inr (6, gPs oq qf qp qd qs qt qb qh qr qn (nI bk) (nI wz))), (oq 5, .inr (8, [tx, .int zl, .int ta, .int be, .int ki, .int nu, .int wo]))] sz) := by
  refine Met.ofW (cc := cX6_refuse) (maxL := 1) (ret := none) (by decide) rfl ?_
  intro p e s m args below meth c s₁ B hml hv
  obtain ⟨rfl, hsz, hP, hK, hD0, hN⟩ := hv
  have hx := B.exec
  have hb := B.bytes
  have hr := B.returns
  have hts := atoms_spec (ws := wp_k_refuse) B.pre
  have hin_X6 : ∀ w ∈ wsX60, w ∈ wp_k_refuse := fun _ h => (List.mem_cons_of_mem _ (List.mem_append_right _ (List.mem_append_right _ (List.mem_append_left _ h))))
  have hin_X8 : ∀ w ∈ wsX80, w ∈ wp_k_refuse := fun _ h => (List.mem_cons_of_mem _ (List.mem_append_right _ (List.mem_append_right _ (List.mem_append_right _ (List.mem_append_left _ h)))))
  have hown : s.vm.findClass RX6 = some m.cls := findClass_of_methodNamed B.named
  have hlocks := B.notSynchronized
  subst hsz
  have hD := hD0.self (sz := s.heap.size)
  generalize hAe : va_A [(oq 0, .inr (6, gPs oq qf qp qd qs qt qb qh qr qn (nI bk) (nI wz))), (oq 5, .inr (8, [tx, .int zl, .int ta, .int be, .int ki, .int nu, .int wo]))] s.heap.size = A at hD ⊢
  have hA : ∀ q : Nat, s.heap.size ≤ q → A q := fun q h => by rw [← hAe]; exact Or.inr h
  have hS : va_S A s.heap s.heap [] := va_S.rf
  have hP : va_P D vwCl [(oq 0, .inr (6, gPs oq qf qp qd qs qt qb qh qr qn (nI bk) (nI wz))), (oq 5, .inr (8, [tx, .int zl, .int ta, .int be, .int ki, .int nu, .int wo]))] s.heap := hP
  have hl := lv_entry ([.ref (oq 0)]) (n := 1) (Nat.le_of_ble_eq_true rfl)
  rw [lg_entry_eq]
  generalize (lg_sl ([.ref (oq 0)]) ++ List.replicate (1 - (lg_sl ([.ref (oq 0)])).length) Slot.unset).toArray = ls at hl ⊢
  have hl : lv_has ls 1 [(0, .ref (oq 0))] := hl
  refine lv_aload_n hx hb dX6_refuse_0 rfl (lv_at hl 0 rfl) ?_
  refine lv_iconst (v := 1) hx hb dX6_refuse_1 (by decide) ?_
  refine lv_aload_n hx hb dX6_refuse_2 rfl (lv_at hl 0 rfl) ?_
  refine va_get (D := D) (ci := 6) (v := .ref (oq 5)) (C := RX6) (T := TX6) (N := 15) hx hb hts hin_X6 hown hK hP 0 rfl rfl 4 (by decide) (hts (.fieldLink RX6 21 "ClashFree$Parser" "scan" "LClashFree$Scanner;") (List.mem_of_getElem? (i := 1) rfl)) (fun _ h9 => h9) rfl dX6_refuse_3 ?_
  refine va_get (D := D) (ci := 8) (v := .int ta) (C := RX8) (T := TX8) (N := 7) hx hb hts hin_X8 hown hK hP 1 rfl rfl 2 (by decide) (hts (.fieldLink RX6 79 "ClashFree$Scanner" "at" "I") (List.mem_of_getElem? (i := 2) rfl)) (fun _ h9 => h9) rfl dX6_refuse_6 ?_
  have hPc := hP.sub (ws' := [(oq 0, .inr (6, gPs oq qf qp qd qs qt qb qh qr qn (nI bk) (nI wz)))]) [0] rfl
  have hKc := hK.sub (tys' := []) [] rfl
  have hDc := hD.sub (ws' := [(oq 0, .inr (6, gPs oq qf qp qd qs qt qb qh qr qn (nI bk) (nI wz)))]) [0] (by decide) rfl
  have hFc := va_free (wc := [(oq 0, .inr (6, gPs oq qf qp qd qs qt qb qh qr qn (nI bk) (nI wz)))]) hD hS hA [0] rfl
  refine va_callv (va_runV (As := [.int 1, .int ta]) (rest := []) ⟨hx, hb, hml, hown, hts⟩ (k_note l D _ oq cI qf qp qd qs qt qb qh qr qn bk wz 1 ta (by decide)) (cwV 2 hts g_k_refuse_k_note_55 rfl rfl rfl (by decide +kernel) ⟨(Nat.le_of_ble_eq_true rfl), (Nat.le_of_ble_eq_true rfl)⟩) (PcWC_V (q0 := 0) hPc hKc hDc hN rfl rfl) rfl rfl hl.1 rfl (lv_room (Nat.le_of_ble_eq_true rfl)) dX6_refuse_9 ⟨(Nat.le_of_ble_eq_true rfl), (Nat.le_of_ble_eq_true rfl)⟩) hS (fun q _ h => hFc q h) hFc (fun uu tt H locs htt hvm hw hB hz1 hk1 hS => ?_)
  obtain ⟨w2, w3, w4⟩ := uu
  obtain ⟨hP1, hK1, hD1⟩ := hB
  rw [htt] at hP1
  have hK1 := va_K.moved hvm.symm hK1
  have hP1 : va_P D vwCl [(oq 0, .inr (6, gPs oq w2 w3 w4 qs qt qb qh qr qn (nI bk) (nI wz)))] H := hP1
  obtain ⟨hP, hD⟩ := va_join (wr := [(oq 5, .inr (8, [tx, .int zl, .int ta, .int be, .int ki, .int nu, .int wo]))]) (w1 := [(oq 0, .inr (6, gPs oq w2 w3 w4 qs qt qb qh qr qn (nI bk) (nI wz)))]) hP hD [0] [1] rfl rfl (by decide) (by decide) hk1 hFc hP1 hD1
  have hP : va_P D vwCl [(oq 5, .inr (8, [tx, .int zl, .int ta, .int be, .int ki, .int nu, .int wo])), (oq 0, .inr (6, gPs oq w2 w3 w4 qs qt qb qh qr qn (nI bk) (nI wz)))] H := hP
  have hD : va_D A [(oq 5, .inr (8, [tx, .int zl, .int ta, .int be, .int ki, .int nu, .int wo])), (oq 0, .inr (6, gPs oq w2 w3 w4 qs qt qb qh qr qn (nI bk) (nI wz)))] := hD
  try dsimp only at hw
  clear hz1 hk1 hFc hPc hKc hDc
  have hnt5 := hw
  refine lv_aload_n hx hb dX6_refuse_12 rfl (lv_at hl 0 rfl) ?_
  refine lv_iconst (v := 0) hx hb dX6_refuse_13 (by decide) ?_
  refine va_put (D := D) (ci := 6) (v := .int 0) (ty := .boolean) (C := RX6) (T := TX6) (N := 15) hx hb hts hin_X6 tyX6 tyX6_ok nmX6 hown hK hP hD hS 1 rfl rfl 8 (by decide) (hts (.fieldLink RX6 42 "ClashFree$Parser" "heading" "Z") (List.mem_of_getElem? (i := 7) rfl)) (fun _ h9 => h9) rfl (by decide +kernel) rfl rfl (Nat.le_of_ble_eq_true rfl) dX6_refuse_14 (fun H locs hP hD hS => ?_)
  have hP : va_P D vwCl [(oq 5, .inr (8, [tx, .int zl, .int ta, .int be, .int ki, .int nu, .int wo])), (oq 0, .inr (6, gPs oq w2 w3 w4 qs qt qb 0 qr qn (nI bk) (nI wz)))] H := hP
  have hD : va_D A [(oq 5, .inr (8, [tx, .int zl, .int ta, .int be, .int ki, .int nu, .int wo])), (oq 0, .inr (6, gPs oq w2 w3 w4 qs qt qb 0 qr qn (nI bk) (nI wz)))] := hD
  exact W.vret hx hb hr (fun t ht hW => ⟨⟨(w2, w3, w4, 0), rfl, (by (try dsimp only); first | done | exact ⟨hnt5, rfl⟩), by rw [ht]; exact hP.sub [1, 0] rfl, va_K.moved hW.alike (hK.sub [] rfl), hD.sub [1, 0] (by decide) rfl⟩, hS.F ht⟩) hS.2.2 dX6_refuse_17

def own_k_strength : List Cond := []
def wp_k_strength : List Cond := .code yX6_strength cX6_strength 1 (some .int) :: (own_k_strength ++ ([] : List Cond))
set_option maxRecDepth 20000 in
theorem inown_k_strength : ∀ w ∈ own_k_strength, w ∈ lw_tbl := mem_places [] (by decide +kernel)
set_option maxRecDepth 20000 in
theorem in_k_strength : ∀ w ∈ wp_k_strength, w ∈ lw_tbl := List.forall_mem_cons.mpr ⟨List.mem_of_getElem? (i := 1061) (by decide +kernel), List.forall_mem_append.mpr ⟨inown_k_strength, fun _ h => absurd h List.not_mem_nil⟩⟩
set_option maxRecDepth 20000 in
theorem good_k_strength : wp_k_strength.all goodWord = true := by decide +kernel
set_option maxHeartbeats 4000000 in
set_option maxRecDepth 100000 in
theorem k_strength (l : Launch) (D : va_G) (sz : Nat) (cI : ClassId) (z1 : Int32) (kc : Nat) (hz : z1 = nI kc) (hkc : kc ≤ 255) : Met l yX6_strength wp_k_strength ({ frames := 0, cells := 0, slots := 0, locals := 0 }) (PcRC D [.int z1] sz [] []) (va_Qi (fun (r : Int32) (u : Unit) => r = nI (strN kc)) (fun (_ : Unit) _ => True) (va_A [] sz)) 0 0 (va_A [] sz) := by
  refine Met.ofW (cc := cX6_strength) (maxL := 1) (ret := (some .int)) (by decide) rfl ?_
  intro p e s m args below meth c s₁ B hml hv
  obtain ⟨rfl, hsz, hP, hK, hN⟩ := hv
  have hx := B.exec
  have hb := B.bytes
  have hr := B.returns
  have hts := atoms_spec (ws := wp_k_strength) B.pre
  have hown : s.vm.findClass RX6 = some m.cls := findClass_of_methodNamed B.named
  have hlocks := B.notSynchronized
  subst hsz
  generalize hAe : va_A [] s.heap.size = A at ⊢
  have hA : ∀ q : Nat, s.heap.size ≤ q → A q := fun q h => by rw [← hAe]; exact Or.inr h
  have hS : va_S A s.heap s.heap [] := va_S.rf
  have hP : va_P D vwCl [] s.heap := hP
  have hl := lv_entry ([.int z1]) (n := 1) (Nat.le_of_ble_eq_true rfl)
  rw [lg_entry_eq]
  generalize (lg_sl ([.int z1]) ++ List.replicate (1 - (lg_sl ([.int z1])).length) Slot.unset).toArray = ls at hl ⊢
  have hl : lv_has ls 1 [(0, .int z1)] := hl
  refine lv_iload_n hx hb dX6_strength_0 rfl (lv_at hl 0 rfl) ?_
  by_cases hs1 : z1 = 37
  ·
    subst hs1
    refine lv_tableIn (off := 61) (tgt := 62) hx hb dX6_strength_1 (by decide) (by decide) (by decide +kernel) (by decide) ?_
    refine lv_iconst (v := 2) hx hb dX6_strength_62 (by decide) ?_
    exact W.iret (v := 2) hx hb hr (fun t ht hW => ⟨⟨2, (), rfl, by rw [show kc = 37 from (nI_eq (b := 37) (by omega) (by decide)).mp hz.symm]; rfl, trivial⟩, hS.F ht⟩) hS.2.2 dX6_strength_63
  by_cases hs2 : z1 = 38
  ·
    subst hs2
    refine lv_tableIn (off := 63) (tgt := 64) hx hb dX6_strength_1 (by decide) (by decide) (by decide +kernel) (by decide) ?_
    refine lv_iconst (v := 0) hx hb dX6_strength_64 (by decide) ?_
    exact W.iret (v := 0) hx hb hr (fun t ht hW => ⟨⟨0, (), rfl, by rw [show kc = 38 from (nI_eq (b := 38) (by omega) (by decide)).mp hz.symm]; rfl, trivial⟩, hS.F ht⟩) hS.2.2 dX6_strength_65
  by_cases hs3 : z1 = 39
  ·
    subst hs3
    refine lv_tableIn (off := 63) (tgt := 64) hx hb dX6_strength_1 (by decide) (by decide) (by decide +kernel) (by decide) ?_
    refine lv_iconst (v := 0) hx hb dX6_strength_64 (by decide) ?_
    exact W.iret (v := 0) hx hb hr (fun t ht hW => ⟨⟨0, (), rfl, by rw [show kc = 39 from (nI_eq (b := 39) (by omega) (by decide)).mp hz.symm]; rfl, trivial⟩, hS.F ht⟩) hS.2.2 dX6_strength_65
  by_cases hs4 : z1 = 40
  ·
    subst hs4
    refine lv_tableIn (off := 63) (tgt := 64) hx hb dX6_strength_1 (by decide) (by decide) (by decide +kernel) (by decide) ?_
    refine lv_iconst (v := 0) hx hb dX6_strength_64 (by decide) ?_
    exact W.iret (v := 0) hx hb hr (fun t ht hW => ⟨⟨0, (), rfl, by rw [show kc = 40 from (nI_eq (b := 40) (by omega) (by decide)).mp hz.symm]; rfl, trivial⟩, hS.F ht⟩) hS.2.2 dX6_strength_65
  by_cases hs5 : z1 = 41
  ·
    subst hs5
    refine lv_tableIn (off := 63) (tgt := 64) hx hb dX6_strength_1 (by decide) (by decide) (by decide +kernel) (by decide) ?_
    refine lv_iconst (v := 0) hx hb dX6_strength_64 (by decide) ?_
    exact W.iret (v := 0) hx hb hr (fun t ht hW => ⟨⟨0, (), rfl, by rw [show kc = 41 from (nI_eq (b := 41) (by omega) (by decide)).mp hz.symm]; rfl, trivial⟩, hS.F ht⟩) hS.2.2 dX6_strength_65
  by_cases hs6 : z1 = 42
  ·
    subst hs6
    refine lv_tableIn (off := 61) (tgt := 62) hx hb dX6_strength_1 (by decide) (by decide) (by decide +kernel) (by decide) ?_
    refine lv_iconst (v := 2) hx hb dX6_strength_62 (by decide) ?_
    exact W.iret (v := 2) hx hb hr (fun t ht hW => ⟨⟨2, (), rfl, by rw [show kc = 42 from (nI_eq (b := 42) (by omega) (by decide)).mp hz.symm]; rfl, trivial⟩, hS.F ht⟩) hS.2.2 dX6_strength_63
  by_cases hs7 : z1 = 43
  ·
    subst hs7
    refine lv_tableIn (off := 59) (tgt := 60) hx hb dX6_strength_1 (by decide) (by decide) (by decide +kernel) (by decide) ?_
    refine lv_iconst (v := 1) hx hb dX6_strength_60 (by decide) ?_
    exact W.iret (v := 1) hx hb hr (fun t ht hW => ⟨⟨1, (), rfl, by rw [show kc = 43 from (nI_eq (b := 43) (by omega) (by decide)).mp hz.symm]; rfl, trivial⟩, hS.F ht⟩) hS.2.2 dX6_strength_61
  by_cases hs8 : z1 = 44
  ·
    subst hs8
    refine lv_tableIn (off := 63) (tgt := 64) hx hb dX6_strength_1 (by decide) (by decide) (by decide +kernel) (by decide) ?_
    refine lv_iconst (v := 0) hx hb dX6_strength_64 (by decide) ?_
    exact W.iret (v := 0) hx hb hr (fun t ht hW => ⟨⟨0, (), rfl, by rw [show kc = 44 from (nI_eq (b := 44) (by omega) (by decide)).mp hz.symm]; rfl, trivial⟩, hS.F ht⟩) hS.2.2 dX6_strength_65
  by_cases hs9 : z1 = 45
  ·
    subst hs9
    refine lv_tableIn (off := 59) (tgt := 60) hx hb dX6_strength_1 (by decide) (by decide) (by decide +kernel) (by decide) ?_
    refine lv_iconst (v := 1) hx hb dX6_strength_60 (by decide) ?_
    exact W.iret (v := 1) hx hb hr (fun t ht hW => ⟨⟨1, (), rfl, by rw [show kc = 45 from (nI_eq (b := 45) (by omega) (by decide)).mp hz.symm]; rfl, trivial⟩, hS.F ht⟩) hS.2.2 dX6_strength_61
  by_cases hs10 : z1 = 46
  ·
    subst hs10
    refine lv_tableIn (off := 63) (tgt := 64) hx hb dX6_strength_1 (by decide) (by decide) (by decide +kernel) (by decide) ?_
    refine lv_iconst (v := 0) hx hb dX6_strength_64 (by decide) ?_
    exact W.iret (v := 0) hx hb hr (fun t ht hW => ⟨⟨0, (), rfl, by rw [show kc = 46 from (nI_eq (b := 46) (by omega) (by decide)).mp hz.symm]; rfl, trivial⟩, hS.F ht⟩) hS.2.2 dX6_strength_65
  by_cases hs11 : z1 = 47
  ·
    subst hs11
    refine lv_tableIn (off := 61) (tgt := 62) hx hb dX6_strength_1 (by decide) (by decide) (by decide +kernel) (by decide) ?_
    refine lv_iconst (v := 2) hx hb dX6_strength_62 (by decide) ?_
    exact W.iret (v := 2) hx hb hr (fun t ht hW => ⟨⟨2, (), rfl, by rw [show kc = 47 from (nI_eq (b := 47) (by omega) (by decide)).mp hz.symm]; rfl, trivial⟩, hS.F ht⟩) hS.2.2 dX6_strength_63
  refine lv_tableOut (tgt := 64) hx hb dX6_strength_1 (by have a0 := sw_ne (n := 37) hs1 (by decide) (by decide); have a1 := sw_ne (n := 38) hs2 (by decide) (by decide); have a2 := sw_ne (n := 39) hs3 (by decide) (by decide); have a3 := sw_ne (n := 40) hs4 (by decide) (by decide); have a4 := sw_ne (n := 41) hs5 (by decide) (by decide); have a5 := sw_ne (n := 42) hs6 (by decide) (by decide); have a6 := sw_ne (n := 43) hs7 (by decide) (by decide); have a7 := sw_ne (n := 44) hs8 (by decide) (by decide); have a8 := sw_ne (n := 45) hs9 (by decide) (by decide); have a9 := sw_ne (n := 46) hs10 (by decide) (by decide); have a10 := sw_ne (n := 47) hs11 (by decide) (by decide); omega) (by decide) ?_
  refine lv_iconst (v := 0) hx hb dX6_strength_64 (by decide) ?_
  exact W.iret (v := 0) hx hb hr (fun t ht hW => ⟨⟨0, (), rfl, by unfold strN; rw [if_neg (fun q => by rcases q with q | q <;> exact absurd (hz.trans (congrArg nI q)) (by assumption)), if_neg (fun q => by rcases q with q | q | q <;> exact absurd (hz.trans (congrArg nI q)) (by assumption))]; rfl, trivial⟩, hS.F ht⟩) hS.2.2 dX6_strength_65

def own_k_await : List Cond := [.fieldLink RX6 52 "ClashFree$Parser" "waitingSize" "I", .fieldLink RX6 29 "ClashFree$Parser" "waiting" "[I"]
def wp_k_await : List Cond := .code yX6_await cX6_await 2 none :: (own_k_await ++ (wsX60 ++ ([] : List Cond)))
set_option maxRecDepth 20000 in
theorem inown_k_await : ∀ w ∈ own_k_await, w ∈ lw_tbl := mem_places [344, 345] (by decide +kernel)
set_option maxRecDepth 20000 in
theorem in_k_await : ∀ w ∈ wp_k_await, w ∈ lw_tbl := List.forall_mem_cons.mpr ⟨List.mem_of_getElem? (i := 1054) (by decide +kernel), List.forall_mem_append.mpr ⟨inown_k_await, List.forall_mem_append.mpr ⟨lwb_X6, fun _ h => absurd h List.not_mem_nil⟩⟩⟩
set_option maxRecDepth 20000 in
theorem good_k_await : wp_k_await.all goodWord = true := by decide +kernel
set_option maxHeartbeats 4000000 in
set_option maxRecDepth 100000 in
theorem k_await (l : Launch) (D : va_G) (sz : Nat) (oq : Nat → Nat) (cI : ClassId) (qf : Int32) (qp : Int32) (qd : Int32) (qs : Int32) (qt : Int32) (qb : Int32) (qh : Int32) (qr : Int32) (qn : Int32) (bk : Nat) (wz : Nat) (fW : Nat → Int32) (z1 : Int32) (hwz : wz ≤ 600) : Met l yX6_await wp_k_await ({ frames := 0, cells := 0, slots := 0, locals := 0 }) (PcWC D [.ref (oq 0), .int z1] sz [(oq 0, .inr (6, gPs oq qf qp qd qs qt qb qh qr qn (nI bk) (nI wz))), (oq 7, .inl (cI, 600, .inl fW))] [(cI, .int)]) (va_Qv (fun (u : (Nat) × (Nat → Int32)) => (wz < 600 ∧ u.1 = wz + 1 ∧ u.2 = upd fW wz z1) ∨ (600 ≤ wz ∧ u.1 = wz ∧ u.2 = fW)) (fun (u : (Nat) × (Nat → Int32)) t => va_P D vwCl [(oq 0, .inr (6, gPs oq qf qp qd qs qt qb qh qr qn (nI bk) (nI u.1))), (oq 7, .inl (cI, 600, .inl u.2))] t.heap ∧ va_K D vwCl [(cI, .int)] t ∧ va_D (va_A [(oq 0, .inr (6, gPs oq qf qp qd qs qt qb qh qr qn (nI bk) (nI wz))), (oq 7, .inl (cI, 600, .inl fW))] sz) [(oq 0, .inr (6, gPs oq qf qp qd qs qt qb qh qr qn (nI bk) (nI u.1))), (oq 7, .inl (cI, 600, .inl u.2))]) (va_A [(oq 0, .inr (6, gPs oq qf qp qd qs qt qb qh qr qn (nI bk) (nI wz))), (oq 7, .inl (cI, 600, .inl fW))] sz)) 0 0 (va_A [(oq 0, .inr (6, gPs oq qf qp qd qs qt qb qh qr qn (nI bk) (nI wz))), (oq 7, .inl (cI, 600, .inl fW))] sz) := by
  refine Met.ofW (cc := cX6_await) (maxL := 2) (ret := none) (by decide) rfl ?_
  intro p e s m args below meth c s₁ B hml hv
  obtain ⟨rfl, hsz, hP, hK, hD0, hN⟩ := hv
  have hx := B.exec
  have hb := B.bytes
  have hr := B.returns
  have hts := atoms_spec (ws := wp_k_await) B.pre
  have hin_X6 : ∀ w ∈ wsX60, w ∈ wp_k_await := fun _ h => (List.mem_cons_of_mem _ (List.mem_append_right _ (List.mem_append_left _ h)))
  have hown : s.vm.findClass RX6 = some m.cls := findClass_of_methodNamed B.named
  have hlocks := B.notSynchronized
  subst hsz
  have hD := hD0.self (sz := s.heap.size)
  generalize hAe : va_A [(oq 0, .inr (6, gPs oq qf qp qd qs qt qb qh qr qn (nI bk) (nI wz))), (oq 7, .inl (cI, 600, .inl fW))] s.heap.size = A at hD ⊢
  have hA : ∀ q : Nat, s.heap.size ≤ q → A q := fun q h => by rw [← hAe]; exact Or.inr h
  have hS : va_S A s.heap s.heap [] := va_S.rf
  have hP : va_P D vwCl [(oq 0, .inr (6, gPs oq qf qp qd qs qt qb qh qr qn (nI bk) (nI wz))), (oq 7, .inl (cI, 600, .inl fW))] s.heap := hP
  have hl := lv_entry ([.ref (oq 0), .int z1]) (n := 2) (Nat.le_of_ble_eq_true rfl)
  rw [lg_entry_eq]
  generalize (lg_sl ([.ref (oq 0), .int z1]) ++ List.replicate (2 - (lg_sl ([.ref (oq 0), .int z1])).length) Slot.unset).toArray = ls at hl ⊢
  have hl : lv_has ls 2 [(0, .ref (oq 0)), (1, .int z1)] := hl
  refine lv_aload_n hx hb dX6_await_0 rfl (lv_at hl 0 rfl) ?_
  refine va_get (D := D) (ci := 6) (v := .int (nI wz)) (C := RX6) (T := TX6) (N := 15) hx hb hts hin_X6 hown hK hP 0 rfl rfl 13 (by decide) (hts (.fieldLink RX6 52 "ClashFree$Parser" "waitingSize" "I") (List.mem_of_getElem? (i := 1) rfl)) (fun _ h9 => h9) rfl dX6_await_1 ?_
  refine lv_aload_n hx hb dX6_await_4 rfl (lv_at hl 0 rfl) ?_
  refine va_get (D := D) (ci := 6) (v := .ref (oq 7)) (C := RX6) (T := TX6) (N := 15) hx hb hts hin_X6 hown hK hP 0 rfl rfl 14 (by decide) (hts (.fieldLink RX6 29 "ClashFree$Parser" "waiting" "[I") (List.mem_of_getElem? (i := 2) rfl)) (fun _ h9 => h9) rfl dX6_await_5 ?_
  refine va_alen (v := 600) hx hb hK hP 1 0 rfl rfl rfl dX6_await_8 ?_
  refine lv_icmp_ge (tgt := 32) hx hb dX6_await_9 (by decide) (fun hc1 => ?_) (fun hc1 => ?_)
  ·
    have hlt : 600 ≤ wz := (nI_leI (by omega) (by omega)).mp hc1
    have hge : 600 ≤ wz := (nI_leI (a := 600) (by decide) (by omega)).mp hc1
    exact W.vret hx hb hr (fun t ht hW => ⟨⟨(wz, fW), rfl, (by (try dsimp only); first | done | exact Or.inr ⟨hge, rfl, rfl⟩), by rw [ht]; exact hP.sub [0, 1] rfl, va_K.moved hW.alike (hK.sub [0] rfl), hD.sub [0, 1] (by decide) rfl⟩, hS.F ht⟩) hS.2.2 dX6_await_32
  ·
    have hlt : wz < 600 := by
      rcases Nat.lt_or_ge wz (600) with z | z
      · exact z
      · exact absurd (nI_le z (by omega)) hc1
    refine lv_aload_n hx hb dX6_await_12 rfl (lv_at hl 0 rfl) ?_
    refine va_get (D := D) (ci := 6) (v := .ref (oq 7)) (C := RX6) (T := TX6) (N := 15) hx hb hts hin_X6 hown hK hP 0 rfl rfl 14 (by decide) (hts (.fieldLink RX6 29 "ClashFree$Parser" "waiting" "[I") (List.mem_of_getElem? (i := 2) rfl)) (fun _ h9 => h9) rfl dX6_await_13 ?_
    refine lv_aload_n hx hb dX6_await_16 rfl (lv_at hl 0 rfl) ?_
    refine va_get (D := D) (ci := 6) (v := .int (nI wz)) (C := RX6) (T := TX6) (N := 15) hx hb hts hin_X6 hown hK hP 0 rfl rfl 13 (by decide) (hts (.fieldLink RX6 52 "ClashFree$Parser" "waitingSize" "I") (List.mem_of_getElem? (i := 1) rfl)) (fun _ h9 => h9) rfl dX6_await_17 ?_
    refine lv_iload_n hx hb dX6_await_20 rfl (lv_at hl 1 rfl) ?_
    refine va_iast hx hb hK hP hD hS 1 0 rfl rfl (vp_in_nI (by omega) (by decide)) dX6_await_21 (fun H locs hP hD hS => ?_)
    have hP : va_P D vwCl [(oq 0, .inr (6, gPs oq qf qp qd qs qt qb qh qr qn (nI bk) (nI wz))), (oq 7, .inl (cI, 600, .inl (upd fW (Int32.toNatClampNeg (nI wz)) z1)))] H := hP
    have hD : va_D A [(oq 0, .inr (6, gPs oq qf qp qd qs qt qb qh qr qn (nI bk) (nI wz))), (oq 7, .inl (cI, 600, .inl (upd fW (Int32.toNatClampNeg (nI wz)) z1)))] := hD
    rw [show (upd fW (Int32.toNatClampNeg (nI wz)) z1) = (upd fW wz z1) from by rw [nI_clamp (by omega)]] at hP hD
    refine lv_aload_n hx hb dX6_await_22 rfl (lv_at hl 0 rfl) ?_
    refine lv_dup hx hb dX6_await_23 rfl ?_
    refine va_get (D := D) (ci := 6) (v := .int (nI wz)) (C := RX6) (T := TX6) (N := 15) hx hb hts hin_X6 hown hK hP 0 rfl rfl 13 (by decide) (hts (.fieldLink RX6 52 "ClashFree$Parser" "waitingSize" "I") (List.mem_of_getElem? (i := 1) rfl)) (fun _ h9 => h9) rfl dX6_await_24 ?_
    refine lv_iconst (v := 1) hx hb dX6_await_27 (by decide) ?_
    refine lv_iadd hx hb dX6_await_28 ?_
    refine lv_topi (fun v2 ev2 => ?_)
    obtain rfl : v2 = nI (wz + 1) := ev2.trans (nI_1 _)
    refine va_put (D := D) (ci := 6) (v := .int (nI (wz + 1))) (ty := .int) (C := RX6) (T := TX6) (N := 15) hx hb hts hin_X6 tyX6 tyX6_ok nmX6 hown hK hP hD hS 0 rfl rfl 13 (by decide) (hts (.fieldLink RX6 52 "ClashFree$Parser" "waitingSize" "I") (List.mem_of_getElem? (i := 1) rfl)) (fun _ h9 => h9) rfl (by decide +kernel) rfl rfl (Nat.le_of_ble_eq_true rfl) dX6_await_29 (fun H locs hP hD hS => ?_)
    have hP : va_P D vwCl [(oq 0, .inr (6, gPs oq qf qp qd qs qt qb qh qr qn (nI bk) (nI (wz + 1)))), (oq 7, .inl (cI, 600, .inl (upd fW wz z1)))] H := hP
    have hD : va_D A [(oq 0, .inr (6, gPs oq qf qp qd qs qt qb qh qr qn (nI bk) (nI (wz + 1)))), (oq 7, .inl (cI, 600, .inl (upd fW wz z1)))] := hD
    exact W.vret hx hb hr (fun t ht hW => ⟨⟨((wz + 1), (upd fW wz z1)), rfl, (by (try dsimp only); first | done | exact Or.inl ⟨hlt, rfl, rfl⟩), by rw [ht]; exact hP.sub [0, 1] rfl, va_K.moved hW.alike (hK.sub [0] rfl), hD.sub [0, 1] (by decide) rfl⟩, hS.F ht⟩) hS.2.2 dX6_await_32

def own_k_release : List Cond := [.fieldLink RX6 52 "ClashFree$Parser" "waitingSize" "I", .fieldLink RX6 29 "ClashFree$Parser" "waiting" "[I", .methodLink RX6 124 yX6_strength, .static yX6_strength, .initialized RX6, .fieldLink RX6 12 "ClashFree$Parser" "program" "LClashFree$Program;", .methodLink RX6 118 yX7_add, .instanceMethod yX7_add, .selects RX7 yX7_add yX7_add, .initialized RX7]
def wp_k_release : List Cond := .code yX6_release cX6_release 2 none :: (own_k_release ++ (wp_k_strength ++ (wp_k_padd ++ (wsX60 ++ ([] : List Cond)))))
set_option maxRecDepth 20000 in
theorem inown_k_release : ∀ w ∈ own_k_release, w ∈ lw_tbl := mem_places [344, 345, 1059, 1060, 111, 333, 1039, 1040, 1041, 112] (by decide +kernel)
set_option maxRecDepth 20000 in
theorem in_k_release : ∀ w ∈ wp_k_release, w ∈ lw_tbl := List.forall_mem_cons.mpr ⟨List.mem_of_getElem? (i := 1065) (by decide +kernel), List.forall_mem_append.mpr ⟨inown_k_release, List.forall_mem_append.mpr ⟨in_k_strength, List.forall_mem_append.mpr ⟨in_k_padd, List.forall_mem_append.mpr ⟨lwb_X6, fun _ h => absurd h List.not_mem_nil⟩⟩⟩⟩⟩
set_option maxRecDepth 20000 in
theorem good_k_release : wp_k_release.all goodWord = true := by decide +kernel
set_option maxRecDepth 20000 in
theorem g_k_release_k_strength_124 : GoodIn wp_k_release (va_wsS RX6 124 yX6_strength wp_k_strength) := goodIn_sub (List.forall_mem_append.mpr ⟨List.forall_mem_cons.mpr ⟨(List.mem_of_getElem? (i := 3) rfl), List.forall_mem_cons.mpr ⟨(List.mem_of_getElem? (i := 4) rfl), List.forall_mem_cons.mpr ⟨(List.mem_of_getElem? (i := 5) rfl), fun _ h => absurd h List.not_mem_nil⟩⟩⟩, (fun _ h => (List.mem_cons_of_mem _ (List.mem_append_right _ (List.mem_append_left _ h))))⟩) (by decide +kernel)
set_option maxRecDepth 20000 in
theorem g_k_release_k_padd_118 : GoodIn wp_k_release (wsV RX6 118 RX7 yX7_add wp_k_padd) := goodIn_sub (List.forall_mem_append.mpr ⟨List.forall_mem_cons.mpr ⟨(List.mem_of_getElem? (i := 7) rfl), List.forall_mem_cons.mpr ⟨(List.mem_of_getElem? (i := 8) rfl), List.forall_mem_cons.mpr ⟨(List.mem_of_getElem? (i := 9) rfl), List.forall_mem_cons.mpr ⟨(List.mem_of_getElem? (i := 10) rfl), fun _ h => absurd h List.not_mem_nil⟩⟩⟩⟩, (fun _ h => (List.mem_cons_of_mem _ (List.mem_append_right _ (List.mem_append_right _ (List.mem_append_left _ h)))))⟩) (by decide +kernel)
set_option maxHeartbeats 4000000 in
set_option maxRecDepth 100000 in
theorem lk_release (l : Launch) {p : Program} {e : Env} {s : State} {m : MethodId} {args : Array Value} {below : List Frame} {meth : Method} {c : Code} {Q : State → Prop} {A : Nat → Prop} (D : va_G) (oq : Nat → Nat) (cI : ClassId) (qf : Int32) (qp : Int32) (qd : Int32) (qs : Int32) (qt : Int32) (qb : Int32) (qh : Int32) (qr : Int32) (qn : Int32) (bk : Nat) (fW : Nat → Int32) (le : Nat) (wN : Nat → Nat) (wz : Nat) (pz : Nat) (g0 : PG) (hle : 1 ≤ le ∧ le ≤ 2) (hwN : EqU wz fW wN) (hw255 : ∀ j, j < wz → wN j ≤ 255) (hpw : pz + wz ≤ 600) (hx : p.tables.exec = Jvm.exec) (hb : c.code = cX6_release) (hml : c.maxLocals = 2) (hown : s.vm.findClass RX6 = some m.cls) (hts : ∀ w ∈ wp_k_release, w.before args s = true) (hA : ∀ q, s.heap.size ≤ q → A q) (hK : va_K D vwCl [(cI, .int)] s) (hN : NC s) (kx55 : ∀ (y : Nat), ∀ (p2 : Nat), ∀ (gK : Nat → Int32), ∀ (gN : Nat → Int32), ∀ (gL : Nat → Int32), ∀ (g : PG), (y ≤ wz) → (p2 + y = pz + wz) → (MatG g p2 gK gN gL) → (relP le wN wz g0 = relP le wN y g) → (relP le wN y g = (y, g)) → ∀ (H : Heap) (locs : List Loc) (ls : Array Slot), va_P D vwCl [(oq 0, .inr (6, gPs oq qf qp qd qs qt qb qh qr qn (nI bk) (nI y))), (oq 7, .inl (cI, 600, .inl fW)), (oq 1, .inr (7, [.int (nI p2), .ref (oq 2), .ref (oq 3), .ref (oq 4)])), (oq 2, .inl (cI, 600, .inl gK)), (oq 3, .inl (cI, 600, .inl gN)), (oq 4, .inl (cI, 600, .inl gL))] H → va_D A [(oq 0, .inr (6, gPs oq qf qp qd qs qt qb qh qr qn (nI bk) (nI y))), (oq 7, .inl (cI, 600, .inl fW)), (oq 1, .inr (7, [.int (nI p2), .ref (oq 2), .ref (oq 3), .ref (oq 4)])), (oq 2, .inl (cI, 600, .inl gK)), (oq 3, .inl (cI, 600, .inl gN)), (oq 4, .inl (cI, 600, .inl gL))] → va_S A s.heap H locs → lv_has ls 2 [(0, .ref (oq 0))] → W p l e ({ frames := 1, cells := 0, slots := 0, locals := 40 }) s m args below meth c H locs 0 0 Q (F0 m 55 ls [])) : ∀ (N : Nat), ∀ (y : Nat), ∀ (p2 : Nat), ∀ (gK : Nat → Int32), ∀ (gN : Nat → Int32), ∀ (gL : Nat → Int32), ∀ (g : PG), (y ≤ wz) → (p2 + y = pz + wz) → (MatG g p2 gK gN gL) → (relP le wN wz g0 = relP le wN y g) → y < N → ∀ (H : Heap) (locs : List Loc) (ls : Array Slot), va_P D vwCl [(oq 0, .inr (6, gPs oq qf qp qd qs qt qb qh qr qn (nI bk) (nI y))), (oq 7, .inl (cI, 600, .inl fW)), (oq 1, .inr (7, [.int (nI p2), .ref (oq 2), .ref (oq 3), .ref (oq 4)])), (oq 2, .inl (cI, 600, .inl gK)), (oq 3, .inl (cI, 600, .inl gN)), (oq 4, .inl (cI, 600, .inl gL))] H → va_D A [(oq 0, .inr (6, gPs oq qf qp qd qs qt qb qh qr qn (nI bk) (nI y))), (oq 7, .inl (cI, 600, .inl fW)), (oq 1, .inr (7, [.int (nI p2), .ref (oq 2), .ref (oq 3), .ref (oq 4)])), (oq 2, .inl (cI, 600, .inl gK)), (oq 3, .inl (cI, 600, .inl gN)), (oq 4, .inl (cI, 600, .inl gL))] → va_S A s.heap H locs → lv_has ls 2 [(0, .ref (oq 0)), (1, .int (nI le))] → W p l e ({ frames := 1, cells := 0, slots := 0, locals := 40 }) s m args below meth c H locs 0 0 Q (F0 m 0 ls []) := by
  have hin_X6 : ∀ w ∈ wsX60, w ∈ wp_k_release := fun _ h => (List.mem_cons_of_mem _ (List.mem_append_right _ (List.mem_append_right _ (List.mem_append_right _ (List.mem_append_left _ h)))))
  intro N
  induction N with
  | zero =>
    intro y p2 gK gN gL g hy1 hp2 hg hrl hm
    exact absurd hm (Nat.not_lt_zero _)
  | succ N ih =>
    intro y p2 gK gN gL g hy1 hp2 hg hrl hm H locs ls hP hD hS hl
    refine lv_aload_n hx hb dX6_release_0 rfl (lv_at hl 0 rfl) ?_
    refine va_get (D := D) (ci := 6) (v := .int (nI y)) (C := RX6) (T := TX6) (N := 15) hx hb hts hin_X6 hown hK hP 0 rfl rfl 13 (by decide) (hts (.fieldLink RX6 52 "ClashFree$Parser" "waitingSize" "I") (List.mem_of_getElem? (i := 1) rfl)) (fun _ h9 => h9) rfl dX6_release_1 ?_
    refine lv_if_le (tgt := 55) hx hb dX6_release_4 (by decide) (fun hc1 => ?_) (fun hc1 => ?_)
    ·
      have hy0 : y = 0 := by
        have := (nI_leI (b := 0) (by omega) (by decide)).mp hc1
        omega
      exact kx55 y p2 gK gN gL g (by omega) (hp2) (hg) (hrl) (by subst hy0; rfl) H locs ls (hP.sub [0, 1, 2, 3, 4, 5] rfl) (hD.sub [0, 1, 2, 3, 4, 5] (by decide) rfl) hS (lv_sub hl [0] rfl)
    ·
      obtain ⟨y1, rfl⟩ : ∃ q, y = q + 1 := ⟨y - 1, by
        rcases Nat.eq_zero_or_pos y with z | z
        · exact absurd (by rw [z]; decide) hc1
        · omega⟩
      refine lv_aload_n hx hb dX6_release_7 rfl (lv_at hl 0 rfl) ?_
      refine va_get (D := D) (ci := 6) (v := .ref (oq 7)) (C := RX6) (T := TX6) (N := 15) hx hb hts hin_X6 hown hK hP 0 rfl rfl 14 (by decide) (hts (.fieldLink RX6 29 "ClashFree$Parser" "waiting" "[I") (List.mem_of_getElem? (i := 2) rfl)) (fun _ h9 => h9) rfl dX6_release_8 ?_
      refine lv_aload_n hx hb dX6_release_11 rfl (lv_at hl 0 rfl) ?_
      refine va_get (D := D) (ci := 6) (v := .int (nI (y1 + 1))) (C := RX6) (T := TX6) (N := 15) hx hb hts hin_X6 hown hK hP 0 rfl rfl 13 (by decide) (hts (.fieldLink RX6 52 "ClashFree$Parser" "waitingSize" "I") (List.mem_of_getElem? (i := 1) rfl)) (fun _ h9 => h9) rfl dX6_release_12 ?_
      refine lv_iconst (v := 1) hx hb dX6_release_15 (by decide) ?_
      refine lv_isub hx hb dX6_release_16 ?_
      refine lv_topi (fun v2 ev2 => ?_)
      obtain rfl : v2 = nI y1 := ev2.trans ((pk_sub (b := 1) (by omega)).trans (congrArg nI (by omega)))
      refine va_iald hx hb hK hP 1 0 rfl rfl (vp_in_nI (by omega) (by decide)) dX6_release_17 ?_
      refine lv_topi (fun v3 ev3 => ?_)
      obtain rfl : v3 = nI (wN y1) := ev3.trans (by rw [nI_clamp (by omega)]; exact hwN _ (by omega))
      have hPc := hP.sub (ws' := []) [] rfl
      have hKc := hK.sub (tys' := []) [] rfl
      have hFc := va_free0 hS hA
      refine va_calli (va_runS (As := [.int (nI (wN y1))]) (rest := []) ⟨hx, hb, hml, hown, hts⟩ (k_strength l D _ cI (nI (wN y1)) (wN y1) rfl (hw255 _ (by omega))) (va_cwS 1 hts g_k_release_k_strength_124 rfl rfl rfl (by decide +kernel) ⟨(Nat.le_of_ble_eq_true rfl), (Nat.le_of_ble_eq_true rfl)⟩) (PcRC_S hPc hKc hN) rfl rfl hl.1 rfl (lv_room (Nat.le_of_ble_eq_true rfl)) dX6_release_18 ⟨(Nat.le_of_ble_eq_true rfl), (Nat.le_of_ble_eq_true rfl)⟩) hS (fun q _ h => hFc q h) hFc (fun r4 uu tt H locs htt hvm hw hB hz1 hk1 hS => ?_)
      have hP := va_keep hP hk1
      try dsimp only at hw
      clear hB hz1 hk1 hFc hPc hKc
      obtain rfl : r4 = nI (strN (wN y1)) := hw
      refine lv_iload_n hx hb dX6_release_21 rfl (lv_at hl 1 rfl) ?_
      refine lv_icmp_lt (tgt := 55) hx hb dX6_release_22 (by decide) (fun hc5 => ?_) (fun hc5 => ?_)
      ·
        have hs2 : strN (wN y1) ≤ 2 := by unfold strN; split <;> (try split) <;> omega
        have hlt2 : ¬ le ≤ strN (wN y1) := Nat.not_le.mpr ((nI_ltI (by omega) (by omega)).mp hc5)
        exact kx55 (y1 + 1) p2 gK gN gL g (by omega) (hp2) (hg) (hrl) (if_neg hlt2) H locs ls (hP.sub [0, 1, 2, 3, 4, 5] rfl) (hD.sub [0, 1, 2, 3, 4, 5] (by decide) rfl) hS (lv_sub hl [0] rfl)
      ·
        have hs2 : strN (wN y1) ≤ 2 := by unfold strN; split <;> (try split) <;> omega
        have hge : le ≤ strN (wN y1) := by
          rcases Nat.lt_or_ge (strN (wN y1)) le with z | z
          · exact absurd (nI_lt z (by omega)) hc5
          · exact z
        refine lv_aload_n hx hb dX6_release_25 rfl (lv_at hl 0 rfl) ?_
        refine lv_dup hx hb dX6_release_26 rfl ?_
        refine va_get (D := D) (ci := 6) (v := .int (nI (y1 + 1))) (C := RX6) (T := TX6) (N := 15) hx hb hts hin_X6 hown hK hP 0 rfl rfl 13 (by decide) (hts (.fieldLink RX6 52 "ClashFree$Parser" "waitingSize" "I") (List.mem_of_getElem? (i := 1) rfl)) (fun _ h9 => h9) rfl dX6_release_27 ?_
        refine lv_iconst (v := 1) hx hb dX6_release_30 (by decide) ?_
        refine lv_isub hx hb dX6_release_31 ?_
        refine lv_topi (fun v6 ev6 => ?_)
        obtain rfl : v6 = nI y1 := ev6.trans ((pk_sub (b := 1) (by omega)).trans (congrArg nI (by omega)))
        refine va_put (D := D) (ci := 6) (v := .int (nI y1)) (ty := .int) (C := RX6) (T := TX6) (N := 15) hx hb hts hin_X6 tyX6 tyX6_ok nmX6 hown hK hP hD hS 0 rfl rfl 13 (by decide) (hts (.fieldLink RX6 52 "ClashFree$Parser" "waitingSize" "I") (List.mem_of_getElem? (i := 1) rfl)) (fun _ h9 => h9) rfl (by decide +kernel) rfl rfl (Nat.le_of_ble_eq_true rfl) dX6_release_32 (fun H locs hP hD hS => ?_)
        have hP : va_P D vwCl [(oq 0, .inr (6, gPs oq qf qp qd qs qt qb qh qr qn (nI bk) (nI y1))), (oq 7, .inl (cI, 600, .inl fW)), (oq 1, .inr (7, [.int (nI p2), .ref (oq 2), .ref (oq 3), .ref (oq 4)])), (oq 2, .inl (cI, 600, .inl gK)), (oq 3, .inl (cI, 600, .inl gN)), (oq 4, .inl (cI, 600, .inl gL))] H := hP
        have hD : va_D A [(oq 0, .inr (6, gPs oq qf qp qd qs qt qb qh qr qn (nI bk) (nI y1))), (oq 7, .inl (cI, 600, .inl fW)), (oq 1, .inr (7, [.int (nI p2), .ref (oq 2), .ref (oq 3), .ref (oq 4)])), (oq 2, .inl (cI, 600, .inl gK)), (oq 3, .inl (cI, 600, .inl gN)), (oq 4, .inl (cI, 600, .inl gL))] := hD
        refine lv_aload_n hx hb dX6_release_35 rfl (lv_at hl 0 rfl) ?_
        refine va_get (D := D) (ci := 6) (v := .ref (oq 1)) (C := RX6) (T := TX6) (N := 15) hx hb hts hin_X6 hown hK hP 0 rfl rfl 3 (by decide) (hts (.fieldLink RX6 12 "ClashFree$Parser" "program" "LClashFree$Program;") (List.mem_of_getElem? (i := 6) rfl)) (fun _ h9 => h9) rfl dX6_release_36 ?_
        refine lv_aload_n hx hb dX6_release_39 rfl (lv_at hl 0 rfl) ?_
        refine va_get (D := D) (ci := 6) (v := .ref (oq 7)) (C := RX6) (T := TX6) (N := 15) hx hb hts hin_X6 hown hK hP 0 rfl rfl 14 (by decide) (hts (.fieldLink RX6 29 "ClashFree$Parser" "waiting" "[I") (List.mem_of_getElem? (i := 2) rfl)) (fun _ h9 => h9) rfl dX6_release_40 ?_
        refine lv_aload_n hx hb dX6_release_43 rfl (lv_at hl 0 rfl) ?_
        refine va_get (D := D) (ci := 6) (v := .int (nI y1)) (C := RX6) (T := TX6) (N := 15) hx hb hts hin_X6 hown hK hP 0 rfl rfl 13 (by decide) (hts (.fieldLink RX6 52 "ClashFree$Parser" "waitingSize" "I") (List.mem_of_getElem? (i := 1) rfl)) (fun _ h9 => h9) rfl dX6_release_44 ?_
        refine va_iald hx hb hK hP 1 0 rfl rfl (vp_in_nI (by omega) (by decide)) dX6_release_47 ?_
        refine lv_topi (fun v7 ev7 => ?_)
        obtain rfl : v7 = nI (wN y1) := ev7.trans (by rw [nI_clamp (by omega)]; exact hwN _ (by omega))
        refine lv_iconst (v := 0) hx hb dX6_release_48 (by decide) ?_
        have hPc := hP.sub (ws' := [(oq 1, .inr (7, [.int (nI p2), .ref (oq 2), .ref (oq 3), .ref (oq 4)])), (oq 2, .inl (cI, 600, .inl gK)), (oq 3, .inl (cI, 600, .inl gN)), (oq 4, .inl (cI, 600, .inl gL))]) [2, 3, 4, 5] rfl
        have hKc := hK.sub (tys' := [(cI, .int)]) [0] rfl
        have hDc := hD.sub (ws' := [(oq 1, .inr (7, [.int (nI p2), .ref (oq 2), .ref (oq 3), .ref (oq 4)])), (oq 2, .inl (cI, 600, .inl gK)), (oq 3, .inl (cI, 600, .inl gN)), (oq 4, .inl (cI, 600, .inl gL))]) [2, 3, 4, 5] (by decide) rfl
        have hFc := va_free (wc := [(oq 1, .inr (7, [.int (nI p2), .ref (oq 2), .ref (oq 3), .ref (oq 4)])), (oq 2, .inl (cI, 600, .inl gK)), (oq 3, .inl (cI, 600, .inl gN)), (oq 4, .inl (cI, 600, .inl gL))]) hD hS hA [2, 3, 4, 5] rfl
        refine va_callv (va_runV (As := [.int (nI (wN y1)), .int 0]) (rest := []) ⟨hx, hb, hml, hown, hts⟩ (k_padd l D _ oq cI p2 gK gN gL (nI (wN y1)) 0 (by omega)) (cwV 2 hts g_k_release_k_padd_118 rfl rfl rfl (by decide +kernel) ⟨(Nat.le_of_ble_eq_true rfl), (Nat.le_of_ble_eq_true rfl)⟩) (PcWC_V (q0 := 0) hPc hKc hDc hN rfl rfl) rfl rfl hl.1 rfl (lv_room (Nat.le_of_ble_eq_true rfl)) dX6_release_49 ⟨(Nat.le_of_ble_eq_true rfl), (Nat.le_of_ble_eq_true rfl)⟩) hS (fun q _ h => hFc q h) hFc (fun uu tt H locs htt hvm hw hB hz1 hk1 hS => ?_)
        obtain ⟨w9, w10, w11, w12⟩ := uu
        obtain ⟨hP1, hK1, hD1⟩ := hB
        rw [htt] at hP1
        have hK1 := va_K.moved hvm.symm hK1
        have hP1 : va_P D vwCl [(oq 1, .inr (7, [.int (nI w9), .ref (oq 2), .ref (oq 3), .ref (oq 4)])), (oq 2, .inl (cI, 600, .inl w10)), (oq 3, .inl (cI, 600, .inl w11)), (oq 4, .inl (cI, 600, .inl w12))] H := hP1
        obtain ⟨hP, hD⟩ := va_join (wr := [(oq 0, .inr (6, gPs oq qf qp qd qs qt qb qh qr qn (nI bk) (nI y1))), (oq 7, .inl (cI, 600, .inl fW))]) (w1 := [(oq 1, .inr (7, [.int (nI w9), .ref (oq 2), .ref (oq 3), .ref (oq 4)])), (oq 2, .inl (cI, 600, .inl w10)), (oq 3, .inl (cI, 600, .inl w11)), (oq 4, .inl (cI, 600, .inl w12))]) hP hD [2, 3, 4, 5] [0, 1] rfl rfl (by decide) (by decide) hk1 hFc hP1 hD1
        have hP : va_P D vwCl [(oq 0, .inr (6, gPs oq qf qp qd qs qt qb qh qr qn (nI bk) (nI y1))), (oq 7, .inl (cI, 600, .inl fW)), (oq 1, .inr (7, [.int (nI w9), .ref (oq 2), .ref (oq 3), .ref (oq 4)])), (oq 2, .inl (cI, 600, .inl w10)), (oq 3, .inl (cI, 600, .inl w11)), (oq 4, .inl (cI, 600, .inl w12))] H := hP
        have hD : va_D A [(oq 0, .inr (6, gPs oq qf qp qd qs qt qb qh qr qn (nI bk) (nI y1))), (oq 7, .inl (cI, 600, .inl fW)), (oq 1, .inr (7, [.int (nI w9), .ref (oq 2), .ref (oq 3), .ref (oq 4)])), (oq 2, .inl (cI, 600, .inl w10)), (oq 3, .inl (cI, 600, .inl w11)), (oq 4, .inl (cI, 600, .inl w12))] := hD
        try dsimp only at hw
        clear hz1 hk1 hFc hPc hKc hDc
        obtain ⟨hpd13, rfl, rfl, rfl, rfl⟩ := hw.resolve_right (fun q => absurd q.1 (by omega))
        have hP : va_P D vwCl [(oq 0, .inr (6, gPs oq qf qp qd qs qt qb qh qr qn (nI bk) (nI y1))), (oq 7, .inl (cI, 600, .inl fW)), (oq 1, .inr (7, [.int (nI (p2 + 1)), .ref (oq 2), .ref (oq 3), .ref (oq 4)])), (oq 2, .inl (cI, 600, .inl (upd gK p2 (nI (wN y1))))), (oq 3, .inl (cI, 600, .inl (upd gN p2 0))), (oq 4, .inl (cI, 600, .inl (upd gL p2 0)))] H := hP
        have hD : va_D A [(oq 0, .inr (6, gPs oq qf qp qd qs qt qb qh qr qn (nI bk) (nI y1))), (oq 7, .inl (cI, 600, .inl fW)), (oq 1, .inr (7, [.int (nI (p2 + 1)), .ref (oq 2), .ref (oq 3), .ref (oq 4)])), (oq 2, .inl (cI, 600, .inl (upd gK p2 (nI (wN y1))))), (oq 3, .inl (cI, 600, .inl (upd gN p2 0))), (oq 4, .inl (cI, 600, .inl (upd gL p2 0)))] := hD
        refine lv_goto (tgt := 0) hx hb dX6_release_52 (by decide) ?_
        exact ih y1 (p2 + 1) (upd gK p2 (nI (wN y1))) (upd gN p2 0) (upd gL p2 0) (addP g (wN y1) 0) (by omega) (by omega) (hg.add (wN y1) 0 (hw255 _ (by omega)) (by decide)) (hrl.trans (if_pos hge)) (by omega) H locs ls (hP.sub [0, 1, 2, 3, 4, 5] rfl) (hD.sub [0, 1, 2, 3, 4, 5] (by decide) rfl) hS (lv_sub hl [0, 1] rfl)
set_option maxHeartbeats 4000000 in
set_option maxRecDepth 100000 in
theorem k_release (l : Launch) (D : va_G) (sz : Nat) (oq : Nat → Nat) (cI : ClassId) (qf : Int32) (qp : Int32) (qd : Int32) (qs : Int32) (qt : Int32) (qb : Int32) (qh : Int32) (qr : Int32) (qn : Int32) (bk : Nat) (wz : Nat) (fW : Nat → Int32) (pz : Nat) (fK : Nat → Int32) (fN : Nat → Int32) (fL : Nat → Int32) (le : Nat) (wN : Nat → Nat) (g : PG) (hle : 1 ≤ le ∧ le ≤ 2) (hwN : EqU wz fW wN) (hw255 : ∀ j, j < wz → wN j ≤ 255) (hg : MatG g pz fK fN fL) (hpw : pz + wz ≤ 600) : Met l yX6_release wp_k_release ({ frames := 1, cells := 0, slots := 0, locals := 40 }) (PcWC D [.ref (oq 0), .int (nI le)] sz [(oq 0, .inr (6, gPs oq qf qp qd qs qt qb qh qr qn (nI bk) (nI wz))), (oq 7, .inl (cI, 600, .inl fW)), (oq 1, .inr (7, [.int (nI pz), .ref (oq 2), .ref (oq 3), .ref (oq 4)])), (oq 2, .inl (cI, 600, .inl fK)), (oq 3, .inl (cI, 600, .inl fN)), (oq 4, .inl (cI, 600, .inl fL))] [(cI, .int)]) (va_Qv (fun (u : (Nat) × (Nat) × (Nat → Int32) × (Nat → Int32) × (Nat → Int32)) => u.1 = (relP le wN wz g).1 ∧ MatG (relP le wN wz g).2 u.2.1 u.2.2.1 u.2.2.2.1 u.2.2.2.2 ∧ u.2.1 + u.1 = pz + wz) (fun (u : (Nat) × (Nat) × (Nat → Int32) × (Nat → Int32) × (Nat → Int32)) t => va_P D vwCl [(oq 0, .inr (6, gPs oq qf qp qd qs qt qb qh qr qn (nI bk) (nI u.1))), (oq 7, .inl (cI, 600, .inl fW)), (oq 1, .inr (7, [.int (nI u.2.1), .ref (oq 2), .ref (oq 3), .ref (oq 4)])), (oq 2, .inl (cI, 600, .inl u.2.2.1)), (oq 3, .inl (cI, 600, .inl u.2.2.2.1)), (oq 4, .inl (cI, 600, .inl u.2.2.2.2))] t.heap ∧ va_K D vwCl [(cI, .int)] t ∧ va_D (va_A [(oq 0, .inr (6, gPs oq qf qp qd qs qt qb qh qr qn (nI bk) (nI wz))), (oq 7, .inl (cI, 600, .inl fW)), (oq 1, .inr (7, [.int (nI pz), .ref (oq 2), .ref (oq 3), .ref (oq 4)])), (oq 2, .inl (cI, 600, .inl fK)), (oq 3, .inl (cI, 600, .inl fN)), (oq 4, .inl (cI, 600, .inl fL))] sz) [(oq 0, .inr (6, gPs oq qf qp qd qs qt qb qh qr qn (nI bk) (nI u.1))), (oq 7, .inl (cI, 600, .inl fW)), (oq 1, .inr (7, [.int (nI u.2.1), .ref (oq 2), .ref (oq 3), .ref (oq 4)])), (oq 2, .inl (cI, 600, .inl u.2.2.1)), (oq 3, .inl (cI, 600, .inl u.2.2.2.1)), (oq 4, .inl (cI, 600, .inl u.2.2.2.2))]) (va_A [(oq 0, .inr (6, gPs oq qf qp qd qs qt qb qh qr qn (nI bk) (nI wz))), (oq 7, .inl (cI, 600, .inl fW)), (oq 1, .inr (7, [.int (nI pz), .ref (oq 2), .ref (oq 3), .ref (oq 4)])), (oq 2, .inl (cI, 600, .inl fK)), (oq 3, .inl (cI, 600, .inl fN)), (oq 4, .inl (cI, 600, .inl fL))] sz)) 0 0 (va_A [(oq 0, .inr (6, gPs oq qf qp qd qs qt qb qh qr qn (nI bk) (nI wz))), (oq 7, .inl (cI, 600, .inl fW)), (oq 1, .inr (7, [.int (nI pz), .ref (oq 2), .ref (oq 3), .ref (oq 4)])), (oq 2, .inl (cI, 600, .inl fK)), (oq 3, .inl (cI, 600, .inl fN)), (oq 4, .inl (cI, 600, .inl fL))] sz) := by
  refine Met.ofW (cc := cX6_release) (maxL := 2) (ret := none) (by decide) rfl ?_
  intro p e s m args below meth c s₁ B hml hv
  obtain ⟨rfl, hsz, hP, hK, hD0, hN⟩ := hv
  have hx := B.exec
  have hb := B.bytes
  have hr := B.returns
  have hts := atoms_spec (ws := wp_k_release) B.pre
  have hin_X6 : ∀ w ∈ wsX60, w ∈ wp_k_release := fun _ h => (List.mem_cons_of_mem _ (List.mem_append_right _ (List.mem_append_right _ (List.mem_append_right _ (List.mem_append_left _ h)))))
  have hown : s.vm.findClass RX6 = some m.cls := findClass_of_methodNamed B.named
  have hlocks := B.notSynchronized
  subst hsz
  have hD := hD0.self (sz := s.heap.size)
  generalize hAe : va_A [(oq 0, .inr (6, gPs oq qf qp qd qs qt qb qh qr qn (nI bk) (nI wz))), (oq 7, .inl (cI, 600, .inl fW)), (oq 1, .inr (7, [.int (nI pz), .ref (oq 2), .ref (oq 3), .ref (oq 4)])), (oq 2, .inl (cI, 600, .inl fK)), (oq 3, .inl (cI, 600, .inl fN)), (oq 4, .inl (cI, 600, .inl fL))] s.heap.size = A at hD ⊢
  have hA : ∀ q : Nat, s.heap.size ≤ q → A q := fun q h => by rw [← hAe]; exact Or.inr h
  have hS : va_S A s.heap s.heap [] := va_S.rf
  have hP : va_P D vwCl [(oq 0, .inr (6, gPs oq qf qp qd qs qt qb qh qr qn (nI bk) (nI wz))), (oq 7, .inl (cI, 600, .inl fW)), (oq 1, .inr (7, [.int (nI pz), .ref (oq 2), .ref (oq 3), .ref (oq 4)])), (oq 2, .inl (cI, 600, .inl fK)), (oq 3, .inl (cI, 600, .inl fN)), (oq 4, .inl (cI, 600, .inl fL))] s.heap := hP
  have hl := lv_entry ([.ref (oq 0), .int (nI le)]) (n := 2) (Nat.le_of_ble_eq_true rfl)
  rw [lg_entry_eq]
  generalize (lg_sl ([.ref (oq 0), .int (nI le)]) ++ List.replicate (2 - (lg_sl ([.ref (oq 0), .int (nI le)])).length) Slot.unset).toArray = ls at hl ⊢
  have hl : lv_has ls 2 [(0, .ref (oq 0)), (1, .int (nI le))] := hl
  refine lk_release l D oq cI qf qp qd qs qt qb qh qr qn bk fW le wN wz pz g (hle) (hwN) (hw255) (hpw) hx hb hml hown hts hA (hK.sub [0] rfl) hN ?_ (wz + 1) wz pz fK fN fL g (Nat.le_refl _) (rfl) (hg) (rfl) (by omega) _ _ _ (hP.sub [0, 1, 2, 3, 4, 5] rfl) (hD.sub [0, 1, 2, 3, 4, 5] (by decide) rfl) hS (lv_sub hl [0, 1] rfl)
  intro y_1 p2_2 gK_3 gN_4 gL_5 g_6 hy1_7 hp2_8 hg_9 hrl_10 hx11 H locs ls hP hD hS hl
  exact W.vret hx hb hr (fun t ht hW => ⟨⟨(y_1, p2_2, gK_3, gN_4, gL_5), rfl, (by (try dsimp only); first | done | exact ⟨by rw [hrl_10, hx11], by rw [hrl_10, hx11]; exact hg_9, by omega⟩), by rw [ht]; exact hP.sub [0, 1, 2, 3, 4, 5] rfl, va_K.moved hW.alike (hK.sub [0] rfl), hD.sub [0, 1, 2, 3, 4, 5] (by decide) rfl⟩, hS.F ht⟩) hS.2.2 dX6_release_55

def own_k_open : List Cond := [.fieldLink RX6 42 "ClashFree$Parser" "heading" "Z", .fieldLink RX6 49 "ClashFree$Parser" "blocks" "I", .fieldLink RX6 25 "ClashFree$Parser" "opened" "[I", .fieldLink RX6 12 "ClashFree$Parser" "program" "LClashFree$Program;", .fieldLink RX6 36 "ClashFree$Program" "size" "I", .methodLink RX6 118 yX7_add, .instanceMethod yX7_add, .selects RX7 yX7_add yX7_add, .initialized RX7, .fieldLink RX6 39 "ClashFree$Parser" "state" "I", .fieldLink RX6 100 "ClashFree$Parser" "began" "I", .methodLink RX6 55 yX6_note, .instanceMethod yX6_note, .selects RX6 yX6_note yX6_note, .initialized RX6]
def wp_k_open : List Cond := .code yX6_open cX6_open 3 none :: (own_k_open ++ (wp_k_padd ++ (wp_k_note ++ (wsX60 ++ (wsX70 ++ ([] : List Cond))))))
set_option maxRecDepth 20000 in
theorem inown_k_open : ∀ w ∈ own_k_open, w ∈ lw_tbl := mem_places [339, 342, 343, 333, 279, 1039, 1040, 1041, 112, 336, 338, 915, 917, 4, 111] (by decide +kernel)
set_option maxRecDepth 20000 in
theorem in_k_open : ∀ w ∈ wp_k_open, w ∈ lw_tbl := List.forall_mem_cons.mpr ⟨List.mem_of_getElem? (i := 1077) (by decide +kernel), List.forall_mem_append.mpr ⟨inown_k_open, List.forall_mem_append.mpr ⟨in_k_padd, List.forall_mem_append.mpr ⟨in_k_note, List.forall_mem_append.mpr ⟨lwb_X6, List.forall_mem_append.mpr ⟨lwb_X7, fun _ h => absurd h List.not_mem_nil⟩⟩⟩⟩⟩⟩
set_option maxRecDepth 20000 in
theorem good_k_open : wp_k_open.all goodWord = true := by decide +kernel
set_option maxRecDepth 20000 in
theorem g_k_open_k_padd_118 : GoodIn wp_k_open (wsV RX6 118 RX7 yX7_add wp_k_padd) := goodIn_sub (List.forall_mem_append.mpr ⟨List.forall_mem_cons.mpr ⟨(List.mem_of_getElem? (i := 6) rfl), List.forall_mem_cons.mpr ⟨(List.mem_of_getElem? (i := 7) rfl), List.forall_mem_cons.mpr ⟨(List.mem_of_getElem? (i := 8) rfl), List.forall_mem_cons.mpr ⟨(List.mem_of_getElem? (i := 9) rfl), fun _ h => absurd h List.not_mem_nil⟩⟩⟩⟩, (fun _ h => (List.mem_cons_of_mem _ (List.mem_append_right _ (List.mem_append_left _ h))))⟩) (by decide +kernel)
set_option maxRecDepth 20000 in
theorem g_k_open_k_note_55 : GoodIn wp_k_open (wsV RX6 55 RX6 yX6_note wp_k_note) := goodIn_sub (List.forall_mem_append.mpr ⟨List.forall_mem_cons.mpr ⟨(List.mem_of_getElem? (i := 12) rfl), List.forall_mem_cons.mpr ⟨(List.mem_of_getElem? (i := 13) rfl), List.forall_mem_cons.mpr ⟨(List.mem_of_getElem? (i := 14) rfl), List.forall_mem_cons.mpr ⟨(List.mem_of_getElem? (i := 15) rfl), fun _ h => absurd h List.not_mem_nil⟩⟩⟩⟩, (fun _ h => (List.mem_cons_of_mem _ (List.mem_append_right _ (List.mem_append_right _ (List.mem_append_left _ h)))))⟩) (by decide +kernel)
set_option maxHeartbeats 4000000 in
set_option maxRecDepth 100000 in
theorem k_open (l : Launch) (D : va_G) (sz : Nat) (oq : Nat → Nat) (cI : ClassId) (qf : Int32) (qp : Int32) (qd : Int32) (qs : Int32) (qt : Int32) (qb : Int32) (qh : Int32) (qr : Int32) (qn : Int32) (bk : Nat) (wz : Nat) (fO : Nat → Int32) (pz : Nat) (fK : Nat → Int32) (fN : Nat → Int32) (fL : Nat → Int32) (z1 : Int32) (z2 : Int32) (hpz : pz < 600) (hbk : bk ≤ 5) : Met l yX6_open wp_k_open ({ frames := 1, cells := 0, slots := 0, locals := 22 }) (PcWC D [.ref (oq 0), .int z1, .int z2] sz [(oq 0, .inr (6, gPs oq qf qp qd qs qt qb qh qr qn (nI bk) (nI wz))), (oq 6, .inl (cI, 5, .inl fO)), (oq 1, .inr (7, [.int (nI pz), .ref (oq 2), .ref (oq 3), .ref (oq 4)])), (oq 2, .inl (cI, 600, .inl fK)), (oq 3, .inl (cI, 600, .inl fN)), (oq 4, .inl (cI, 600, .inl fL))] [(cI, .int)]) (va_Qv (fun (u : (Int32) × (Int32) × (Int32) × (Int32) × (Int32) × (Nat) × (Nat → Int32) × (Nat) × (Nat → Int32) × (Nat → Int32) × (Nat → Int32)) => u.2.2.2.1 = 0 ∧ ((bk < 5 ∧ u.1 = qf ∧ u.2.2.2.2.2.1 = bk + 1 ∧ u.2.2.2.2.2.2.1 = upd fO bk (nI pz) ∧ u.2.2.2.2.2.2.2.1 = pz + 1 ∧ u.2.2.2.2.2.2.2.2.1 = upd fK pz z1 ∧ u.2.2.2.2.2.2.2.2.2.1 = upd fN pz z2 ∧ u.2.2.2.2.2.2.2.2.2.2 = upd fL pz 0 ∧ u.2.2.2.2.1 = 0) ∨ (bk = 5 ∧ ¬ u.1 = 0 ∧ u.2.2.2.2.2.1 = bk ∧ u.2.2.2.2.2.2.1 = fO ∧ u.2.2.2.2.2.2.2.1 = pz ∧ u.2.2.2.2.2.2.2.2.1 = fK ∧ u.2.2.2.2.2.2.2.2.2.1 = fN ∧ u.2.2.2.2.2.2.2.2.2.2 = fL ∧ u.2.2.2.2.1 = qs))) (fun (u : (Int32) × (Int32) × (Int32) × (Int32) × (Int32) × (Nat) × (Nat → Int32) × (Nat) × (Nat → Int32) × (Nat → Int32) × (Nat → Int32)) t => va_P D vwCl [(oq 0, .inr (6, gPs oq u.1 u.2.1 u.2.2.1 u.2.2.2.2.1 qt qb u.2.2.2.1 qr qn (nI u.2.2.2.2.2.1) (nI wz))), (oq 6, .inl (cI, 5, .inl u.2.2.2.2.2.2.1)), (oq 1, .inr (7, [.int (nI u.2.2.2.2.2.2.2.1), .ref (oq 2), .ref (oq 3), .ref (oq 4)])), (oq 2, .inl (cI, 600, .inl u.2.2.2.2.2.2.2.2.1)), (oq 3, .inl (cI, 600, .inl u.2.2.2.2.2.2.2.2.2.1)), (oq 4, .inl (cI, 600, .inl u.2.2.2.2.2.2.2.2.2.2))] t.heap ∧ va_K D vwCl [(cI, .int)] t ∧ va_D (va_A [(oq 0, .inr (6, gPs oq qf qp qd qs qt qb qh qr qn (nI bk) (nI wz))), (oq 6, .inl (cI, 5, .inl fO)), (oq 1, .inr (7, [.int (nI pz), .ref (oq 2), .ref (oq 3), .ref (oq 4)])), (oq 2, .inl (cI, 600, .inl fK)), (oq 3, .inl (cI, 600, .inl fN)), (oq 4, .inl (cI, 600, .inl fL))] sz) [(oq 0, .inr (6, gPs oq u.1 u.2.1 u.2.2.1 u.2.2.2.2.1 qt qb u.2.2.2.1 qr qn (nI u.2.2.2.2.2.1) (nI wz))), (oq 6, .inl (cI, 5, .inl u.2.2.2.2.2.2.1)), (oq 1, .inr (7, [.int (nI u.2.2.2.2.2.2.2.1), .ref (oq 2), .ref (oq 3), .ref (oq 4)])), (oq 2, .inl (cI, 600, .inl u.2.2.2.2.2.2.2.2.1)), (oq 3, .inl (cI, 600, .inl u.2.2.2.2.2.2.2.2.2.1)), (oq 4, .inl (cI, 600, .inl u.2.2.2.2.2.2.2.2.2.2))]) (va_A [(oq 0, .inr (6, gPs oq qf qp qd qs qt qb qh qr qn (nI bk) (nI wz))), (oq 6, .inl (cI, 5, .inl fO)), (oq 1, .inr (7, [.int (nI pz), .ref (oq 2), .ref (oq 3), .ref (oq 4)])), (oq 2, .inl (cI, 600, .inl fK)), (oq 3, .inl (cI, 600, .inl fN)), (oq 4, .inl (cI, 600, .inl fL))] sz)) 0 0 (va_A [(oq 0, .inr (6, gPs oq qf qp qd qs qt qb qh qr qn (nI bk) (nI wz))), (oq 6, .inl (cI, 5, .inl fO)), (oq 1, .inr (7, [.int (nI pz), .ref (oq 2), .ref (oq 3), .ref (oq 4)])), (oq 2, .inl (cI, 600, .inl fK)), (oq 3, .inl (cI, 600, .inl fN)), (oq 4, .inl (cI, 600, .inl fL))] sz) := by
  refine Met.ofW (cc := cX6_open) (maxL := 3) (ret := none) (by decide) rfl ?_
  intro p e s m args below meth c s₁ B hml hv
  obtain ⟨rfl, hsz, hP, hK, hD0, hN⟩ := hv
  have hx := B.exec
  have hb := B.bytes
  have hr := B.returns
  have hts := atoms_spec (ws := wp_k_open) B.pre
  have hin_X6 : ∀ w ∈ wsX60, w ∈ wp_k_open := fun _ h => (List.mem_cons_of_mem _ (List.mem_append_right _ (List.mem_append_right _ (List.mem_append_right _ (List.mem_append_left _ h)))))
  have hin_X7 : ∀ w ∈ wsX70, w ∈ wp_k_open := fun _ h => (List.mem_cons_of_mem _ (List.mem_append_right _ (List.mem_append_right _ (List.mem_append_right _ (List.mem_append_right _ (List.mem_append_left _ h))))))
  have hown : s.vm.findClass RX6 = some m.cls := findClass_of_methodNamed B.named
  have hlocks := B.notSynchronized
  subst hsz
  have hD := hD0.self (sz := s.heap.size)
  generalize hAe : va_A [(oq 0, .inr (6, gPs oq qf qp qd qs qt qb qh qr qn (nI bk) (nI wz))), (oq 6, .inl (cI, 5, .inl fO)), (oq 1, .inr (7, [.int (nI pz), .ref (oq 2), .ref (oq 3), .ref (oq 4)])), (oq 2, .inl (cI, 600, .inl fK)), (oq 3, .inl (cI, 600, .inl fN)), (oq 4, .inl (cI, 600, .inl fL))] s.heap.size = A at hD ⊢
  have hA : ∀ q : Nat, s.heap.size ≤ q → A q := fun q h => by rw [← hAe]; exact Or.inr h
  have hS : va_S A s.heap s.heap [] := va_S.rf
  have hP : va_P D vwCl [(oq 0, .inr (6, gPs oq qf qp qd qs qt qb qh qr qn (nI bk) (nI wz))), (oq 6, .inl (cI, 5, .inl fO)), (oq 1, .inr (7, [.int (nI pz), .ref (oq 2), .ref (oq 3), .ref (oq 4)])), (oq 2, .inl (cI, 600, .inl fK)), (oq 3, .inl (cI, 600, .inl fN)), (oq 4, .inl (cI, 600, .inl fL))] s.heap := hP
  have hl := lv_entry ([.ref (oq 0), .int z1, .int z2]) (n := 3) (Nat.le_of_ble_eq_true rfl)
  rw [lg_entry_eq]
  generalize (lg_sl ([.ref (oq 0), .int z1, .int z2]) ++ List.replicate (3 - (lg_sl ([.ref (oq 0), .int z1, .int z2])).length) Slot.unset).toArray = ls at hl ⊢
  have hl : lv_has ls 3 [(0, .ref (oq 0)), (1, .int z1), (2, .int z2)] := hl
  refine lv_aload_n hx hb dX6_open_0 rfl (lv_at hl 0 rfl) ?_
  refine lv_iconst (v := 0) hx hb dX6_open_1 (by decide) ?_
  refine va_put (D := D) (ci := 6) (v := .int 0) (ty := .boolean) (C := RX6) (T := TX6) (N := 15) hx hb hts hin_X6 tyX6 tyX6_ok nmX6 hown hK hP hD hS 0 rfl rfl 8 (by decide) (hts (.fieldLink RX6 42 "ClashFree$Parser" "heading" "Z") (List.mem_of_getElem? (i := 1) rfl)) (fun _ h9 => h9) rfl (by decide +kernel) rfl rfl (Nat.le_of_ble_eq_true rfl) dX6_open_2 (fun H locs hP hD hS => ?_)
  have hP : va_P D vwCl [(oq 0, .inr (6, gPs oq qf qp qd qs qt qb 0 qr qn (nI bk) (nI wz))), (oq 6, .inl (cI, 5, .inl fO)), (oq 1, .inr (7, [.int (nI pz), .ref (oq 2), .ref (oq 3), .ref (oq 4)])), (oq 2, .inl (cI, 600, .inl fK)), (oq 3, .inl (cI, 600, .inl fN)), (oq 4, .inl (cI, 600, .inl fL))] H := hP
  have hD : va_D A [(oq 0, .inr (6, gPs oq qf qp qd qs qt qb 0 qr qn (nI bk) (nI wz))), (oq 6, .inl (cI, 5, .inl fO)), (oq 1, .inr (7, [.int (nI pz), .ref (oq 2), .ref (oq 3), .ref (oq 4)])), (oq 2, .inl (cI, 600, .inl fK)), (oq 3, .inl (cI, 600, .inl fN)), (oq 4, .inl (cI, 600, .inl fL))] := hD
  refine lv_aload_n hx hb dX6_open_5 rfl (lv_at hl 0 rfl) ?_
  refine va_get (D := D) (ci := 6) (v := .int (nI bk)) (C := RX6) (T := TX6) (N := 15) hx hb hts hin_X6 hown hK hP 0 rfl rfl 11 (by decide) (hts (.fieldLink RX6 49 "ClashFree$Parser" "blocks" "I") (List.mem_of_getElem? (i := 2) rfl)) (fun _ h9 => h9) rfl dX6_open_6 ?_
  refine lv_iconst (v := 5) hx hb dX6_open_9 (by decide) ?_
  refine lv_icmp_lt (tgt := 23) hx hb dX6_open_10 (by decide) (fun hc1 => ?_) (fun hc1 => ?_)
  ·
    have hlt : bk < 5 := (nI_ltI (b := 5) (by omega) (by decide)).mp hc1
    refine lv_aload_n hx hb dX6_open_23 rfl (lv_at hl 0 rfl) ?_
    refine va_get (D := D) (ci := 6) (v := .ref (oq 6)) (C := RX6) (T := TX6) (N := 15) hx hb hts hin_X6 hown hK hP 0 rfl rfl 12 (by decide) (hts (.fieldLink RX6 25 "ClashFree$Parser" "opened" "[I") (List.mem_of_getElem? (i := 3) rfl)) (fun _ h9 => h9) rfl dX6_open_24 ?_
    refine lv_aload_n hx hb dX6_open_27 rfl (lv_at hl 0 rfl) ?_
    refine va_get (D := D) (ci := 6) (v := .int (nI bk)) (C := RX6) (T := TX6) (N := 15) hx hb hts hin_X6 hown hK hP 0 rfl rfl 11 (by decide) (hts (.fieldLink RX6 49 "ClashFree$Parser" "blocks" "I") (List.mem_of_getElem? (i := 2) rfl)) (fun _ h9 => h9) rfl dX6_open_28 ?_
    refine lv_aload_n hx hb dX6_open_31 rfl (lv_at hl 0 rfl) ?_
    refine va_get (D := D) (ci := 6) (v := .ref (oq 1)) (C := RX6) (T := TX6) (N := 15) hx hb hts hin_X6 hown hK hP 0 rfl rfl 3 (by decide) (hts (.fieldLink RX6 12 "ClashFree$Parser" "program" "LClashFree$Program;") (List.mem_of_getElem? (i := 4) rfl)) (fun _ h9 => h9) rfl dX6_open_32 ?_
    refine va_get (D := D) (ci := 7) (v := .int (nI pz)) (C := RX7) (T := TX7) (N := 4) hx hb hts hin_X7 hown hK hP 2 rfl rfl 0 (by decide) (hts (.fieldLink RX6 36 "ClashFree$Program" "size" "I") (List.mem_of_getElem? (i := 5) rfl)) (fun _ h9 => h9) rfl dX6_open_35 ?_
    refine va_iast hx hb hK hP hD hS 1 0 rfl rfl (vp_in_nI (by omega) (by decide)) dX6_open_38 (fun H locs hP hD hS => ?_)
    have hP : va_P D vwCl [(oq 0, .inr (6, gPs oq qf qp qd qs qt qb 0 qr qn (nI bk) (nI wz))), (oq 6, .inl (cI, 5, .inl (upd fO (Int32.toNatClampNeg (nI bk)) (nI pz)))), (oq 1, .inr (7, [.int (nI pz), .ref (oq 2), .ref (oq 3), .ref (oq 4)])), (oq 2, .inl (cI, 600, .inl fK)), (oq 3, .inl (cI, 600, .inl fN)), (oq 4, .inl (cI, 600, .inl fL))] H := hP
    have hD : va_D A [(oq 0, .inr (6, gPs oq qf qp qd qs qt qb 0 qr qn (nI bk) (nI wz))), (oq 6, .inl (cI, 5, .inl (upd fO (Int32.toNatClampNeg (nI bk)) (nI pz)))), (oq 1, .inr (7, [.int (nI pz), .ref (oq 2), .ref (oq 3), .ref (oq 4)])), (oq 2, .inl (cI, 600, .inl fK)), (oq 3, .inl (cI, 600, .inl fN)), (oq 4, .inl (cI, 600, .inl fL))] := hD
    rw [show (upd fO (Int32.toNatClampNeg (nI bk)) (nI pz)) = (upd fO bk (nI pz)) from by rw [nI_clamp (by omega)]] at hP hD
    refine lv_aload_n hx hb dX6_open_39 rfl (lv_at hl 0 rfl) ?_
    refine lv_dup hx hb dX6_open_40 rfl ?_
    refine va_get (D := D) (ci := 6) (v := .int (nI bk)) (C := RX6) (T := TX6) (N := 15) hx hb hts hin_X6 hown hK hP 0 rfl rfl 11 (by decide) (hts (.fieldLink RX6 49 "ClashFree$Parser" "blocks" "I") (List.mem_of_getElem? (i := 2) rfl)) (fun _ h9 => h9) rfl dX6_open_41 ?_
    refine lv_iconst (v := 1) hx hb dX6_open_44 (by decide) ?_
    refine lv_iadd hx hb dX6_open_45 ?_
    refine lv_topi (fun v2 ev2 => ?_)
    obtain rfl : v2 = nI (bk + 1) := ev2.trans (nI_1 _)
    refine va_put (D := D) (ci := 6) (v := .int (nI (bk + 1))) (ty := .int) (C := RX6) (T := TX6) (N := 15) hx hb hts hin_X6 tyX6 tyX6_ok nmX6 hown hK hP hD hS 0 rfl rfl 11 (by decide) (hts (.fieldLink RX6 49 "ClashFree$Parser" "blocks" "I") (List.mem_of_getElem? (i := 2) rfl)) (fun _ h9 => h9) rfl (by decide +kernel) rfl rfl (Nat.le_of_ble_eq_true rfl) dX6_open_46 (fun H locs hP hD hS => ?_)
    have hP : va_P D vwCl [(oq 0, .inr (6, gPs oq qf qp qd qs qt qb 0 qr qn (nI (bk + 1)) (nI wz))), (oq 6, .inl (cI, 5, .inl (upd fO bk (nI pz)))), (oq 1, .inr (7, [.int (nI pz), .ref (oq 2), .ref (oq 3), .ref (oq 4)])), (oq 2, .inl (cI, 600, .inl fK)), (oq 3, .inl (cI, 600, .inl fN)), (oq 4, .inl (cI, 600, .inl fL))] H := hP
    have hD : va_D A [(oq 0, .inr (6, gPs oq qf qp qd qs qt qb 0 qr qn (nI (bk + 1)) (nI wz))), (oq 6, .inl (cI, 5, .inl (upd fO bk (nI pz)))), (oq 1, .inr (7, [.int (nI pz), .ref (oq 2), .ref (oq 3), .ref (oq 4)])), (oq 2, .inl (cI, 600, .inl fK)), (oq 3, .inl (cI, 600, .inl fN)), (oq 4, .inl (cI, 600, .inl fL))] := hD
    refine lv_aload_n hx hb dX6_open_49 rfl (lv_at hl 0 rfl) ?_
    refine va_get (D := D) (ci := 6) (v := .ref (oq 1)) (C := RX6) (T := TX6) (N := 15) hx hb hts hin_X6 hown hK hP 0 rfl rfl 3 (by decide) (hts (.fieldLink RX6 12 "ClashFree$Parser" "program" "LClashFree$Program;") (List.mem_of_getElem? (i := 4) rfl)) (fun _ h9 => h9) rfl dX6_open_50 ?_
    refine lv_iload_n hx hb dX6_open_53 rfl (lv_at hl 1 rfl) ?_
    refine lv_iload_n hx hb dX6_open_54 rfl (lv_at hl 2 rfl) ?_
    have hPc := hP.sub (ws' := [(oq 1, .inr (7, [.int (nI pz), .ref (oq 2), .ref (oq 3), .ref (oq 4)])), (oq 2, .inl (cI, 600, .inl fK)), (oq 3, .inl (cI, 600, .inl fN)), (oq 4, .inl (cI, 600, .inl fL))]) [2, 3, 4, 5] rfl
    have hKc := hK.sub (tys' := [(cI, .int)]) [0] rfl
    have hDc := hD.sub (ws' := [(oq 1, .inr (7, [.int (nI pz), .ref (oq 2), .ref (oq 3), .ref (oq 4)])), (oq 2, .inl (cI, 600, .inl fK)), (oq 3, .inl (cI, 600, .inl fN)), (oq 4, .inl (cI, 600, .inl fL))]) [2, 3, 4, 5] (by decide) rfl
    have hFc := va_free (wc := [(oq 1, .inr (7, [.int (nI pz), .ref (oq 2), .ref (oq 3), .ref (oq 4)])), (oq 2, .inl (cI, 600, .inl fK)), (oq 3, .inl (cI, 600, .inl fN)), (oq 4, .inl (cI, 600, .inl fL))]) hD hS hA [2, 3, 4, 5] rfl
    refine va_callv (va_runV (As := [.int z1, .int z2]) (rest := []) ⟨hx, hb, hml, hown, hts⟩ (k_padd l D _ oq cI pz fK fN fL z1 z2 (by first | assumption | omega)) (cwV 2 hts g_k_open_k_padd_118 rfl rfl rfl (by decide +kernel) ⟨(Nat.le_of_ble_eq_true rfl), (Nat.le_of_ble_eq_true rfl)⟩) (PcWC_V (q0 := 0) hPc hKc hDc hN rfl rfl) rfl rfl hl.1 rfl (lv_room (Nat.le_of_ble_eq_true rfl)) dX6_open_55 ⟨(Nat.le_of_ble_eq_true rfl), (Nat.le_of_ble_eq_true rfl)⟩) hS (fun q _ h => hFc q h) hFc (fun uu tt H locs htt hvm hw hB hz1 hk1 hS => ?_)
    obtain ⟨w4, w5, w6, w7⟩ := uu
    obtain ⟨hP1, hK1, hD1⟩ := hB
    rw [htt] at hP1
    have hK1 := va_K.moved hvm.symm hK1
    have hP1 : va_P D vwCl [(oq 1, .inr (7, [.int (nI w4), .ref (oq 2), .ref (oq 3), .ref (oq 4)])), (oq 2, .inl (cI, 600, .inl w5)), (oq 3, .inl (cI, 600, .inl w6)), (oq 4, .inl (cI, 600, .inl w7))] H := hP1
    obtain ⟨hP, hD⟩ := va_join (wr := [(oq 0, .inr (6, gPs oq qf qp qd qs qt qb 0 qr qn (nI (bk + 1)) (nI wz))), (oq 6, .inl (cI, 5, .inl (upd fO bk (nI pz))))]) (w1 := [(oq 1, .inr (7, [.int (nI w4), .ref (oq 2), .ref (oq 3), .ref (oq 4)])), (oq 2, .inl (cI, 600, .inl w5)), (oq 3, .inl (cI, 600, .inl w6)), (oq 4, .inl (cI, 600, .inl w7))]) hP hD [2, 3, 4, 5] [0, 1] rfl rfl (by decide) (by decide) hk1 hFc hP1 hD1
    have hP : va_P D vwCl [(oq 0, .inr (6, gPs oq qf qp qd qs qt qb 0 qr qn (nI (bk + 1)) (nI wz))), (oq 6, .inl (cI, 5, .inl (upd fO bk (nI pz)))), (oq 1, .inr (7, [.int (nI w4), .ref (oq 2), .ref (oq 3), .ref (oq 4)])), (oq 2, .inl (cI, 600, .inl w5)), (oq 3, .inl (cI, 600, .inl w6)), (oq 4, .inl (cI, 600, .inl w7))] H := hP
    have hD : va_D A [(oq 0, .inr (6, gPs oq qf qp qd qs qt qb 0 qr qn (nI (bk + 1)) (nI wz))), (oq 6, .inl (cI, 5, .inl (upd fO bk (nI pz)))), (oq 1, .inr (7, [.int (nI w4), .ref (oq 2), .ref (oq 3), .ref (oq 4)])), (oq 2, .inl (cI, 600, .inl w5)), (oq 3, .inl (cI, 600, .inl w6)), (oq 4, .inl (cI, 600, .inl w7))] := hD
    try dsimp only at hw
    clear hz1 hk1 hFc hPc hKc hDc
    obtain ⟨hpd8, rfl, rfl, rfl, rfl⟩ := hw.resolve_right (fun q => absurd q.1 (by omega))
    have hP : va_P D vwCl [(oq 0, .inr (6, gPs oq qf qp qd qs qt qb 0 qr qn (nI (bk + 1)) (nI wz))), (oq 6, .inl (cI, 5, .inl (upd fO bk (nI pz)))), (oq 1, .inr (7, [.int (nI (pz + 1)), .ref (oq 2), .ref (oq 3), .ref (oq 4)])), (oq 2, .inl (cI, 600, .inl (upd fK pz z1))), (oq 3, .inl (cI, 600, .inl (upd fN pz z2))), (oq 4, .inl (cI, 600, .inl (upd fL pz 0)))] H := hP
    have hD : va_D A [(oq 0, .inr (6, gPs oq qf qp qd qs qt qb 0 qr qn (nI (bk + 1)) (nI wz))), (oq 6, .inl (cI, 5, .inl (upd fO bk (nI pz)))), (oq 1, .inr (7, [.int (nI (pz + 1)), .ref (oq 2), .ref (oq 3), .ref (oq 4)])), (oq 2, .inl (cI, 600, .inl (upd fK pz z1))), (oq 3, .inl (cI, 600, .inl (upd fN pz z2))), (oq 4, .inl (cI, 600, .inl (upd fL pz 0)))] := hD
    refine lv_aload_n hx hb dX6_open_58 rfl (lv_at hl 0 rfl) ?_
    refine lv_iconst (v := 0) hx hb dX6_open_59 (by decide) ?_
    refine va_put (D := D) (ci := 6) (v := .int 0) (ty := .int) (C := RX6) (T := TX6) (N := 15) hx hb hts hin_X6 tyX6 tyX6_ok nmX6 hown hK hP hD hS 0 rfl rfl 5 (by decide) (hts (.fieldLink RX6 39 "ClashFree$Parser" "state" "I") (List.mem_of_getElem? (i := 10) rfl)) (fun _ h9 => h9) rfl (by decide +kernel) rfl rfl (Nat.le_of_ble_eq_true rfl) dX6_open_60 (fun H locs hP hD hS => ?_)
    have hP : va_P D vwCl [(oq 0, .inr (6, gPs oq qf qp qd 0 qt qb 0 qr qn (nI (bk + 1)) (nI wz))), (oq 6, .inl (cI, 5, .inl (upd fO bk (nI pz)))), (oq 1, .inr (7, [.int (nI (pz + 1)), .ref (oq 2), .ref (oq 3), .ref (oq 4)])), (oq 2, .inl (cI, 600, .inl (upd fK pz z1))), (oq 3, .inl (cI, 600, .inl (upd fN pz z2))), (oq 4, .inl (cI, 600, .inl (upd fL pz 0)))] H := hP
    have hD : va_D A [(oq 0, .inr (6, gPs oq qf qp qd 0 qt qb 0 qr qn (nI (bk + 1)) (nI wz))), (oq 6, .inl (cI, 5, .inl (upd fO bk (nI pz)))), (oq 1, .inr (7, [.int (nI (pz + 1)), .ref (oq 2), .ref (oq 3), .ref (oq 4)])), (oq 2, .inl (cI, 600, .inl (upd fK pz z1))), (oq 3, .inl (cI, 600, .inl (upd fN pz z2))), (oq 4, .inl (cI, 600, .inl (upd fL pz 0)))] := hD
    exact W.vret hx hb hr (fun t ht hW => ⟨⟨(qf, qp, qd, 0, 0, (bk + 1), (upd fO bk (nI pz)), (pz + 1), (upd fK pz z1), (upd fN pz z2), (upd fL pz 0)), rfl, (by (try dsimp only); first | done | exact ⟨rfl, Or.inl ⟨hlt, rfl, rfl, rfl, rfl, rfl, rfl, rfl, rfl⟩⟩), by rw [ht]; exact hP.sub [0, 1, 2, 3, 4, 5] rfl, va_K.moved hW.alike (hK.sub [0] rfl), hD.sub [0, 1, 2, 3, 4, 5] (by decide) rfl⟩, hS.F ht⟩) hS.2.2 dX6_open_63
  ·
    have hge : bk = 5 := by
      rcases Nat.lt_or_ge bk 5 with z | z
      · exact absurd (nI_lt (b := 5) z (by decide)) hc1
      · omega
    refine lv_aload_n hx hb dX6_open_13 rfl (lv_at hl 0 rfl) ?_
    refine lv_iconst (v := 3) hx hb dX6_open_14 (by decide) ?_
    refine lv_aload_n hx hb dX6_open_15 rfl (lv_at hl 0 rfl) ?_
    refine va_get (D := D) (ci := 6) (v := .int qb) (C := RX6) (T := TX6) (N := 15) hx hb hts hin_X6 hown hK hP 0 rfl rfl 7 (by decide) (hts (.fieldLink RX6 100 "ClashFree$Parser" "began" "I") (List.mem_of_getElem? (i := 11) rfl)) (fun _ h9 => h9) rfl dX6_open_16 ?_
    have hPc := hP.sub (ws' := [(oq 0, .inr (6, gPs oq qf qp qd qs qt qb 0 qr qn (nI bk) (nI wz)))]) [0] rfl
    have hKc := hK.sub (tys' := []) [] rfl
    have hDc := hD.sub (ws' := [(oq 0, .inr (6, gPs oq qf qp qd qs qt qb 0 qr qn (nI bk) (nI wz)))]) [0] (by decide) rfl
    have hFc := va_free (wc := [(oq 0, .inr (6, gPs oq qf qp qd qs qt qb 0 qr qn (nI bk) (nI wz)))]) hD hS hA [0] rfl
    refine va_callv (va_runV (As := [.int 3, .int qb]) (rest := []) ⟨hx, hb, hml, hown, hts⟩ (k_note l D _ oq cI qf qp qd qs qt qb 0 qr qn bk wz 3 qb (by decide)) (cwV 2 hts g_k_open_k_note_55 rfl rfl rfl (by decide +kernel) ⟨(Nat.le_of_ble_eq_true rfl), (Nat.le_of_ble_eq_true rfl)⟩) (PcWC_V (q0 := 0) hPc hKc hDc hN rfl rfl) rfl rfl hl.1 rfl (lv_room (Nat.le_of_ble_eq_true rfl)) dX6_open_19 ⟨(Nat.le_of_ble_eq_true rfl), (Nat.le_of_ble_eq_true rfl)⟩) hS (fun q _ h => hFc q h) hFc (fun uu tt H locs htt hvm hw hB hz1 hk1 hS => ?_)
    obtain ⟨w10, w11, w12⟩ := uu
    obtain ⟨hP1, hK1, hD1⟩ := hB
    rw [htt] at hP1
    have hK1 := va_K.moved hvm.symm hK1
    have hP1 : va_P D vwCl [(oq 0, .inr (6, gPs oq w10 w11 w12 qs qt qb 0 qr qn (nI bk) (nI wz)))] H := hP1
    obtain ⟨hP, hD⟩ := va_join (wr := [(oq 6, .inl (cI, 5, .inl fO)), (oq 1, .inr (7, [.int (nI pz), .ref (oq 2), .ref (oq 3), .ref (oq 4)])), (oq 2, .inl (cI, 600, .inl fK)), (oq 3, .inl (cI, 600, .inl fN)), (oq 4, .inl (cI, 600, .inl fL))]) (w1 := [(oq 0, .inr (6, gPs oq w10 w11 w12 qs qt qb 0 qr qn (nI bk) (nI wz)))]) hP hD [0] [1, 2, 3, 4, 5] rfl rfl (by decide) (by decide) hk1 hFc hP1 hD1
    have hP : va_P D vwCl [(oq 6, .inl (cI, 5, .inl fO)), (oq 1, .inr (7, [.int (nI pz), .ref (oq 2), .ref (oq 3), .ref (oq 4)])), (oq 2, .inl (cI, 600, .inl fK)), (oq 3, .inl (cI, 600, .inl fN)), (oq 4, .inl (cI, 600, .inl fL)), (oq 0, .inr (6, gPs oq w10 w11 w12 qs qt qb 0 qr qn (nI bk) (nI wz)))] H := hP
    have hD : va_D A [(oq 6, .inl (cI, 5, .inl fO)), (oq 1, .inr (7, [.int (nI pz), .ref (oq 2), .ref (oq 3), .ref (oq 4)])), (oq 2, .inl (cI, 600, .inl fK)), (oq 3, .inl (cI, 600, .inl fN)), (oq 4, .inl (cI, 600, .inl fL)), (oq 0, .inr (6, gPs oq w10 w11 w12 qs qt qb 0 qr qn (nI bk) (nI wz)))] := hD
    try dsimp only at hw
    clear hz1 hk1 hFc hPc hKc hDc
    have hnt13 := hw
    exact W.vret hx hb hr (fun t ht hW => ⟨⟨(w10, w11, w12, 0, qs, bk, fO, pz, fK, fN, fL), rfl, (by (try dsimp only); first | done | exact ⟨rfl, Or.inr ⟨hge, hnt13, rfl, rfl, rfl, rfl, rfl, rfl, rfl⟩⟩), by rw [ht]; exact hP.sub [5, 0, 1, 2, 3, 4] rfl, va_K.moved hW.alike (hK.sub [0] rfl), hD.sub [5, 0, 1, 2, 3, 4] (by decide) rfl⟩, hS.F ht⟩) hS.2.2 dX6_open_22

def own_k_close : List Cond := [.fieldLink RX6 49 "ClashFree$Parser" "blocks" "I", .fieldLink RX6 25 "ClashFree$Parser" "opened" "[I", .fieldLink RX6 12 "ClashFree$Parser" "program" "LClashFree$Program;", .fieldLink RX6 36 "ClashFree$Program" "size" "I", .methodLink RX6 143 yX7_link, .instanceMethod yX7_link, .selects RX7 yX7_link yX7_link, .initialized RX7, .methodLink RX6 146 yX7_isFor, .instanceMethod yX7_isFor, .selects RX7 yX7_isFor yX7_isFor, .methodLink RX6 118 yX7_add, .instanceMethod yX7_add, .selects RX7 yX7_add yX7_add, .fieldLink RX6 39 "ClashFree$Parser" "state" "I"]
def wp_k_close : List Cond := .code yX6_close cX6_close 2 none :: (own_k_close ++ (wp_k_plink ++ (wp_k_pisFor ++ (wp_k_padd ++ (wsX60 ++ (wsX70 ++ ([] : List Cond)))))))
set_option maxRecDepth 20000 in
theorem inown_k_close : ∀ w ∈ own_k_close, w ∈ lw_tbl := mem_places [342, 343, 333, 279, 1031, 1032, 1033, 112, 1035, 1036, 1037, 1039, 1040, 1041, 336] (by decide +kernel)
set_option maxRecDepth 20000 in
theorem in_k_close : ∀ w ∈ wp_k_close, w ∈ lw_tbl := List.forall_mem_cons.mpr ⟨List.mem_of_getElem? (i := 1030) (by decide +kernel), List.forall_mem_append.mpr ⟨inown_k_close, List.forall_mem_append.mpr ⟨in_k_plink, List.forall_mem_append.mpr ⟨in_k_pisFor, List.forall_mem_append.mpr ⟨in_k_padd, List.forall_mem_append.mpr ⟨lwb_X6, List.forall_mem_append.mpr ⟨lwb_X7, fun _ h => absurd h List.not_mem_nil⟩⟩⟩⟩⟩⟩⟩
set_option maxRecDepth 20000 in
theorem good_k_close : wp_k_close.all goodWord = true := by decide +kernel
set_option maxRecDepth 20000 in
theorem g_k_close_k_plink_143 : GoodIn wp_k_close (wsV RX6 143 RX7 yX7_link wp_k_plink) := goodIn_sub (List.forall_mem_append.mpr ⟨List.forall_mem_cons.mpr ⟨(List.mem_of_getElem? (i := 5) rfl), List.forall_mem_cons.mpr ⟨(List.mem_of_getElem? (i := 6) rfl), List.forall_mem_cons.mpr ⟨(List.mem_of_getElem? (i := 7) rfl), List.forall_mem_cons.mpr ⟨(List.mem_of_getElem? (i := 8) rfl), fun _ h => absurd h List.not_mem_nil⟩⟩⟩⟩, (fun _ h => (List.mem_cons_of_mem _ (List.mem_append_right _ (List.mem_append_left _ h))))⟩) (by decide +kernel)
set_option maxRecDepth 20000 in
theorem g_k_close_k_pisFor_146 : GoodIn wp_k_close (wsV RX6 146 RX7 yX7_isFor wp_k_pisFor) := goodIn_sub (List.forall_mem_append.mpr ⟨List.forall_mem_cons.mpr ⟨(List.mem_of_getElem? (i := 9) rfl), List.forall_mem_cons.mpr ⟨(List.mem_of_getElem? (i := 10) rfl), List.forall_mem_cons.mpr ⟨(List.mem_of_getElem? (i := 11) rfl), List.forall_mem_cons.mpr ⟨(List.mem_of_getElem? (i := 8) rfl), fun _ h => absurd h List.not_mem_nil⟩⟩⟩⟩, (fun _ h => (List.mem_cons_of_mem _ (List.mem_append_right _ (List.mem_append_right _ (List.mem_append_left _ h)))))⟩) (by decide +kernel)
set_option maxRecDepth 20000 in
theorem g_k_close_k_padd_118 : GoodIn wp_k_close (wsV RX6 118 RX7 yX7_add wp_k_padd) := goodIn_sub (List.forall_mem_append.mpr ⟨List.forall_mem_cons.mpr ⟨(List.mem_of_getElem? (i := 12) rfl), List.forall_mem_cons.mpr ⟨(List.mem_of_getElem? (i := 13) rfl), List.forall_mem_cons.mpr ⟨(List.mem_of_getElem? (i := 14) rfl), List.forall_mem_cons.mpr ⟨(List.mem_of_getElem? (i := 8) rfl), fun _ h => absurd h List.not_mem_nil⟩⟩⟩⟩, (fun _ h => (List.mem_cons_of_mem _ (List.mem_append_right _ (List.mem_append_right _ (List.mem_append_right _ (List.mem_append_left _ h))))))⟩) (by decide +kernel)
set_option maxHeartbeats 4000000 in
set_option maxRecDepth 100000 in
theorem k_close (l : Launch) (D : va_G) (sz : Nat) (oq : Nat → Nat) (cI : ClassId) (qf : Int32) (qp : Int32) (qd : Int32) (qs : Int32) (qt : Int32) (qb : Int32) (qh : Int32) (qr : Int32) (qn : Int32) (bk : Nat) (wz : Nat) (fO : Nat → Int32) (pz : Nat) (fK : Nat → Int32) (fN : Nat → Int32) (fL : Nat → Int32) (f : Nat) (g : PG) (hb1 : 1 ≤ bk) (hbk : bk ≤ 5) (hpz : pz < 600) (hf : fO (bk - 1) = nI f) (hfp : f < pz) (hg : MatG g pz fK fN fL) : Met l yX6_close wp_k_close ({ frames := 1, cells := 0, slots := 0, locals := 22 }) (PcWC D [.ref (oq 0)] sz [(oq 0, .inr (6, gPs oq qf qp qd qs qt qb qh qr qn (nI bk) (nI wz))), (oq 6, .inl (cI, 5, .inl fO)), (oq 1, .inr (7, [.int (nI pz), .ref (oq 2), .ref (oq 3), .ref (oq 4)])), (oq 2, .inl (cI, 600, .inl fK)), (oq 3, .inl (cI, 600, .inl fN)), (oq 4, .inl (cI, 600, .inl fL))] [(cI, .int)]) (va_Qv (fun (u : (Int32) × (Nat) × (Nat) × (Nat → Int32) × (Nat → Int32) × (Nat → Int32)) => u.1 = 5 ∧ u.2.1 = bk - 1 ∧ MatG (clsP g f) u.2.2.1 u.2.2.2.1 u.2.2.2.2.1 u.2.2.2.2.2 ∧ u.2.2.1 ≤ pz + 1) (fun (u : (Int32) × (Nat) × (Nat) × (Nat → Int32) × (Nat → Int32) × (Nat → Int32)) t => va_P D vwCl [(oq 0, .inr (6, gPs oq qf qp qd u.1 qt qb qh qr qn (nI u.2.1) (nI wz))), (oq 6, .inl (cI, 5, .inl fO)), (oq 1, .inr (7, [.int (nI u.2.2.1), .ref (oq 2), .ref (oq 3), .ref (oq 4)])), (oq 2, .inl (cI, 600, .inl u.2.2.2.1)), (oq 3, .inl (cI, 600, .inl u.2.2.2.2.1)), (oq 4, .inl (cI, 600, .inl u.2.2.2.2.2))] t.heap ∧ va_K D vwCl [(cI, .int)] t ∧ va_D (va_A [(oq 0, .inr (6, gPs oq qf qp qd qs qt qb qh qr qn (nI bk) (nI wz))), (oq 6, .inl (cI, 5, .inl fO)), (oq 1, .inr (7, [.int (nI pz), .ref (oq 2), .ref (oq 3), .ref (oq 4)])), (oq 2, .inl (cI, 600, .inl fK)), (oq 3, .inl (cI, 600, .inl fN)), (oq 4, .inl (cI, 600, .inl fL))] sz) [(oq 0, .inr (6, gPs oq qf qp qd u.1 qt qb qh qr qn (nI u.2.1) (nI wz))), (oq 6, .inl (cI, 5, .inl fO)), (oq 1, .inr (7, [.int (nI u.2.2.1), .ref (oq 2), .ref (oq 3), .ref (oq 4)])), (oq 2, .inl (cI, 600, .inl u.2.2.2.1)), (oq 3, .inl (cI, 600, .inl u.2.2.2.2.1)), (oq 4, .inl (cI, 600, .inl u.2.2.2.2.2))]) (va_A [(oq 0, .inr (6, gPs oq qf qp qd qs qt qb qh qr qn (nI bk) (nI wz))), (oq 6, .inl (cI, 5, .inl fO)), (oq 1, .inr (7, [.int (nI pz), .ref (oq 2), .ref (oq 3), .ref (oq 4)])), (oq 2, .inl (cI, 600, .inl fK)), (oq 3, .inl (cI, 600, .inl fN)), (oq 4, .inl (cI, 600, .inl fL))] sz)) 0 0 (va_A [(oq 0, .inr (6, gPs oq qf qp qd qs qt qb qh qr qn (nI bk) (nI wz))), (oq 6, .inl (cI, 5, .inl fO)), (oq 1, .inr (7, [.int (nI pz), .ref (oq 2), .ref (oq 3), .ref (oq 4)])), (oq 2, .inl (cI, 600, .inl fK)), (oq 3, .inl (cI, 600, .inl fN)), (oq 4, .inl (cI, 600, .inl fL))] sz) := by
  refine Met.ofW (cc := cX6_close) (maxL := 2) (ret := none) (by decide) rfl ?_
  intro p e s m args below meth c s₁ B hml hv
  obtain ⟨rfl, hsz, hP, hK, hD0, hN⟩ := hv
  have hx := B.exec
  have hb := B.bytes
  have hr := B.returns
  have hts := atoms_spec (ws := wp_k_close) B.pre
  have hin_X6 : ∀ w ∈ wsX60, w ∈ wp_k_close := fun _ h => (List.mem_cons_of_mem _ (List.mem_append_right _ (List.mem_append_right _ (List.mem_append_right _ (List.mem_append_right _ (List.mem_append_left _ h))))))
  have hin_X7 : ∀ w ∈ wsX70, w ∈ wp_k_close := fun _ h => (List.mem_cons_of_mem _ (List.mem_append_right _ (List.mem_append_right _ (List.mem_append_right _ (List.mem_append_right _ (List.mem_append_right _ (List.mem_append_left _ h)))))))
  have hown : s.vm.findClass RX6 = some m.cls := findClass_of_methodNamed B.named
  have hlocks := B.notSynchronized
  subst hsz
  have hD := hD0.self (sz := s.heap.size)
  generalize hAe : va_A [(oq 0, .inr (6, gPs oq qf qp qd qs qt qb qh qr qn (nI bk) (nI wz))), (oq 6, .inl (cI, 5, .inl fO)), (oq 1, .inr (7, [.int (nI pz), .ref (oq 2), .ref (oq 3), .ref (oq 4)])), (oq 2, .inl (cI, 600, .inl fK)), (oq 3, .inl (cI, 600, .inl fN)), (oq 4, .inl (cI, 600, .inl fL))] s.heap.size = A at hD ⊢
  have hA : ∀ q : Nat, s.heap.size ≤ q → A q := fun q h => by rw [← hAe]; exact Or.inr h
  have hS : va_S A s.heap s.heap [] := va_S.rf
  have hP : va_P D vwCl [(oq 0, .inr (6, gPs oq qf qp qd qs qt qb qh qr qn (nI bk) (nI wz))), (oq 6, .inl (cI, 5, .inl fO)), (oq 1, .inr (7, [.int (nI pz), .ref (oq 2), .ref (oq 3), .ref (oq 4)])), (oq 2, .inl (cI, 600, .inl fK)), (oq 3, .inl (cI, 600, .inl fN)), (oq 4, .inl (cI, 600, .inl fL))] s.heap := hP
  have hl := lv_entry ([.ref (oq 0)]) (n := 2) (Nat.le_of_ble_eq_true rfl)
  rw [lg_entry_eq]
  generalize (lg_sl ([.ref (oq 0)]) ++ List.replicate (2 - (lg_sl ([.ref (oq 0)])).length) Slot.unset).toArray = ls at hl ⊢
  have hl : lv_has ls 2 [(0, .ref (oq 0))] := hl
  refine lv_aload_n hx hb dX6_close_0 rfl (lv_at hl 0 rfl) ?_
  refine lv_dup hx hb dX6_close_1 rfl ?_
  refine va_get (D := D) (ci := 6) (v := .int (nI bk)) (C := RX6) (T := TX6) (N := 15) hx hb hts hin_X6 hown hK hP 0 rfl rfl 11 (by decide) (hts (.fieldLink RX6 49 "ClashFree$Parser" "blocks" "I") (List.mem_of_getElem? (i := 1) rfl)) (fun _ h9 => h9) rfl dX6_close_2 ?_
  refine lv_iconst (v := 1) hx hb dX6_close_5 (by decide) ?_
  refine lv_isub hx hb dX6_close_6 ?_
  refine lv_topi (fun v1 ev1 => ?_)
  obtain rfl : v1 = nI (bk - 1) := ev1.trans (pk_sub (b := 1) (by omega))
  refine va_put (D := D) (ci := 6) (v := .int (nI (bk - 1))) (ty := .int) (C := RX6) (T := TX6) (N := 15) hx hb hts hin_X6 tyX6 tyX6_ok nmX6 hown hK hP hD hS 0 rfl rfl 11 (by decide) (hts (.fieldLink RX6 49 "ClashFree$Parser" "blocks" "I") (List.mem_of_getElem? (i := 1) rfl)) (fun _ h9 => h9) rfl (by decide +kernel) rfl rfl (Nat.le_of_ble_eq_true rfl) dX6_close_7 (fun H locs hP hD hS => ?_)
  have hP : va_P D vwCl [(oq 0, .inr (6, gPs oq qf qp qd qs qt qb qh qr qn (nI (bk - 1)) (nI wz))), (oq 6, .inl (cI, 5, .inl fO)), (oq 1, .inr (7, [.int (nI pz), .ref (oq 2), .ref (oq 3), .ref (oq 4)])), (oq 2, .inl (cI, 600, .inl fK)), (oq 3, .inl (cI, 600, .inl fN)), (oq 4, .inl (cI, 600, .inl fL))] H := hP
  have hD : va_D A [(oq 0, .inr (6, gPs oq qf qp qd qs qt qb qh qr qn (nI (bk - 1)) (nI wz))), (oq 6, .inl (cI, 5, .inl fO)), (oq 1, .inr (7, [.int (nI pz), .ref (oq 2), .ref (oq 3), .ref (oq 4)])), (oq 2, .inl (cI, 600, .inl fK)), (oq 3, .inl (cI, 600, .inl fN)), (oq 4, .inl (cI, 600, .inl fL))] := hD
  refine lv_aload_n hx hb dX6_close_10 rfl (lv_at hl 0 rfl) ?_
  refine va_get (D := D) (ci := 6) (v := .ref (oq 6)) (C := RX6) (T := TX6) (N := 15) hx hb hts hin_X6 hown hK hP 0 rfl rfl 12 (by decide) (hts (.fieldLink RX6 25 "ClashFree$Parser" "opened" "[I") (List.mem_of_getElem? (i := 2) rfl)) (fun _ h9 => h9) rfl dX6_close_11 ?_
  refine lv_aload_n hx hb dX6_close_14 rfl (lv_at hl 0 rfl) ?_
  refine va_get (D := D) (ci := 6) (v := .int (nI (bk - 1))) (C := RX6) (T := TX6) (N := 15) hx hb hts hin_X6 hown hK hP 0 rfl rfl 11 (by decide) (hts (.fieldLink RX6 49 "ClashFree$Parser" "blocks" "I") (List.mem_of_getElem? (i := 1) rfl)) (fun _ h9 => h9) rfl dX6_close_15 ?_
  refine va_iald hx hb hK hP 1 0 rfl rfl (vp_in_nI (by omega) (by decide)) dX6_close_18 ?_
  refine lv_topi (fun v2 ev2 => ?_)
  obtain rfl : v2 = nI f := ev2.trans (by rw [nI_clamp (by omega)]; exact hf)
  refine lv_istore_n (lv' := [(1, .int (nI f)), (0, .ref (oq 0))]) hx hb dX6_close_19 rfl hl (by decide) rfl (fun ls hl => ?_)
  refine lv_aload_n hx hb dX6_close_20 rfl (lv_at hl 1 rfl) ?_
  refine va_get (D := D) (ci := 6) (v := .ref (oq 1)) (C := RX6) (T := TX6) (N := 15) hx hb hts hin_X6 hown hK hP 0 rfl rfl 3 (by decide) (hts (.fieldLink RX6 12 "ClashFree$Parser" "program" "LClashFree$Program;") (List.mem_of_getElem? (i := 3) rfl)) (fun _ h9 => h9) rfl dX6_close_21 ?_
  refine lv_iload_n hx hb dX6_close_24 rfl (lv_at hl 0 rfl) ?_
  refine lv_aload_n hx hb dX6_close_25 rfl (lv_at hl 1 rfl) ?_
  refine va_get (D := D) (ci := 6) (v := .ref (oq 1)) (C := RX6) (T := TX6) (N := 15) hx hb hts hin_X6 hown hK hP 0 rfl rfl 3 (by decide) (hts (.fieldLink RX6 12 "ClashFree$Parser" "program" "LClashFree$Program;") (List.mem_of_getElem? (i := 3) rfl)) (fun _ h9 => h9) rfl dX6_close_26 ?_
  refine va_get (D := D) (ci := 7) (v := .int (nI pz)) (C := RX7) (T := TX7) (N := 4) hx hb hts hin_X7 hown hK hP 2 rfl rfl 0 (by decide) (hts (.fieldLink RX6 36 "ClashFree$Program" "size" "I") (List.mem_of_getElem? (i := 4) rfl)) (fun _ h9 => h9) rfl dX6_close_29 ?_
  have hPc := hP.sub (ws' := [(oq 1, .inr (7, [.int (nI pz), .ref (oq 2), .ref (oq 3), .ref (oq 4)])), (oq 4, .inl (cI, 600, .inl fL))]) [2, 5] rfl
  have hKc := hK.sub (tys' := [(cI, .int)]) [0] rfl
  have hDc := hD.sub (ws' := [(oq 1, .inr (7, [.int (nI pz), .ref (oq 2), .ref (oq 3), .ref (oq 4)])), (oq 4, .inl (cI, 600, .inl fL))]) [2, 5] (by decide) rfl
  have hFc := va_free (wc := [(oq 1, .inr (7, [.int (nI pz), .ref (oq 2), .ref (oq 3), .ref (oq 4)])), (oq 4, .inl (cI, 600, .inl fL))]) hD hS hA [2, 5] rfl
  refine va_callv (va_runV (As := [.int (nI f), .int (nI pz)]) (rest := []) ⟨hx, hb, hml, hown, hts⟩ (k_plink l D _ oq cI pz fL f (nI pz) (by omega) (by omega)) (cwV 2 hts g_k_close_k_plink_143 rfl rfl rfl (by decide +kernel) ⟨(Nat.le_of_ble_eq_true rfl), (Nat.le_of_ble_eq_true rfl)⟩) (PcWC_V (q0 := 0) hPc hKc hDc hN rfl rfl) rfl rfl hl.1 rfl (lv_room (Nat.le_of_ble_eq_true rfl)) dX6_close_32 ⟨(Nat.le_of_ble_eq_true rfl), (Nat.le_of_ble_eq_true rfl)⟩) hS (fun q _ h => hFc q h) hFc (fun uu tt H locs htt hvm hw hB hz1 hk1 hS => ?_)
  obtain ⟨w4, rfl⟩ : ∃ z, z = uu := ⟨_, rfl⟩
  obtain ⟨hP1, hK1, hD1⟩ := hB
  rw [htt] at hP1
  have hK1 := va_K.moved hvm.symm hK1
  have hP1 : va_P D vwCl [(oq 1, .inr (7, [.int (nI pz), .ref (oq 2), .ref (oq 3), .ref (oq 4)])), (oq 4, .inl (cI, 600, .inl w4))] H := hP1
  obtain ⟨hP, hD⟩ := va_join (wr := [(oq 0, .inr (6, gPs oq qf qp qd qs qt qb qh qr qn (nI (bk - 1)) (nI wz))), (oq 6, .inl (cI, 5, .inl fO)), (oq 2, .inl (cI, 600, .inl fK)), (oq 3, .inl (cI, 600, .inl fN))]) (w1 := [(oq 1, .inr (7, [.int (nI pz), .ref (oq 2), .ref (oq 3), .ref (oq 4)])), (oq 4, .inl (cI, 600, .inl w4))]) hP hD [2, 5] [0, 1, 3, 4] rfl rfl (by decide) (by decide) hk1 hFc hP1 hD1
  have hP : va_P D vwCl [(oq 0, .inr (6, gPs oq qf qp qd qs qt qb qh qr qn (nI (bk - 1)) (nI wz))), (oq 6, .inl (cI, 5, .inl fO)), (oq 2, .inl (cI, 600, .inl fK)), (oq 3, .inl (cI, 600, .inl fN)), (oq 1, .inr (7, [.int (nI pz), .ref (oq 2), .ref (oq 3), .ref (oq 4)])), (oq 4, .inl (cI, 600, .inl w4))] H := hP
  have hD : va_D A [(oq 0, .inr (6, gPs oq qf qp qd qs qt qb qh qr qn (nI (bk - 1)) (nI wz))), (oq 6, .inl (cI, 5, .inl fO)), (oq 2, .inl (cI, 600, .inl fK)), (oq 3, .inl (cI, 600, .inl fN)), (oq 1, .inr (7, [.int (nI pz), .ref (oq 2), .ref (oq 3), .ref (oq 4)])), (oq 4, .inl (cI, 600, .inl w4))] := hD
  try dsimp only at hw
  clear hz1 hk1 hFc hPc hKc hDc
  obtain rfl := hw
  have hP : va_P D vwCl [(oq 0, .inr (6, gPs oq qf qp qd qs qt qb qh qr qn (nI (bk - 1)) (nI wz))), (oq 6, .inl (cI, 5, .inl fO)), (oq 2, .inl (cI, 600, .inl fK)), (oq 3, .inl (cI, 600, .inl fN)), (oq 1, .inr (7, [.int (nI pz), .ref (oq 2), .ref (oq 3), .ref (oq 4)])), (oq 4, .inl (cI, 600, .inl (upd fL f (nI pz))))] H := hP
  have hD : va_D A [(oq 0, .inr (6, gPs oq qf qp qd qs qt qb qh qr qn (nI (bk - 1)) (nI wz))), (oq 6, .inl (cI, 5, .inl fO)), (oq 2, .inl (cI, 600, .inl fK)), (oq 3, .inl (cI, 600, .inl fN)), (oq 1, .inr (7, [.int (nI pz), .ref (oq 2), .ref (oq 3), .ref (oq 4)])), (oq 4, .inl (cI, 600, .inl (upd fL f (nI pz))))] := hD
  refine lv_aload_n hx hb dX6_close_35 rfl (lv_at hl 1 rfl) ?_
  refine va_get (D := D) (ci := 6) (v := .ref (oq 1)) (C := RX6) (T := TX6) (N := 15) hx hb hts hin_X6 hown hK hP 0 rfl rfl 3 (by decide) (hts (.fieldLink RX6 12 "ClashFree$Parser" "program" "LClashFree$Program;") (List.mem_of_getElem? (i := 3) rfl)) (fun _ h9 => h9) rfl dX6_close_36 ?_
  refine lv_iload_n hx hb dX6_close_39 rfl (lv_at hl 0 rfl) ?_
  have hPc := hP.sub (ws' := [(oq 1, .inr (7, [.int (nI pz), .ref (oq 2), .ref (oq 3), .ref (oq 4)])), (oq 2, .inl (cI, 600, .inl fK))]) [4, 2] rfl
  have hKc := hK.sub (tys' := [(cI, .int)]) [0] rfl
  have hFc := va_free0 hS hA
  refine va_calli (va_runV (As := [.int (nI f)]) (rest := []) ⟨hx, hb, hml, hown, hts⟩ (k_pisFor l D _ oq cI pz fK (nI f) (by omega)) (cwV 1 hts g_k_close_k_pisFor_146 rfl rfl rfl (by decide +kernel) ⟨(Nat.le_of_ble_eq_true rfl), (Nat.le_of_ble_eq_true rfl)⟩) (PcRC_V (q0 := 0) hPc hKc hN rfl rfl) rfl rfl hl.1 rfl (lv_room (Nat.le_of_ble_eq_true rfl)) dX6_close_40 ⟨(Nat.le_of_ble_eq_true rfl), (Nat.le_of_ble_eq_true rfl)⟩) hS (fun q _ h => hFc q h) hFc (fun r5 uu tt H locs htt hvm hw hB hz1 hk1 hS => ?_)
  have hP := va_keep hP hk1
  try dsimp only at hw
  clear hB hz1 hk1 hFc hPc hKc
  rcases hw with ⟨rfl, hA_r5⟩ | ⟨rfl, hA_r5⟩
  ·
    obtain ⟨xj, hxj, exj, h8j⟩ := hA_r5
    have hk8 : g.2.1 f = 8 := by
      obtain rfl := (nI_eq (by omega) (by omega)).mp exj
      have q := hg.2.1 f hfp
      rw [h8j] at q
      have q5 := (hg.2.2.2.2 f hfp).1
      exact ((nI_eq (a := 8) (by decide) (by omega)).mp q).symm
    refine lv_if_eq (tgt := 73) hx hb dX6_close_43 (by decide) (fun hc => absurd hc (by decide)) (fun hc => ?_)
    refine lv_aload_n hx hb dX6_close_46 rfl (lv_at hl 1 rfl) ?_
    refine va_get (D := D) (ci := 6) (v := .ref (oq 1)) (C := RX6) (T := TX6) (N := 15) hx hb hts hin_X6 hown hK hP 0 rfl rfl 3 (by decide) (hts (.fieldLink RX6 12 "ClashFree$Parser" "program" "LClashFree$Program;") (List.mem_of_getElem? (i := 3) rfl)) (fun _ h9 => h9) rfl dX6_close_47 ?_
    refine lv_bipush (v := 93) hx hb dX6_close_50 (by decide) ?_
    refine lv_iconst (v := 0) hx hb dX6_close_52 (by decide) ?_
    have hPc := hP.sub (ws' := [(oq 1, .inr (7, [.int (nI pz), .ref (oq 2), .ref (oq 3), .ref (oq 4)])), (oq 2, .inl (cI, 600, .inl fK)), (oq 3, .inl (cI, 600, .inl fN)), (oq 4, .inl (cI, 600, .inl (upd fL f (nI pz))))]) [4, 2, 3, 5] rfl
    have hKc := hK.sub (tys' := [(cI, .int)]) [0] rfl
    have hDc := hD.sub (ws' := [(oq 1, .inr (7, [.int (nI pz), .ref (oq 2), .ref (oq 3), .ref (oq 4)])), (oq 2, .inl (cI, 600, .inl fK)), (oq 3, .inl (cI, 600, .inl fN)), (oq 4, .inl (cI, 600, .inl (upd fL f (nI pz))))]) [4, 2, 3, 5] (by decide) rfl
    have hFc := va_free (wc := [(oq 1, .inr (7, [.int (nI pz), .ref (oq 2), .ref (oq 3), .ref (oq 4)])), (oq 2, .inl (cI, 600, .inl fK)), (oq 3, .inl (cI, 600, .inl fN)), (oq 4, .inl (cI, 600, .inl (upd fL f (nI pz))))]) hD hS hA [4, 2, 3, 5] rfl
    refine va_callv (va_runV (As := [.int 93, .int 0]) (rest := []) ⟨hx, hb, hml, hown, hts⟩ (k_padd l D _ oq cI pz fK fN (upd fL f (nI pz)) 93 0 (by omega)) (cwV 2 hts g_k_close_k_padd_118 rfl rfl rfl (by decide +kernel) ⟨(Nat.le_of_ble_eq_true rfl), (Nat.le_of_ble_eq_true rfl)⟩) (PcWC_V (q0 := 0) hPc hKc hDc hN rfl rfl) rfl rfl hl.1 rfl (lv_room (Nat.le_of_ble_eq_true rfl)) dX6_close_53 ⟨(Nat.le_of_ble_eq_true rfl), (Nat.le_of_ble_eq_true rfl)⟩) hS (fun q _ h => hFc q h) hFc (fun uu tt H locs htt hvm hw hB hz1 hk1 hS => ?_)
    obtain ⟨w7, w8, w9, w10⟩ := uu
    obtain ⟨hP1, hK1, hD1⟩ := hB
    rw [htt] at hP1
    have hK1 := va_K.moved hvm.symm hK1
    have hP1 : va_P D vwCl [(oq 1, .inr (7, [.int (nI w7), .ref (oq 2), .ref (oq 3), .ref (oq 4)])), (oq 2, .inl (cI, 600, .inl w8)), (oq 3, .inl (cI, 600, .inl w9)), (oq 4, .inl (cI, 600, .inl w10))] H := hP1
    obtain ⟨hP, hD⟩ := va_join (wr := [(oq 0, .inr (6, gPs oq qf qp qd qs qt qb qh qr qn (nI (bk - 1)) (nI wz))), (oq 6, .inl (cI, 5, .inl fO))]) (w1 := [(oq 1, .inr (7, [.int (nI w7), .ref (oq 2), .ref (oq 3), .ref (oq 4)])), (oq 2, .inl (cI, 600, .inl w8)), (oq 3, .inl (cI, 600, .inl w9)), (oq 4, .inl (cI, 600, .inl w10))]) hP hD [4, 2, 3, 5] [0, 1] rfl rfl (by decide) (by decide) hk1 hFc hP1 hD1
    have hP : va_P D vwCl [(oq 0, .inr (6, gPs oq qf qp qd qs qt qb qh qr qn (nI (bk - 1)) (nI wz))), (oq 6, .inl (cI, 5, .inl fO)), (oq 1, .inr (7, [.int (nI w7), .ref (oq 2), .ref (oq 3), .ref (oq 4)])), (oq 2, .inl (cI, 600, .inl w8)), (oq 3, .inl (cI, 600, .inl w9)), (oq 4, .inl (cI, 600, .inl w10))] H := hP
    have hD : va_D A [(oq 0, .inr (6, gPs oq qf qp qd qs qt qb qh qr qn (nI (bk - 1)) (nI wz))), (oq 6, .inl (cI, 5, .inl fO)), (oq 1, .inr (7, [.int (nI w7), .ref (oq 2), .ref (oq 3), .ref (oq 4)])), (oq 2, .inl (cI, 600, .inl w8)), (oq 3, .inl (cI, 600, .inl w9)), (oq 4, .inl (cI, 600, .inl w10))] := hD
    try dsimp only at hw
    clear hz1 hk1 hFc hPc hKc hDc
    obtain ⟨hpd11, rfl, rfl, rfl, rfl⟩ := hw.resolve_right (fun q => absurd q.1 (by omega))
    have hP : va_P D vwCl [(oq 0, .inr (6, gPs oq qf qp qd qs qt qb qh qr qn (nI (bk - 1)) (nI wz))), (oq 6, .inl (cI, 5, .inl fO)), (oq 1, .inr (7, [.int (nI (pz + 1)), .ref (oq 2), .ref (oq 3), .ref (oq 4)])), (oq 2, .inl (cI, 600, .inl (upd fK pz 93))), (oq 3, .inl (cI, 600, .inl (upd fN pz 0))), (oq 4, .inl (cI, 600, .inl (upd (upd fL f (nI pz)) pz 0)))] H := hP
    have hD : va_D A [(oq 0, .inr (6, gPs oq qf qp qd qs qt qb qh qr qn (nI (bk - 1)) (nI wz))), (oq 6, .inl (cI, 5, .inl fO)), (oq 1, .inr (7, [.int (nI (pz + 1)), .ref (oq 2), .ref (oq 3), .ref (oq 4)])), (oq 2, .inl (cI, 600, .inl (upd fK pz 93))), (oq 3, .inl (cI, 600, .inl (upd fN pz 0))), (oq 4, .inl (cI, 600, .inl (upd (upd fL f (nI pz)) pz 0)))] := hD
    refine lv_aload_n hx hb dX6_close_56 rfl (lv_at hl 1 rfl) ?_
    refine va_get (D := D) (ci := 6) (v := .ref (oq 1)) (C := RX6) (T := TX6) (N := 15) hx hb hts hin_X6 hown hK hP 0 rfl rfl 3 (by decide) (hts (.fieldLink RX6 12 "ClashFree$Parser" "program" "LClashFree$Program;") (List.mem_of_getElem? (i := 3) rfl)) (fun _ h9 => h9) rfl dX6_close_57 ?_
    refine lv_aload_n hx hb dX6_close_60 rfl (lv_at hl 1 rfl) ?_
    refine va_get (D := D) (ci := 6) (v := .ref (oq 1)) (C := RX6) (T := TX6) (N := 15) hx hb hts hin_X6 hown hK hP 0 rfl rfl 3 (by decide) (hts (.fieldLink RX6 12 "ClashFree$Parser" "program" "LClashFree$Program;") (List.mem_of_getElem? (i := 3) rfl)) (fun _ h9 => h9) rfl dX6_close_61 ?_
    refine va_get (D := D) (ci := 7) (v := .int (nI (pz + 1))) (C := RX7) (T := TX7) (N := 4) hx hb hts hin_X7 hown hK hP 2 rfl rfl 0 (by decide) (hts (.fieldLink RX6 36 "ClashFree$Program" "size" "I") (List.mem_of_getElem? (i := 4) rfl)) (fun _ h9 => h9) rfl dX6_close_64 ?_
    refine lv_iconst (v := 1) hx hb dX6_close_67 (by decide) ?_
    refine lv_isub hx hb dX6_close_68 ?_
    refine lv_topi (fun v12 ev12 => ?_)
    obtain rfl : v12 = nI pz := ev12.trans ((pk_sub (b := 1) (by omega)).trans (congrArg nI (by omega)))
    refine lv_iload_n hx hb dX6_close_69 rfl (lv_at hl 0 rfl) ?_
    have hPc := hP.sub (ws' := [(oq 1, .inr (7, [.int (nI (pz + 1)), .ref (oq 2), .ref (oq 3), .ref (oq 4)])), (oq 4, .inl (cI, 600, .inl (upd (upd fL f (nI pz)) pz 0)))]) [2, 5] rfl
    have hKc := hK.sub (tys' := [(cI, .int)]) [0] rfl
    have hDc := hD.sub (ws' := [(oq 1, .inr (7, [.int (nI (pz + 1)), .ref (oq 2), .ref (oq 3), .ref (oq 4)])), (oq 4, .inl (cI, 600, .inl (upd (upd fL f (nI pz)) pz 0)))]) [2, 5] (by decide) rfl
    have hFc := va_free (wc := [(oq 1, .inr (7, [.int (nI (pz + 1)), .ref (oq 2), .ref (oq 3), .ref (oq 4)])), (oq 4, .inl (cI, 600, .inl (upd (upd fL f (nI pz)) pz 0)))]) hD hS hA [2, 5] rfl
    refine va_callv (va_runV (As := [.int (nI pz), .int (nI f)]) (rest := []) ⟨hx, hb, hml, hown, hts⟩ (k_plink l D _ oq cI (pz + 1) (upd (upd fL f (nI pz)) pz 0) pz (nI f) (by omega) (by omega)) (cwV 2 hts g_k_close_k_plink_143 rfl rfl rfl (by decide +kernel) ⟨(Nat.le_of_ble_eq_true rfl), (Nat.le_of_ble_eq_true rfl)⟩) (PcWC_V (q0 := 0) hPc hKc hDc hN rfl rfl) rfl rfl hl.1 rfl (lv_room (Nat.le_of_ble_eq_true rfl)) dX6_close_70 ⟨(Nat.le_of_ble_eq_true rfl), (Nat.le_of_ble_eq_true rfl)⟩) hS (fun q _ h => hFc q h) hFc (fun uu tt H locs htt hvm hw hB hz1 hk1 hS => ?_)
    obtain ⟨w14, rfl⟩ : ∃ z, z = uu := ⟨_, rfl⟩
    obtain ⟨hP1, hK1, hD1⟩ := hB
    rw [htt] at hP1
    have hK1 := va_K.moved hvm.symm hK1
    have hP1 : va_P D vwCl [(oq 1, .inr (7, [.int (nI (pz + 1)), .ref (oq 2), .ref (oq 3), .ref (oq 4)])), (oq 4, .inl (cI, 600, .inl w14))] H := hP1
    obtain ⟨hP, hD⟩ := va_join (wr := [(oq 0, .inr (6, gPs oq qf qp qd qs qt qb qh qr qn (nI (bk - 1)) (nI wz))), (oq 6, .inl (cI, 5, .inl fO)), (oq 2, .inl (cI, 600, .inl (upd fK pz 93))), (oq 3, .inl (cI, 600, .inl (upd fN pz 0)))]) (w1 := [(oq 1, .inr (7, [.int (nI (pz + 1)), .ref (oq 2), .ref (oq 3), .ref (oq 4)])), (oq 4, .inl (cI, 600, .inl w14))]) hP hD [2, 5] [0, 1, 3, 4] rfl rfl (by decide) (by decide) hk1 hFc hP1 hD1
    have hP : va_P D vwCl [(oq 0, .inr (6, gPs oq qf qp qd qs qt qb qh qr qn (nI (bk - 1)) (nI wz))), (oq 6, .inl (cI, 5, .inl fO)), (oq 2, .inl (cI, 600, .inl (upd fK pz 93))), (oq 3, .inl (cI, 600, .inl (upd fN pz 0))), (oq 1, .inr (7, [.int (nI (pz + 1)), .ref (oq 2), .ref (oq 3), .ref (oq 4)])), (oq 4, .inl (cI, 600, .inl w14))] H := hP
    have hD : va_D A [(oq 0, .inr (6, gPs oq qf qp qd qs qt qb qh qr qn (nI (bk - 1)) (nI wz))), (oq 6, .inl (cI, 5, .inl fO)), (oq 2, .inl (cI, 600, .inl (upd fK pz 93))), (oq 3, .inl (cI, 600, .inl (upd fN pz 0))), (oq 1, .inr (7, [.int (nI (pz + 1)), .ref (oq 2), .ref (oq 3), .ref (oq 4)])), (oq 4, .inl (cI, 600, .inl w14))] := hD
    try dsimp only at hw
    clear hz1 hk1 hFc hPc hKc hDc
    obtain rfl := hw
    have hP : va_P D vwCl [(oq 0, .inr (6, gPs oq qf qp qd qs qt qb qh qr qn (nI (bk - 1)) (nI wz))), (oq 6, .inl (cI, 5, .inl fO)), (oq 2, .inl (cI, 600, .inl (upd fK pz 93))), (oq 3, .inl (cI, 600, .inl (upd fN pz 0))), (oq 1, .inr (7, [.int (nI (pz + 1)), .ref (oq 2), .ref (oq 3), .ref (oq 4)])), (oq 4, .inl (cI, 600, .inl (upd (upd (upd fL f (nI pz)) pz 0) pz (nI f))))] H := hP
    have hD : va_D A [(oq 0, .inr (6, gPs oq qf qp qd qs qt qb qh qr qn (nI (bk - 1)) (nI wz))), (oq 6, .inl (cI, 5, .inl fO)), (oq 2, .inl (cI, 600, .inl (upd fK pz 93))), (oq 3, .inl (cI, 600, .inl (upd fN pz 0))), (oq 1, .inr (7, [.int (nI (pz + 1)), .ref (oq 2), .ref (oq 3), .ref (oq 4)])), (oq 4, .inl (cI, 600, .inl (upd (upd (upd fL f (nI pz)) pz 0) pz (nI f))))] := hD
    refine lv_aload_n hx hb dX6_close_73 rfl (lv_at hl 1 rfl) ?_
    refine lv_iconst (v := 5) hx hb dX6_close_74 (by decide) ?_
    refine va_put (D := D) (ci := 6) (v := .int 5) (ty := .int) (C := RX6) (T := TX6) (N := 15) hx hb hts hin_X6 tyX6 tyX6_ok nmX6 hown hK hP hD hS 0 rfl rfl 5 (by decide) (hts (.fieldLink RX6 39 "ClashFree$Parser" "state" "I") (List.mem_of_getElem? (i := 15) rfl)) (fun _ h9 => h9) rfl (by decide +kernel) rfl rfl (Nat.le_of_ble_eq_true rfl) dX6_close_75 (fun H locs hP hD hS => ?_)
    have hP : va_P D vwCl [(oq 0, .inr (6, gPs oq qf qp qd 5 qt qb qh qr qn (nI (bk - 1)) (nI wz))), (oq 6, .inl (cI, 5, .inl fO)), (oq 2, .inl (cI, 600, .inl (upd fK pz 93))), (oq 3, .inl (cI, 600, .inl (upd fN pz 0))), (oq 1, .inr (7, [.int (nI (pz + 1)), .ref (oq 2), .ref (oq 3), .ref (oq 4)])), (oq 4, .inl (cI, 600, .inl (upd (upd (upd fL f (nI pz)) pz 0) pz (nI f))))] H := hP
    have hD : va_D A [(oq 0, .inr (6, gPs oq qf qp qd 5 qt qb qh qr qn (nI (bk - 1)) (nI wz))), (oq 6, .inl (cI, 5, .inl fO)), (oq 2, .inl (cI, 600, .inl (upd fK pz 93))), (oq 3, .inl (cI, 600, .inl (upd fN pz 0))), (oq 1, .inr (7, [.int (nI (pz + 1)), .ref (oq 2), .ref (oq 3), .ref (oq 4)])), (oq 4, .inl (cI, 600, .inl (upd (upd (upd fL f (nI pz)) pz 0) pz (nI f))))] := hD
    exact W.vret hx hb hr (fun t ht hW => ⟨⟨(5, (bk - 1), (pz + 1), (upd fK pz 93), (upd fN pz 0), (upd (upd (upd fL f (nI pz)) pz 0) pz (nI f))), rfl, (by (try dsimp only); first | done | exact ⟨rfl, rfl, by unfold clsP; rw [if_pos hk8, hg.1.symm]; exact ((hg.lnk pz (Nat.le_refl _)).add 93 0 (by decide) (by decide)).lnk f (by omega), by omega⟩), by rw [ht]; exact hP.sub [0, 1, 4, 2, 3, 5] rfl, va_K.moved hW.alike (hK.sub [0] rfl), hD.sub [0, 1, 4, 2, 3, 5] (by decide) rfl⟩, hS.F ht⟩) hS.2.2 dX6_close_78
  ·
    have hk8 : ¬ g.2.1 f = 8 := fun q => hA_r5 f hfp rfl (by rw [hg.2.1 f hfp, q]; rfl)
    refine lv_if_eq (tgt := 73) hx hb dX6_close_43 (by decide) (fun hc => ?_) (fun hc => absurd (by decide) hc)
    refine lv_aload_n hx hb dX6_close_73 rfl (lv_at hl 1 rfl) ?_
    refine lv_iconst (v := 5) hx hb dX6_close_74 (by decide) ?_
    refine va_put (D := D) (ci := 6) (v := .int 5) (ty := .int) (C := RX6) (T := TX6) (N := 15) hx hb hts hin_X6 tyX6 tyX6_ok nmX6 hown hK hP hD hS 0 rfl rfl 5 (by decide) (hts (.fieldLink RX6 39 "ClashFree$Parser" "state" "I") (List.mem_of_getElem? (i := 15) rfl)) (fun _ h9 => h9) rfl (by decide +kernel) rfl rfl (Nat.le_of_ble_eq_true rfl) dX6_close_75 (fun H locs hP hD hS => ?_)
    have hP : va_P D vwCl [(oq 0, .inr (6, gPs oq qf qp qd 5 qt qb qh qr qn (nI (bk - 1)) (nI wz))), (oq 6, .inl (cI, 5, .inl fO)), (oq 2, .inl (cI, 600, .inl fK)), (oq 3, .inl (cI, 600, .inl fN)), (oq 1, .inr (7, [.int (nI pz), .ref (oq 2), .ref (oq 3), .ref (oq 4)])), (oq 4, .inl (cI, 600, .inl (upd fL f (nI pz))))] H := hP
    have hD : va_D A [(oq 0, .inr (6, gPs oq qf qp qd 5 qt qb qh qr qn (nI (bk - 1)) (nI wz))), (oq 6, .inl (cI, 5, .inl fO)), (oq 2, .inl (cI, 600, .inl fK)), (oq 3, .inl (cI, 600, .inl fN)), (oq 1, .inr (7, [.int (nI pz), .ref (oq 2), .ref (oq 3), .ref (oq 4)])), (oq 4, .inl (cI, 600, .inl (upd fL f (nI pz))))] := hD
    exact W.vret hx hb hr (fun t ht hW => ⟨⟨(5, (bk - 1), pz, fK, fN, (upd fL f (nI pz))), rfl, (by (try dsimp only); first | done | exact ⟨rfl, rfl, by unfold clsP; rw [if_neg hk8, hg.1.symm]; exact hg.lnk pz (Nat.le_refl _), by omega⟩), by rw [ht]; exact hP.sub [0, 1, 4, 2, 3, 5] rfl, va_K.moved hW.alike (hK.sub [0] rfl), hD.sub [0, 1, 4, 2, 3, 5] (by decide) rfl⟩, hS.F ht⟩) hS.2.2 dX6_close_78

