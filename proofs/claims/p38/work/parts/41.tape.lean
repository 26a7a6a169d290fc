theorem dX11_puts_0 : decode cX11_puts 0 = .ok (.bipush 24, 2) := by decide +kernel
theorem dX11_puts_2 : decode cX11_puts 2 = .ok (.istore_n 2, 1) := by decide +kernel
theorem dX11_puts_3 : decode cX11_puts 3 = .ok (.iload_n 2, 1) := by decide +kernel
theorem dX11_puts_4 : decode cX11_puts 4 = .ok (.ifCond .lt 32, 3) := by decide +kernel
theorem dX11_puts_7 : decode cX11_puts 7 = .ok (.aload_n 0, 1) := by decide +kernel
theorem dX11_puts_8 : decode cX11_puts 8 = .ok (.getfield 7, 3) := by decide +kernel
theorem dX11_puts_11 : decode cX11_puts 11 = .ok (.aload_n 0, 1) := by decide +kernel
theorem dX11_puts_12 : decode cX11_puts 12 = .ok (.getfield 76, 3) := by decide +kernel
theorem dX11_puts_15 : decode cX11_puts 15 = .ok (.iload_n 1, 1) := by decide +kernel
theorem dX11_puts_16 : decode cX11_puts 16 = .ok (.iload_n 2, 1) := by decide +kernel
theorem dX11_puts_17 : decode cX11_puts 17 = .ok (.ishr, 1) := by decide +kernel
theorem dX11_puts_18 : decode cX11_puts 18 = .ok (.i2b, 1) := by decide +kernel
theorem dX11_puts_19 : decode cX11_puts 19 = .ok (.bastore, 1) := by decide +kernel
theorem dX11_puts_20 : decode cX11_puts 20 = .ok (.aload_n 0, 1) := by decide +kernel
theorem dX11_puts_21 : decode cX11_puts 21 = .ok (.dup, 1) := by decide +kernel
theorem dX11_puts_22 : decode cX11_puts 22 = .ok (.getfield 76, 3) := by decide +kernel
theorem dX11_puts_25 : decode cX11_puts 25 = .ok (.iconst 1, 1) := by decide +kernel
theorem dX11_puts_26 : decode cX11_puts 26 = .ok (.iadd, 1) := by decide +kernel
theorem dX11_puts_27 : decode cX11_puts 27 = .ok (.putfield 76, 3) := by decide +kernel
theorem dX11_puts_30 : decode cX11_puts 30 = .ok (.iinc 2 (-8), 3) := by decide +kernel
theorem dX11_puts_33 : decode cX11_puts 33 = .ok (.goto (-30), 3) := by decide +kernel
theorem dX11_puts_36 : decode cX11_puts 36 = .ok (.return_, 1) := by decide +kernel
theorem dX11_feed_0 : decode cX11_feed 0 = .ok (.aload_n 0, 1) := by decide +kernel
theorem dX11_feed_1 : decode cX11_feed 1 = .ok (.iconst 0, 1) := by decide +kernel
theorem dX11_feed_2 : decode cX11_feed 2 = .ok (.putfield 73, 3) := by decide +kernel
theorem dX11_feed_5 : decode cX11_feed 5 = .ok (.aload_n 0, 1) := by decide +kernel
theorem dX11_feed_6 : decode cX11_feed 6 = .ok (.getfield 76, 3) := by decide +kernel
theorem dX11_feed_9 : decode cX11_feed 9 = .ok (.bipush 20, 2) := by decide +kernel
theorem dX11_feed_11 : decode cX11_feed 11 = .ok (.iadd, 1) := by decide +kernel
theorem dX11_feed_12 : decode cX11_feed 12 = .ok (.sipush 1400, 3) := by decide +kernel
theorem dX11_feed_15 : decode cX11_feed 15 = .ok (.if_icmp .le 5, 3) := by decide +kernel
theorem dX11_feed_18 : decode cX11_feed 18 = .ok (.iconst (-1), 1) := by decide +kernel
theorem dX11_feed_19 : decode cX11_feed 19 = .ok (.ireturn, 1) := by decide +kernel
theorem dX11_feed_20 : decode cX11_feed 20 = .ok (.aload_n 0, 1) := by decide +kernel
theorem dX11_feed_21 : decode cX11_feed 21 = .ok (.iload_n 1, 1) := by decide +kernel
theorem dX11_feed_22 : decode cX11_feed 22 = .ok (.invokevirtual 79, 3) := by decide +kernel
theorem dX11_feed_25 : decode cX11_feed 25 = .ok (.aload_n 0, 1) := by decide +kernel
theorem dX11_feed_26 : decode cX11_feed 26 = .ok (.iload_n 2, 1) := by decide +kernel
theorem dX11_feed_27 : decode cX11_feed 27 = .ok (.invokevirtual 79, 3) := by decide +kernel
theorem dX11_feed_30 : decode cX11_feed 30 = .ok (.aload_n 0, 1) := by decide +kernel
theorem dX11_feed_31 : decode cX11_feed 31 = .ok (.iload_n 3, 1) := by decide +kernel
theorem dX11_feed_32 : decode cX11_feed 32 = .ok (.invokevirtual 79, 3) := by decide +kernel
theorem dX11_feed_35 : decode cX11_feed 35 = .ok (.aload_n 0, 1) := by decide +kernel
theorem dX11_feed_36 : decode cX11_feed 36 = .ok (.iload 4, 2) := by decide +kernel
theorem dX11_feed_38 : decode cX11_feed 38 = .ok (.invokevirtual 79, 3) := by decide +kernel
theorem dX11_feed_41 : decode cX11_feed 41 = .ok (.aload_n 0, 1) := by decide +kernel
theorem dX11_feed_42 : decode cX11_feed 42 = .ok (.iload 5, 2) := by decide +kernel
theorem dX11_feed_44 : decode cX11_feed 44 = .ok (.invokevirtual 79, 3) := by decide +kernel
theorem dX11_feed_47 : decode cX11_feed 47 = .ok (.aload_n 0, 1) := by decide +kernel
theorem dX11_feed_48 : decode cX11_feed 48 = .ok (.getfield 76, 3) := by decide +kernel
theorem dX11_feed_51 : decode cX11_feed 51 = .ok (.ireturn, 1) := by decide +kernel
theorem dX11_end_0 : decode cX11_end 0 = .ok (.aload_n 0, 1) := by decide +kernel
theorem dX11_end_1 : decode cX11_end 1 = .ok (.iconst 0, 1) := by decide +kernel
theorem dX11_end_2 : decode cX11_end 2 = .ok (.putfield 73, 3) := by decide +kernel
theorem dX11_end_5 : decode cX11_end 5 = .ok (.iload_n 1, 1) := by decide +kernel
theorem dX11_end_6 : decode cX11_end 6 = .ok (.i2l, 1) := by decide +kernel
theorem dX11_end_7 : decode cX11_end 7 = .ok (.lconst 0, 1) := by decide +kernel
theorem dX11_end_8 : decode cX11_end 8 = .ok (.aload_n 0, 1) := by decide +kernel
theorem dX11_end_9 : decode cX11_end 9 = .ok (.getfield 76, 3) := by decide +kernel
theorem dX11_end_12 : decode cX11_end 12 = .ok (.i2l, 1) := by decide +kernel
theorem dX11_end_13 : decode cX11_end 13 = .ok (.invokestatic 83, 3) := by decide +kernel
theorem dX11_end_16 : decode cX11_end 16 = .ok (.ifCond .ne 5, 3) := by decide +kernel
theorem dX11_end_19 : decode cX11_end 19 = .ok (.iconst 0, 1) := by decide +kernel
theorem dX11_end_20 : decode cX11_end 20 = .ok (.ireturn, 1) := by decide +kernel
theorem dX11_end_21 : decode cX11_end 21 = .ok (.aload_n 0, 1) := by decide +kernel
theorem dX11_end_22 : decode cX11_end 22 = .ok (.iload_n 1, 1) := by decide +kernel
theorem dX11_end_23 : decode cX11_end 23 = .ok (.putfield 76, 3) := by decide +kernel
theorem dX11_end_26 : decode cX11_end 26 = .ok (.iconst 1, 1) := by decide +kernel
theorem dX11_end_27 : decode cX11_end 27 = .ok (.ireturn, 1) := by decide +kernel
theorem dX11_ran_0 : decode cX11_ran 0 = .ok (.aload_n 0, 1) := by decide +kernel
theorem dX11_ran_1 : decode cX11_ran 1 = .ok (.iconst 0, 1) := by decide +kernel
theorem dX11_ran_2 : decode cX11_ran 2 = .ok (.putfield 73, 3) := by decide +kernel
theorem dX11_ran_5 : decode cX11_ran 5 = .ok (.iload_n 1, 1) := by decide +kernel
theorem dX11_ran_6 : decode cX11_ran 6 = .ok (.tableswitch 77 0 5 #[38, 44, 50, 56, 62, 68], 38) := by decide +kernel
theorem dX11_ran_44 : decode cX11_ran 44 = .ok (.aload_n 0, 1) := by decide +kernel
theorem dX11_ran_45 : decode cX11_ran 45 = .ok (.getfield 382, 3) := by decide +kernel
theorem dX11_ran_48 : decode cX11_ran 48 = .ok (.i2l, 1) := by decide +kernel
theorem dX11_ran_49 : decode cX11_ran 49 = .ok (.lreturn, 1) := by decide +kernel
theorem dX11_ran_50 : decode cX11_ran 50 = .ok (.aload_n 0, 1) := by decide +kernel
theorem dX11_ran_51 : decode cX11_ran 51 = .ok (.getfield 54, 3) := by decide +kernel
theorem dX11_ran_54 : decode cX11_ran 54 = .ok (.i2l, 1) := by decide +kernel
theorem dX11_ran_55 : decode cX11_ran 55 = .ok (.lreturn, 1) := by decide +kernel
theorem dX11_ran_56 : decode cX11_ran 56 = .ok (.aload_n 0, 1) := by decide +kernel
theorem dX11_ran_57 : decode cX11_ran 57 = .ok (.getfield 58, 3) := by decide +kernel
theorem dX11_ran_60 : decode cX11_ran 60 = .ok (.i2l, 1) := by decide +kernel
theorem dX11_ran_61 : decode cX11_ran 61 = .ok (.lreturn, 1) := by decide +kernel
theorem dX11_ran_62 : decode cX11_ran 62 = .ok (.aload_n 0, 1) := by decide +kernel
theorem dX11_ran_63 : decode cX11_ran 63 = .ok (.getfield 407, 3) := by decide +kernel
theorem dX11_ran_66 : decode cX11_ran 66 = .ok (.i2l, 1) := by decide +kernel
theorem dX11_ran_67 : decode cX11_ran 67 = .ok (.lreturn, 1) := by decide +kernel
theorem dX11_ran_68 : decode cX11_ran 68 = .ok (.aload_n 0, 1) := by decide +kernel
theorem dX11_ran_69 : decode cX11_ran 69 = .ok (.getfield 394, 3) := by decide +kernel
theorem dX11_ran_72 : decode cX11_ran 72 = .ok (.i2l, 1) := by decide +kernel
theorem dX11_ran_73 : decode cX11_ran 73 = .ok (.lreturn, 1) := by decide +kernel
theorem dX11_ran_74 : decode cX11_ran 74 = .ok (.aload_n 0, 1) := by decide +kernel
theorem dX11_ran_75 : decode cX11_ran 75 = .ok (.getfield 403, 3) := by decide +kernel
theorem dX11_ran_78 : decode cX11_ran 78 = .ok (.invokestatic 198, 3) := by decide +kernel
theorem dX11_ran_81 : decode cX11_ran 81 = .ok (.i2l, 1) := by decide +kernel
theorem dX11_ran_82 : decode cX11_ran 82 = .ok (.lreturn, 1) := by decide +kernel
theorem dX11_ran_83 : decode cX11_ran 83 = .ok (.ldc2_w 235, 3) := by decide +kernel
theorem dX11_ran_86 : decode cX11_ran 86 = .ok (.lreturn, 1) := by decide +kernel
theorem dX11_octet_0 : decode cX11_octet 0 = .ok (.aload_n 0, 1) := by decide +kernel
theorem dX11_octet_1 : decode cX11_octet 1 = .ok (.iconst 0, 1) := by decide +kernel
theorem dX11_octet_2 : decode cX11_octet 2 = .ok (.putfield 73, 3) := by decide +kernel
theorem dX11_octet_5 : decode cX11_octet 5 = .ok (.iload_n 1, 1) := by decide +kernel
theorem dX11_octet_6 : decode cX11_octet 6 = .ok (.i2l, 1) := by decide +kernel
theorem dX11_octet_7 : decode cX11_octet 7 = .ok (.lconst 0, 1) := by decide +kernel
theorem dX11_octet_8 : decode cX11_octet 8 = .ok (.aload_n 0, 1) := by decide +kernel
theorem dX11_octet_9 : decode cX11_octet 9 = .ok (.getfield 437, 3) := by decide +kernel
theorem dX11_octet_12 : decode cX11_octet 12 = .ok (.iconst 1, 1) := by decide +kernel
theorem dX11_octet_13 : decode cX11_octet 13 = .ok (.isub, 1) := by decide +kernel
theorem dX11_octet_14 : decode cX11_octet 14 = .ok (.i2l, 1) := by decide +kernel
theorem dX11_octet_15 : decode cX11_octet 15 = .ok (.invokestatic 83, 3) := by decide +kernel
theorem dX11_octet_18 : decode cX11_octet 18 = .ok (.ifCond .eq 12, 3) := by decide +kernel
theorem dX11_octet_21 : decode cX11_octet 21 = .ok (.aload_n 0, 1) := by decide +kernel
theorem dX11_octet_22 : decode cX11_octet 22 = .ok (.getfield 70, 3) := by decide +kernel
theorem dX11_octet_25 : decode cX11_octet 25 = .ok (.iload_n 1, 1) := by decide +kernel
theorem dX11_octet_26 : decode cX11_octet 26 = .ok (.iaload, 1) := by decide +kernel
theorem dX11_octet_27 : decode cX11_octet 27 = .ok (.goto 4, 3) := by decide +kernel
theorem dX11_octet_30 : decode cX11_octet 30 = .ok (.iconst (-1), 1) := by decide +kernel
theorem dX11_octet_31 : decode cX11_octet 31 = .ok (.ireturn, 1) := by decide +kernel
theorem in_le {z : Int32} {c : Nat} (hc : c ≤ 1048576) (h : (0 : Int64) ≤ z.toInt64 ∧ z.toInt64 ≤ (nI c).toInt64) : ∃ j, j ≤ c ∧ z = nI j := by
  obtain ⟨h1, h2⟩ := h
  rw [show (0 : Int64) = (0 : Int32).toInt64 from by decide, w64_le] at h1
  rw [w64_le] at h2
  obtain ⟨j, hj, e, -⟩ := inI (n := c) (by decide) (nI_toInt (by omega)) h1 h2
  exact ⟨j, hj, e⟩
theorem in_no {z : Int32} {c : Nat} (h : ¬ ((0 : Int64) ≤ z.toInt64 ∧ z.toInt64 ≤ (nI c).toInt64)) : ¬ ((0 : Int32) ≤ z ∧ z ≤ nI c) := fun q => h (by
  rw [show (0 : Int64) = (0 : Int32).toInt64 from by decide, w64_le, w64_le]
  exact q)
def own_c_putsM : List Cond := [.fieldLink RX11 7 "ClashFreeModel" "tape" "[B", .fieldLink RX11 76 "ClashFreeModel" "taped" "I"]
def wp_c_putsM : List Cond := .code yX11_puts cX11_puts 3 none :: (own_c_putsM ++ (wsX110 ++ ([] : List Cond)))
set_option maxRecDepth 20000 in
theorem inown_c_putsM : ∀ w ∈ own_c_putsM, w ∈ lw_tbl := mem_places [1217, 1218] (by decide +kernel)
set_option maxRecDepth 20000 in
theorem in_c_putsM : ∀ w ∈ wp_c_putsM, w ∈ lw_tbl := List.forall_mem_cons.mpr ⟨List.mem_of_getElem? (i := 1366) (by decide +kernel), List.forall_mem_append.mpr ⟨inown_c_putsM, List.forall_mem_append.mpr ⟨lwb_X11, fun _ h => absurd h List.not_mem_nil⟩⟩⟩
set_option maxRecDepth 20000 in
theorem good_c_putsM : wp_c_putsM.all goodWord = true := by decide +kernel
set_option maxHeartbeats 4000000 in
set_option maxRecDepth 100000 in
theorem c_putsM (l : Launch) (D : va_G) (sz : Nat) (h0 : Nat) (a : Nat → Nat) (cm : Nat → ClassId) (i : Nat → Int32) (g : Nat → Int64) (fT : Nat → Int32) (v : Int32) (tp : Nat) (htp : i 2 = nI tp) (htp2 : tp + 4 ≤ 1400) : Met l yX11_puts wp_c_putsM ({ frames := 0, cells := 0, slots := 0, locals := 0 }) (PcW D [.ref h0, .int v] sz [(h0, .inr (11, gM a i g)), (a 1, .inl (cm 1, 1400, .inl fT))] [(cm 1, .byte)]) (va_Qv (fun (u : (Nat → Int32) × (Int32)) => u.2 = nI (tp + 4) ∧ u.1 = wrM fT tp v) (fun (u : (Nat → Int32) × (Int32)) t => va_P D vwCl [(h0, .inr (11, gM a (upd i 2 u.2) g)), (a 1, .inl (cm 1, 1400, .inl u.1))] t.heap ∧ va_K D vwCl [(cm 1, .byte)] t ∧ va_D (va_A [(h0, .inr (11, gM a i g)), (a 1, .inl (cm 1, 1400, .inl fT))] sz) [(h0, .inr (11, gM a (upd i 2 u.2) g)), (a 1, .inl (cm 1, 1400, .inl u.1))]) (va_A [(h0, .inr (11, gM a i g)), (a 1, .inl (cm 1, 1400, .inl fT))] sz)) 0 0 (va_A [(h0, .inr (11, gM a i g)), (a 1, .inl (cm 1, 1400, .inl fT))] sz) := by
  refine Met.ofW (cc := cX11_puts) (maxL := 3) (ret := none) (by decide) rfl ?_
  intro p e s m args below meth c s₁ B hml hv
  obtain ⟨rfl, hsz, hP, hK, hD0⟩ := hv
  have hx := B.exec
  have hb := B.bytes
  have hr := B.returns
  have hts := atoms_spec (ws := wp_c_putsM) B.pre
  have hin_X11 : ∀ w ∈ wsX110, w ∈ wp_c_putsM := fun _ h => (List.mem_cons_of_mem _ (List.mem_append_right _ (List.mem_append_left _ h)))
  have hown : s.vm.findClass RX11 = some m.cls := findClass_of_methodNamed B.named
  have hlocks := B.notSynchronized
  subst hsz
  have hD := hD0.self (sz := s.heap.size)
  generalize hAe : va_A [(h0, .inr (11, gM a i g)), (a 1, .inl (cm 1, 1400, .inl fT))] s.heap.size = A at hD ⊢
  have hA : ∀ q : Nat, s.heap.size ≤ q → A q := fun q h => by rw [← hAe]; exact Or.inr h
  have hS : va_S A s.heap s.heap [] := va_S.rf
  have hP : va_P D vwCl [(h0, .inr (11, gM a i g)), (a 1, .inl (cm 1, 1400, .inl fT))] s.heap := hP
  have hl := lv_entry ([.ref h0, .int v]) (n := 3) (Nat.le_of_ble_eq_true rfl)
  rw [lg_entry_eq]
  generalize (lg_sl ([.ref h0, .int v]) ++ List.replicate (3 - (lg_sl ([.ref h0, .int v])).length) Slot.unset).toArray = ls at hl ⊢
  have hl : lv_has ls 3 [(0, .ref h0), (1, .int v)] := hl
  refine lv_bipush (v := 24) hx hb dX11_puts_0 (by decide) ?_
  refine lv_istore_n (lv' := [(2, .int 24), (0, .ref h0), (1, .int v)]) hx hb dX11_puts_2 rfl hl (by decide) rfl (fun ls hl => ?_)
  refine lv_iload_n hx hb dX11_puts_3 rfl (lv_at hl 0 rfl) ?_
  refine lv_if_lt (tgt := 36) hx hb dX11_puts_4 (by decide) (fun hc => absurd hc (by decide)) (fun hc => ?_)
  refine lv_aload_n hx hb dX11_puts_7 rfl (lv_at hl 1 rfl) ?_
  refine va_get (D := D) (ci := 11) (v := .ref (a 1)) (C := RX11) (T := TX11) (N := 47) hx hb hts hin_X11 hown hK hP 0 rfl rfl 1 (by decide) (hts (.fieldLink RX11 7 "ClashFreeModel" "tape" "[B") (List.mem_of_getElem? (i := 1) rfl)) (fun _ h9 => h9) rfl dX11_puts_8 ?_
  refine lv_aload_n hx hb dX11_puts_11 rfl (lv_at hl 1 rfl) ?_
  refine va_get (D := D) (ci := 11) (v := .int (i 2)) (C := RX11) (T := TX11) (N := 47) hx hb hts hin_X11 hown hK hP 0 rfl rfl 2 (by decide) (hts (.fieldLink RX11 76 "ClashFreeModel" "taped" "I") (List.mem_of_getElem? (i := 2) rfl)) (fun _ h9 => h9) rfl dX11_puts_12 ?_
  refine lv_topi (fun v1 ev1 => ?_)
  obtain rfl : v1 = nI tp := ev1.trans (htp)
  refine lv_iload_n hx hb dX11_puts_15 rfl (lv_at hl 2 rfl) ?_
  refine lv_iload_n hx hb dX11_puts_16 rfl (lv_at hl 0 rfl) ?_
  refine lv_ishr hx hb dX11_puts_17 ?_
  refine lv_i2b hx hb dX11_puts_18 rfl ?_
  refine va_bast hx hb hK hP hD hS 1 0 rfl rfl (vp_in_nI (by omega) (by decide)) dX11_puts_19 (fun H locs hP hD hS => ?_)
  have hP : va_P D vwCl [(h0, .inr (11, gM a i g)), (a 1, .inl (cm 1, 1400, .inl (upd fT (Int32.toNatClampNeg (nI tp)) (vp_nar .byte ((Int32.toInt8 (v >>> (24 &&& 31))).toInt32)))))] H := hP
  have hD : va_D A [(h0, .inr (11, gM a i g)), (a 1, .inl (cm 1, 1400, .inl (upd fT (Int32.toNatClampNeg (nI tp)) (vp_nar .byte ((Int32.toInt8 (v >>> (24 &&& 31))).toInt32)))))] := hD
  rw [show (upd fT (Int32.toNatClampNeg (nI tp)) (vp_nar .byte ((Int32.toInt8 (v >>> (24 &&& 31))).toInt32))) = (upd fT (tp + 0) (bvM v 0)) from by rw [nI_clamp (by omega)]; rfl] at hP hD
  refine lv_aload_n hx hb dX11_puts_20 rfl (lv_at hl 1 rfl) ?_
  refine lv_dup hx hb dX11_puts_21 rfl ?_
  refine va_get (D := D) (ci := 11) (v := .int (i 2)) (C := RX11) (T := TX11) (N := 47) hx hb hts hin_X11 hown hK hP 0 rfl rfl 2 (by decide) (hts (.fieldLink RX11 76 "ClashFreeModel" "taped" "I") (List.mem_of_getElem? (i := 2) rfl)) (fun _ h9 => h9) rfl dX11_puts_22 ?_
  refine lv_topi (fun v2 ev2 => ?_)
  obtain rfl : v2 = nI tp := ev2.trans (htp)
  refine lv_iconst (v := 1) hx hb dX11_puts_25 (by decide) ?_
  refine lv_iadd hx hb dX11_puts_26 ?_
  refine lv_topi (fun v3 ev3 => ?_)
  obtain rfl : v3 = nI (tp + 1) := ev3.trans (nI_1 _)
  refine va_put (D := D) (ci := 11) (v := .int (nI (tp + 1))) (ty := .int) (C := RX11) (T := TX11) (N := 47) hx hb hts hin_X11 tyX11 tyX11_ok nmX11 hown hK hP hD hS 0 rfl rfl 2 (by decide) (hts (.fieldLink RX11 76 "ClashFreeModel" "taped" "I") (List.mem_of_getElem? (i := 2) rfl)) (fun _ h9 => h9) rfl (by decide +kernel) rfl rfl (Nat.le_of_ble_eq_true rfl) dX11_puts_27 (fun H locs hP hD hS => ?_)
  have hP : va_P D vwCl [(h0, .inr (11, gM a (upd i 2 (nI (tp + 1))) g)), (a 1, .inl (cm 1, 1400, .inl (upd fT (tp + 0) (bvM v 0))))] H := hP
  have hD : va_D A [(h0, .inr (11, gM a (upd i 2 (nI (tp + 1))) g)), (a 1, .inl (cm 1, 1400, .inl (upd fT (tp + 0) (bvM v 0))))] := hD
  refine lv_iinc (v := 16) (lv' := [(2, .int 16), (0, .ref h0), (1, .int v)]) hx hb dX11_puts_30 hl (k := 0) rfl (by decide) (by decide) rfl (fun ls hl => ?_)
  refine lv_goto (tgt := 3) hx hb dX11_puts_33 (by decide) ?_
  refine lv_iload_n hx hb dX11_puts_3 rfl (lv_at hl 0 rfl) ?_
  refine lv_if_lt (tgt := 36) hx hb dX11_puts_4 (by decide) (fun hc => absurd hc (by decide)) (fun hc => ?_)
  refine lv_aload_n hx hb dX11_puts_7 rfl (lv_at hl 1 rfl) ?_
  refine va_get (D := D) (ci := 11) (v := .ref (a 1)) (C := RX11) (T := TX11) (N := 47) hx hb hts hin_X11 hown hK hP 0 rfl rfl 1 (by decide) (hts (.fieldLink RX11 7 "ClashFreeModel" "tape" "[B") (List.mem_of_getElem? (i := 1) rfl)) (fun _ h9 => h9) rfl dX11_puts_8 ?_
  refine lv_aload_n hx hb dX11_puts_11 rfl (lv_at hl 1 rfl) ?_
  refine va_get (D := D) (ci := 11) (v := .int (nI (tp + 1))) (C := RX11) (T := TX11) (N := 47) hx hb hts hin_X11 hown hK hP 0 rfl rfl 2 (by decide) (hts (.fieldLink RX11 76 "ClashFreeModel" "taped" "I") (List.mem_of_getElem? (i := 2) rfl)) (fun _ h9 => h9) rfl dX11_puts_12 ?_
  refine lv_topi (fun v4 ev4 => ?_)
  obtain rfl : v4 = nI (tp + 1) := ev4.trans (rfl)
  refine lv_iload_n hx hb dX11_puts_15 rfl (lv_at hl 2 rfl) ?_
  refine lv_iload_n hx hb dX11_puts_16 rfl (lv_at hl 0 rfl) ?_
  refine lv_ishr hx hb dX11_puts_17 ?_
  refine lv_i2b hx hb dX11_puts_18 rfl ?_
  refine va_bast hx hb hK hP hD hS 1 0 rfl rfl (vp_in_nI (by omega) (by decide)) dX11_puts_19 (fun H locs hP hD hS => ?_)
  have hP : va_P D vwCl [(h0, .inr (11, gM a (upd i 2 (nI (tp + 1))) g)), (a 1, .inl (cm 1, 1400, .inl (upd (upd fT (tp + 0) (bvM v 0)) (Int32.toNatClampNeg (nI (tp + 1))) (vp_nar .byte ((Int32.toInt8 (v >>> (16 &&& 31))).toInt32)))))] H := hP
  have hD : va_D A [(h0, .inr (11, gM a (upd i 2 (nI (tp + 1))) g)), (a 1, .inl (cm 1, 1400, .inl (upd (upd fT (tp + 0) (bvM v 0)) (Int32.toNatClampNeg (nI (tp + 1))) (vp_nar .byte ((Int32.toInt8 (v >>> (16 &&& 31))).toInt32)))))] := hD
  rw [show (upd (upd fT (tp + 0) (bvM v 0)) (Int32.toNatClampNeg (nI (tp + 1))) (vp_nar .byte ((Int32.toInt8 (v >>> (16 &&& 31))).toInt32))) = (upd (upd fT (tp + 0) (bvM v 0)) (tp + 1) (bvM v 1)) from by rw [nI_clamp (by omega)]; rfl] at hP hD
  refine lv_aload_n hx hb dX11_puts_20 rfl (lv_at hl 1 rfl) ?_
  refine lv_dup hx hb dX11_puts_21 rfl ?_
  refine va_get (D := D) (ci := 11) (v := .int (nI (tp + 1))) (C := RX11) (T := TX11) (N := 47) hx hb hts hin_X11 hown hK hP 0 rfl rfl 2 (by decide) (hts (.fieldLink RX11 76 "ClashFreeModel" "taped" "I") (List.mem_of_getElem? (i := 2) rfl)) (fun _ h9 => h9) rfl dX11_puts_22 ?_
  refine lv_topi (fun v5 ev5 => ?_)
  obtain rfl : v5 = nI (tp + 1) := ev5.trans (rfl)
  refine lv_iconst (v := 1) hx hb dX11_puts_25 (by decide) ?_
  refine lv_iadd hx hb dX11_puts_26 ?_
  refine lv_topi (fun v6 ev6 => ?_)
  obtain rfl : v6 = nI (tp + 2) := ev6.trans (nI_1 _)
  refine va_put (D := D) (ci := 11) (v := .int (nI (tp + 2))) (ty := .int) (C := RX11) (T := TX11) (N := 47) hx hb hts hin_X11 tyX11 tyX11_ok nmX11 hown hK hP hD hS 0 rfl rfl 2 (by decide) (hts (.fieldLink RX11 76 "ClashFreeModel" "taped" "I") (List.mem_of_getElem? (i := 2) rfl)) (fun _ h9 => h9) rfl (by decide +kernel) rfl rfl (Nat.le_of_ble_eq_true rfl) dX11_puts_27 (fun H locs hP hD hS => ?_)
  have hP : va_P D vwCl [(h0, .inr (11, gM a (upd i 2 (nI (tp + 2))) g)), (a 1, .inl (cm 1, 1400, .inl (upd (upd fT (tp + 0) (bvM v 0)) (tp + 1) (bvM v 1))))] H := hP
  have hD : va_D A [(h0, .inr (11, gM a (upd i 2 (nI (tp + 2))) g)), (a 1, .inl (cm 1, 1400, .inl (upd (upd fT (tp + 0) (bvM v 0)) (tp + 1) (bvM v 1))))] := hD
  refine lv_iinc (v := 8) (lv' := [(2, .int 8), (0, .ref h0), (1, .int v)]) hx hb dX11_puts_30 hl (k := 0) rfl (by decide) (by decide) rfl (fun ls hl => ?_)
  refine lv_goto (tgt := 3) hx hb dX11_puts_33 (by decide) ?_
  refine lv_iload_n hx hb dX11_puts_3 rfl (lv_at hl 0 rfl) ?_
  refine lv_if_lt (tgt := 36) hx hb dX11_puts_4 (by decide) (fun hc => absurd hc (by decide)) (fun hc => ?_)
  refine lv_aload_n hx hb dX11_puts_7 rfl (lv_at hl 1 rfl) ?_
  refine va_get (D := D) (ci := 11) (v := .ref (a 1)) (C := RX11) (T := TX11) (N := 47) hx hb hts hin_X11 hown hK hP 0 rfl rfl 1 (by decide) (hts (.fieldLink RX11 7 "ClashFreeModel" "tape" "[B") (List.mem_of_getElem? (i := 1) rfl)) (fun _ h9 => h9) rfl dX11_puts_8 ?_
  refine lv_aload_n hx hb dX11_puts_11 rfl (lv_at hl 1 rfl) ?_
  refine va_get (D := D) (ci := 11) (v := .int (nI (tp + 2))) (C := RX11) (T := TX11) (N := 47) hx hb hts hin_X11 hown hK hP 0 rfl rfl 2 (by decide) (hts (.fieldLink RX11 76 "ClashFreeModel" "taped" "I") (List.mem_of_getElem? (i := 2) rfl)) (fun _ h9 => h9) rfl dX11_puts_12 ?_
  refine lv_topi (fun v7 ev7 => ?_)
  obtain rfl : v7 = nI (tp + 2) := ev7.trans (rfl)
  refine lv_iload_n hx hb dX11_puts_15 rfl (lv_at hl 2 rfl) ?_
  refine lv_iload_n hx hb dX11_puts_16 rfl (lv_at hl 0 rfl) ?_
  refine lv_ishr hx hb dX11_puts_17 ?_
  refine lv_i2b hx hb dX11_puts_18 rfl ?_
  refine va_bast hx hb hK hP hD hS 1 0 rfl rfl (vp_in_nI (by omega) (by decide)) dX11_puts_19 (fun H locs hP hD hS => ?_)
  have hP : va_P D vwCl [(h0, .inr (11, gM a (upd i 2 (nI (tp + 2))) g)), (a 1, .inl (cm 1, 1400, .inl (upd (upd (upd fT (tp + 0) (bvM v 0)) (tp + 1) (bvM v 1)) (Int32.toNatClampNeg (nI (tp + 2))) (vp_nar .byte ((Int32.toInt8 (v >>> (8 &&& 31))).toInt32)))))] H := hP
  have hD : va_D A [(h0, .inr (11, gM a (upd i 2 (nI (tp + 2))) g)), (a 1, .inl (cm 1, 1400, .inl (upd (upd (upd fT (tp + 0) (bvM v 0)) (tp + 1) (bvM v 1)) (Int32.toNatClampNeg (nI (tp + 2))) (vp_nar .byte ((Int32.toInt8 (v >>> (8 &&& 31))).toInt32)))))] := hD
  rw [show (upd (upd (upd fT (tp + 0) (bvM v 0)) (tp + 1) (bvM v 1)) (Int32.toNatClampNeg (nI (tp + 2))) (vp_nar .byte ((Int32.toInt8 (v >>> (8 &&& 31))).toInt32))) = (upd (upd (upd fT (tp + 0) (bvM v 0)) (tp + 1) (bvM v 1)) (tp + 2) (bvM v 2)) from by rw [nI_clamp (by omega)]; rfl] at hP hD
  refine lv_aload_n hx hb dX11_puts_20 rfl (lv_at hl 1 rfl) ?_
  refine lv_dup hx hb dX11_puts_21 rfl ?_
  refine va_get (D := D) (ci := 11) (v := .int (nI (tp + 2))) (C := RX11) (T := TX11) (N := 47) hx hb hts hin_X11 hown hK hP 0 rfl rfl 2 (by decide) (hts (.fieldLink RX11 76 "ClashFreeModel" "taped" "I") (List.mem_of_getElem? (i := 2) rfl)) (fun _ h9 => h9) rfl dX11_puts_22 ?_
  refine lv_topi (fun v8 ev8 => ?_)
  obtain rfl : v8 = nI (tp + 2) := ev8.trans (rfl)
  refine lv_iconst (v := 1) hx hb dX11_puts_25 (by decide) ?_
  refine lv_iadd hx hb dX11_puts_26 ?_
  refine lv_topi (fun v9 ev9 => ?_)
  obtain rfl : v9 = nI (tp + 3) := ev9.trans (nI_1 _)
  refine va_put (D := D) (ci := 11) (v := .int (nI (tp + 3))) (ty := .int) (C := RX11) (T := TX11) (N := 47) hx hb hts hin_X11 tyX11 tyX11_ok nmX11 hown hK hP hD hS 0 rfl rfl 2 (by decide) (hts (.fieldLink RX11 76 "ClashFreeModel" "taped" "I") (List.mem_of_getElem? (i := 2) rfl)) (fun _ h9 => h9) rfl (by decide +kernel) rfl rfl (Nat.le_of_ble_eq_true rfl) dX11_puts_27 (fun H locs hP hD hS => ?_)
  have hP : va_P D vwCl [(h0, .inr (11, gM a (upd i 2 (nI (tp + 3))) g)), (a 1, .inl (cm 1, 1400, .inl (upd (upd (upd fT (tp + 0) (bvM v 0)) (tp + 1) (bvM v 1)) (tp + 2) (bvM v 2))))] H := hP
  have hD : va_D A [(h0, .inr (11, gM a (upd i 2 (nI (tp + 3))) g)), (a 1, .inl (cm 1, 1400, .inl (upd (upd (upd fT (tp + 0) (bvM v 0)) (tp + 1) (bvM v 1)) (tp + 2) (bvM v 2))))] := hD
  refine lv_iinc (v := 0) (lv' := [(2, .int 0), (0, .ref h0), (1, .int v)]) hx hb dX11_puts_30 hl (k := 0) rfl (by decide) (by decide) rfl (fun ls hl => ?_)
  refine lv_goto (tgt := 3) hx hb dX11_puts_33 (by decide) ?_
  refine lv_iload_n hx hb dX11_puts_3 rfl (lv_at hl 0 rfl) ?_
  refine lv_if_lt (tgt := 36) hx hb dX11_puts_4 (by decide) (fun hc => absurd hc (by decide)) (fun hc => ?_)
  refine lv_aload_n hx hb dX11_puts_7 rfl (lv_at hl 1 rfl) ?_
  refine va_get (D := D) (ci := 11) (v := .ref (a 1)) (C := RX11) (T := TX11) (N := 47) hx hb hts hin_X11 hown hK hP 0 rfl rfl 1 (by decide) (hts (.fieldLink RX11 7 "ClashFreeModel" "tape" "[B") (List.mem_of_getElem? (i := 1) rfl)) (fun _ h9 => h9) rfl dX11_puts_8 ?_
  refine lv_aload_n hx hb dX11_puts_11 rfl (lv_at hl 1 rfl) ?_
  refine va_get (D := D) (ci := 11) (v := .int (nI (tp + 3))) (C := RX11) (T := TX11) (N := 47) hx hb hts hin_X11 hown hK hP 0 rfl rfl 2 (by decide) (hts (.fieldLink RX11 76 "ClashFreeModel" "taped" "I") (List.mem_of_getElem? (i := 2) rfl)) (fun _ h9 => h9) rfl dX11_puts_12 ?_
  refine lv_topi (fun v10 ev10 => ?_)
  obtain rfl : v10 = nI (tp + 3) := ev10.trans (rfl)
  refine lv_iload_n hx hb dX11_puts_15 rfl (lv_at hl 2 rfl) ?_
  refine lv_iload_n hx hb dX11_puts_16 rfl (lv_at hl 0 rfl) ?_
  refine lv_ishr hx hb dX11_puts_17 ?_
  refine lv_i2b hx hb dX11_puts_18 rfl ?_
  refine va_bast hx hb hK hP hD hS 1 0 rfl rfl (vp_in_nI (by omega) (by decide)) dX11_puts_19 (fun H locs hP hD hS => ?_)
  have hP : va_P D vwCl [(h0, .inr (11, gM a (upd i 2 (nI (tp + 3))) g)), (a 1, .inl (cm 1, 1400, .inl (upd (upd (upd (upd fT (tp + 0) (bvM v 0)) (tp + 1) (bvM v 1)) (tp + 2) (bvM v 2)) (Int32.toNatClampNeg (nI (tp + 3))) (vp_nar .byte ((Int32.toInt8 (v >>> (0 &&& 31))).toInt32)))))] H := hP
  have hD : va_D A [(h0, .inr (11, gM a (upd i 2 (nI (tp + 3))) g)), (a 1, .inl (cm 1, 1400, .inl (upd (upd (upd (upd fT (tp + 0) (bvM v 0)) (tp + 1) (bvM v 1)) (tp + 2) (bvM v 2)) (Int32.toNatClampNeg (nI (tp + 3))) (vp_nar .byte ((Int32.toInt8 (v >>> (0 &&& 31))).toInt32)))))] := hD
  rw [show (upd (upd (upd (upd fT (tp + 0) (bvM v 0)) (tp + 1) (bvM v 1)) (tp + 2) (bvM v 2)) (Int32.toNatClampNeg (nI (tp + 3))) (vp_nar .byte ((Int32.toInt8 (v >>> (0 &&& 31))).toInt32))) = (upd (upd (upd (upd fT (tp + 0) (bvM v 0)) (tp + 1) (bvM v 1)) (tp + 2) (bvM v 2)) (tp + 3) (bvM v 3)) from by rw [nI_clamp (by omega)]; rfl] at hP hD
  refine lv_aload_n hx hb dX11_puts_20 rfl (lv_at hl 1 rfl) ?_
  refine lv_dup hx hb dX11_puts_21 rfl ?_
  refine va_get (D := D) (ci := 11) (v := .int (nI (tp + 3))) (C := RX11) (T := TX11) (N := 47) hx hb hts hin_X11 hown hK hP 0 rfl rfl 2 (by decide) (hts (.fieldLink RX11 76 "ClashFreeModel" "taped" "I") (List.mem_of_getElem? (i := 2) rfl)) (fun _ h9 => h9) rfl dX11_puts_22 ?_
  refine lv_topi (fun v11 ev11 => ?_)
  obtain rfl : v11 = nI (tp + 3) := ev11.trans (rfl)
  refine lv_iconst (v := 1) hx hb dX11_puts_25 (by decide) ?_
  refine lv_iadd hx hb dX11_puts_26 ?_
  refine lv_topi (fun v12 ev12 => ?_)
  obtain rfl : v12 = nI (tp + 4) := ev12.trans (nI_1 _)
  refine va_put (D := D) (ci := 11) (v := .int (nI (tp + 4))) (ty := .int) (C := RX11) (T := TX11) (N := 47) hx hb hts hin_X11 tyX11 tyX11_ok nmX11 hown hK hP hD hS 0 rfl rfl 2 (by decide) (hts (.fieldLink RX11 76 "ClashFreeModel" "taped" "I") (List.mem_of_getElem? (i := 2) rfl)) (fun _ h9 => h9) rfl (by decide +kernel) rfl rfl (Nat.le_of_ble_eq_true rfl) dX11_puts_27 (fun H locs hP hD hS => ?_)
  have hP : va_P D vwCl [(h0, .inr (11, gM a (upd i 2 (nI (tp + 4))) g)), (a 1, .inl (cm 1, 1400, .inl (upd (upd (upd (upd fT (tp + 0) (bvM v 0)) (tp + 1) (bvM v 1)) (tp + 2) (bvM v 2)) (tp + 3) (bvM v 3))))] H := hP
  have hD : va_D A [(h0, .inr (11, gM a (upd i 2 (nI (tp + 4))) g)), (a 1, .inl (cm 1, 1400, .inl (upd (upd (upd (upd fT (tp + 0) (bvM v 0)) (tp + 1) (bvM v 1)) (tp + 2) (bvM v 2)) (tp + 3) (bvM v 3))))] := hD
  refine lv_iinc (v := (-8)) (lv' := [(2, .int (-8)), (0, .ref h0), (1, .int v)]) hx hb dX11_puts_30 hl (k := 0) rfl (by decide) (by decide) rfl (fun ls hl => ?_)
  refine lv_goto (tgt := 3) hx hb dX11_puts_33 (by decide) ?_
  refine lv_iload_n hx hb dX11_puts_3 rfl (lv_at hl 0 rfl) ?_
  refine lv_if_lt (tgt := 36) hx hb dX11_puts_4 (by decide) (fun hc => ?_) (fun hc => absurd (by decide) hc)
  exact W.vret hx hb hr (fun t ht hW => ⟨⟨((upd (upd (upd (upd fT (tp + 0) (bvM v 0)) (tp + 1) (bvM v 1)) (tp + 2) (bvM v 2)) (tp + 3) (bvM v 3)), (nI (tp + 4))), rfl, ⟨rfl, rfl⟩, by rw [ht]; exact hP.sub [0, 1] rfl, va_K.moved hW.alike (hK.sub [0] rfl), hD.sub [0, 1] (by decide) rfl⟩, hS.F ht⟩) hS.2.2 dX11_puts_36

def own_c_feedM : List Cond := [.fieldLink RX11 73 "ClashFreeModel" "thrown" "I", .fieldLink RX11 76 "ClashFreeModel" "taped" "I", .methodLink RX11 79 yX11_puts, .instanceMethod yX11_puts, .selects RX11 yX11_puts yX11_puts, .initialized RX11]
def wp_c_feedM : List Cond := .code yX11_feed cX11_feed 6 (some .int) :: (own_c_feedM ++ (wp_c_putsM ++ (wsX110 ++ ([] : List Cond))))
set_option maxRecDepth 20000 in
theorem inown_c_feedM : ∀ w ∈ own_c_feedM, w ∈ lw_tbl := mem_places [1216, 1218, 1363, 1365, 36, 115] (by decide +kernel)
set_option maxRecDepth 20000 in
theorem in_c_feedM : ∀ w ∈ wp_c_feedM, w ∈ lw_tbl := List.forall_mem_cons.mpr ⟨List.mem_of_getElem? (i := 1362) (by decide +kernel), List.forall_mem_append.mpr ⟨inown_c_feedM, List.forall_mem_append.mpr ⟨in_c_putsM, List.forall_mem_append.mpr ⟨lwb_X11, fun _ h => absurd h List.not_mem_nil⟩⟩⟩⟩
set_option maxRecDepth 20000 in
theorem good_c_feedM : wp_c_feedM.all goodWord = true := by decide +kernel
set_option maxRecDepth 20000 in
theorem g_c_feedM_c_putsM_79 : GoodIn wp_c_feedM (wsV RX11 79 RX11 yX11_puts wp_c_putsM) := goodIn_sub (List.forall_mem_append.mpr ⟨List.forall_mem_cons.mpr ⟨(List.mem_of_getElem? (i := 3) rfl), List.forall_mem_cons.mpr ⟨(List.mem_of_getElem? (i := 4) rfl), List.forall_mem_cons.mpr ⟨(List.mem_of_getElem? (i := 5) rfl), List.forall_mem_cons.mpr ⟨(List.mem_of_getElem? (i := 6) rfl), fun _ h => absurd h List.not_mem_nil⟩⟩⟩⟩, (fun _ h => (List.mem_cons_of_mem _ (List.mem_append_right _ (List.mem_append_left _ h))))⟩) (by decide +kernel)
set_option maxHeartbeats 4000000 in
set_option maxRecDepth 100000 in
theorem c_feedM (l : Launch) (D : va_G) (sz : Nat) (h0 : Nat) (a : Nat → Nat) (cm : Nat → ClassId) (i : Nat → Int32) (g : Nat → Int64) (fT : Nat → Int32) (z1 : Int32) (z2 : Int32) (z3 : Int32) (z4 : Int32) (z5 : Int32) (tp : Nat) (htp : i 2 = nI tp) (htp2 : tp ≤ 1400) : Met l yX11_feed wp_c_feedM ({ frames := 1, cells := 0, slots := 0, locals := 22 }) (PcW D [.ref h0, .int z1, .int z2, .int z3, .int z4, .int z5] sz [(h0, .inr (11, gM a i g)), (a 1, .inl (cm 1, 1400, .inl fT))] [(cm 1, .byte)]) (va_Qi (fun (r : Int32) (u : (Nat → Int32) × (Int32) × (Int32)) => (tp + 20 ≤ 1400 ∧ r = nI (tp + 20) ∧ u.2.2 = nI (tp + 20) ∧ u.1 = wrM5 fT tp z1 z2 z3 z4 z5) ∨ (1400 < tp + 20 ∧ r = -1 ∧ u.2.2 = nI tp ∧ u.1 = fT)) (fun (u : (Nat → Int32) × (Int32) × (Int32)) t => va_P D vwCl [(h0, .inr (11, gM a (upd (upd i 0 u.2.1) 2 u.2.2) g)), (a 1, .inl (cm 1, 1400, .inl u.1))] t.heap ∧ va_K D vwCl [(cm 1, .byte)] t ∧ va_D (va_A [(h0, .inr (11, gM a i g)), (a 1, .inl (cm 1, 1400, .inl fT))] sz) [(h0, .inr (11, gM a (upd (upd i 0 u.2.1) 2 u.2.2) g)), (a 1, .inl (cm 1, 1400, .inl u.1))]) (va_A [(h0, .inr (11, gM a i g)), (a 1, .inl (cm 1, 1400, .inl fT))] sz)) 0 0 (va_A [(h0, .inr (11, gM a i g)), (a 1, .inl (cm 1, 1400, .inl fT))] sz) := by
  refine Met.ofW (cc := cX11_feed) (maxL := 6) (ret := (some .int)) (by decide) rfl ?_
  intro p e s m args below meth c s₁ B hml hv
  obtain ⟨rfl, hsz, hP, hK, hD0⟩ := hv
  have hx := B.exec
  have hb := B.bytes
  have hr := B.returns
  have hts := atoms_spec (ws := wp_c_feedM) B.pre
  have hin_X11 : ∀ w ∈ wsX110, w ∈ wp_c_feedM := fun _ h => (List.mem_cons_of_mem _ (List.mem_append_right _ (List.mem_append_right _ (List.mem_append_left _ h))))
  have hown : s.vm.findClass RX11 = some m.cls := findClass_of_methodNamed B.named
  have hlocks := B.notSynchronized
  subst hsz
  have hD := hD0.self (sz := s.heap.size)
  generalize hAe : va_A [(h0, .inr (11, gM a i g)), (a 1, .inl (cm 1, 1400, .inl fT))] s.heap.size = A at hD ⊢
  have hA : ∀ q : Nat, s.heap.size ≤ q → A q := fun q h => by rw [← hAe]; exact Or.inr h
  have hS : va_S A s.heap s.heap [] := va_S.rf
  have hP : va_P D vwCl [(h0, .inr (11, gM a i g)), (a 1, .inl (cm 1, 1400, .inl fT))] s.heap := hP
  have hl := lv_entry ([.ref h0, .int z1, .int z2, .int z3, .int z4, .int z5]) (n := 6) (Nat.le_of_ble_eq_true rfl)
  rw [lg_entry_eq]
  generalize (lg_sl ([.ref h0, .int z1, .int z2, .int z3, .int z4, .int z5]) ++ List.replicate (6 - (lg_sl ([.ref h0, .int z1, .int z2, .int z3, .int z4, .int z5])).length) Slot.unset).toArray = ls at hl ⊢
  have hl : lv_has ls 6 [(0, .ref h0), (1, .int z1), (2, .int z2), (3, .int z3), (4, .int z4), (5, .int z5)] := hl
  refine lv_aload_n hx hb dX11_feed_0 rfl (lv_at hl 0 rfl) ?_
  refine lv_iconst (v := 0) hx hb dX11_feed_1 (by decide) ?_
  refine va_put (D := D) (ci := 11) (v := .int 0) (ty := .int) (C := RX11) (T := TX11) (N := 47) hx hb hts hin_X11 tyX11 tyX11_ok nmX11 hown hK hP hD hS 0 rfl rfl 0 (by decide) (hts (.fieldLink RX11 73 "ClashFreeModel" "thrown" "I") (List.mem_of_getElem? (i := 1) rfl)) (fun _ h9 => h9) rfl (by decide +kernel) rfl rfl (Nat.le_of_ble_eq_true rfl) dX11_feed_2 (fun H locs hP hD hS => ?_)
  have hP : va_P D vwCl [(h0, .inr (11, gM a (upd i 0 0) g)), (a 1, .inl (cm 1, 1400, .inl fT))] H := hP
  have hD : va_D A [(h0, .inr (11, gM a (upd i 0 0) g)), (a 1, .inl (cm 1, 1400, .inl fT))] := hD
  refine lv_aload_n hx hb dX11_feed_5 rfl (lv_at hl 0 rfl) ?_
  refine va_get (D := D) (ci := 11) (v := .int (i 2)) (C := RX11) (T := TX11) (N := 47) hx hb hts hin_X11 hown hK hP 0 rfl rfl 2 (by decide) (hts (.fieldLink RX11 76 "ClashFreeModel" "taped" "I") (List.mem_of_getElem? (i := 2) rfl)) (fun _ h9 => h9) rfl dX11_feed_6 ?_
  refine lv_topi (fun v1 ev1 => ?_)
  obtain rfl : v1 = nI tp := ev1.trans (htp)
  refine lv_bipush (v := 20) hx hb dX11_feed_9 (by decide) ?_
  refine lv_iadd hx hb dX11_feed_11 ?_
  refine lv_topi (fun v2 ev2 => ?_)
  obtain rfl : v2 = nI (tp + 20) := ev2.trans (nI_add tp 20)
  refine lv_sipush (v := 1400) hx hb dX11_feed_12 (by decide) ?_
  refine lv_icmp_le (tgt := 20) hx hb dX11_feed_15 (by decide) (fun hc3 => ?_) (fun hc3 => ?_)
  ·
    have ht20 : tp + 20 ≤ 1400 := by
      rcases Nat.lt_or_ge 1400 (tp + 20) with z | z
      · exact absurd hc3 (Int32.not_le.mpr (nI_lt (a := 1400) z (by omega)))
      · exact z
    refine lv_aload_n hx hb dX11_feed_20 rfl (lv_at hl 0 rfl) ?_
    refine lv_iload_n hx hb dX11_feed_21 rfl (lv_at hl 1 rfl) ?_
    have hPc := hP.sub (ws' := [(h0, .inr (11, gM a (upd i 0 0) g)), (a 1, .inl (cm 1, 1400, .inl fT))]) [0, 1] rfl
    have hKc := hK.sub (tys' := [(cm 1, .byte)]) [0] rfl
    have hDc := hD.sub (ws' := [(h0, .inr (11, gM a (upd i 0 0) g)), (a 1, .inl (cm 1, 1400, .inl fT))]) [0, 1] (by decide) rfl
    have hFc := va_free (wc := [(h0, .inr (11, gM a (upd i 0 0) g)), (a 1, .inl (cm 1, 1400, .inl fT))]) hD hS hA [0, 1] rfl
    refine va_callv (va_runV (As := [.int z1]) (rest := []) ⟨hx, hb, hml, hown, hts⟩ (c_putsM l D _ h0 a cm (upd i 0 0) g fT z1 tp htp (by omega)) (cwV 1 hts g_c_feedM_c_putsM_79 rfl rfl rfl (by decide +kernel) ⟨(Nat.le_of_ble_eq_true rfl), (Nat.le_of_ble_eq_true rfl)⟩) (PcW_V (q0 := 0) hPc hKc hDc rfl rfl) rfl rfl hl.1 rfl (lv_room (Nat.le_of_ble_eq_true rfl)) dX11_feed_22 ⟨(Nat.le_of_ble_eq_true rfl), (Nat.le_of_ble_eq_true rfl)⟩) hS (fun q _ h => hFc q h) hFc (fun uu tt H locs htt hvm hw hB hz1 hk1 hS => ?_)
    obtain ⟨w5, w6⟩ := uu
    obtain ⟨hP1, hK1, hD1⟩ := hB
    rw [htt] at hP1
    have hK1 := va_K.moved hvm.symm hK1
    have hP1 : va_P D vwCl [(h0, .inr (11, gM a (upd (upd i 0 0) 2 w6) g)), (a 1, .inl (cm 1, 1400, .inl w5))] H := hP1
    obtain ⟨hP, hD⟩ := va_join (wr := []) (w1 := [(h0, .inr (11, gM a (upd (upd i 0 0) 2 w6) g)), (a 1, .inl (cm 1, 1400, .inl w5))]) hP hD [0, 1] [] rfl rfl (by decide) (by decide) hk1 hFc hP1 hD1
    have hP : va_P D vwCl [(h0, .inr (11, gM a (upd (upd i 0 0) 2 w6) g)), (a 1, .inl (cm 1, 1400, .inl w5))] H := hP
    have hD : va_D A [(h0, .inr (11, gM a (upd (upd i 0 0) 2 w6) g)), (a 1, .inl (cm 1, 1400, .inl w5))] := hD
    try dsimp only at hw
    clear hz1 hk1 hFc hPc hKc hDc
    obtain ⟨rfl, rfl⟩ := hw
    have hP : va_P D vwCl [(h0, .inr (11, gM a (upd (upd i 0 0) 2 (nI (tp + 4))) g)), (a 1, .inl (cm 1, 1400, .inl (wrM fT tp z1)))] H := hP
    have hD : va_D A [(h0, .inr (11, gM a (upd (upd i 0 0) 2 (nI (tp + 4))) g)), (a 1, .inl (cm 1, 1400, .inl (wrM fT tp z1)))] := hD
    refine lv_aload_n hx hb dX11_feed_25 rfl (lv_at hl 0 rfl) ?_
    refine lv_iload_n hx hb dX11_feed_26 rfl (lv_at hl 2 rfl) ?_
    have hPc := hP.sub (ws' := [(h0, .inr (11, gM a (upd (upd i 0 0) 2 (nI (tp + 4))) g)), (a 1, .inl (cm 1, 1400, .inl (wrM fT tp z1)))]) [0, 1] rfl
    have hKc := hK.sub (tys' := [(cm 1, .byte)]) [0] rfl
    have hDc := hD.sub (ws' := [(h0, .inr (11, gM a (upd (upd i 0 0) 2 (nI (tp + 4))) g)), (a 1, .inl (cm 1, 1400, .inl (wrM fT tp z1)))]) [0, 1] (by decide) rfl
    have hFc := va_free (wc := [(h0, .inr (11, gM a (upd (upd i 0 0) 2 (nI (tp + 4))) g)), (a 1, .inl (cm 1, 1400, .inl (wrM fT tp z1)))]) hD hS hA [0, 1] rfl
    refine va_callv (va_runV (As := [.int z2]) (rest := []) ⟨hx, hb, hml, hown, hts⟩ (c_putsM l D _ h0 a cm (upd (upd i 0 0) 2 (nI (tp + 4))) g (wrM fT tp z1) z2 (tp + 4) rfl (by omega)) (cwV 1 hts g_c_feedM_c_putsM_79 rfl rfl rfl (by decide +kernel) ⟨(Nat.le_of_ble_eq_true rfl), (Nat.le_of_ble_eq_true rfl)⟩) (PcW_V (q0 := 0) hPc hKc hDc rfl rfl) rfl rfl hl.1 rfl (lv_room (Nat.le_of_ble_eq_true rfl)) dX11_feed_27 ⟨(Nat.le_of_ble_eq_true rfl), (Nat.le_of_ble_eq_true rfl)⟩) hS (fun q _ h => hFc q h) hFc (fun uu tt H locs htt hvm hw hB hz1 hk1 hS => ?_)
    obtain ⟨w8, w9⟩ := uu
    obtain ⟨hP1, hK1, hD1⟩ := hB
    rw [htt] at hP1
    have hK1 := va_K.moved hvm.symm hK1
    have hP1 : va_P D vwCl [(h0, .inr (11, gM a (upd (upd i 0 0) 2 w9) g)), (a 1, .inl (cm 1, 1400, .inl w8))] H := hP1
    obtain ⟨hP, hD⟩ := va_join (wr := []) (w1 := [(h0, .inr (11, gM a (upd (upd i 0 0) 2 w9) g)), (a 1, .inl (cm 1, 1400, .inl w8))]) hP hD [0, 1] [] rfl rfl (by decide) (by decide) hk1 hFc hP1 hD1
    have hP : va_P D vwCl [(h0, .inr (11, gM a (upd (upd i 0 0) 2 w9) g)), (a 1, .inl (cm 1, 1400, .inl w8))] H := hP
    have hD : va_D A [(h0, .inr (11, gM a (upd (upd i 0 0) 2 w9) g)), (a 1, .inl (cm 1, 1400, .inl w8))] := hD
    try dsimp only at hw
    clear hz1 hk1 hFc hPc hKc hDc
    obtain ⟨rfl, rfl⟩ := hw
    have hP : va_P D vwCl [(h0, .inr (11, gM a (upd (upd i 0 0) 2 (nI (tp + 8))) g)), (a 1, .inl (cm 1, 1400, .inl (wrM (wrM fT tp z1) (tp + 4) z2)))] H := hP
    have hD : va_D A [(h0, .inr (11, gM a (upd (upd i 0 0) 2 (nI (tp + 8))) g)), (a 1, .inl (cm 1, 1400, .inl (wrM (wrM fT tp z1) (tp + 4) z2)))] := hD
    refine lv_aload_n hx hb dX11_feed_30 rfl (lv_at hl 0 rfl) ?_
    refine lv_iload_n hx hb dX11_feed_31 rfl (lv_at hl 3 rfl) ?_
    have hPc := hP.sub (ws' := [(h0, .inr (11, gM a (upd (upd i 0 0) 2 (nI (tp + 8))) g)), (a 1, .inl (cm 1, 1400, .inl (wrM (wrM fT tp z1) (tp + 4) z2)))]) [0, 1] rfl
    have hKc := hK.sub (tys' := [(cm 1, .byte)]) [0] rfl
    have hDc := hD.sub (ws' := [(h0, .inr (11, gM a (upd (upd i 0 0) 2 (nI (tp + 8))) g)), (a 1, .inl (cm 1, 1400, .inl (wrM (wrM fT tp z1) (tp + 4) z2)))]) [0, 1] (by decide) rfl
    have hFc := va_free (wc := [(h0, .inr (11, gM a (upd (upd i 0 0) 2 (nI (tp + 8))) g)), (a 1, .inl (cm 1, 1400, .inl (wrM (wrM fT tp z1) (tp + 4) z2)))]) hD hS hA [0, 1] rfl
    refine va_callv (va_runV (As := [.int z3]) (rest := []) ⟨hx, hb, hml, hown, hts⟩ (c_putsM l D _ h0 a cm (upd (upd i 0 0) 2 (nI (tp + 8))) g (wrM (wrM fT tp z1) (tp + 4) z2) z3 (tp + 8) rfl (by omega)) (cwV 1 hts g_c_feedM_c_putsM_79 rfl rfl rfl (by decide +kernel) ⟨(Nat.le_of_ble_eq_true rfl), (Nat.le_of_ble_eq_true rfl)⟩) (PcW_V (q0 := 0) hPc hKc hDc rfl rfl) rfl rfl hl.1 rfl (lv_room (Nat.le_of_ble_eq_true rfl)) dX11_feed_32 ⟨(Nat.le_of_ble_eq_true rfl), (Nat.le_of_ble_eq_true rfl)⟩) hS (fun q _ h => hFc q h) hFc (fun uu tt H locs htt hvm hw hB hz1 hk1 hS => ?_)
    obtain ⟨w11, w12⟩ := uu
    obtain ⟨hP1, hK1, hD1⟩ := hB
    rw [htt] at hP1
    have hK1 := va_K.moved hvm.symm hK1
    have hP1 : va_P D vwCl [(h0, .inr (11, gM a (upd (upd i 0 0) 2 w12) g)), (a 1, .inl (cm 1, 1400, .inl w11))] H := hP1
    obtain ⟨hP, hD⟩ := va_join (wr := []) (w1 := [(h0, .inr (11, gM a (upd (upd i 0 0) 2 w12) g)), (a 1, .inl (cm 1, 1400, .inl w11))]) hP hD [0, 1] [] rfl rfl (by decide) (by decide) hk1 hFc hP1 hD1
    have hP : va_P D vwCl [(h0, .inr (11, gM a (upd (upd i 0 0) 2 w12) g)), (a 1, .inl (cm 1, 1400, .inl w11))] H := hP
    have hD : va_D A [(h0, .inr (11, gM a (upd (upd i 0 0) 2 w12) g)), (a 1, .inl (cm 1, 1400, .inl w11))] := hD
    try dsimp only at hw
    clear hz1 hk1 hFc hPc hKc hDc
    obtain ⟨rfl, rfl⟩ := hw
    have hP : va_P D vwCl [(h0, .inr (11, gM a (upd (upd i 0 0) 2 (nI (tp + 12))) g)), (a 1, .inl (cm 1, 1400, .inl (wrM (wrM (wrM fT tp z1) (tp + 4) z2) (tp + 8) z3)))] H := hP
    have hD : va_D A [(h0, .inr (11, gM a (upd (upd i 0 0) 2 (nI (tp + 12))) g)), (a 1, .inl (cm 1, 1400, .inl (wrM (wrM (wrM fT tp z1) (tp + 4) z2) (tp + 8) z3)))] := hD
    refine lv_aload_n hx hb dX11_feed_35 rfl (lv_at hl 0 rfl) ?_
    refine lv_iload hx hb dX11_feed_36 (lv_at hl 4 rfl) ?_
    have hPc := hP.sub (ws' := [(h0, .inr (11, gM a (upd (upd i 0 0) 2 (nI (tp + 12))) g)), (a 1, .inl (cm 1, 1400, .inl (wrM (wrM (wrM fT tp z1) (tp + 4) z2) (tp + 8) z3)))]) [0, 1] rfl
    have hKc := hK.sub (tys' := [(cm 1, .byte)]) [0] rfl
    have hDc := hD.sub (ws' := [(h0, .inr (11, gM a (upd (upd i 0 0) 2 (nI (tp + 12))) g)), (a 1, .inl (cm 1, 1400, .inl (wrM (wrM (wrM fT tp z1) (tp + 4) z2) (tp + 8) z3)))]) [0, 1] (by decide) rfl
    have hFc := va_free (wc := [(h0, .inr (11, gM a (upd (upd i 0 0) 2 (nI (tp + 12))) g)), (a 1, .inl (cm 1, 1400, .inl (wrM (wrM (wrM fT tp z1) (tp + 4) z2) (tp + 8) z3)))]) hD hS hA [0, 1] rfl
    refine va_callv (va_runV (As := [.int z4]) (rest := []) ⟨hx, hb, hml, hown, hts⟩ (c_putsM l D _ h0 a cm (upd (upd i 0 0) 2 (nI (tp + 12))) g (wrM (wrM (wrM fT tp z1) (tp + 4) z2) (tp + 8) z3) z4 (tp + 12) rfl (by omega)) (cwV 1 hts g_c_feedM_c_putsM_79 rfl rfl rfl (by decide +kernel) ⟨(Nat.le_of_ble_eq_true rfl), (Nat.le_of_ble_eq_true rfl)⟩) (PcW_V (q0 := 0) hPc hKc hDc rfl rfl) rfl rfl hl.1 rfl (lv_room (Nat.le_of_ble_eq_true rfl)) dX11_feed_38 ⟨(Nat.le_of_ble_eq_true rfl), (Nat.le_of_ble_eq_true rfl)⟩) hS (fun q _ h => hFc q h) hFc (fun uu tt H locs htt hvm hw hB hz1 hk1 hS => ?_)
    obtain ⟨w14, w15⟩ := uu
    obtain ⟨hP1, hK1, hD1⟩ := hB
    rw [htt] at hP1
    have hK1 := va_K.moved hvm.symm hK1
    have hP1 : va_P D vwCl [(h0, .inr (11, gM a (upd (upd i 0 0) 2 w15) g)), (a 1, .inl (cm 1, 1400, .inl w14))] H := hP1
    obtain ⟨hP, hD⟩ := va_join (wr := []) (w1 := [(h0, .inr (11, gM a (upd (upd i 0 0) 2 w15) g)), (a 1, .inl (cm 1, 1400, .inl w14))]) hP hD [0, 1] [] rfl rfl (by decide) (by decide) hk1 hFc hP1 hD1
    have hP : va_P D vwCl [(h0, .inr (11, gM a (upd (upd i 0 0) 2 w15) g)), (a 1, .inl (cm 1, 1400, .inl w14))] H := hP
    have hD : va_D A [(h0, .inr (11, gM a (upd (upd i 0 0) 2 w15) g)), (a 1, .inl (cm 1, 1400, .inl w14))] := hD
    try dsimp only at hw
    clear hz1 hk1 hFc hPc hKc hDc
    obtain ⟨rfl, rfl⟩ := hw
    have hP : va_P D vwCl [(h0, .inr (11, gM a (upd (upd i 0 0) 2 (nI (tp + 16))) g)), (a 1, .inl (cm 1, 1400, .inl (wrM (wrM (wrM (wrM fT tp z1) (tp + 4) z2) (tp + 8) z3) (tp + 12) z4)))] H := hP
    have hD : va_D A [(h0, .inr (11, gM a (upd (upd i 0 0) 2 (nI (tp + 16))) g)), (a 1, .inl (cm 1, 1400, .inl (wrM (wrM (wrM (wrM fT tp z1) (tp + 4) z2) (tp + 8) z3) (tp + 12) z4)))] := hD
    refine lv_aload_n hx hb dX11_feed_41 rfl (lv_at hl 0 rfl) ?_
    refine lv_iload hx hb dX11_feed_42 (lv_at hl 5 rfl) ?_
    have hPc := hP.sub (ws' := [(h0, .inr (11, gM a (upd (upd i 0 0) 2 (nI (tp + 16))) g)), (a 1, .inl (cm 1, 1400, .inl (wrM (wrM (wrM (wrM fT tp z1) (tp + 4) z2) (tp + 8) z3) (tp + 12) z4)))]) [0, 1] rfl
    have hKc := hK.sub (tys' := [(cm 1, .byte)]) [0] rfl
    have hDc := hD.sub (ws' := [(h0, .inr (11, gM a (upd (upd i 0 0) 2 (nI (tp + 16))) g)), (a 1, .inl (cm 1, 1400, .inl (wrM (wrM (wrM (wrM fT tp z1) (tp + 4) z2) (tp + 8) z3) (tp + 12) z4)))]) [0, 1] (by decide) rfl
    have hFc := va_free (wc := [(h0, .inr (11, gM a (upd (upd i 0 0) 2 (nI (tp + 16))) g)), (a 1, .inl (cm 1, 1400, .inl (wrM (wrM (wrM (wrM fT tp z1) (tp + 4) z2) (tp + 8) z3) (tp + 12) z4)))]) hD hS hA [0, 1] rfl
    refine va_callv (va_runV (As := [.int z5]) (rest := []) ⟨hx, hb, hml, hown, hts⟩ (c_putsM l D _ h0 a cm (upd (upd i 0 0) 2 (nI (tp + 16))) g (wrM (wrM (wrM (wrM fT tp z1) (tp + 4) z2) (tp + 8) z3) (tp + 12) z4) z5 (tp + 16) rfl (by omega)) (cwV 1 hts g_c_feedM_c_putsM_79 rfl rfl rfl (by decide +kernel) ⟨(Nat.le_of_ble_eq_true rfl), (Nat.le_of_ble_eq_true rfl)⟩) (PcW_V (q0 := 0) hPc hKc hDc rfl rfl) rfl rfl hl.1 rfl (lv_room (Nat.le_of_ble_eq_true rfl)) dX11_feed_44 ⟨(Nat.le_of_ble_eq_true rfl), (Nat.le_of_ble_eq_true rfl)⟩) hS (fun q _ h => hFc q h) hFc (fun uu tt H locs htt hvm hw hB hz1 hk1 hS => ?_)
    obtain ⟨w17, w18⟩ := uu
    obtain ⟨hP1, hK1, hD1⟩ := hB
    rw [htt] at hP1
    have hK1 := va_K.moved hvm.symm hK1
    have hP1 : va_P D vwCl [(h0, .inr (11, gM a (upd (upd i 0 0) 2 w18) g)), (a 1, .inl (cm 1, 1400, .inl w17))] H := hP1
    obtain ⟨hP, hD⟩ := va_join (wr := []) (w1 := [(h0, .inr (11, gM a (upd (upd i 0 0) 2 w18) g)), (a 1, .inl (cm 1, 1400, .inl w17))]) hP hD [0, 1] [] rfl rfl (by decide) (by decide) hk1 hFc hP1 hD1
    have hP : va_P D vwCl [(h0, .inr (11, gM a (upd (upd i 0 0) 2 w18) g)), (a 1, .inl (cm 1, 1400, .inl w17))] H := hP
    have hD : va_D A [(h0, .inr (11, gM a (upd (upd i 0 0) 2 w18) g)), (a 1, .inl (cm 1, 1400, .inl w17))] := hD
    try dsimp only at hw
    clear hz1 hk1 hFc hPc hKc hDc
    obtain ⟨rfl, rfl⟩ := hw
    have hP : va_P D vwCl [(h0, .inr (11, gM a (upd (upd i 0 0) 2 (nI (tp + 20))) g)), (a 1, .inl (cm 1, 1400, .inl (wrM (wrM (wrM (wrM (wrM fT tp z1) (tp + 4) z2) (tp + 8) z3) (tp + 12) z4) (tp + 16) z5)))] H := hP
    have hD : va_D A [(h0, .inr (11, gM a (upd (upd i 0 0) 2 (nI (tp + 20))) g)), (a 1, .inl (cm 1, 1400, .inl (wrM (wrM (wrM (wrM (wrM fT tp z1) (tp + 4) z2) (tp + 8) z3) (tp + 12) z4) (tp + 16) z5)))] := hD
    refine lv_aload_n hx hb dX11_feed_47 rfl (lv_at hl 0 rfl) ?_
    refine va_get (D := D) (ci := 11) (v := .int (nI (tp + 20))) (C := RX11) (T := TX11) (N := 47) hx hb hts hin_X11 hown hK hP 0 rfl rfl 2 (by decide) (hts (.fieldLink RX11 76 "ClashFreeModel" "taped" "I") (List.mem_of_getElem? (i := 2) rfl)) (fun _ h9 => h9) rfl dX11_feed_48 ?_
    exact W.iret (v := nI (tp + 20)) hx hb hr (fun t ht hW => ⟨⟨nI (tp + 20), ((wrM (wrM (wrM (wrM (wrM fT tp z1) (tp + 4) z2) (tp + 8) z3) (tp + 12) z4) (tp + 16) z5), 0, (nI (tp + 20))), rfl, Or.inl ⟨ht20, rfl, rfl, rfl⟩, by rw [ht]; exact hP.sub [0, 1] rfl, va_K.moved hW.alike (hK.sub [0] rfl), hD.sub [0, 1] (by decide) rfl⟩, hS.F ht⟩) hS.2.2 dX11_feed_51
  ·
    have hnf : 1400 < tp + 20 := by
      rcases Nat.lt_or_ge 1400 (tp + 20) with z | z
      · exact z
      · exact absurd (nI_le (b := 1400) z (by decide)) hc3
    refine lv_iconst (v := (-1)) hx hb dX11_feed_18 (by decide) ?_
    exact W.iret (v := (-1)) hx hb hr (fun t ht hW => ⟨⟨(-1), (fT, 0, (i 2)), rfl, Or.inr ⟨hnf, rfl, htp, rfl⟩, by rw [ht]; exact hP.sub [0, 1] rfl, va_K.moved hW.alike (hK.sub [0] rfl), hD.sub [0, 1] (by decide) rfl⟩, hS.F ht⟩) hS.2.2 dX11_feed_19

def own_c_endM : List Cond := [.fieldLink RX11 73 "ClashFreeModel" "thrown" "I", .fieldLink RX11 76 "ClashFreeModel" "taped" "I", .methodLink RX11 83 yX11_isIn, .static yX11_isIn, .initialized RX11]
def wp_c_endM : List Cond := .code yX11_end cX11_end 2 (some .boolean) :: (own_c_endM ++ (wp_c_isIn ++ (wsX110 ++ ([] : List Cond))))
set_option maxRecDepth 20000 in
theorem inown_c_endM : ∀ w ∈ own_c_endM, w ∈ lw_tbl := mem_places [1216, 1218, 1371, 1372, 115] (by decide +kernel)
set_option maxRecDepth 20000 in
theorem in_c_endM : ∀ w ∈ wp_c_endM, w ∈ lw_tbl := List.forall_mem_cons.mpr ⟨List.mem_of_getElem? (i := 1370) (by decide +kernel), List.forall_mem_append.mpr ⟨inown_c_endM, List.forall_mem_append.mpr ⟨in_c_isIn, List.forall_mem_append.mpr ⟨lwb_X11, fun _ h => absurd h List.not_mem_nil⟩⟩⟩⟩
set_option maxRecDepth 20000 in
theorem good_c_endM : wp_c_endM.all goodWord = true := by decide +kernel
set_option maxRecDepth 20000 in
theorem g_c_endM_c_isIn_83 : GoodIn wp_c_endM (va_wsS RX11 83 yX11_isIn wp_c_isIn) := goodIn_sub (List.forall_mem_append.mpr ⟨List.forall_mem_cons.mpr ⟨(List.mem_of_getElem? (i := 3) rfl), List.forall_mem_cons.mpr ⟨(List.mem_of_getElem? (i := 4) rfl), List.forall_mem_cons.mpr ⟨(List.mem_of_getElem? (i := 5) rfl), fun _ h => absurd h List.not_mem_nil⟩⟩⟩, (fun _ h => (List.mem_cons_of_mem _ (List.mem_append_right _ (List.mem_append_left _ h))))⟩) (by decide +kernel)
set_option maxHeartbeats 4000000 in
set_option maxRecDepth 100000 in
theorem c_endM (l : Launch) (D : va_G) (sz : Nat) (h0 : Nat) (a : Nat → Nat) (cm : Nat → ClassId) (i : Nat → Int32) (g : Nat → Int64) (z1 : Int32) (tp : Nat) (htp : i 2 = nI tp) (htp2 : tp ≤ 1400) : Met l yX11_end wp_c_endM ({ frames := 1, cells := 0, slots := 0, locals := 25 }) (PcW D [.ref h0, .int z1] sz [(h0, .inr (11, gM a i g))] []) (va_Qi (fun (r : Int32) (u : (Int32) × (Int32)) => (r = 1 ∧ ∃ j, j ≤ tp ∧ z1 = nI j ∧ u.2 = nI j) ∨ (r = 0 ∧ u.2 = nI tp ∧ ¬ ((0 : Int32) ≤ z1 ∧ z1 ≤ nI tp))) (fun (u : (Int32) × (Int32)) t => va_P D vwCl [(h0, .inr (11, gM a (upd (upd i 0 u.1) 2 u.2) g))] t.heap ∧ va_K D vwCl [] t ∧ va_D (va_A [(h0, .inr (11, gM a i g))] sz) [(h0, .inr (11, gM a (upd (upd i 0 u.1) 2 u.2) g))]) (va_A [(h0, .inr (11, gM a i g))] sz)) 0 0 (va_A [(h0, .inr (11, gM a i g))] sz) := by
  refine Met.ofW (cc := cX11_end) (maxL := 2) (ret := (some .boolean)) (by decide) rfl ?_
  intro p e s m args below meth c s₁ B hml hv
  obtain ⟨rfl, hsz, hP, hK, hD0⟩ := hv
  have hx := B.exec
  have hb := B.bytes
  have hr := B.returns
  have hts := atoms_spec (ws := wp_c_endM) B.pre
  have hin_X11 : ∀ w ∈ wsX110, w ∈ wp_c_endM := fun _ h => (List.mem_cons_of_mem _ (List.mem_append_right _ (List.mem_append_right _ (List.mem_append_left _ h))))
  have hown : s.vm.findClass RX11 = some m.cls := findClass_of_methodNamed B.named
  have hlocks := B.notSynchronized
  subst hsz
  have hD := hD0.self (sz := s.heap.size)
  generalize hAe : va_A [(h0, .inr (11, gM a i g))] s.heap.size = A at hD ⊢
  have hA : ∀ q : Nat, s.heap.size ≤ q → A q := fun q h => by rw [← hAe]; exact Or.inr h
  have hS : va_S A s.heap s.heap [] := va_S.rf
  have hP : va_P D vwCl [(h0, .inr (11, gM a i g))] s.heap := hP
  have hl := lv_entry ([.ref h0, .int z1]) (n := 2) (Nat.le_of_ble_eq_true rfl)
  rw [lg_entry_eq]
  generalize (lg_sl ([.ref h0, .int z1]) ++ List.replicate (2 - (lg_sl ([.ref h0, .int z1])).length) Slot.unset).toArray = ls at hl ⊢
  have hl : lv_has ls 2 [(0, .ref h0), (1, .int z1)] := hl
  refine lv_aload_n hx hb dX11_end_0 rfl (lv_at hl 0 rfl) ?_
  refine lv_iconst (v := 0) hx hb dX11_end_1 (by decide) ?_
  refine va_put (D := D) (ci := 11) (v := .int 0) (ty := .int) (C := RX11) (T := TX11) (N := 47) hx hb hts hin_X11 tyX11 tyX11_ok nmX11 hown hK hP hD hS 0 rfl rfl 0 (by decide) (hts (.fieldLink RX11 73 "ClashFreeModel" "thrown" "I") (List.mem_of_getElem? (i := 1) rfl)) (fun _ h9 => h9) rfl (by decide +kernel) rfl rfl (Nat.le_of_ble_eq_true rfl) dX11_end_2 (fun H locs hP hD hS => ?_)
  have hP : va_P D vwCl [(h0, .inr (11, gM a (upd i 0 0) g))] H := hP
  have hD : va_D A [(h0, .inr (11, gM a (upd i 0 0) g))] := hD
  refine lv_iload_n hx hb dX11_end_5 rfl (lv_at hl 1 rfl) ?_
  refine lv_i2l hx hb dX11_end_6 rfl ?_
  refine lv_lconst (v := 0) hx hb dX11_end_7 (by decide) ?_
  refine lv_aload_n hx hb dX11_end_8 rfl (lv_at hl 0 rfl) ?_
  refine va_get (D := D) (ci := 11) (v := .int (i 2)) (C := RX11) (T := TX11) (N := 47) hx hb hts hin_X11 hown hK hP 0 rfl rfl 2 (by decide) (hts (.fieldLink RX11 76 "ClashFreeModel" "taped" "I") (List.mem_of_getElem? (i := 2) rfl)) (fun _ h9 => h9) rfl dX11_end_9 ?_
  refine lv_topi (fun v1 ev1 => ?_)
  obtain rfl : v1 = nI tp := ev1.trans (htp)
  refine lv_i2l hx hb dX11_end_12 rfl ?_
  have hPc := hP.sub (ws' := []) [] rfl
  have hKc := hK.sub (tys' := []) [] rfl
  have hFc := va_free0 hS hA
  refine va_calli (va_runS (As := [.long (Int32.toInt64 z1), .long 0, .long (Int32.toInt64 (nI tp))]) (rest := []) ⟨hx, hb, hml, hown, hts⟩ (c_isIn l D _ (Int32.toInt64 z1) 0 (Int32.toInt64 (nI tp))) (va_cwS 3 hts g_c_endM_c_isIn_83 rfl rfl rfl (by decide +kernel) ⟨(Nat.le_of_ble_eq_true rfl), (Nat.le_of_ble_eq_true rfl)⟩) (PcR_S hPc hKc) rfl rfl hl.1 rfl (lv_room (Nat.le_of_ble_eq_true rfl)) dX11_end_13 ⟨(Nat.le_of_ble_eq_true rfl), (Nat.le_of_ble_eq_true rfl)⟩) hS (fun q _ h => hFc q h) hFc (fun r2 uu tt H locs htt hvm hw hB hz1 hk1 hS => ?_)
  have hP := va_keep hP hk1
  try dsimp only at hw
  clear hB hz1 hk1 hFc hPc hKc
  rcases hw with ⟨rfl, hA_r2⟩ | ⟨rfl, hA_r2⟩
  ·
    obtain ⟨j, hj, rfl⟩ := in_le (by omega) hA_r2
    refine lv_if_ne (tgt := 21) hx hb dX11_end_16 (by decide) (fun hc => ?_) (fun hc => absurd hc (by decide))
    refine lv_aload_n hx hb dX11_end_21 rfl (lv_at hl 0 rfl) ?_
    refine lv_iload_n hx hb dX11_end_22 rfl (lv_at hl 1 rfl) ?_
    refine va_put (D := D) (ci := 11) (v := .int (nI j)) (ty := .int) (C := RX11) (T := TX11) (N := 47) hx hb hts hin_X11 tyX11 tyX11_ok nmX11 hown hK hP hD hS 0 rfl rfl 2 (by decide) (hts (.fieldLink RX11 76 "ClashFreeModel" "taped" "I") (List.mem_of_getElem? (i := 2) rfl)) (fun _ h9 => h9) rfl (by decide +kernel) rfl rfl (Nat.le_of_ble_eq_true rfl) dX11_end_23 (fun H locs hP hD hS => ?_)
    have hP : va_P D vwCl [(h0, .inr (11, gM a (upd (upd i 0 0) 2 (nI j)) g))] H := hP
    have hD : va_D A [(h0, .inr (11, gM a (upd (upd i 0 0) 2 (nI j)) g))] := hD
    refine lv_iconst (v := 1) hx hb dX11_end_26 (by decide) ?_
    exact W.zret (v := 1) hx hb hr rfl (fun t ht hW => ⟨⟨1, (0, (nI j)), rfl, Or.inl ⟨rfl, j, hj, rfl, rfl⟩, by rw [ht]; exact hP.sub [0] rfl, va_K.moved hW.alike (hK.sub [] rfl), hD.sub [0] (by decide) rfl⟩, hS.F ht⟩) hS.2.2 dX11_end_27
  ·
    have hno := in_no hA_r2
    refine lv_if_ne (tgt := 21) hx hb dX11_end_16 (by decide) (fun hc => absurd (by decide) hc) (fun hc => ?_)
    refine lv_iconst (v := 0) hx hb dX11_end_19 (by decide) ?_
    exact W.zret (v := 0) hx hb hr rfl (fun t ht hW => ⟨⟨0, (0, (i 2)), rfl, Or.inr ⟨rfl, htp, hno⟩, by rw [ht]; exact hP.sub [0] rfl, va_K.moved hW.alike (hK.sub [] rfl), hD.sub [0] (by decide) rfl⟩, hS.F ht⟩) hS.2.2 dX11_end_20

def own_c_octetM : List Cond := [.fieldLink RX11 73 "ClashFreeModel" "thrown" "I", .fieldLink RX11 437 "ClashFreeModel" "octetMany" "I", .methodLink RX11 83 yX11_isIn, .static yX11_isIn, .initialized RX11, .fieldLink RX11 70 "ClashFreeModel" "octets" "[I"]
def wp_c_octetM : List Cond := .code yX11_octet cX11_octet 2 (some .int) :: (own_c_octetM ++ (wp_c_isIn ++ (wsX110 ++ ([] : List Cond))))
set_option maxRecDepth 20000 in
theorem inown_c_octetM : ∀ w ∈ own_c_octetM, w ∈ lw_tbl := mem_places [1216, 1262, 1371, 1372, 115, 1261] (by decide +kernel)
set_option maxRecDepth 20000 in
theorem in_c_octetM : ∀ w ∈ wp_c_octetM, w ∈ lw_tbl := List.forall_mem_cons.mpr ⟨List.mem_of_getElem? (i := 1806) (by decide +kernel), List.forall_mem_append.mpr ⟨inown_c_octetM, List.forall_mem_append.mpr ⟨in_c_isIn, List.forall_mem_append.mpr ⟨lwb_X11, fun _ h => absurd h List.not_mem_nil⟩⟩⟩⟩
set_option maxRecDepth 20000 in
theorem good_c_octetM : wp_c_octetM.all goodWord = true := by decide +kernel
set_option maxRecDepth 20000 in
theorem g_c_octetM_c_isIn_83 : GoodIn wp_c_octetM (va_wsS RX11 83 yX11_isIn wp_c_isIn) := goodIn_sub (List.forall_mem_append.mpr ⟨List.forall_mem_cons.mpr ⟨(List.mem_of_getElem? (i := 3) rfl), List.forall_mem_cons.mpr ⟨(List.mem_of_getElem? (i := 4) rfl), List.forall_mem_cons.mpr ⟨(List.mem_of_getElem? (i := 5) rfl), fun _ h => absurd h List.not_mem_nil⟩⟩⟩, (fun _ h => (List.mem_cons_of_mem _ (List.mem_append_right _ (List.mem_append_left _ h))))⟩) (by decide +kernel)
set_option maxHeartbeats 4000000 in
set_option maxRecDepth 100000 in
theorem c_octetM (l : Launch) (D : va_G) (sz : Nat) (h0 : Nat) (a : Nat → Nat) (cm : Nat → ClassId) (i : Nat → Int32) (g : Nat → Int64) (fy : Nat → Int32) (z1 : Int32) (no : Nat) (htp : i 46 = nI no) (htp2 : no ≤ 1400) : Met l yX11_octet wp_c_octetM ({ frames := 1, cells := 0, slots := 0, locals := 25 }) (PcW D [.ref h0, .int z1] sz [(h0, .inr (11, gM a i g)), (a 45, .inl (cm 45, 1400, .inl fy))] [(cm 45, .int)]) (va_Qi (fun (r : Int32) (u : (Int32)) => True) (fun (u : (Int32)) t => va_P D vwCl [(h0, .inr (11, gM a (upd i 0 u) g)), (a 45, .inl (cm 45, 1400, .inl fy))] t.heap ∧ va_K D vwCl [(cm 45, .int)] t ∧ va_D (va_A [(h0, .inr (11, gM a i g)), (a 45, .inl (cm 45, 1400, .inl fy))] sz) [(h0, .inr (11, gM a (upd i 0 u) g)), (a 45, .inl (cm 45, 1400, .inl fy))]) (va_A [(h0, .inr (11, gM a i g)), (a 45, .inl (cm 45, 1400, .inl fy))] sz)) 0 0 (va_A [(h0, .inr (11, gM a i g)), (a 45, .inl (cm 45, 1400, .inl fy))] sz) := by
  refine Met.ofW (cc := cX11_octet) (maxL := 2) (ret := (some .int)) (by decide) rfl ?_
  intro p e s m args below meth c s₁ B hml hv
  obtain ⟨rfl, hsz, hP, hK, hD0⟩ := hv
  have hx := B.exec
  have hb := B.bytes
  have hr := B.returns
  have hts := atoms_spec (ws := wp_c_octetM) B.pre
  have hin_X11 : ∀ w ∈ wsX110, w ∈ wp_c_octetM := fun _ h => (List.mem_cons_of_mem _ (List.mem_append_right _ (List.mem_append_right _ (List.mem_append_left _ h))))
  have hown : s.vm.findClass RX11 = some m.cls := findClass_of_methodNamed B.named
  have hlocks := B.notSynchronized
  subst hsz
  have hD := hD0.self (sz := s.heap.size)
  generalize hAe : va_A [(h0, .inr (11, gM a i g)), (a 45, .inl (cm 45, 1400, .inl fy))] s.heap.size = A at hD ⊢
  have hA : ∀ q : Nat, s.heap.size ≤ q → A q := fun q h => by rw [← hAe]; exact Or.inr h
  have hS : va_S A s.heap s.heap [] := va_S.rf
  have hP : va_P D vwCl [(h0, .inr (11, gM a i g)), (a 45, .inl (cm 45, 1400, .inl fy))] s.heap := hP
  have hl := lv_entry ([.ref h0, .int z1]) (n := 2) (Nat.le_of_ble_eq_true rfl)
  rw [lg_entry_eq]
  generalize (lg_sl ([.ref h0, .int z1]) ++ List.replicate (2 - (lg_sl ([.ref h0, .int z1])).length) Slot.unset).toArray = ls at hl ⊢
  have hl : lv_has ls 2 [(0, .ref h0), (1, .int z1)] := hl
  refine lv_aload_n hx hb dX11_octet_0 rfl (lv_at hl 0 rfl) ?_
  refine lv_iconst (v := 0) hx hb dX11_octet_1 (by decide) ?_
  refine va_put (D := D) (ci := 11) (v := .int 0) (ty := .int) (C := RX11) (T := TX11) (N := 47) hx hb hts hin_X11 tyX11 tyX11_ok nmX11 hown hK hP hD hS 0 rfl rfl 0 (by decide) (hts (.fieldLink RX11 73 "ClashFreeModel" "thrown" "I") (List.mem_of_getElem? (i := 1) rfl)) (fun _ h9 => h9) rfl (by decide +kernel) rfl rfl (Nat.le_of_ble_eq_true rfl) dX11_octet_2 (fun H locs hP hD hS => ?_)
  have hP : va_P D vwCl [(h0, .inr (11, gM a (upd i 0 0) g)), (a 45, .inl (cm 45, 1400, .inl fy))] H := hP
  have hD : va_D A [(h0, .inr (11, gM a (upd i 0 0) g)), (a 45, .inl (cm 45, 1400, .inl fy))] := hD
  refine lv_iload_n hx hb dX11_octet_5 rfl (lv_at hl 1 rfl) ?_
  refine lv_i2l hx hb dX11_octet_6 rfl ?_
  refine lv_lconst (v := 0) hx hb dX11_octet_7 (by decide) ?_
  refine lv_aload_n hx hb dX11_octet_8 rfl (lv_at hl 0 rfl) ?_
  refine va_get (D := D) (ci := 11) (v := .int (i 46)) (C := RX11) (T := TX11) (N := 47) hx hb hts hin_X11 hown hK hP 0 rfl rfl 46 (by decide) (hts (.fieldLink RX11 437 "ClashFreeModel" "octetMany" "I") (List.mem_of_getElem? (i := 2) rfl)) (fun _ h9 => h9) rfl dX11_octet_9 ?_
  refine lv_topi (fun v1 ev1 => ?_)
  obtain rfl : v1 = nI no := ev1.trans (htp)
  refine lv_iconst (v := 1) hx hb dX11_octet_12 (by decide) ?_
  refine lv_isub hx hb dX11_octet_13 ?_
  refine lv_i2l hx hb dX11_octet_14 rfl ?_
  have hPc := hP.sub (ws' := []) [] rfl
  have hKc := hK.sub (tys' := []) [] rfl
  have hFc := va_free0 hS hA
  refine va_calli (va_runS (As := [.long (Int32.toInt64 z1), .long 0, .long (Int32.toInt64 ((nI no) - 1))]) (rest := []) ⟨hx, hb, hml, hown, hts⟩ (c_isIn l D _ (Int32.toInt64 z1) 0 (Int32.toInt64 ((nI no) - 1))) (va_cwS 3 hts g_c_octetM_c_isIn_83 rfl rfl rfl (by decide +kernel) ⟨(Nat.le_of_ble_eq_true rfl), (Nat.le_of_ble_eq_true rfl)⟩) (PcR_S hPc hKc) rfl rfl hl.1 rfl (lv_room (Nat.le_of_ble_eq_true rfl)) dX11_octet_15 ⟨(Nat.le_of_ble_eq_true rfl), (Nat.le_of_ble_eq_true rfl)⟩) hS (fun q _ h => hFc q h) hFc (fun r2 uu tt H locs htt hvm hw hB hz1 hk1 hS => ?_)
  have hP := va_keep hP hk1
  try dsimp only at hw
  clear hB hz1 hk1 hFc hPc hKc
  rcases hw with ⟨rfl, hA_r2⟩ | ⟨rfl, hA_r2⟩
  ·
    obtain ⟨j, hj, rfl⟩ := in_cn (by omega) hA_r2
    refine lv_if_eq (tgt := 30) hx hb dX11_octet_18 (by decide) (fun hc => absurd hc (by decide)) (fun hc => ?_)
    refine lv_aload_n hx hb dX11_octet_21 rfl (lv_at hl 0 rfl) ?_
    refine va_get (D := D) (ci := 11) (v := .ref (a 45)) (C := RX11) (T := TX11) (N := 47) hx hb hts hin_X11 hown hK hP 0 rfl rfl 45 (by decide) (hts (.fieldLink RX11 70 "ClashFreeModel" "octets" "[I") (List.mem_of_getElem? (i := 6) rfl)) (fun _ h9 => h9) rfl dX11_octet_22 ?_
    refine lv_iload_n hx hb dX11_octet_25 rfl (lv_at hl 1 rfl) ?_
    refine va_iald hx hb hK hP 1 0 rfl rfl (vp_in_nI (by omega) (by decide)) dX11_octet_26 ?_
    refine lv_topi (fun v3 ev3 => ?_)
    refine lv_goto (tgt := 31) hx hb dX11_octet_27 (by decide) ?_
    exact W.iret (v := v3) hx hb hr (fun t ht hW => ⟨⟨v3, 0, rfl, trivial, by rw [ht]; exact hP.sub [0, 1] rfl, va_K.moved hW.alike (hK.sub [0] rfl), hD.sub [0, 1] (by decide) rfl⟩, hS.F ht⟩) hS.2.2 dX11_octet_31
  ·
    refine lv_if_eq (tgt := 30) hx hb dX11_octet_18 (by decide) (fun hc => ?_) (fun hc => absurd (by decide) hc)
    refine lv_iconst (v := (-1)) hx hb dX11_octet_30 (by decide) ?_
    exact W.iret (v := (-1)) hx hb hr (fun t ht hW => ⟨⟨(-1), 0, rfl, trivial, by rw [ht]; exact hP.sub [0, 1] rfl, va_K.moved hW.alike (hK.sub [0] rfl), hD.sub [0, 1] (by decide) rfl⟩, hS.F ht⟩) hS.2.2 dX11_octet_31

def own_c_ranM : List Cond := [.fieldLink RX11 73 "ClashFreeModel" "thrown" "I", .fieldLink RX11 382 "ClashFreeModel" "faultKind" "I", .fieldLink RX11 54 "ClashFreeModel" "faultPlace" "I", .fieldLink RX11 58 "ClashFreeModel" "faultDepth" "I", .fieldLink RX11 407 "ClashFreeModel" "refused" "I", .fieldLink RX11 394 "ClashFreeModel" "latest" "I", .fieldLink RX11 403 "ClashFreeModel" "isCut" "Z", .methodLink RX11 198 yX11_flag, .static yX11_flag, .initialized RX11, .constantLong RX11 235 (-1000000000000000)]
def wp_c_ranM : List Cond := .code yX11_ran cX11_ran 2 (some .long) :: (own_c_ranM ++ (wp_c_flag ++ (wsX110 ++ ([] : List Cond))))
set_option maxRecDepth 20000 in
theorem inown_c_ranM : ∀ w ∈ own_c_ranM, w ∈ lw_tbl := mem_places [1216, 1248, 1249, 1250, 1251, 1252, 1253, 1502, 1503, 115, 1517] (by decide +kernel)
set_option maxRecDepth 20000 in
theorem in_c_ranM : ∀ w ∈ wp_c_ranM, w ∈ lw_tbl := List.forall_mem_cons.mpr ⟨List.mem_of_getElem? (i := 1789) (by decide +kernel), List.forall_mem_append.mpr ⟨inown_c_ranM, List.forall_mem_append.mpr ⟨in_c_flag, List.forall_mem_append.mpr ⟨lwb_X11, fun _ h => absurd h List.not_mem_nil⟩⟩⟩⟩
set_option maxRecDepth 20000 in
theorem good_c_ranM : wp_c_ranM.all goodWord = true := by decide +kernel
set_option maxRecDepth 20000 in
theorem g_c_ranM_c_flag_198 : GoodIn wp_c_ranM (va_wsS RX11 198 yX11_flag wp_c_flag) := goodIn_sub (List.forall_mem_append.mpr ⟨List.forall_mem_cons.mpr ⟨(List.mem_of_getElem? (i := 8) rfl), List.forall_mem_cons.mpr ⟨(List.mem_of_getElem? (i := 9) rfl), List.forall_mem_cons.mpr ⟨(List.mem_of_getElem? (i := 10) rfl), fun _ h => absurd h List.not_mem_nil⟩⟩⟩, (fun _ h => (List.mem_cons_of_mem _ (List.mem_append_right _ (List.mem_append_left _ h))))⟩) (by decide +kernel)
set_option maxHeartbeats 4000000 in
set_option maxRecDepth 100000 in
theorem c_ranM (l : Launch) (D : va_G) (sz : Nat) (h0 : Nat) (a : Nat → Nat) (cm : Nat → ClassId) (i : Nat → Int32) (g : Nat → Int64) (z1 : Int32)  : Met l yX11_ran wp_c_ranM ({ frames := 1, cells := 0, slots := 0, locals := 20 }) (PcW D [.ref h0, .int z1] sz [(h0, .inr (11, gM a i g))] []) (va_Ql (fun (r : Int64) (u : (Int32)) => True) (fun (u : (Int32)) t => va_P D vwCl [(h0, .inr (11, gM a (upd i 0 u) g))] t.heap ∧ va_K D vwCl [] t ∧ va_D (va_A [(h0, .inr (11, gM a i g))] sz) [(h0, .inr (11, gM a (upd i 0 u) g))]) (va_A [(h0, .inr (11, gM a i g))] sz)) 0 0 (va_A [(h0, .inr (11, gM a i g))] sz) := by
  refine Met.ofW (cc := cX11_ran) (maxL := 2) (ret := (some .long)) (by decide) rfl ?_
  intro p e s m args below meth c s₁ B hml hv
  obtain ⟨rfl, hsz, hP, hK, hD0⟩ := hv
  have hx := B.exec
  have hb := B.bytes
  have hr := B.returns
  have hts := atoms_spec (ws := wp_c_ranM) B.pre
  have hin_X11 : ∀ w ∈ wsX110, w ∈ wp_c_ranM := fun _ h => (List.mem_cons_of_mem _ (List.mem_append_right _ (List.mem_append_right _ (List.mem_append_left _ h))))
  have hown : s.vm.findClass RX11 = some m.cls := findClass_of_methodNamed B.named
  have hlocks := B.notSynchronized
  subst hsz
  have hD := hD0.self (sz := s.heap.size)
  generalize hAe : va_A [(h0, .inr (11, gM a i g))] s.heap.size = A at hD ⊢
  have hA : ∀ q : Nat, s.heap.size ≤ q → A q := fun q h => by rw [← hAe]; exact Or.inr h
  have hS : va_S A s.heap s.heap [] := va_S.rf
  have hP : va_P D vwCl [(h0, .inr (11, gM a i g))] s.heap := hP
  have hl := lv_entry ([.ref h0, .int z1]) (n := 2) (Nat.le_of_ble_eq_true rfl)
  rw [lg_entry_eq]
  generalize (lg_sl ([.ref h0, .int z1]) ++ List.replicate (2 - (lg_sl ([.ref h0, .int z1])).length) Slot.unset).toArray = ls at hl ⊢
  have hl : lv_has ls 2 [(0, .ref h0), (1, .int z1)] := hl
  refine lv_aload_n hx hb dX11_ran_0 rfl (lv_at hl 0 rfl) ?_
  refine lv_iconst (v := 0) hx hb dX11_ran_1 (by decide) ?_
  refine va_put (D := D) (ci := 11) (v := .int 0) (ty := .int) (C := RX11) (T := TX11) (N := 47) hx hb hts hin_X11 tyX11 tyX11_ok nmX11 hown hK hP hD hS 0 rfl rfl 0 (by decide) (hts (.fieldLink RX11 73 "ClashFreeModel" "thrown" "I") (List.mem_of_getElem? (i := 1) rfl)) (fun _ h9 => h9) rfl (by decide +kernel) rfl rfl (Nat.le_of_ble_eq_true rfl) dX11_ran_2 (fun H locs hP hD hS => ?_)
  have hP : va_P D vwCl [(h0, .inr (11, gM a (upd i 0 0) g))] H := hP
  have hD : va_D A [(h0, .inr (11, gM a (upd i 0 0) g))] := hD
  refine lv_iload_n hx hb dX11_ran_5 rfl (lv_at hl 1 rfl) ?_
  by_cases hs1 : z1 = 0
  ·
    subst hs1
    refine lv_tableIn (off := 38) (tgt := 44) hx hb dX11_ran_6 (by decide) (by decide) (by decide +kernel) (by decide) ?_
    refine lv_aload_n hx hb dX11_ran_44 rfl (lv_at hl 0 rfl) ?_
    refine va_get (D := D) (ci := 11) (v := .int (i 32)) (C := RX11) (T := TX11) (N := 47) hx hb hts hin_X11 hown hK hP 0 rfl rfl 32 (by decide) (hts (.fieldLink RX11 382 "ClashFreeModel" "faultKind" "I") (List.mem_of_getElem? (i := 2) rfl)) (fun _ h9 => h9) rfl dX11_ran_45 ?_
    refine lv_i2l hx hb dX11_ran_48 rfl ?_
    exact W.lret (v := Int32.toInt64 (i 32)) hx hb hr (fun t ht hW => ⟨⟨Int32.toInt64 (i 32), 0, rfl, trivial, by rw [ht]; exact hP.sub [0] rfl, va_K.moved hW.alike (hK.sub [] rfl), hD.sub [0] (by decide) rfl⟩, hS.F ht⟩) hS.2.2 dX11_ran_49
  by_cases hs2 : z1 = 1
  ·
    subst hs2
    refine lv_tableIn (off := 44) (tgt := 50) hx hb dX11_ran_6 (by decide) (by decide) (by decide +kernel) (by decide) ?_
    refine lv_aload_n hx hb dX11_ran_50 rfl (lv_at hl 0 rfl) ?_
    refine va_get (D := D) (ci := 11) (v := .int (i 33)) (C := RX11) (T := TX11) (N := 47) hx hb hts hin_X11 hown hK hP 0 rfl rfl 33 (by decide) (hts (.fieldLink RX11 54 "ClashFreeModel" "faultPlace" "I") (List.mem_of_getElem? (i := 3) rfl)) (fun _ h9 => h9) rfl dX11_ran_51 ?_
    refine lv_i2l hx hb dX11_ran_54 rfl ?_
    exact W.lret (v := Int32.toInt64 (i 33)) hx hb hr (fun t ht hW => ⟨⟨Int32.toInt64 (i 33), 0, rfl, trivial, by rw [ht]; exact hP.sub [0] rfl, va_K.moved hW.alike (hK.sub [] rfl), hD.sub [0] (by decide) rfl⟩, hS.F ht⟩) hS.2.2 dX11_ran_55
  by_cases hs3 : z1 = 2
  ·
    subst hs3
    refine lv_tableIn (off := 50) (tgt := 56) hx hb dX11_ran_6 (by decide) (by decide) (by decide +kernel) (by decide) ?_
    refine lv_aload_n hx hb dX11_ran_56 rfl (lv_at hl 0 rfl) ?_
    refine va_get (D := D) (ci := 11) (v := .int (i 34)) (C := RX11) (T := TX11) (N := 47) hx hb hts hin_X11 hown hK hP 0 rfl rfl 34 (by decide) (hts (.fieldLink RX11 58 "ClashFreeModel" "faultDepth" "I") (List.mem_of_getElem? (i := 4) rfl)) (fun _ h9 => h9) rfl dX11_ran_57 ?_
    refine lv_i2l hx hb dX11_ran_60 rfl ?_
    exact W.lret (v := Int32.toInt64 (i 34)) hx hb hr (fun t ht hW => ⟨⟨Int32.toInt64 (i 34), 0, rfl, trivial, by rw [ht]; exact hP.sub [0] rfl, va_K.moved hW.alike (hK.sub [] rfl), hD.sub [0] (by decide) rfl⟩, hS.F ht⟩) hS.2.2 dX11_ran_61
  by_cases hs4 : z1 = 3
  ·
    subst hs4
    refine lv_tableIn (off := 56) (tgt := 62) hx hb dX11_ran_6 (by decide) (by decide) (by decide +kernel) (by decide) ?_
    refine lv_aload_n hx hb dX11_ran_62 rfl (lv_at hl 0 rfl) ?_
    refine va_get (D := D) (ci := 11) (v := .int (i 35)) (C := RX11) (T := TX11) (N := 47) hx hb hts hin_X11 hown hK hP 0 rfl rfl 35 (by decide) (hts (.fieldLink RX11 407 "ClashFreeModel" "refused" "I") (List.mem_of_getElem? (i := 5) rfl)) (fun _ h9 => h9) rfl dX11_ran_63 ?_
    refine lv_i2l hx hb dX11_ran_66 rfl ?_
    exact W.lret (v := Int32.toInt64 (i 35)) hx hb hr (fun t ht hW => ⟨⟨Int32.toInt64 (i 35), 0, rfl, trivial, by rw [ht]; exact hP.sub [0] rfl, va_K.moved hW.alike (hK.sub [] rfl), hD.sub [0] (by decide) rfl⟩, hS.F ht⟩) hS.2.2 dX11_ran_67
  by_cases hs5 : z1 = 4
  ·
    subst hs5
    refine lv_tableIn (off := 62) (tgt := 68) hx hb dX11_ran_6 (by decide) (by decide) (by decide +kernel) (by decide) ?_
    refine lv_aload_n hx hb dX11_ran_68 rfl (lv_at hl 0 rfl) ?_
    refine va_get (D := D) (ci := 11) (v := .int (i 36)) (C := RX11) (T := TX11) (N := 47) hx hb hts hin_X11 hown hK hP 0 rfl rfl 36 (by decide) (hts (.fieldLink RX11 394 "ClashFreeModel" "latest" "I") (List.mem_of_getElem? (i := 6) rfl)) (fun _ h9 => h9) rfl dX11_ran_69 ?_
    refine lv_i2l hx hb dX11_ran_72 rfl ?_
    exact W.lret (v := Int32.toInt64 (i 36)) hx hb hr (fun t ht hW => ⟨⟨Int32.toInt64 (i 36), 0, rfl, trivial, by rw [ht]; exact hP.sub [0] rfl, va_K.moved hW.alike (hK.sub [] rfl), hD.sub [0] (by decide) rfl⟩, hS.F ht⟩) hS.2.2 dX11_ran_73
  by_cases hs6 : z1 = 5
  ·
    subst hs6
    refine lv_tableIn (off := 68) (tgt := 74) hx hb dX11_ran_6 (by decide) (by decide) (by decide +kernel) (by decide) ?_
    refine lv_aload_n hx hb dX11_ran_74 rfl (lv_at hl 0 rfl) ?_
    refine va_get (D := D) (ci := 11) (v := .int (i 37)) (C := RX11) (T := TX11) (N := 47) hx hb hts hin_X11 hown hK hP 0 rfl rfl 37 (by decide) (hts (.fieldLink RX11 403 "ClashFreeModel" "isCut" "Z") (List.mem_of_getElem? (i := 7) rfl)) (fun _ h9 => h9) rfl dX11_ran_75 ?_
    have hPc := hP.sub (ws' := []) [] rfl
    have hKc := hK.sub (tys' := []) [] rfl
    have hFc := va_free0 hS hA
    refine va_calli (va_runS (As := [.int (i 37)]) (rest := []) ⟨hx, hb, hml, hown, hts⟩ (c_flag l D _ (i 37)) (va_cwS 1 hts g_c_ranM_c_flag_198 rfl rfl rfl (by decide +kernel) ⟨(Nat.le_of_ble_eq_true rfl), (Nat.le_of_ble_eq_true rfl)⟩) (PcR_S hPc hKc) rfl rfl hl.1 rfl (lv_room (Nat.le_of_ble_eq_true rfl)) dX11_ran_78 ⟨(Nat.le_of_ble_eq_true rfl), (Nat.le_of_ble_eq_true rfl)⟩) hS (fun q _ h => hFc q h) hFc (fun r7 uu tt H locs htt hvm hw hB hz1 hk1 hS => ?_)
    have hP := va_keep hP hk1
    try dsimp only at hw
    clear hB hz1 hk1 hFc hPc hKc
    have hw_r7 := hw
    refine lv_i2l hx hb dX11_ran_81 rfl ?_
    exact W.lret (v := Int32.toInt64 r7) hx hb hr (fun t ht hW => ⟨⟨Int32.toInt64 r7, 0, rfl, trivial, by rw [ht]; exact hP.sub [0] rfl, va_K.moved hW.alike (hK.sub [] rfl), hD.sub [0] (by decide) rfl⟩, hS.F ht⟩) hS.2.2 dX11_ran_82
  refine lv_tableOut (tgt := 83) hx hb dX11_ran_6 (sw6 (by assumption) (by assumption) (by assumption) (by assumption) (by assumption) (by assumption)) (by decide) ?_
  refine lv_ldc2 (v := (-1000000000000000)) hx hb hown (hts (.constantLong RX11 235 (-1000000000000000)) (List.mem_of_getElem? (i := 11) rfl)) dX11_ran_83 ?_
  exact W.lret (v := (-1000000000000000)) hx hb hr (fun t ht hW => ⟨⟨(-1000000000000000), 0, rfl, trivial, by rw [ht]; exact hP.sub [0] rfl, va_K.moved hW.alike (hK.sub [] rfl), hD.sub [0] (by decide) rfl⟩, hS.F ht⟩) hS.2.2 dX11_ran_86

