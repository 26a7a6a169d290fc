theorem dX8_begin_0 : decode cX8_begin 0 = .ok (.aload_n 0, 1) := by decide +kernel
theorem dX8_begin_1 : decode cX8_begin 1 = .ok (.aload_n 1, 1) := by decide +kernel
theorem dX8_begin_2 : decode cX8_begin 2 = .ok (.putfield 9, 3) := by decide +kernel
theorem dX8_begin_5 : decode cX8_begin 5 = .ok (.aload_n 0, 1) := by decide +kernel
theorem dX8_begin_6 : decode cX8_begin 6 = .ok (.iload_n 2, 1) := by decide +kernel
theorem dX8_begin_7 : decode cX8_begin 7 = .ok (.aload_n 1, 1) := by decide +kernel
theorem dX8_begin_8 : decode cX8_begin 8 = .ok (.arraylength, 1) := by decide +kernel
theorem dX8_begin_9 : decode cX8_begin 9 = .ok (.invokestatic 15, 3) := by decide +kernel
theorem dX8_begin_12 : decode cX8_begin 12 = .ok (.putfield 21, 3) := by decide +kernel
theorem dX8_begin_15 : decode cX8_begin 15 = .ok (.aload_n 0, 1) := by decide +kernel
theorem dX8_begin_16 : decode cX8_begin 16 = .ok (.iconst 0, 1) := by decide +kernel
theorem dX8_begin_17 : decode cX8_begin 17 = .ok (.putfield 25, 3) := by decide +kernel
theorem dX8_begin_20 : decode cX8_begin 20 = .ok (.aload_n 0, 1) := by decide +kernel
theorem dX8_begin_21 : decode cX8_begin 21 = .ok (.iconst 0, 1) := by decide +kernel
theorem dX8_begin_22 : decode cX8_begin 22 = .ok (.putfield 28, 3) := by decide +kernel
theorem dX8_begin_25 : decode cX8_begin 25 = .ok (.aload_n 0, 1) := by decide +kernel
theorem dX8_begin_26 : decode cX8_begin 26 = .ok (.iconst 1, 1) := by decide +kernel
theorem dX8_begin_27 : decode cX8_begin 27 = .ok (.putfield 31, 3) := by decide +kernel
theorem dX8_begin_30 : decode cX8_begin 30 = .ok (.aload_n 0, 1) := by decide +kernel
theorem dX8_begin_31 : decode cX8_begin 31 = .ok (.iconst 0, 1) := by decide +kernel
theorem dX8_begin_32 : decode cX8_begin 32 = .ok (.putfield 34, 3) := by decide +kernel
theorem dX8_begin_35 : decode cX8_begin 35 = .ok (.return_, 1) := by decide +kernel
theorem dX8_byteAt_0 : decode cX8_byteAt 0 = .ok (.iload_n 1, 1) := by decide +kernel
theorem dX8_byteAt_1 : decode cX8_byteAt 1 = .ok (.ifCond .lt 20, 3) := by decide +kernel
theorem dX8_byteAt_4 : decode cX8_byteAt 4 = .ok (.iload_n 1, 1) := by decide +kernel
theorem dX8_byteAt_5 : decode cX8_byteAt 5 = .ok (.aload_n 0, 1) := by decide +kernel
theorem dX8_byteAt_6 : decode cX8_byteAt 6 = .ok (.getfield 21, 3) := by decide +kernel
theorem dX8_byteAt_9 : decode cX8_byteAt 9 = .ok (.if_icmp .ge 12, 3) := by decide +kernel
theorem dX8_byteAt_12 : decode cX8_byteAt 12 = .ok (.aload_n 0, 1) := by decide +kernel
theorem dX8_byteAt_13 : decode cX8_byteAt 13 = .ok (.getfield 9, 3) := by decide +kernel
theorem dX8_byteAt_16 : decode cX8_byteAt 16 = .ok (.iload_n 1, 1) := by decide +kernel
theorem dX8_byteAt_17 : decode cX8_byteAt 17 = .ok (.iaload, 1) := by decide +kernel
theorem dX8_byteAt_18 : decode cX8_byteAt 18 = .ok (.goto 4, 3) := by decide +kernel
theorem dX8_byteAt_21 : decode cX8_byteAt 21 = .ok (.iconst (-1), 1) := by decide +kernel
theorem dX8_byteAt_22 : decode cX8_byteAt 22 = .ok (.ireturn, 1) := by decide +kernel
theorem dX8_isDigit_0 : decode cX8_isDigit 0 = .ok (.iload_n 0, 1) := by decide +kernel
theorem dX8_isDigit_1 : decode cX8_isDigit 1 = .ok (.bipush 48, 2) := by decide +kernel
theorem dX8_isDigit_3 : decode cX8_isDigit 3 = .ok (.if_icmp .lt 13, 3) := by decide +kernel
theorem dX8_isDigit_6 : decode cX8_isDigit 6 = .ok (.iload_n 0, 1) := by decide +kernel
theorem dX8_isDigit_7 : decode cX8_isDigit 7 = .ok (.bipush 57, 2) := by decide +kernel
theorem dX8_isDigit_9 : decode cX8_isDigit 9 = .ok (.if_icmp .gt 7, 3) := by decide +kernel
theorem dX8_isDigit_12 : decode cX8_isDigit 12 = .ok (.iconst 1, 1) := by decide +kernel
theorem dX8_isDigit_13 : decode cX8_isDigit 13 = .ok (.goto 4, 3) := by decide +kernel
theorem dX8_isDigit_16 : decode cX8_isDigit 16 = .ok (.iconst 0, 1) := by decide +kernel
theorem dX8_isDigit_17 : decode cX8_isDigit 17 = .ok (.ireturn, 1) := by decide +kernel
theorem dX8_isLetter_0 : decode cX8_isLetter 0 = .ok (.iload_n 0, 1) := by decide +kernel
theorem dX8_isLetter_1 : decode cX8_isLetter 1 = .ok (.bipush 97, 2) := by decide +kernel
theorem dX8_isLetter_3 : decode cX8_isLetter 3 = .ok (.if_icmp .lt 13, 3) := by decide +kernel
theorem dX8_isLetter_6 : decode cX8_isLetter 6 = .ok (.iload_n 0, 1) := by decide +kernel
theorem dX8_isLetter_7 : decode cX8_isLetter 7 = .ok (.bipush 122, 2) := by decide +kernel
theorem dX8_isLetter_9 : decode cX8_isLetter 9 = .ok (.if_icmp .gt 7, 3) := by decide +kernel
theorem dX8_isLetter_12 : decode cX8_isLetter 12 = .ok (.iconst 1, 1) := by decide +kernel
theorem dX8_isLetter_13 : decode cX8_isLetter 13 = .ok (.goto 4, 3) := by decide +kernel
theorem dX8_isLetter_16 : decode cX8_isLetter 16 = .ok (.iconst 0, 1) := by decide +kernel
theorem dX8_isLetter_17 : decode cX8_isLetter 17 = .ok (.ireturn, 1) := by decide +kernel
theorem dX8_takeNumber_0 : decode cX8_takeNumber 0 = .ok (.aload_n 0, 1) := by decide +kernel
theorem dX8_takeNumber_1 : decode cX8_takeNumber 1 = .ok (.iconst 0, 1) := by decide +kernel
theorem dX8_takeNumber_2 : decode cX8_takeNumber 2 = .ok (.putfield 59, 3) := by decide +kernel
theorem dX8_takeNumber_5 : decode cX8_takeNumber 5 = .ok (.aload_n 0, 1) := by decide +kernel
theorem dX8_takeNumber_6 : decode cX8_takeNumber 6 = .ok (.aload_n 0, 1) := by decide +kernel
theorem dX8_takeNumber_7 : decode cX8_takeNumber 7 = .ok (.getfield 25, 3) := by decide +kernel
theorem dX8_takeNumber_10 : decode cX8_takeNumber 10 = .ok (.putfield 28, 3) := by decide +kernel
theorem dX8_takeNumber_13 : decode cX8_takeNumber 13 = .ok (.aload_n 0, 1) := by decide +kernel
theorem dX8_takeNumber_14 : decode cX8_takeNumber 14 = .ok (.getfield 28, 3) := by decide +kernel
theorem dX8_takeNumber_17 : decode cX8_takeNumber 17 = .ok (.aload_n 0, 1) := by decide +kernel
theorem dX8_takeNumber_18 : decode cX8_takeNumber 18 = .ok (.getfield 21, 3) := by decide +kernel
theorem dX8_takeNumber_21 : decode cX8_takeNumber 21 = .ok (.if_icmp .ge 69, 3) := by decide +kernel
theorem dX8_takeNumber_24 : decode cX8_takeNumber 24 = .ok (.aload_n 0, 1) := by decide +kernel
theorem dX8_takeNumber_25 : decode cX8_takeNumber 25 = .ok (.getfield 9, 3) := by decide +kernel
theorem dX8_takeNumber_28 : decode cX8_takeNumber 28 = .ok (.aload_n 0, 1) := by decide +kernel
theorem dX8_takeNumber_29 : decode cX8_takeNumber 29 = .ok (.getfield 28, 3) := by decide +kernel
theorem dX8_takeNumber_32 : decode cX8_takeNumber 32 = .ok (.iaload, 1) := by decide +kernel
theorem dX8_takeNumber_33 : decode cX8_takeNumber 33 = .ok (.invokestatic 42, 3) := by decide +kernel
theorem dX8_takeNumber_36 : decode cX8_takeNumber 36 = .ok (.ifCond .eq 54, 3) := by decide +kernel
theorem dX8_takeNumber_39 : decode cX8_takeNumber 39 = .ok (.aload_n 0, 1) := by decide +kernel
theorem dX8_takeNumber_40 : decode cX8_takeNumber 40 = .ok (.getfield 28, 3) := by decide +kernel
theorem dX8_takeNumber_43 : decode cX8_takeNumber 43 = .ok (.aload_n 0, 1) := by decide +kernel
theorem dX8_takeNumber_44 : decode cX8_takeNumber 44 = .ok (.getfield 25, 3) := by decide +kernel
theorem dX8_takeNumber_47 : decode cX8_takeNumber 47 = .ok (.isub, 1) := by decide +kernel
theorem dX8_takeNumber_48 : decode cX8_takeNumber 48 = .ok (.bipush 6, 2) := by decide +kernel
theorem dX8_takeNumber_50 : decode cX8_takeNumber 50 = .ok (.if_icmp .ge 27, 3) := by decide +kernel
theorem dX8_takeNumber_53 : decode cX8_takeNumber 53 = .ok (.aload_n 0, 1) := by decide +kernel
theorem dX8_takeNumber_54 : decode cX8_takeNumber 54 = .ok (.bipush 10, 2) := by decide +kernel
theorem dX8_takeNumber_56 : decode cX8_takeNumber 56 = .ok (.aload_n 0, 1) := by decide +kernel
theorem dX8_takeNumber_57 : decode cX8_takeNumber 57 = .ok (.getfield 59, 3) := by decide +kernel
theorem dX8_takeNumber_60 : decode cX8_takeNumber 60 = .ok (.imul, 1) := by decide +kernel
theorem dX8_takeNumber_61 : decode cX8_takeNumber 61 = .ok (.aload_n 0, 1) := by decide +kernel
theorem dX8_takeNumber_62 : decode cX8_takeNumber 62 = .ok (.getfield 9, 3) := by decide +kernel
theorem dX8_takeNumber_65 : decode cX8_takeNumber 65 = .ok (.aload_n 0, 1) := by decide +kernel
theorem dX8_takeNumber_66 : decode cX8_takeNumber 66 = .ok (.getfield 28, 3) := by decide +kernel
theorem dX8_takeNumber_69 : decode cX8_takeNumber 69 = .ok (.iaload, 1) := by decide +kernel
theorem dX8_takeNumber_70 : decode cX8_takeNumber 70 = .ok (.iadd, 1) := by decide +kernel
theorem dX8_takeNumber_71 : decode cX8_takeNumber 71 = .ok (.bipush 48, 2) := by decide +kernel
theorem dX8_takeNumber_73 : decode cX8_takeNumber 73 = .ok (.isub, 1) := by decide +kernel
theorem dX8_takeNumber_74 : decode cX8_takeNumber 74 = .ok (.putfield 59, 3) := by decide +kernel
theorem dX8_takeNumber_77 : decode cX8_takeNumber 77 = .ok (.aload_n 0, 1) := by decide +kernel
theorem dX8_takeNumber_78 : decode cX8_takeNumber 78 = .ok (.dup, 1) := by decide +kernel
theorem dX8_takeNumber_79 : decode cX8_takeNumber 79 = .ok (.getfield 28, 3) := by decide +kernel
theorem dX8_takeNumber_82 : decode cX8_takeNumber 82 = .ok (.iconst 1, 1) := by decide +kernel
theorem dX8_takeNumber_83 : decode cX8_takeNumber 83 = .ok (.iadd, 1) := by decide +kernel
theorem dX8_takeNumber_84 : decode cX8_takeNumber 84 = .ok (.putfield 28, 3) := by decide +kernel
theorem dX8_takeNumber_87 : decode cX8_takeNumber 87 = .ok (.goto (-74), 3) := by decide +kernel
theorem dX8_takeNumber_90 : decode cX8_takeNumber 90 = .ok (.aload_n 0, 1) := by decide +kernel
theorem dX8_takeNumber_91 : decode cX8_takeNumber 91 = .ok (.aload_n 0, 1) := by decide +kernel
theorem dX8_takeNumber_92 : decode cX8_takeNumber 92 = .ok (.getfield 28, 3) := by decide +kernel
theorem dX8_takeNumber_95 : decode cX8_takeNumber 95 = .ok (.aload_n 0, 1) := by decide +kernel
theorem dX8_takeNumber_96 : decode cX8_takeNumber 96 = .ok (.getfield 25, 3) := by decide +kernel
theorem dX8_takeNumber_99 : decode cX8_takeNumber 99 = .ok (.isub, 1) := by decide +kernel
theorem dX8_takeNumber_100 : decode cX8_takeNumber 100 = .ok (.bipush 6, 2) := by decide +kernel
theorem dX8_takeNumber_102 : decode cX8_takeNumber 102 = .ok (.if_icmp .le 7, 3) := by decide +kernel
theorem dX8_takeNumber_105 : decode cX8_takeNumber 105 = .ok (.iconst 1, 1) := by decide +kernel
theorem dX8_takeNumber_106 : decode cX8_takeNumber 106 = .ok (.goto 4, 3) := by decide +kernel
theorem dX8_takeNumber_109 : decode cX8_takeNumber 109 = .ok (.iconst 2, 1) := by decide +kernel
theorem dX8_takeNumber_110 : decode cX8_takeNumber 110 = .ok (.putfield 31, 3) := by decide +kernel
theorem dX8_takeNumber_113 : decode cX8_takeNumber 113 = .ok (.return_, 1) := by decide +kernel
theorem dX8_takeSign_0 : decode cX8_takeSign 0 = .ok (.aload_n 0, 1) := by decide +kernel
theorem dX8_takeSign_1 : decode cX8_takeSign 1 = .ok (.aload_n 0, 1) := by decide +kernel
theorem dX8_takeSign_2 : decode cX8_takeSign 2 = .ok (.getfield 25, 3) := by decide +kernel
theorem dX8_takeSign_5 : decode cX8_takeSign 5 = .ok (.putfield 28, 3) := by decide +kernel
theorem dX8_takeSign_8 : decode cX8_takeSign 8 = .ok (.iload_n 1, 1) := by decide +kernel
theorem dX8_takeSign_9 : decode cX8_takeSign 9 = .ok (.iconst (-1), 1) := by decide +kernel
theorem dX8_takeSign_10 : decode cX8_takeSign 10 = .ok (.if_icmp .ne 9, 3) := by decide +kernel
theorem dX8_takeSign_13 : decode cX8_takeSign 13 = .ok (.aload_n 0, 1) := by decide +kernel
theorem dX8_takeSign_14 : decode cX8_takeSign 14 = .ok (.iconst 0, 1) := by decide +kernel
theorem dX8_takeSign_15 : decode cX8_takeSign 15 = .ok (.putfield 31, 3) := by decide +kernel
theorem dX8_takeSign_18 : decode cX8_takeSign 18 = .ok (.return_, 1) := by decide +kernel
theorem dX8_takeSign_19 : decode cX8_takeSign 19 = .ok (.aload_n 0, 1) := by decide +kernel
theorem dX8_takeSign_20 : decode cX8_takeSign 20 = .ok (.dup, 1) := by decide +kernel
theorem dX8_takeSign_21 : decode cX8_takeSign 21 = .ok (.getfield 28, 3) := by decide +kernel
theorem dX8_takeSign_24 : decode cX8_takeSign 24 = .ok (.iconst 1, 1) := by decide +kernel
theorem dX8_takeSign_25 : decode cX8_takeSign 25 = .ok (.iadd, 1) := by decide +kernel
theorem dX8_takeSign_26 : decode cX8_takeSign 26 = .ok (.putfield 28, 3) := by decide +kernel
theorem dX8_takeSign_29 : decode cX8_takeSign 29 = .ok (.iload_n 1, 1) := by decide +kernel
theorem dX8_takeSign_30 : decode cX8_takeSign 30 = .ok (.lookupswitch 98 #[(37, 90), (40, 90), (41, 90), (42, 90), (43, 90), (45, 90), (47, 90), (59, 90), (91, 90), (93, 90)], 90) := by decide +kernel
theorem dX8_takeSign_120 : decode cX8_takeSign 120 = .ok (.aload_n 0, 1) := by decide +kernel
theorem dX8_takeSign_121 : decode cX8_takeSign 121 = .ok (.iload_n 1, 1) := by decide +kernel
theorem dX8_takeSign_122 : decode cX8_takeSign 122 = .ok (.putfield 31, 3) := by decide +kernel
theorem dX8_takeSign_125 : decode cX8_takeSign 125 = .ok (.goto 8, 3) := by decide +kernel
theorem dX8_takeSign_128 : decode cX8_takeSign 128 = .ok (.aload_n 0, 1) := by decide +kernel
theorem dX8_takeSign_129 : decode cX8_takeSign 129 = .ok (.iconst 1, 1) := by decide +kernel
theorem dX8_takeSign_130 : decode cX8_takeSign 130 = .ok (.putfield 31, 3) := by decide +kernel
theorem dX8_takeSign_133 : decode cX8_takeSign 133 = .ok (.return_, 1) := by decide +kernel
theorem min1400 {n : Nat} (h : n ≤ 1400) : (if (1400 : Int32) < nI n then (1400 : Int32) else nI n) = nI n := if_neg (show ¬ (1400 : Int32) < nI n from Int32.not_lt.mpr (nI_le (b := 1400) h (by decide)))
def own_k_sbegin : List Cond := [.fieldLink RX8 9 "ClashFree$Scanner" "text" "[I", .methodLink RX8 15 Lib.Math.min.name, .static Lib.Math.min.name, .initialized "java/lang/Math", .code Lib.Math.min.name Lib.Math.min.code 2 (some .int), .fieldLink RX8 21 "ClashFree$Scanner" "length" "I", .fieldLink RX8 25 "ClashFree$Scanner" "at" "I", .fieldLink RX8 28 "ClashFree$Scanner" "behind" "I", .fieldLink RX8 31 "ClashFree$Scanner" "kind" "I", .fieldLink RX8 34 "ClashFree$Scanner" "wordy" "Z"]
def wp_k_sbegin : List Cond := .code yX8_begin cX8_begin 3 none :: (own_k_sbegin ++ (wsX80 ++ ([] : List Cond)))
set_option maxRecDepth 20000 in
theorem inown_k_sbegin : ∀ w ∈ own_k_sbegin, w ∈ lw_tbl := mem_places [302, 923, 580, 118, 581, 303, 304, 306, 307, 311] (by decide +kernel)
set_option maxRecDepth 20000 in
theorem in_k_sbegin : ∀ w ∈ wp_k_sbegin, w ∈ lw_tbl := List.forall_mem_cons.mpr ⟨List.mem_of_getElem? (i := 922) (by decide +kernel), List.forall_mem_append.mpr ⟨inown_k_sbegin, List.forall_mem_append.mpr ⟨lwb_X8, fun _ h => absurd h List.not_mem_nil⟩⟩⟩
set_option maxRecDepth 20000 in
theorem good_k_sbegin : wp_k_sbegin.all goodWord = true := by decide +kernel
set_option maxHeartbeats 4000000 in
set_option maxRecDepth 100000 in
theorem k_sbegin (l : Launch) (D : va_G) (sz : Nat) (oq : Nat → Nat) (ox : Nat → Nat) (cI : ClassId) (tx : Value) (zl : Int32) (ta : Int32) (be : Int32) (ki : Int32) (nu : Int32) (wo : Int32) (fT : Nat → Int32) (tp : Nat) (htp2 : tp ≤ 1400) : Met l yX8_begin wp_k_sbegin ({ frames := 1, cells := 0, slots := 0, locals := 14 }) (PcWC D [.ref (oq 5), .ref (ox 2), .int (nI tp)] sz [(oq 5, .inr (8, [tx, .int zl, .int ta, .int be, .int ki, .int nu, .int wo])), (ox 2, .inl (cI, 1400, .inl fT))] [(cI, .int)]) (va_Qv (fun (u : (Value) × (Int32) × (Int32) × (Int32) × (Int32) × (Int32)) => u.1 = .ref (ox 2) ∧ u.2.1 = nI tp ∧ u.2.2.1 = 0 ∧ u.2.2.2.1 = 0 ∧ u.2.2.2.2.2 = 0) (fun (u : (Value) × (Int32) × (Int32) × (Int32) × (Int32) × (Int32)) t => va_P D vwCl [(oq 5, .inr (8, [u.1, .int u.2.1, .int u.2.2.1, .int u.2.2.2.1, .int u.2.2.2.2.1, .int nu, .int u.2.2.2.2.2])), (ox 2, .inl (cI, 1400, .inl fT))] t.heap ∧ va_K D vwCl [(cI, .int)] t ∧ va_D (va_A [(oq 5, .inr (8, [tx, .int zl, .int ta, .int be, .int ki, .int nu, .int wo])), (ox 2, .inl (cI, 1400, .inl fT))] sz) [(oq 5, .inr (8, [u.1, .int u.2.1, .int u.2.2.1, .int u.2.2.2.1, .int u.2.2.2.2.1, .int nu, .int u.2.2.2.2.2])), (ox 2, .inl (cI, 1400, .inl fT))]) (va_A [(oq 5, .inr (8, [tx, .int zl, .int ta, .int be, .int ki, .int nu, .int wo])), (ox 2, .inl (cI, 1400, .inl fT))] sz)) 0 0 (va_A [(oq 5, .inr (8, [tx, .int zl, .int ta, .int be, .int ki, .int nu, .int wo])), (ox 2, .inl (cI, 1400, .inl fT))] sz) := by
  refine Met.ofW (cc := cX8_begin) (maxL := 3) (ret := none) (by decide) rfl ?_
  intro p e s m args below meth c s₁ B hml hv
  obtain ⟨rfl, hsz, hP, hK, hD0, hN⟩ := hv
  have hx := B.exec
  have hb := B.bytes
  have hr := B.returns
  have hts := atoms_spec (ws := wp_k_sbegin) B.pre
  have hin_X8 : ∀ w ∈ wsX80, w ∈ wp_k_sbegin := fun _ h => (List.mem_cons_of_mem _ (List.mem_append_right _ (List.mem_append_left _ h)))
  have hown : s.vm.findClass RX8 = some m.cls := findClass_of_methodNamed B.named
  have hlocks := B.notSynchronized
  subst hsz
  have hD := hD0.self (sz := s.heap.size)
  generalize hAe : va_A [(oq 5, .inr (8, [tx, .int zl, .int ta, .int be, .int ki, .int nu, .int wo])), (ox 2, .inl (cI, 1400, .inl fT))] s.heap.size = A at hD ⊢
  have hA : ∀ q : Nat, s.heap.size ≤ q → A q := fun q h => by rw [← hAe]; exact Or.inr h
  have hS : va_S A s.heap s.heap [] := va_S.rf
  have hP : va_P D vwCl [(oq 5, .inr (8, [tx, .int zl, .int ta, .int be, .int ki, .int nu, .int wo])), (ox 2, .inl (cI, 1400, .inl fT))] s.heap := hP
  have hl := lv_entry ([.ref (oq 5), .ref (ox 2), .int (nI tp)]) (n := 3) (Nat.le_of_ble_eq_true rfl)
  rw [lg_entry_eq]
  generalize (lg_sl ([.ref (oq 5), .ref (ox 2), .int (nI tp)]) ++ List.replicate (3 - (lg_sl ([.ref (oq 5), .ref (ox 2), .int (nI tp)])).length) Slot.unset).toArray = ls at hl ⊢
  have hl : lv_has ls 3 [(0, .ref (oq 5)), (1, .ref (ox 2)), (2, .int (nI tp))] := hl
  refine lv_aload_n hx hb dX8_begin_0 rfl (lv_at hl 0 rfl) ?_
  refine lv_aload_n hx hb dX8_begin_1 rfl (lv_at hl 1 rfl) ?_
  refine va_put (D := D) (ci := 8) (v := .ref (ox 2)) (ty := (.array .int)) (C := RX8) (T := TX8) (N := 7) hx hb hts hin_X8 tyX8 tyX8_ok nmX8 hown hK hP hD hS 0 rfl rfl 0 (by decide) (hts (.fieldLink RX8 9 "ClashFree$Scanner" "text" "[I") (List.mem_of_getElem? (i := 1) rfl)) (fun _ h9 => h9) rfl (by decide +kernel) rfl rfl (Nat.le_of_ble_eq_true rfl) dX8_begin_2 (fun H locs hP hD hS => ?_)
  have hP : va_P D vwCl [(oq 5, .inr (8, [.ref (ox 2), .int zl, .int ta, .int be, .int ki, .int nu, .int wo])), (ox 2, .inl (cI, 1400, .inl fT))] H := hP
  have hD : va_D A [(oq 5, .inr (8, [.ref (ox 2), .int zl, .int ta, .int be, .int ki, .int nu, .int wo])), (ox 2, .inl (cI, 1400, .inl fT))] := hD
  refine lv_aload_n hx hb dX8_begin_5 rfl (lv_at hl 0 rfl) ?_
  refine lv_iload_n hx hb dX8_begin_6 rfl (lv_at hl 2 rfl) ?_
  refine lv_aload_n hx hb dX8_begin_7 rfl (lv_at hl 1 rfl) ?_
  refine va_alen (v := 1400) hx hb hK hP 1 0 rfl rfl rfl dX8_begin_8 ?_
  refine va_mmin hx hb (hml.trans hl.1.symm) hown (hts (.methodLink RX8 15 Lib.Math.min.name) (List.mem_of_getElem? (i := 2) rfl)) (hts (.static Lib.Math.min.name) (List.mem_of_getElem? (i := 3) rfl)) (hts (.initialized "java/lang/Math") (List.mem_of_getElem? (i := 4) rfl)) (hts (.code Lib.Math.min.name Lib.Math.min.code 2 (some .int)) (List.mem_of_getElem? (i := 5) rfl)) (Nat.le_of_ble_eq_true rfl) (Nat.le_of_ble_eq_true rfl) (Nat.le_of_ble_eq_true rfl) (Nat.le_of_ble_eq_true rfl) dX8_begin_9 ?_
  refine lv_topi (fun v1 ev1 => ?_)
  obtain rfl : v1 = nI tp := ev1.trans (min1400 htp2)
  refine va_put (D := D) (ci := 8) (v := .int (nI tp)) (ty := .int) (C := RX8) (T := TX8) (N := 7) hx hb hts hin_X8 tyX8 tyX8_ok nmX8 hown hK hP hD hS 0 rfl rfl 1 (by decide) (hts (.fieldLink RX8 21 "ClashFree$Scanner" "length" "I") (List.mem_of_getElem? (i := 6) rfl)) (fun _ h9 => h9) rfl (by decide +kernel) rfl rfl (Nat.le_of_ble_eq_true rfl) dX8_begin_12 (fun H locs hP hD hS => ?_)
  have hP : va_P D vwCl [(oq 5, .inr (8, [.ref (ox 2), .int (nI tp), .int ta, .int be, .int ki, .int nu, .int wo])), (ox 2, .inl (cI, 1400, .inl fT))] H := hP
  have hD : va_D A [(oq 5, .inr (8, [.ref (ox 2), .int (nI tp), .int ta, .int be, .int ki, .int nu, .int wo])), (ox 2, .inl (cI, 1400, .inl fT))] := hD
  refine lv_aload_n hx hb dX8_begin_15 rfl (lv_at hl 0 rfl) ?_
  refine lv_iconst (v := 0) hx hb dX8_begin_16 (by decide) ?_
  refine va_put (D := D) (ci := 8) (v := .int 0) (ty := .int) (C := RX8) (T := TX8) (N := 7) hx hb hts hin_X8 tyX8 tyX8_ok nmX8 hown hK hP hD hS 0 rfl rfl 2 (by decide) (hts (.fieldLink RX8 25 "ClashFree$Scanner" "at" "I") (List.mem_of_getElem? (i := 7) rfl)) (fun _ h9 => h9) rfl (by decide +kernel) rfl rfl (Nat.le_of_ble_eq_true rfl) dX8_begin_17 (fun H locs hP hD hS => ?_)
  have hP : va_P D vwCl [(oq 5, .inr (8, [.ref (ox 2), .int (nI tp), .int 0, .int be, .int ki, .int nu, .int wo])), (ox 2, .inl (cI, 1400, .inl fT))] H := hP
  have hD : va_D A [(oq 5, .inr (8, [.ref (ox 2), .int (nI tp), .int 0, .int be, .int ki, .int nu, .int wo])), (ox 2, .inl (cI, 1400, .inl fT))] := hD
  refine lv_aload_n hx hb dX8_begin_20 rfl (lv_at hl 0 rfl) ?_
  refine lv_iconst (v := 0) hx hb dX8_begin_21 (by decide) ?_
  refine va_put (D := D) (ci := 8) (v := .int 0) (ty := .int) (C := RX8) (T := TX8) (N := 7) hx hb hts hin_X8 tyX8 tyX8_ok nmX8 hown hK hP hD hS 0 rfl rfl 3 (by decide) (hts (.fieldLink RX8 28 "ClashFree$Scanner" "behind" "I") (List.mem_of_getElem? (i := 8) rfl)) (fun _ h9 => h9) rfl (by decide +kernel) rfl rfl (Nat.le_of_ble_eq_true rfl) dX8_begin_22 (fun H locs hP hD hS => ?_)
  have hP : va_P D vwCl [(oq 5, .inr (8, [.ref (ox 2), .int (nI tp), .int 0, .int 0, .int ki, .int nu, .int wo])), (ox 2, .inl (cI, 1400, .inl fT))] H := hP
  have hD : va_D A [(oq 5, .inr (8, [.ref (ox 2), .int (nI tp), .int 0, .int 0, .int ki, .int nu, .int wo])), (ox 2, .inl (cI, 1400, .inl fT))] := hD
  refine lv_aload_n hx hb dX8_begin_25 rfl (lv_at hl 0 rfl) ?_
  refine lv_iconst (v := 1) hx hb dX8_begin_26 (by decide) ?_
  refine va_put (D := D) (ci := 8) (v := .int 1) (ty := .int) (C := RX8) (T := TX8) (N := 7) hx hb hts hin_X8 tyX8 tyX8_ok nmX8 hown hK hP hD hS 0 rfl rfl 4 (by decide) (hts (.fieldLink RX8 31 "ClashFree$Scanner" "kind" "I") (List.mem_of_getElem? (i := 9) rfl)) (fun _ h9 => h9) rfl (by decide +kernel) rfl rfl (Nat.le_of_ble_eq_true rfl) dX8_begin_27 (fun H locs hP hD hS => ?_)
  have hP : va_P D vwCl [(oq 5, .inr (8, [.ref (ox 2), .int (nI tp), .int 0, .int 0, .int 1, .int nu, .int wo])), (ox 2, .inl (cI, 1400, .inl fT))] H := hP
  have hD : va_D A [(oq 5, .inr (8, [.ref (ox 2), .int (nI tp), .int 0, .int 0, .int 1, .int nu, .int wo])), (ox 2, .inl (cI, 1400, .inl fT))] := hD
  refine lv_aload_n hx hb dX8_begin_30 rfl (lv_at hl 0 rfl) ?_
  refine lv_iconst (v := 0) hx hb dX8_begin_31 (by decide) ?_
  refine va_put (D := D) (ci := 8) (v := .int 0) (ty := .boolean) (C := RX8) (T := TX8) (N := 7) hx hb hts hin_X8 tyX8 tyX8_ok nmX8 hown hK hP hD hS 0 rfl rfl 6 (by decide) (hts (.fieldLink RX8 34 "ClashFree$Scanner" "wordy" "Z") (List.mem_of_getElem? (i := 10) rfl)) (fun _ h9 => h9) rfl (by decide +kernel) rfl rfl (Nat.le_of_ble_eq_true rfl) dX8_begin_32 (fun H locs hP hD hS => ?_)
  have hP : va_P D vwCl [(oq 5, .inr (8, [.ref (ox 2), .int (nI tp), .int 0, .int 0, .int 1, .int nu, .int 0])), (ox 2, .inl (cI, 1400, .inl fT))] H := hP
  have hD : va_D A [(oq 5, .inr (8, [.ref (ox 2), .int (nI tp), .int 0, .int 0, .int 1, .int nu, .int 0])), (ox 2, .inl (cI, 1400, .inl fT))] := hD
  exact W.vret hx hb hr (fun t ht hW => ⟨⟨((.ref (ox 2)), (nI tp), 0, 0, 1, 0), rfl, (by (try dsimp only); first | done | exact ⟨rfl, rfl, rfl, rfl, rfl⟩), by rw [ht]; exact hP.sub [0, 1] rfl, va_K.moved hW.alike (hK.sub [0] rfl), hD.sub [0, 1] (by decide) rfl⟩, hS.F ht⟩) hS.2.2 dX8_begin_35

def own_k_byteAt : List Cond := [.fieldLink RX8 21 "ClashFree$Scanner" "length" "I", .fieldLink RX8 9 "ClashFree$Scanner" "text" "[I"]
def wp_k_byteAt : List Cond := .code yX8_byteAt cX8_byteAt 2 (some .int) :: (own_k_byteAt ++ (wsX80 ++ ([] : List Cond)))
set_option maxRecDepth 20000 in
theorem inown_k_byteAt : ∀ w ∈ own_k_byteAt, w ∈ lw_tbl := mem_places [303, 302] (by decide +kernel)
set_option maxRecDepth 20000 in
theorem in_k_byteAt : ∀ w ∈ wp_k_byteAt, w ∈ lw_tbl := List.forall_mem_cons.mpr ⟨List.mem_of_getElem? (i := 931) (by decide +kernel), List.forall_mem_append.mpr ⟨inown_k_byteAt, List.forall_mem_append.mpr ⟨lwb_X8, fun _ h => absurd h List.not_mem_nil⟩⟩⟩
set_option maxRecDepth 20000 in
theorem good_k_byteAt : wp_k_byteAt.all goodWord = true := by decide +kernel
set_option maxHeartbeats 4000000 in
set_option maxRecDepth 100000 in
theorem k_byteAt (l : Launch) (D : va_G) (sz : Nat) (oq : Nat → Nat) (ox : Nat → Nat) (cI : ClassId) (zl : Nat) (ta : Nat) (be : Nat) (ki : Int32) (nu : Int32) (wo : Int32) (fT : Nat → Int32) (x : Nat) (bt : Nat → Nat) (hzl : zl ≤ 1400) (hx9 : x ≤ 3000) (hbt : TieC fT bt) : Met l yX8_byteAt wp_k_byteAt ({ frames := 0, cells := 0, slots := 0, locals := 0 }) (PcRC D [.ref (oq 5), .int (nI x)] sz [(oq 5, .inr (8, [.ref (ox 2), .int (nI zl), .int (nI ta), .int (nI be), .int ki, .int nu, .int wo])), (ox 2, .inl (cI, 1400, .inl fT))] [(cI, .int)]) (va_Qi (fun (r : Int32) (u : Unit) => (x < zl ∧ r = nI (bt x)) ∨ (zl ≤ x ∧ r = -1)) (fun (_ : Unit) _ => True) (va_A [] sz)) 0 0 (va_A [] sz) := by
  refine Met.ofW (cc := cX8_byteAt) (maxL := 2) (ret := (some .int)) (by decide) rfl ?_
  intro p e s m args below meth c s₁ B hml hv
  obtain ⟨rfl, hsz, hP, hK, hN⟩ := hv
  have hx := B.exec
  have hb := B.bytes
  have hr := B.returns
  have hts := atoms_spec (ws := wp_k_byteAt) B.pre
  have hin_X8 : ∀ w ∈ wsX80, w ∈ wp_k_byteAt := fun _ h => (List.mem_cons_of_mem _ (List.mem_append_right _ (List.mem_append_left _ h)))
  have hown : s.vm.findClass RX8 = some m.cls := findClass_of_methodNamed B.named
  have hlocks := B.notSynchronized
  subst hsz
  generalize hAe : va_A [] s.heap.size = A at ⊢
  have hA : ∀ q : Nat, s.heap.size ≤ q → A q := fun q h => by rw [← hAe]; exact Or.inr h
  have hS : va_S A s.heap s.heap [] := va_S.rf
  have hP : va_P D vwCl [(oq 5, .inr (8, [.ref (ox 2), .int (nI zl), .int (nI ta), .int (nI be), .int ki, .int nu, .int wo])), (ox 2, .inl (cI, 1400, .inl fT))] s.heap := hP
  have hl := lv_entry ([.ref (oq 5), .int (nI x)]) (n := 2) (Nat.le_of_ble_eq_true rfl)
  rw [lg_entry_eq]
  generalize (lg_sl ([.ref (oq 5), .int (nI x)]) ++ List.replicate (2 - (lg_sl ([.ref (oq 5), .int (nI x)])).length) Slot.unset).toArray = ls at hl ⊢
  have hl : lv_has ls 2 [(0, .ref (oq 5)), (1, .int (nI x))] := hl
  refine lv_iload_n hx hb dX8_byteAt_0 rfl (lv_at hl 1 rfl) ?_
  refine lv_if_lt (tgt := 21) hx hb dX8_byteAt_1 (by decide) (fun hc => absurd hc (Int32.not_lt.mpr (nI_pos' (by omega)))) (fun hc => ?_)
  refine lv_iload_n hx hb dX8_byteAt_4 rfl (lv_at hl 1 rfl) ?_
  refine lv_aload_n hx hb dX8_byteAt_5 rfl (lv_at hl 0 rfl) ?_
  refine va_get (D := D) (ci := 8) (v := .int (nI zl)) (C := RX8) (T := TX8) (N := 7) hx hb hts hin_X8 hown hK hP 0 rfl rfl 1 (by decide) (hts (.fieldLink RX8 21 "ClashFree$Scanner" "length" "I") (List.mem_of_getElem? (i := 1) rfl)) (fun _ h9 => h9) rfl dX8_byteAt_6 ?_
  refine lv_icmp_ge (tgt := 21) hx hb dX8_byteAt_9 (by decide) (fun hc1 => ?_) (fun hc1 => ?_)
  ·
    have hge : zl ≤ x := (nI_leI (by omega) (by omega)).mp hc1
    refine lv_iconst (v := (-1)) hx hb dX8_byteAt_21 (by decide) ?_
    exact W.iret (v := (-1)) hx hb hr (fun t ht hW => ⟨⟨(-1), (), rfl, Or.inr ⟨hge, rfl⟩, trivial⟩, hS.F ht⟩) hS.2.2 dX8_byteAt_22
  ·
    have hlt : x < zl := by
      rcases Nat.lt_or_ge x zl with z | z
      · exact z
      · exact absurd (nI_le z (by omega)) hc1
    refine lv_aload_n hx hb dX8_byteAt_12 rfl (lv_at hl 0 rfl) ?_
    refine va_get (D := D) (ci := 8) (v := .ref (ox 2)) (C := RX8) (T := TX8) (N := 7) hx hb hts hin_X8 hown hK hP 0 rfl rfl 0 (by decide) (hts (.fieldLink RX8 9 "ClashFree$Scanner" "text" "[I") (List.mem_of_getElem? (i := 2) rfl)) (fun _ h9 => h9) rfl dX8_byteAt_13 ?_
    refine lv_iload_n hx hb dX8_byteAt_16 rfl (lv_at hl 1 rfl) ?_
    refine va_iald hx hb hK hP 1 0 rfl rfl (vp_in_nI (by omega) (by decide)) dX8_byteAt_17 ?_
    refine lv_topi (fun v2 ev2 => ?_)
    obtain rfl : v2 = nI (bt x) := ev2.trans (by rw [nI_clamp (by omega)]; exact (hbt _).1)
    refine lv_goto (tgt := 22) hx hb dX8_byteAt_18 (by decide) ?_
    exact W.iret (v := nI (bt x)) hx hb hr (fun t ht hW => ⟨⟨nI (bt x), (), rfl, Or.inl ⟨hlt, rfl⟩, trivial⟩, hS.F ht⟩) hS.2.2 dX8_byteAt_22

def own_k_sDigit : List Cond := []
def wp_k_sDigit : List Cond := .code yX8_isDigit cX8_isDigit 1 (some .boolean) :: (own_k_sDigit ++ ([] : List Cond))
set_option maxRecDepth 20000 in
theorem inown_k_sDigit : ∀ w ∈ own_k_sDigit, w ∈ lw_tbl := mem_places [] (by decide +kernel)
set_option maxRecDepth 20000 in
theorem in_k_sDigit : ∀ w ∈ wp_k_sDigit, w ∈ lw_tbl := List.forall_mem_cons.mpr ⟨List.mem_of_getElem? (i := 934) (by decide +kernel), List.forall_mem_append.mpr ⟨inown_k_sDigit, fun _ h => absurd h List.not_mem_nil⟩⟩
set_option maxRecDepth 20000 in
theorem good_k_sDigit : wp_k_sDigit.all goodWord = true := by decide +kernel
set_option maxHeartbeats 4000000 in
set_option maxRecDepth 100000 in
theorem k_sDigit (l : Launch) (D : va_G) (sz : Nat) (cI : ClassId) (z1 : Int32)  : Met l yX8_isDigit wp_k_sDigit ({ frames := 0, cells := 0, slots := 0, locals := 0 }) (PcRC D [.int z1] sz [] []) (va_Qi (fun (r : Int32) (u : Unit) => (r = 1 ∧ (48 ≤ z1 ∧ z1 ≤ 57)) ∨ (r = 0 ∧ ¬ (48 ≤ z1 ∧ z1 ≤ 57))) (fun (_ : Unit) _ => True) (va_A [] sz)) 0 0 (va_A [] sz) := by
  refine Met.ofW (cc := cX8_isDigit) (maxL := 1) (ret := (some .boolean)) (by decide) rfl ?_
  intro p e s m args below meth c s₁ B hml hv
  obtain ⟨rfl, hsz, hP, hK, hN⟩ := hv
  have hx := B.exec
  have hb := B.bytes
  have hr := B.returns
  have hts := atoms_spec (ws := wp_k_sDigit) B.pre
  have hown : s.vm.findClass RX8 = some m.cls := findClass_of_methodNamed B.named
  have hlocks := B.notSynchronized
  subst hsz
  generalize hAe : va_A [] s.heap.size = A at ⊢
  have hA : ∀ q : Nat, s.heap.size ≤ q → A q := fun q h => by rw [← hAe]; exact Or.inr h
  have hS : va_S A s.heap s.heap [] := va_S.rf
  have hP : va_P D vwCl [] s.heap := hP
  have hl := lv_entry ([.int z1]) (n := 1) (Nat.le_of_ble_eq_true rfl)
  rw [lg_entry_eq]
  generalize (lg_sl ([.int z1]) ++ List.replicate (1 - (lg_sl ([.int z1])).length) Slot.unset).toArray = ls at hl ⊢
  have hl : lv_has ls 1 [(0, .int z1)] := hl
  refine lv_iload_n hx hb dX8_isDigit_0 rfl (lv_at hl 0 rfl) ?_
  refine lv_bipush (v := 48) hx hb dX8_isDigit_1 (by decide) ?_
  refine lv_icmp_lt (tgt := 16) hx hb dX8_isDigit_3 (by decide) (fun hc1 => ?_) (fun hc1 => ?_)
  ·
    refine lv_iconst (v := 0) hx hb dX8_isDigit_16 (by decide) ?_
    exact W.zret (v := 0) hx hb hr rfl (fun t ht hW => ⟨⟨0, (), rfl, Or.inr ⟨rfl, fun z => absurd hc1 (Int32.not_lt.mpr z.1)⟩, trivial⟩, hS.F ht⟩) hS.2.2 dX8_isDigit_17
  ·
    refine lv_iload_n hx hb dX8_isDigit_6 rfl (lv_at hl 0 rfl) ?_
    refine lv_bipush (v := 57) hx hb dX8_isDigit_7 (by decide) ?_
    refine lv_icmp_gt (tgt := 16) hx hb dX8_isDigit_9 (by decide) (fun hc2 => ?_) (fun hc2 => ?_)
    ·
      refine lv_iconst (v := 0) hx hb dX8_isDigit_16 (by decide) ?_
      exact W.zret (v := 0) hx hb hr rfl (fun t ht hW => ⟨⟨0, (), rfl, Or.inr ⟨rfl, fun z => absurd hc2 (Int32.not_lt.mpr z.2)⟩, trivial⟩, hS.F ht⟩) hS.2.2 dX8_isDigit_17
    ·
      refine lv_iconst (v := 1) hx hb dX8_isDigit_12 (by decide) ?_
      refine lv_goto (tgt := 17) hx hb dX8_isDigit_13 (by decide) ?_
      exact W.zret (v := 1) hx hb hr rfl (fun t ht hW => ⟨⟨1, (), rfl, Or.inl ⟨rfl, Int32.not_lt.mp hc1, Int32.not_lt.mp hc2⟩, trivial⟩, hS.F ht⟩) hS.2.2 dX8_isDigit_17

def own_k_sLetter : List Cond := []
def wp_k_sLetter : List Cond := .code yX8_isLetter cX8_isLetter 1 (some .boolean) :: (own_k_sLetter ++ ([] : List Cond))
set_option maxRecDepth 20000 in
theorem inown_k_sLetter : ∀ w ∈ own_k_sLetter, w ∈ lw_tbl := mem_places [] (by decide +kernel)
set_option maxRecDepth 20000 in
theorem in_k_sLetter : ∀ w ∈ wp_k_sLetter, w ∈ lw_tbl := List.forall_mem_cons.mpr ⟨List.mem_of_getElem? (i := 937) (by decide +kernel), List.forall_mem_append.mpr ⟨inown_k_sLetter, fun _ h => absurd h List.not_mem_nil⟩⟩
set_option maxRecDepth 20000 in
theorem good_k_sLetter : wp_k_sLetter.all goodWord = true := by decide +kernel
set_option maxHeartbeats 4000000 in
set_option maxRecDepth 100000 in
theorem k_sLetter (l : Launch) (D : va_G) (sz : Nat) (cI : ClassId) (z1 : Int32)  : Met l yX8_isLetter wp_k_sLetter ({ frames := 0, cells := 0, slots := 0, locals := 0 }) (PcRC D [.int z1] sz [] []) (va_Qi (fun (r : Int32) (u : Unit) => (r = 1 ∧ (97 ≤ z1 ∧ z1 ≤ 122)) ∨ (r = 0 ∧ ¬ (97 ≤ z1 ∧ z1 ≤ 122))) (fun (_ : Unit) _ => True) (va_A [] sz)) 0 0 (va_A [] sz) := by
  refine Met.ofW (cc := cX8_isLetter) (maxL := 1) (ret := (some .boolean)) (by decide) rfl ?_
  intro p e s m args below meth c s₁ B hml hv
  obtain ⟨rfl, hsz, hP, hK, hN⟩ := hv
  have hx := B.exec
  have hb := B.bytes
  have hr := B.returns
  have hts := atoms_spec (ws := wp_k_sLetter) B.pre
  have hown : s.vm.findClass RX8 = some m.cls := findClass_of_methodNamed B.named
  have hlocks := B.notSynchronized
  subst hsz
  generalize hAe : va_A [] s.heap.size = A at ⊢
  have hA : ∀ q : Nat, s.heap.size ≤ q → A q := fun q h => by rw [← hAe]; exact Or.inr h
  have hS : va_S A s.heap s.heap [] := va_S.rf
  have hP : va_P D vwCl [] s.heap := hP
  have hl := lv_entry ([.int z1]) (n := 1) (Nat.le_of_ble_eq_true rfl)
  rw [lg_entry_eq]
  generalize (lg_sl ([.int z1]) ++ List.replicate (1 - (lg_sl ([.int z1])).length) Slot.unset).toArray = ls at hl ⊢
  have hl : lv_has ls 1 [(0, .int z1)] := hl
  refine lv_iload_n hx hb dX8_isLetter_0 rfl (lv_at hl 0 rfl) ?_
  refine lv_bipush (v := 97) hx hb dX8_isLetter_1 (by decide) ?_
  refine lv_icmp_lt (tgt := 16) hx hb dX8_isLetter_3 (by decide) (fun hc1 => ?_) (fun hc1 => ?_)
  ·
    refine lv_iconst (v := 0) hx hb dX8_isLetter_16 (by decide) ?_
    exact W.zret (v := 0) hx hb hr rfl (fun t ht hW => ⟨⟨0, (), rfl, Or.inr ⟨rfl, fun z => absurd hc1 (Int32.not_lt.mpr z.1)⟩, trivial⟩, hS.F ht⟩) hS.2.2 dX8_isLetter_17
  ·
    refine lv_iload_n hx hb dX8_isLetter_6 rfl (lv_at hl 0 rfl) ?_
    refine lv_bipush (v := 122) hx hb dX8_isLetter_7 (by decide) ?_
    refine lv_icmp_gt (tgt := 16) hx hb dX8_isLetter_9 (by decide) (fun hc2 => ?_) (fun hc2 => ?_)
    ·
      refine lv_iconst (v := 0) hx hb dX8_isLetter_16 (by decide) ?_
      exact W.zret (v := 0) hx hb hr rfl (fun t ht hW => ⟨⟨0, (), rfl, Or.inr ⟨rfl, fun z => absurd hc2 (Int32.not_lt.mpr z.2)⟩, trivial⟩, hS.F ht⟩) hS.2.2 dX8_isLetter_17
    ·
      refine lv_iconst (v := 1) hx hb dX8_isLetter_12 (by decide) ?_
      refine lv_goto (tgt := 17) hx hb dX8_isLetter_13 (by decide) ?_
      exact W.zret (v := 1) hx hb hr rfl (fun t ht hW => ⟨⟨1, (), rfl, Or.inl ⟨rfl, Int32.not_lt.mp hc1, Int32.not_lt.mp hc2⟩, trivial⟩, hS.F ht⟩) hS.2.2 dX8_isLetter_17

def own_k_takeNumber : List Cond := [.fieldLink RX8 28 "ClashFree$Scanner" "behind" "I", .fieldLink RX8 21 "ClashFree$Scanner" "length" "I", .fieldLink RX8 9 "ClashFree$Scanner" "text" "[I", .methodLink RX8 42 yX8_isDigit, .static yX8_isDigit, .initialized RX8, .fieldLink RX8 25 "ClashFree$Scanner" "at" "I", .fieldLink RX8 59 "ClashFree$Scanner" "number" "I", .fieldLink RX8 31 "ClashFree$Scanner" "kind" "I"]
def wp_k_takeNumber : List Cond := .code yX8_takeNumber cX8_takeNumber 1 none :: (own_k_takeNumber ++ (wp_k_sDigit ++ (wsX80 ++ ([] : List Cond))))
set_option maxRecDepth 20000 in
theorem inown_k_takeNumber : ∀ w ∈ own_k_takeNumber, w ∈ lw_tbl := mem_places [306, 303, 302, 932, 933, 113, 304, 309, 307] (by decide +kernel)
set_option maxRecDepth 20000 in
theorem in_k_takeNumber : ∀ w ∈ wp_k_takeNumber, w ∈ lw_tbl := List.forall_mem_cons.mpr ⟨List.mem_of_getElem? (i := 941) (by decide +kernel), List.forall_mem_append.mpr ⟨inown_k_takeNumber, List.forall_mem_append.mpr ⟨in_k_sDigit, List.forall_mem_append.mpr ⟨lwb_X8, fun _ h => absurd h List.not_mem_nil⟩⟩⟩⟩
set_option maxRecDepth 20000 in
theorem good_k_takeNumber : wp_k_takeNumber.all goodWord = true := by decide +kernel
set_option maxRecDepth 20000 in
theorem g_k_takeNumber_k_sDigit_42 : GoodIn wp_k_takeNumber (va_wsS RX8 42 yX8_isDigit wp_k_sDigit) := goodIn_sub (List.forall_mem_append.mpr ⟨List.forall_mem_cons.mpr ⟨(List.mem_of_getElem? (i := 4) rfl), List.forall_mem_cons.mpr ⟨(List.mem_of_getElem? (i := 5) rfl), List.forall_mem_cons.mpr ⟨(List.mem_of_getElem? (i := 6) rfl), fun _ h => absurd h List.not_mem_nil⟩⟩⟩, (fun _ h => (List.mem_cons_of_mem _ (List.mem_append_right _ (List.mem_append_left _ h))))⟩) (by decide +kernel)
set_option maxHeartbeats 4000000 in
set_option maxRecDepth 100000 in
theorem lk_tn (l : Launch) {p : Program} {e : Env} {s : State} {m : MethodId} {args : Array Value} {below : List Frame} {meth : Method} {c : Code} {Q : State → Prop} {A : Nat → Prop} (D : va_G) (oq : Nat → Nat) (ox : Nat → Nat) (cI : ClassId) (zl : Nat) (ta : Nat) (ki : Int32) (wo : Int32) (fT : Nat → Int32) (bt : Nat → Nat) (hzl : zl ≤ 1400) (hta : ta ≤ zl) (hbt : TieC fT bt) (hx : p.tables.exec = Jvm.exec) (hb : c.code = cX8_takeNumber) (hml : c.maxLocals = 1) (hown : s.vm.findClass RX8 = some m.cls) (hts : ∀ w ∈ wp_k_takeNumber, w.before args s = true) (hA : ∀ q, s.heap.size ≤ q → A q) (hK : va_K D vwCl [(cI, .int)] s) (hN : NC s) (kx90 : ∀ (y : Nat), ∀ (nu1 : Int32), (y ≤ zl) → (ta ≤ y) → (spE (dgB bt) zl ta = spE (dgB bt) zl y) → (nu1 = nI (nmN bt ta (min 6 (y - ta)))) → (spE (dgB bt) zl y = y) → ∀ (H : Heap) (locs : List Loc) (ls : Array Slot), va_P D vwCl [(oq 5, .inr (8, [.ref (ox 2), .int (nI zl), .int (nI ta), .int (nI y), .int ki, .int nu1, .int wo])), (ox 2, .inl (cI, 1400, .inl fT))] H → va_D A [(oq 5, .inr (8, [.ref (ox 2), .int (nI zl), .int (nI ta), .int (nI y), .int ki, .int nu1, .int wo])), (ox 2, .inl (cI, 1400, .inl fT))] → va_S A s.heap H locs → lv_has ls 1 [(0, .ref (oq 5))] → W p l e ({ frames := 1, cells := 0, slots := 0, locals := 40 }) s m args below meth c H locs 0 0 Q (F0 m 90 ls [])) : ∀ (N : Nat), ∀ (y : Nat), ∀ (nu1 : Int32), (y ≤ zl) → (ta ≤ y) → (spE (dgB bt) zl ta = spE (dgB bt) zl y) → (nu1 = nI (nmN bt ta (min 6 (y - ta)))) → zl - y < N → ∀ (H : Heap) (locs : List Loc) (ls : Array Slot), va_P D vwCl [(oq 5, .inr (8, [.ref (ox 2), .int (nI zl), .int (nI ta), .int (nI y), .int ki, .int nu1, .int wo])), (ox 2, .inl (cI, 1400, .inl fT))] H → va_D A [(oq 5, .inr (8, [.ref (ox 2), .int (nI zl), .int (nI ta), .int (nI y), .int ki, .int nu1, .int wo])), (ox 2, .inl (cI, 1400, .inl fT))] → va_S A s.heap H locs → lv_has ls 1 [(0, .ref (oq 5))] → W p l e ({ frames := 1, cells := 0, slots := 0, locals := 40 }) s m args below meth c H locs 0 0 Q (F0 m 13 ls []) := by
  have hin_X8 : ∀ w ∈ wsX80, w ∈ wp_k_takeNumber := fun _ h => (List.mem_cons_of_mem _ (List.mem_append_right _ (List.mem_append_right _ (List.mem_append_left _ h))))
  intro N
  induction N with
  | zero =>
    intro y nu1 hy1 hy2 hsp hnu hm
    exact absurd hm (Nat.not_lt_zero _)
  | succ N ih =>
    intro y nu1 hy1 hy2 hsp hnu hm H locs ls hP hD hS hl
    refine lv_aload_n hx hb dX8_takeNumber_13 rfl (lv_at hl 0 rfl) ?_
    refine va_get (D := D) (ci := 8) (v := .int (nI y)) (C := RX8) (T := TX8) (N := 7) hx hb hts hin_X8 hown hK hP 0 rfl rfl 3 (by decide) (hts (.fieldLink RX8 28 "ClashFree$Scanner" "behind" "I") (List.mem_of_getElem? (i := 1) rfl)) (fun _ h9 => h9) rfl dX8_takeNumber_14 ?_
    refine lv_aload_n hx hb dX8_takeNumber_17 rfl (lv_at hl 0 rfl) ?_
    refine va_get (D := D) (ci := 8) (v := .int (nI zl)) (C := RX8) (T := TX8) (N := 7) hx hb hts hin_X8 hown hK hP 0 rfl rfl 1 (by decide) (hts (.fieldLink RX8 21 "ClashFree$Scanner" "length" "I") (List.mem_of_getElem? (i := 2) rfl)) (fun _ h9 => h9) rfl dX8_takeNumber_18 ?_
    refine lv_icmp_ge (tgt := 90) hx hb dX8_takeNumber_21 (by decide) (fun hc1 => ?_) (fun hc1 => ?_)
    ·
      have hlt : zl ≤ y := (nI_leI (by omega) (by omega)).mp hc1
      exact kx90 y nu1 (hy1) (hy2) (hsp) (hnu) (sp_F (fun q => absurd q.1 (by omega))) H locs ls (hP.sub [0, 1] rfl) (hD.sub [0, 1] (by decide) rfl) hS (lv_sub hl [0] rfl)
    ·
      have hlt : y < zl := by
        rcases Nat.lt_or_ge y (zl) with z | z
        · exact z
        · exact absurd (nI_le z (by omega)) hc1
      refine lv_aload_n hx hb dX8_takeNumber_24 rfl (lv_at hl 0 rfl) ?_
      refine va_get (D := D) (ci := 8) (v := .ref (ox 2)) (C := RX8) (T := TX8) (N := 7) hx hb hts hin_X8 hown hK hP 0 rfl rfl 0 (by decide) (hts (.fieldLink RX8 9 "ClashFree$Scanner" "text" "[I") (List.mem_of_getElem? (i := 3) rfl)) (fun _ h9 => h9) rfl dX8_takeNumber_25 ?_
      refine lv_aload_n hx hb dX8_takeNumber_28 rfl (lv_at hl 0 rfl) ?_
      refine va_get (D := D) (ci := 8) (v := .int (nI y)) (C := RX8) (T := TX8) (N := 7) hx hb hts hin_X8 hown hK hP 0 rfl rfl 3 (by decide) (hts (.fieldLink RX8 28 "ClashFree$Scanner" "behind" "I") (List.mem_of_getElem? (i := 1) rfl)) (fun _ h9 => h9) rfl dX8_takeNumber_29 ?_
      refine va_iald hx hb hK hP 1 0 rfl rfl (vp_in_nI (by omega) (by decide)) dX8_takeNumber_32 ?_
      refine lv_topi (fun v2 ev2 => ?_)
      obtain rfl : v2 = nI (bt y) := ev2.trans (by rw [nI_clamp (by omega)]; exact (hbt _).1)
      have hPc := hP.sub (ws' := []) [] rfl
      have hKc := hK.sub (tys' := []) [] rfl
      have hFc := va_free0 hS hA
      refine va_calli (va_runS (As := [.int (nI (bt y))]) (rest := []) ⟨hx, hb, hml, hown, hts⟩ (k_sDigit l D _ cI (nI (bt y))) (va_cwS 1 hts g_k_takeNumber_k_sDigit_42 rfl rfl rfl (by decide +kernel) ⟨(Nat.le_of_ble_eq_true rfl), (Nat.le_of_ble_eq_true rfl)⟩) (PcRC_S hPc hKc hN) rfl rfl hl.1 rfl (lv_room (Nat.le_of_ble_eq_true rfl)) dX8_takeNumber_33 ⟨(Nat.le_of_ble_eq_true rfl), (Nat.le_of_ble_eq_true rfl)⟩) hS (fun q _ h => hFc q h) hFc (fun r3 uu tt H locs htt hvm hw hB hz1 hk1 hS => ?_)
      have hP := va_keep hP hk1
      try dsimp only at hw
      clear hB hz1 hk1 hFc hPc hKc
      rcases hw with ⟨rfl, hA_r3⟩ | ⟨rfl, hA_r3⟩
      ·
        have hdg : dgB bt y = true := (dgI (hbt y).2).mp hA_r3
        have hd48 : 48 ≤ bt y := by
          have := of_decide_eq_true hdg
          omega
        refine lv_if_eq (tgt := 90) hx hb dX8_takeNumber_36 (by decide) (fun hc => absurd hc (by decide)) (fun hc => ?_)
        refine lv_aload_n hx hb dX8_takeNumber_39 rfl (lv_at hl 0 rfl) ?_
        refine va_get (D := D) (ci := 8) (v := .int (nI y)) (C := RX8) (T := TX8) (N := 7) hx hb hts hin_X8 hown hK hP 0 rfl rfl 3 (by decide) (hts (.fieldLink RX8 28 "ClashFree$Scanner" "behind" "I") (List.mem_of_getElem? (i := 1) rfl)) (fun _ h9 => h9) rfl dX8_takeNumber_40 ?_
        refine lv_aload_n hx hb dX8_takeNumber_43 rfl (lv_at hl 0 rfl) ?_
        refine va_get (D := D) (ci := 8) (v := .int (nI ta)) (C := RX8) (T := TX8) (N := 7) hx hb hts hin_X8 hown hK hP 0 rfl rfl 2 (by decide) (hts (.fieldLink RX8 25 "ClashFree$Scanner" "at" "I") (List.mem_of_getElem? (i := 7) rfl)) (fun _ h9 => h9) rfl dX8_takeNumber_44 ?_
        refine lv_isub hx hb dX8_takeNumber_47 ?_
        refine lv_topi (fun v4 ev4 => ?_)
        obtain rfl : v4 = nI (y - ta) := ev4.trans (pk_sub (by omega))
        refine lv_bipush (v := 6) hx hb dX8_takeNumber_48 (by decide) ?_
        refine lv_icmp_ge (tgt := 77) hx hb dX8_takeNumber_50 (by decide) (fun hc5 => ?_) (fun hc5 => ?_)
        ·
          have h6 : 6 ≤ y - ta := (nI_leI (a := 6) (by decide) (by omega)).mp hc5
          refine lv_aload_n hx hb dX8_takeNumber_77 rfl (lv_at hl 0 rfl) ?_
          refine lv_dup hx hb dX8_takeNumber_78 rfl ?_
          refine va_get (D := D) (ci := 8) (v := .int (nI y)) (C := RX8) (T := TX8) (N := 7) hx hb hts hin_X8 hown hK hP 0 rfl rfl 3 (by decide) (hts (.fieldLink RX8 28 "ClashFree$Scanner" "behind" "I") (List.mem_of_getElem? (i := 1) rfl)) (fun _ h9 => h9) rfl dX8_takeNumber_79 ?_
          refine lv_iconst (v := 1) hx hb dX8_takeNumber_82 (by decide) ?_
          refine lv_iadd hx hb dX8_takeNumber_83 ?_
          refine lv_topi (fun v6 ev6 => ?_)
          obtain rfl : v6 = nI (y + 1) := ev6.trans (nI_1 _)
          refine va_put (D := D) (ci := 8) (v := .int (nI (y + 1))) (ty := .int) (C := RX8) (T := TX8) (N := 7) hx hb hts hin_X8 tyX8 tyX8_ok nmX8 hown hK hP hD hS 0 rfl rfl 3 (by decide) (hts (.fieldLink RX8 28 "ClashFree$Scanner" "behind" "I") (List.mem_of_getElem? (i := 1) rfl)) (fun _ h9 => h9) rfl (by decide +kernel) rfl rfl (Nat.le_of_ble_eq_true rfl) dX8_takeNumber_84 (fun H locs hP hD hS => ?_)
          have hP : va_P D vwCl [(oq 5, .inr (8, [.ref (ox 2), .int (nI zl), .int (nI ta), .int (nI (y + 1)), .int ki, .int nu1, .int wo])), (ox 2, .inl (cI, 1400, .inl fT))] H := hP
          have hD : va_D A [(oq 5, .inr (8, [.ref (ox 2), .int (nI zl), .int (nI ta), .int (nI (y + 1)), .int ki, .int nu1, .int wo])), (ox 2, .inl (cI, 1400, .inl fT))] := hD
          refine lv_goto (tgt := 13) hx hb dX8_takeNumber_87 (by decide) ?_
          exact ih (y + 1) nu1 (by omega) (by omega) (hsp.trans (sp_T hlt hdg)) (by rw [hnu, show min 6 (y - ta) = 6 by omega, show min 6 (y + 1 - ta) = 6 by omega]) (by omega) H locs ls (hP.sub [0, 1] rfl) (hD.sub [0, 1] (by decide) rfl) hS (lv_sub hl [0] rfl)
        ·
          have h6 : y - ta < 6 := by
            rcases Nat.lt_or_ge (y - ta) 6 with z | z
            · exact z
            · exact absurd (nI_le (a := 6) z (by omega)) hc5
          refine lv_aload_n hx hb dX8_takeNumber_53 rfl (lv_at hl 0 rfl) ?_
          refine lv_bipush (v := 10) hx hb dX8_takeNumber_54 (by decide) ?_
          refine lv_aload_n hx hb dX8_takeNumber_56 rfl (lv_at hl 0 rfl) ?_
          refine va_get (D := D) (ci := 8) (v := .int nu1) (C := RX8) (T := TX8) (N := 7) hx hb hts hin_X8 hown hK hP 0 rfl rfl 5 (by decide) (hts (.fieldLink RX8 59 "ClashFree$Scanner" "number" "I") (List.mem_of_getElem? (i := 8) rfl)) (fun _ h9 => h9) rfl dX8_takeNumber_57 ?_
          refine lv_imul hx hb dX8_takeNumber_60 ?_
          refine lv_aload_n hx hb dX8_takeNumber_61 rfl (lv_at hl 0 rfl) ?_
          refine va_get (D := D) (ci := 8) (v := .ref (ox 2)) (C := RX8) (T := TX8) (N := 7) hx hb hts hin_X8 hown hK hP 0 rfl rfl 0 (by decide) (hts (.fieldLink RX8 9 "ClashFree$Scanner" "text" "[I") (List.mem_of_getElem? (i := 3) rfl)) (fun _ h9 => h9) rfl dX8_takeNumber_62 ?_
          refine lv_aload_n hx hb dX8_takeNumber_65 rfl (lv_at hl 0 rfl) ?_
          refine va_get (D := D) (ci := 8) (v := .int (nI y)) (C := RX8) (T := TX8) (N := 7) hx hb hts hin_X8 hown hK hP 0 rfl rfl 3 (by decide) (hts (.fieldLink RX8 28 "ClashFree$Scanner" "behind" "I") (List.mem_of_getElem? (i := 1) rfl)) (fun _ h9 => h9) rfl dX8_takeNumber_66 ?_
          refine va_iald hx hb hK hP 1 0 rfl rfl (vp_in_nI (by omega) (by decide)) dX8_takeNumber_69 ?_
          refine lv_topi (fun v7 ev7 => ?_)
          obtain rfl : v7 = nI (bt y) := ev7.trans (by rw [nI_clamp (by omega)]; exact (hbt _).1)
          refine lv_iadd hx hb dX8_takeNumber_70 ?_
          refine lv_bipush (v := 48) hx hb dX8_takeNumber_71 (by decide) ?_
          refine lv_isub hx hb dX8_takeNumber_73 ?_
          refine lv_topi (fun v8 ev8 => ?_)
          obtain rfl : v8 = nI (nmN bt ta (min 6 (y - ta)) * 10 + (bt y - 48)) := ev8.trans (by rw [hnu]; exact nm_step hd48)
          refine va_put (D := D) (ci := 8) (v := .int (nI (nmN bt ta (min 6 (y - ta)) * 10 + (bt y - 48)))) (ty := .int) (C := RX8) (T := TX8) (N := 7) hx hb hts hin_X8 tyX8 tyX8_ok nmX8 hown hK hP hD hS 0 rfl rfl 5 (by decide) (hts (.fieldLink RX8 59 "ClashFree$Scanner" "number" "I") (List.mem_of_getElem? (i := 8) rfl)) (fun _ h9 => h9) rfl (by decide +kernel) rfl rfl (Nat.le_of_ble_eq_true rfl) dX8_takeNumber_74 (fun H locs hP hD hS => ?_)
          have hP : va_P D vwCl [(oq 5, .inr (8, [.ref (ox 2), .int (nI zl), .int (nI ta), .int (nI y), .int ki, .int (nI (nmN bt ta (min 6 (y - ta)) * 10 + (bt y - 48))), .int wo])), (ox 2, .inl (cI, 1400, .inl fT))] H := hP
          have hD : va_D A [(oq 5, .inr (8, [.ref (ox 2), .int (nI zl), .int (nI ta), .int (nI y), .int ki, .int (nI (nmN bt ta (min 6 (y - ta)) * 10 + (bt y - 48))), .int wo])), (ox 2, .inl (cI, 1400, .inl fT))] := hD
          refine lv_aload_n hx hb dX8_takeNumber_77 rfl (lv_at hl 0 rfl) ?_
          refine lv_dup hx hb dX8_takeNumber_78 rfl ?_
          refine va_get (D := D) (ci := 8) (v := .int (nI y)) (C := RX8) (T := TX8) (N := 7) hx hb hts hin_X8 hown hK hP 0 rfl rfl 3 (by decide) (hts (.fieldLink RX8 28 "ClashFree$Scanner" "behind" "I") (List.mem_of_getElem? (i := 1) rfl)) (fun _ h9 => h9) rfl dX8_takeNumber_79 ?_
          refine lv_iconst (v := 1) hx hb dX8_takeNumber_82 (by decide) ?_
          refine lv_iadd hx hb dX8_takeNumber_83 ?_
          refine lv_topi (fun v9 ev9 => ?_)
          obtain rfl : v9 = nI (y + 1) := ev9.trans (nI_1 _)
          refine va_put (D := D) (ci := 8) (v := .int (nI (y + 1))) (ty := .int) (C := RX8) (T := TX8) (N := 7) hx hb hts hin_X8 tyX8 tyX8_ok nmX8 hown hK hP hD hS 0 rfl rfl 3 (by decide) (hts (.fieldLink RX8 28 "ClashFree$Scanner" "behind" "I") (List.mem_of_getElem? (i := 1) rfl)) (fun _ h9 => h9) rfl (by decide +kernel) rfl rfl (Nat.le_of_ble_eq_true rfl) dX8_takeNumber_84 (fun H locs hP hD hS => ?_)
          have hP : va_P D vwCl [(oq 5, .inr (8, [.ref (ox 2), .int (nI zl), .int (nI ta), .int (nI (y + 1)), .int ki, .int (nI (nmN bt ta (min 6 (y - ta)) * 10 + (bt y - 48))), .int wo])), (ox 2, .inl (cI, 1400, .inl fT))] H := hP
          have hD : va_D A [(oq 5, .inr (8, [.ref (ox 2), .int (nI zl), .int (nI ta), .int (nI (y + 1)), .int ki, .int (nI (nmN bt ta (min 6 (y - ta)) * 10 + (bt y - 48))), .int wo])), (ox 2, .inl (cI, 1400, .inl fT))] := hD
          refine lv_goto (tgt := 13) hx hb dX8_takeNumber_87 (by decide) ?_
          exact ih (y + 1) (nI (nmN bt ta (min 6 (y - ta)) * 10 + (bt y - 48))) (by omega) (by omega) (hsp.trans (sp_T hlt hdg)) (by rw [show min 6 (y - ta) = y - ta by omega, show min 6 (y + 1 - ta) = (y - ta) + 1 by omega]; show _ = nI (nmN bt ta (y - ta) * 10 + (bt (ta + (y - ta)) - 48)); rw [show ta + (y - ta) = y by omega]) (by omega) H locs ls (hP.sub [0, 1] rfl) (hD.sub [0, 1] (by decide) rfl) hS (lv_sub hl [0] rfl)
      ·
        have hnd : ¬ (y < zl ∧ dgB bt y = true) := fun q => hA_r3 ((dgI (hbt y).2).mpr q.2)
        refine lv_if_eq (tgt := 90) hx hb dX8_takeNumber_36 (by decide) (fun hc => ?_) (fun hc => absurd (by decide) hc)
        exact kx90 y nu1 (hy1) (hy2) (hsp) (hnu) (sp_F hnd) H locs ls (hP.sub [0, 1] rfl) (hD.sub [0, 1] (by decide) rfl) hS (lv_sub hl [0] rfl)
set_option maxHeartbeats 4000000 in
set_option maxRecDepth 100000 in
theorem k_takeNumber (l : Launch) (D : va_G) (sz : Nat) (oq : Nat → Nat) (ox : Nat → Nat) (cI : ClassId) (zl : Nat) (ta : Nat) (be : Nat) (ki : Int32) (nu : Int32) (wo : Int32) (fT : Nat → Int32) (bt : Nat → Nat) (hzl : zl ≤ 1400) (hta : ta ≤ zl) (hbt : TieC fT bt) : Met l yX8_takeNumber wp_k_takeNumber ({ frames := 1, cells := 0, slots := 0, locals := 40 }) (PcWC D [.ref (oq 5)] sz [(oq 5, .inr (8, [.ref (ox 2), .int (nI zl), .int (nI ta), .int (nI be), .int ki, .int nu, .int wo])), (ox 2, .inl (cI, 1400, .inl fT))] [(cI, .int)]) (va_Qv (fun (u : (Nat) × (Int32) × (Int32)) => u.1 = spE (dgB bt) zl ta ∧ u.2.1 = nI (if 6 < spE (dgB bt) zl ta - ta then 1 else 2) ∧ u.2.2 = nI (nmN bt ta (min 6 (spE (dgB bt) zl ta - ta)))) (fun (u : (Nat) × (Int32) × (Int32)) t => va_P D vwCl [(oq 5, .inr (8, [.ref (ox 2), .int (nI zl), .int (nI ta), .int (nI u.1), .int u.2.1, .int u.2.2, .int wo])), (ox 2, .inl (cI, 1400, .inl fT))] t.heap ∧ va_K D vwCl [(cI, .int)] t ∧ va_D (va_A [(oq 5, .inr (8, [.ref (ox 2), .int (nI zl), .int (nI ta), .int (nI be), .int ki, .int nu, .int wo])), (ox 2, .inl (cI, 1400, .inl fT))] sz) [(oq 5, .inr (8, [.ref (ox 2), .int (nI zl), .int (nI ta), .int (nI u.1), .int u.2.1, .int u.2.2, .int wo])), (ox 2, .inl (cI, 1400, .inl fT))]) (va_A [(oq 5, .inr (8, [.ref (ox 2), .int (nI zl), .int (nI ta), .int (nI be), .int ki, .int nu, .int wo])), (ox 2, .inl (cI, 1400, .inl fT))] sz)) 0 0 (va_A [(oq 5, .inr (8, [.ref (ox 2), .int (nI zl), .int (nI ta), .int (nI be), .int ki, .int nu, .int wo])), (ox 2, .inl (cI, 1400, .inl fT))] sz) := by
  refine Met.ofW (cc := cX8_takeNumber) (maxL := 1) (ret := none) (by decide) rfl ?_
  intro p e s m args below meth c s₁ B hml hv
  obtain ⟨rfl, hsz, hP, hK, hD0, hN⟩ := hv
  have hx := B.exec
  have hb := B.bytes
  have hr := B.returns
  have hts := atoms_spec (ws := wp_k_takeNumber) B.pre
  have hin_X8 : ∀ w ∈ wsX80, w ∈ wp_k_takeNumber := fun _ h => (List.mem_cons_of_mem _ (List.mem_append_right _ (List.mem_append_right _ (List.mem_append_left _ h))))
  have hown : s.vm.findClass RX8 = some m.cls := findClass_of_methodNamed B.named
  have hlocks := B.notSynchronized
  subst hsz
  have hD := hD0.self (sz := s.heap.size)
  generalize hAe : va_A [(oq 5, .inr (8, [.ref (ox 2), .int (nI zl), .int (nI ta), .int (nI be), .int ki, .int nu, .int wo])), (ox 2, .inl (cI, 1400, .inl fT))] s.heap.size = A at hD ⊢
  have hA : ∀ q : Nat, s.heap.size ≤ q → A q := fun q h => by rw [← hAe]; exact Or.inr h
  have hS : va_S A s.heap s.heap [] := va_S.rf
  have hP : va_P D vwCl [(oq 5, .inr (8, [.ref (ox 2), .int (nI zl), .int (nI ta), .int (nI be), .int ki, .int nu, .int wo])), (ox 2, .inl (cI, 1400, .inl fT))] s.heap := hP
  have hl := lv_entry ([.ref (oq 5)]) (n := 1) (Nat.le_of_ble_eq_true rfl)
  rw [lg_entry_eq]
  generalize (lg_sl ([.ref (oq 5)]) ++ List.replicate (1 - (lg_sl ([.ref (oq 5)])).length) Slot.unset).toArray = ls at hl ⊢
  have hl : lv_has ls 1 [(0, .ref (oq 5))] := hl
  refine lv_aload_n hx hb dX8_takeNumber_0 rfl (lv_at hl 0 rfl) ?_
  refine lv_iconst (v := 0) hx hb dX8_takeNumber_1 (by decide) ?_
  refine va_put (D := D) (ci := 8) (v := .int 0) (ty := .int) (C := RX8) (T := TX8) (N := 7) hx hb hts hin_X8 tyX8 tyX8_ok nmX8 hown hK hP hD hS 0 rfl rfl 5 (by decide) (hts (.fieldLink RX8 59 "ClashFree$Scanner" "number" "I") (List.mem_of_getElem? (i := 8) rfl)) (fun _ h9 => h9) rfl (by decide +kernel) rfl rfl (Nat.le_of_ble_eq_true rfl) dX8_takeNumber_2 (fun H locs hP hD hS => ?_)
  have hP : va_P D vwCl [(oq 5, .inr (8, [.ref (ox 2), .int (nI zl), .int (nI ta), .int (nI be), .int ki, .int 0, .int wo])), (ox 2, .inl (cI, 1400, .inl fT))] H := hP
  have hD : va_D A [(oq 5, .inr (8, [.ref (ox 2), .int (nI zl), .int (nI ta), .int (nI be), .int ki, .int 0, .int wo])), (ox 2, .inl (cI, 1400, .inl fT))] := hD
  refine lv_aload_n hx hb dX8_takeNumber_5 rfl (lv_at hl 0 rfl) ?_
  refine lv_aload_n hx hb dX8_takeNumber_6 rfl (lv_at hl 0 rfl) ?_
  refine va_get (D := D) (ci := 8) (v := .int (nI ta)) (C := RX8) (T := TX8) (N := 7) hx hb hts hin_X8 hown hK hP 0 rfl rfl 2 (by decide) (hts (.fieldLink RX8 25 "ClashFree$Scanner" "at" "I") (List.mem_of_getElem? (i := 7) rfl)) (fun _ h9 => h9) rfl dX8_takeNumber_7 ?_
  refine va_put (D := D) (ci := 8) (v := .int (nI ta)) (ty := .int) (C := RX8) (T := TX8) (N := 7) hx hb hts hin_X8 tyX8 tyX8_ok nmX8 hown hK hP hD hS 0 rfl rfl 3 (by decide) (hts (.fieldLink RX8 28 "ClashFree$Scanner" "behind" "I") (List.mem_of_getElem? (i := 1) rfl)) (fun _ h9 => h9) rfl (by decide +kernel) rfl rfl (Nat.le_of_ble_eq_true rfl) dX8_takeNumber_10 (fun H locs hP hD hS => ?_)
  have hP : va_P D vwCl [(oq 5, .inr (8, [.ref (ox 2), .int (nI zl), .int (nI ta), .int (nI ta), .int ki, .int 0, .int wo])), (ox 2, .inl (cI, 1400, .inl fT))] H := hP
  have hD : va_D A [(oq 5, .inr (8, [.ref (ox 2), .int (nI zl), .int (nI ta), .int (nI ta), .int ki, .int 0, .int wo])), (ox 2, .inl (cI, 1400, .inl fT))] := hD
  refine lk_tn l D oq ox cI zl ta ki wo fT bt (hzl) (hta) (hbt) hx hb hml hown hts hA (hK.sub [0] rfl) hN ?_ (zl + 1) ta 0 (hta) (Nat.le_refl _) (rfl) (by rw [Nat.sub_self]; rfl) (by omega) _ _ _ (hP.sub [0, 1] rfl) (hD.sub [0, 1] (by decide) rfl) hS (lv_sub hl [0] rfl)
  intro y_1 nu1_2 hy1_3 hy2_4 hsp_5 hnu_6 hx7 H locs ls hP hD hS hl
  refine lv_aload_n hx hb dX8_takeNumber_90 rfl (lv_at hl 0 rfl) ?_
  refine lv_aload_n hx hb dX8_takeNumber_91 rfl (lv_at hl 0 rfl) ?_
  refine va_get (D := D) (ci := 8) (v := .int (nI y_1)) (C := RX8) (T := TX8) (N := 7) hx hb hts hin_X8 hown hK hP 0 rfl rfl 3 (by decide) (hts (.fieldLink RX8 28 "ClashFree$Scanner" "behind" "I") (List.mem_of_getElem? (i := 1) rfl)) (fun _ h9 => h9) rfl dX8_takeNumber_92 ?_
  refine lv_aload_n hx hb dX8_takeNumber_95 rfl (lv_at hl 0 rfl) ?_
  refine va_get (D := D) (ci := 8) (v := .int (nI ta)) (C := RX8) (T := TX8) (N := 7) hx hb hts hin_X8 hown hK hP 0 rfl rfl 2 (by decide) (hts (.fieldLink RX8 25 "ClashFree$Scanner" "at" "I") (List.mem_of_getElem? (i := 7) rfl)) (fun _ h9 => h9) rfl dX8_takeNumber_96 ?_
  refine lv_isub hx hb dX8_takeNumber_99 ?_
  refine lv_topi (fun v8 ev8 => ?_)
  obtain rfl : v8 = nI (y_1 - ta) := ev8.trans (pk_sub (by omega))
  refine lv_bipush (v := 6) hx hb dX8_takeNumber_100 (by decide) ?_
  refine lv_icmp_le (tgt := 109) hx hb dX8_takeNumber_102 (by decide) (fun hc9 => ?_) (fun hc9 => ?_)
  ·
    have hE : spE (dgB bt) zl ta = y_1 := hsp_5.trans hx7
    have hk6 : (if 6 < spE (dgB bt) zl ta - ta then (1 : Nat) else 2) = 2 := if_neg (by rw [hE]; have := (nI_leI (b := 6) (by omega) (by decide)).mp hc9; omega)
    refine lv_iconst (v := 2) hx hb dX8_takeNumber_109 (by decide) ?_
    refine va_put (D := D) (ci := 8) (v := .int 2) (ty := .int) (C := RX8) (T := TX8) (N := 7) hx hb hts hin_X8 tyX8 tyX8_ok nmX8 hown hK hP hD hS 0 rfl rfl 4 (by decide) (hts (.fieldLink RX8 31 "ClashFree$Scanner" "kind" "I") (List.mem_of_getElem? (i := 9) rfl)) (fun _ h9 => h9) rfl (by decide +kernel) rfl rfl (Nat.le_of_ble_eq_true rfl) dX8_takeNumber_110 (fun H locs hP hD hS => ?_)
    have hP : va_P D vwCl [(oq 5, .inr (8, [.ref (ox 2), .int (nI zl), .int (nI ta), .int (nI y_1), .int 2, .int nu1_2, .int wo])), (ox 2, .inl (cI, 1400, .inl fT))] H := hP
    have hD : va_D A [(oq 5, .inr (8, [.ref (ox 2), .int (nI zl), .int (nI ta), .int (nI y_1), .int 2, .int nu1_2, .int wo])), (ox 2, .inl (cI, 1400, .inl fT))] := hD
    exact W.vret hx hb hr (fun t ht hW => ⟨⟨(y_1, 2, nu1_2), rfl, (by (try dsimp only); first | done | exact ⟨hE.symm, by rw [hk6]; rfl, by rw [hE]; exact hnu_6⟩), by rw [ht]; exact hP.sub [0, 1] rfl, va_K.moved hW.alike (hK.sub [0] rfl), hD.sub [0, 1] (by decide) rfl⟩, hS.F ht⟩) hS.2.2 dX8_takeNumber_113
  ·
    have hE : spE (dgB bt) zl ta = y_1 := hsp_5.trans hx7
    have h69 : 6 < y_1 - ta := by
      rcases Nat.lt_or_ge 6 (y_1 - ta) with z | z
      · exact z
      · exact absurd (nI_le (b := 6) z (by decide)) hc9
    have hk6 : (if 6 < spE (dgB bt) zl ta - ta then (1 : Nat) else 2) = 1 := if_pos (by rw [hE]; exact h69)
    refine lv_iconst (v := 1) hx hb dX8_takeNumber_105 (by decide) ?_
    refine lv_goto (tgt := 110) hx hb dX8_takeNumber_106 (by decide) ?_
    refine va_put (D := D) (ci := 8) (v := .int 1) (ty := .int) (C := RX8) (T := TX8) (N := 7) hx hb hts hin_X8 tyX8 tyX8_ok nmX8 hown hK hP hD hS 0 rfl rfl 4 (by decide) (hts (.fieldLink RX8 31 "ClashFree$Scanner" "kind" "I") (List.mem_of_getElem? (i := 9) rfl)) (fun _ h9 => h9) rfl (by decide +kernel) rfl rfl (Nat.le_of_ble_eq_true rfl) dX8_takeNumber_110 (fun H locs hP hD hS => ?_)
    have hP : va_P D vwCl [(oq 5, .inr (8, [.ref (ox 2), .int (nI zl), .int (nI ta), .int (nI y_1), .int 1, .int nu1_2, .int wo])), (ox 2, .inl (cI, 1400, .inl fT))] H := hP
    have hD : va_D A [(oq 5, .inr (8, [.ref (ox 2), .int (nI zl), .int (nI ta), .int (nI y_1), .int 1, .int nu1_2, .int wo])), (ox 2, .inl (cI, 1400, .inl fT))] := hD
    exact W.vret hx hb hr (fun t ht hW => ⟨⟨(y_1, 1, nu1_2), rfl, (by (try dsimp only); first | done | exact ⟨hE.symm, by rw [hk6]; rfl, by rw [hE]; exact hnu_6⟩), by rw [ht]; exact hP.sub [0, 1] rfl, va_K.moved hW.alike (hK.sub [0] rfl), hD.sub [0, 1] (by decide) rfl⟩, hS.F ht⟩) hS.2.2 dX8_takeNumber_113

def own_k_takeSign : List Cond := [.fieldLink RX8 25 "ClashFree$Scanner" "at" "I", .fieldLink RX8 28 "ClashFree$Scanner" "behind" "I", .fieldLink RX8 31 "ClashFree$Scanner" "kind" "I"]
def wp_k_takeSign : List Cond := .code yX8_takeSign cX8_takeSign 2 none :: (own_k_takeSign ++ (wsX80 ++ ([] : List Cond)))
set_option maxRecDepth 20000 in
theorem inown_k_takeSign : ∀ w ∈ own_k_takeSign, w ∈ lw_tbl := mem_places [304, 306, 307] (by decide +kernel)
set_option maxRecDepth 20000 in
theorem in_k_takeSign : ∀ w ∈ wp_k_takeSign, w ∈ lw_tbl := List.forall_mem_cons.mpr ⟨List.mem_of_getElem? (i := 1014) (by decide +kernel), List.forall_mem_append.mpr ⟨inown_k_takeSign, List.forall_mem_append.mpr ⟨lwb_X8, fun _ h => absurd h List.not_mem_nil⟩⟩⟩
set_option maxRecDepth 20000 in
theorem good_k_takeSign : wp_k_takeSign.all goodWord = true := by decide +kernel
set_option maxHeartbeats 4000000 in
set_option maxRecDepth 100000 in
theorem k_takeSign (l : Launch) (D : va_G) (sz : Nat) (oq : Nat → Nat) (ox : Nat → Nat) (cI : ClassId) (zl : Nat) (ta : Nat) (be : Nat) (ki : Int32) (nu : Int32) (wo : Int32) (z1 : Int32) (ch : Nat) (hzl : zl ≤ 1400) (htl : ta < zl) (hz : z1 = nI ch) (hch : ch ≤ 255) : Met l yX8_takeSign wp_k_takeSign ({ frames := 0, cells := 0, slots := 0, locals := 0 }) (PcWC D [.ref (oq 5), .int z1] sz [(oq 5, .inr (8, [.ref (ox 2), .int (nI zl), .int (nI ta), .int (nI be), .int ki, .int nu, .int wo]))] []) (va_Qv (fun (u : (Nat) × (Int32)) => u.1 = ta + 1 ∧ u.2 = nI (if sgC ch = true then ch else 1)) (fun (u : (Nat) × (Int32)) t => va_P D vwCl [(oq 5, .inr (8, [.ref (ox 2), .int (nI zl), .int (nI ta), .int (nI u.1), .int u.2, .int nu, .int wo]))] t.heap ∧ va_K D vwCl [] t ∧ va_D (va_A [(oq 5, .inr (8, [.ref (ox 2), .int (nI zl), .int (nI ta), .int (nI be), .int ki, .int nu, .int wo]))] sz) [(oq 5, .inr (8, [.ref (ox 2), .int (nI zl), .int (nI ta), .int (nI u.1), .int u.2, .int nu, .int wo]))]) (va_A [(oq 5, .inr (8, [.ref (ox 2), .int (nI zl), .int (nI ta), .int (nI be), .int ki, .int nu, .int wo]))] sz)) 0 0 (va_A [(oq 5, .inr (8, [.ref (ox 2), .int (nI zl), .int (nI ta), .int (nI be), .int ki, .int nu, .int wo]))] sz) := by
  refine Met.ofW (cc := cX8_takeSign) (maxL := 2) (ret := none) (by decide) rfl ?_
  intro p e s m args below meth c s₁ B hml hv
  obtain ⟨rfl, hsz, hP, hK, hD0, hN⟩ := hv
  have hx := B.exec
  have hb := B.bytes
  have hr := B.returns
  have hts := atoms_spec (ws := wp_k_takeSign) B.pre
  have hin_X8 : ∀ w ∈ wsX80, w ∈ wp_k_takeSign := fun _ h => (List.mem_cons_of_mem _ (List.mem_append_right _ (List.mem_append_left _ h)))
  have hown : s.vm.findClass RX8 = some m.cls := findClass_of_methodNamed B.named
  have hlocks := B.notSynchronized
  subst hsz
  have hD := hD0.self (sz := s.heap.size)
  generalize hAe : va_A [(oq 5, .inr (8, [.ref (ox 2), .int (nI zl), .int (nI ta), .int (nI be), .int ki, .int nu, .int wo]))] s.heap.size = A at hD ⊢
  have hA : ∀ q : Nat, s.heap.size ≤ q → A q := fun q h => by rw [← hAe]; exact Or.inr h
  have hS : va_S A s.heap s.heap [] := va_S.rf
  have hP : va_P D vwCl [(oq 5, .inr (8, [.ref (ox 2), .int (nI zl), .int (nI ta), .int (nI be), .int ki, .int nu, .int wo]))] s.heap := hP
  have hl := lv_entry ([.ref (oq 5), .int z1]) (n := 2) (Nat.le_of_ble_eq_true rfl)
  rw [lg_entry_eq]
  generalize (lg_sl ([.ref (oq 5), .int z1]) ++ List.replicate (2 - (lg_sl ([.ref (oq 5), .int z1])).length) Slot.unset).toArray = ls at hl ⊢
  have hl : lv_has ls 2 [(0, .ref (oq 5)), (1, .int z1)] := hl
  refine lv_aload_n hx hb dX8_takeSign_0 rfl (lv_at hl 0 rfl) ?_
  refine lv_aload_n hx hb dX8_takeSign_1 rfl (lv_at hl 0 rfl) ?_
  refine va_get (D := D) (ci := 8) (v := .int (nI ta)) (C := RX8) (T := TX8) (N := 7) hx hb hts hin_X8 hown hK hP 0 rfl rfl 2 (by decide) (hts (.fieldLink RX8 25 "ClashFree$Scanner" "at" "I") (List.mem_of_getElem? (i := 1) rfl)) (fun _ h9 => h9) rfl dX8_takeSign_2 ?_
  refine va_put (D := D) (ci := 8) (v := .int (nI ta)) (ty := .int) (C := RX8) (T := TX8) (N := 7) hx hb hts hin_X8 tyX8 tyX8_ok nmX8 hown hK hP hD hS 0 rfl rfl 3 (by decide) (hts (.fieldLink RX8 28 "ClashFree$Scanner" "behind" "I") (List.mem_of_getElem? (i := 2) rfl)) (fun _ h9 => h9) rfl (by decide +kernel) rfl rfl (Nat.le_of_ble_eq_true rfl) dX8_takeSign_5 (fun H locs hP hD hS => ?_)
  have hP : va_P D vwCl [(oq 5, .inr (8, [.ref (ox 2), .int (nI zl), .int (nI ta), .int (nI ta), .int ki, .int nu, .int wo]))] H := hP
  have hD : va_D A [(oq 5, .inr (8, [.ref (ox 2), .int (nI zl), .int (nI ta), .int (nI ta), .int ki, .int nu, .int wo]))] := hD
  refine lv_iload_n hx hb dX8_takeSign_8 rfl (lv_at hl 1 rfl) ?_
  refine lv_iconst (v := (-1)) hx hb dX8_takeSign_9 (by decide) ?_
  refine lv_icmp_ne (tgt := 19) hx hb dX8_takeSign_10 (by decide) (fun hc => ?_) (fun hc => absurd hc (by rw [hz]; exact nI_m1 hch))
  refine lv_aload_n hx hb dX8_takeSign_19 rfl (lv_at hl 0 rfl) ?_
  refine lv_dup hx hb dX8_takeSign_20 rfl ?_
  refine va_get (D := D) (ci := 8) (v := .int (nI ta)) (C := RX8) (T := TX8) (N := 7) hx hb hts hin_X8 hown hK hP 0 rfl rfl 3 (by decide) (hts (.fieldLink RX8 28 "ClashFree$Scanner" "behind" "I") (List.mem_of_getElem? (i := 2) rfl)) (fun _ h9 => h9) rfl dX8_takeSign_21 ?_
  refine lv_iconst (v := 1) hx hb dX8_takeSign_24 (by decide) ?_
  refine lv_iadd hx hb dX8_takeSign_25 ?_
  refine lv_topi (fun v1 ev1 => ?_)
  obtain rfl : v1 = nI (ta + 1) := ev1.trans (nI_1 _)
  refine va_put (D := D) (ci := 8) (v := .int (nI (ta + 1))) (ty := .int) (C := RX8) (T := TX8) (N := 7) hx hb hts hin_X8 tyX8 tyX8_ok nmX8 hown hK hP hD hS 0 rfl rfl 3 (by decide) (hts (.fieldLink RX8 28 "ClashFree$Scanner" "behind" "I") (List.mem_of_getElem? (i := 2) rfl)) (fun _ h9 => h9) rfl (by decide +kernel) rfl rfl (Nat.le_of_ble_eq_true rfl) dX8_takeSign_26 (fun H locs hP hD hS => ?_)
  have hP : va_P D vwCl [(oq 5, .inr (8, [.ref (ox 2), .int (nI zl), .int (nI ta), .int (nI (ta + 1)), .int ki, .int nu, .int wo]))] H := hP
  have hD : va_D A [(oq 5, .inr (8, [.ref (ox 2), .int (nI zl), .int (nI ta), .int (nI (ta + 1)), .int ki, .int nu, .int wo]))] := hD
  refine lv_iload_n hx hb dX8_takeSign_29 rfl (lv_at hl 1 rfl) ?_
  by_cases hs2 : z1 = 37
  ·
    subst hs2
    refine lv_lookup (off := 90) (tgt := 120) hx hb dX8_takeSign_30 (by decide +kernel) (by decide +kernel) (by decide) ?_
    refine lv_aload_n hx hb dX8_takeSign_120 rfl (lv_at hl 0 rfl) ?_
    refine lv_iload_n hx hb dX8_takeSign_121 rfl (lv_at hl 1 rfl) ?_
    refine va_put (D := D) (ci := 8) (v := .int 37) (ty := .int) (C := RX8) (T := TX8) (N := 7) hx hb hts hin_X8 tyX8 tyX8_ok nmX8 hown hK hP hD hS 0 rfl rfl 4 (by decide) (hts (.fieldLink RX8 31 "ClashFree$Scanner" "kind" "I") (List.mem_of_getElem? (i := 3) rfl)) (fun _ h9 => h9) rfl (by decide +kernel) rfl rfl (Nat.le_of_ble_eq_true rfl) dX8_takeSign_122 (fun H locs hP hD hS => ?_)
    have hP : va_P D vwCl [(oq 5, .inr (8, [.ref (ox 2), .int (nI zl), .int (nI ta), .int (nI (ta + 1)), .int 37, .int nu, .int wo]))] H := hP
    have hD : va_D A [(oq 5, .inr (8, [.ref (ox 2), .int (nI zl), .int (nI ta), .int (nI (ta + 1)), .int 37, .int nu, .int wo]))] := hD
    refine lv_goto (tgt := 133) hx hb dX8_takeSign_125 (by decide) ?_
    exact W.vret hx hb hr (fun t ht hW => ⟨⟨((ta + 1), 37), rfl, (by (try dsimp only); first | done | exact ⟨rfl, by rw [show ch = 37 from (nI_eq (b := 37) (by omega) (by decide)).mp hz.symm]; rfl⟩), by rw [ht]; exact hP.sub [0] rfl, va_K.moved hW.alike (hK.sub [] rfl), hD.sub [0] (by decide) rfl⟩, hS.F ht⟩) hS.2.2 dX8_takeSign_133
  by_cases hs3 : z1 = 40
  ·
    subst hs3
    refine lv_lookup (off := 90) (tgt := 120) hx hb dX8_takeSign_30 (by decide +kernel) (by decide +kernel) (by decide) ?_
    refine lv_aload_n hx hb dX8_takeSign_120 rfl (lv_at hl 0 rfl) ?_
    refine lv_iload_n hx hb dX8_takeSign_121 rfl (lv_at hl 1 rfl) ?_
    refine va_put (D := D) (ci := 8) (v := .int 40) (ty := .int) (C := RX8) (T := TX8) (N := 7) hx hb hts hin_X8 tyX8 tyX8_ok nmX8 hown hK hP hD hS 0 rfl rfl 4 (by decide) (hts (.fieldLink RX8 31 "ClashFree$Scanner" "kind" "I") (List.mem_of_getElem? (i := 3) rfl)) (fun _ h9 => h9) rfl (by decide +kernel) rfl rfl (Nat.le_of_ble_eq_true rfl) dX8_takeSign_122 (fun H locs hP hD hS => ?_)
    have hP : va_P D vwCl [(oq 5, .inr (8, [.ref (ox 2), .int (nI zl), .int (nI ta), .int (nI (ta + 1)), .int 40, .int nu, .int wo]))] H := hP
    have hD : va_D A [(oq 5, .inr (8, [.ref (ox 2), .int (nI zl), .int (nI ta), .int (nI (ta + 1)), .int 40, .int nu, .int wo]))] := hD
    refine lv_goto (tgt := 133) hx hb dX8_takeSign_125 (by decide) ?_
    exact W.vret hx hb hr (fun t ht hW => ⟨⟨((ta + 1), 40), rfl, (by (try dsimp only); first | done | exact ⟨rfl, by rw [show ch = 40 from (nI_eq (b := 40) (by omega) (by decide)).mp hz.symm]; rfl⟩), by rw [ht]; exact hP.sub [0] rfl, va_K.moved hW.alike (hK.sub [] rfl), hD.sub [0] (by decide) rfl⟩, hS.F ht⟩) hS.2.2 dX8_takeSign_133
  by_cases hs4 : z1 = 41
  ·
    subst hs4
    refine lv_lookup (off := 90) (tgt := 120) hx hb dX8_takeSign_30 (by decide +kernel) (by decide +kernel) (by decide) ?_
    refine lv_aload_n hx hb dX8_takeSign_120 rfl (lv_at hl 0 rfl) ?_
    refine lv_iload_n hx hb dX8_takeSign_121 rfl (lv_at hl 1 rfl) ?_
    refine va_put (D := D) (ci := 8) (v := .int 41) (ty := .int) (C := RX8) (T := TX8) (N := 7) hx hb hts hin_X8 tyX8 tyX8_ok nmX8 hown hK hP hD hS 0 rfl rfl 4 (by decide) (hts (.fieldLink RX8 31 "ClashFree$Scanner" "kind" "I") (List.mem_of_getElem? (i := 3) rfl)) (fun _ h9 => h9) rfl (by decide +kernel) rfl rfl (Nat.le_of_ble_eq_true rfl) dX8_takeSign_122 (fun H locs hP hD hS => ?_)
    have hP : va_P D vwCl [(oq 5, .inr (8, [.ref (ox 2), .int (nI zl), .int (nI ta), .int (nI (ta + 1)), .int 41, .int nu, .int wo]))] H := hP
    have hD : va_D A [(oq 5, .inr (8, [.ref (ox 2), .int (nI zl), .int (nI ta), .int (nI (ta + 1)), .int 41, .int nu, .int wo]))] := hD
    refine lv_goto (tgt := 133) hx hb dX8_takeSign_125 (by decide) ?_
    exact W.vret hx hb hr (fun t ht hW => ⟨⟨((ta + 1), 41), rfl, (by (try dsimp only); first | done | exact ⟨rfl, by rw [show ch = 41 from (nI_eq (b := 41) (by omega) (by decide)).mp hz.symm]; rfl⟩), by rw [ht]; exact hP.sub [0] rfl, va_K.moved hW.alike (hK.sub [] rfl), hD.sub [0] (by decide) rfl⟩, hS.F ht⟩) hS.2.2 dX8_takeSign_133
  by_cases hs5 : z1 = 42
  ·
    subst hs5
    refine lv_lookup (off := 90) (tgt := 120) hx hb dX8_takeSign_30 (by decide +kernel) (by decide +kernel) (by decide) ?_
    refine lv_aload_n hx hb dX8_takeSign_120 rfl (lv_at hl 0 rfl) ?_
    refine lv_iload_n hx hb dX8_takeSign_121 rfl (lv_at hl 1 rfl) ?_
    refine va_put (D := D) (ci := 8) (v := .int 42) (ty := .int) (C := RX8) (T := TX8) (N := 7) hx hb hts hin_X8 tyX8 tyX8_ok nmX8 hown hK hP hD hS 0 rfl rfl 4 (by decide) (hts (.fieldLink RX8 31 "ClashFree$Scanner" "kind" "I") (List.mem_of_getElem? (i := 3) rfl)) (fun _ h9 => h9) rfl (by decide +kernel) rfl rfl (Nat.le_of_ble_eq_true rfl) dX8_takeSign_122 (fun H locs hP hD hS => ?_)
    have hP : va_P D vwCl [(oq 5, .inr (8, [.ref (ox 2), .int (nI zl), .int (nI ta), .int (nI (ta + 1)), .int 42, .int nu, .int wo]))] H := hP
    have hD : va_D A [(oq 5, .inr (8, [.ref (ox 2), .int (nI zl), .int (nI ta), .int (nI (ta + 1)), .int 42, .int nu, .int wo]))] := hD
    refine lv_goto (tgt := 133) hx hb dX8_takeSign_125 (by decide) ?_
    exact W.vret hx hb hr (fun t ht hW => ⟨⟨((ta + 1), 42), rfl, (by (try dsimp only); first | done | exact ⟨rfl, by rw [show ch = 42 from (nI_eq (b := 42) (by omega) (by decide)).mp hz.symm]; rfl⟩), by rw [ht]; exact hP.sub [0] rfl, va_K.moved hW.alike (hK.sub [] rfl), hD.sub [0] (by decide) rfl⟩, hS.F ht⟩) hS.2.2 dX8_takeSign_133
  by_cases hs6 : z1 = 43
  ·
    subst hs6
    refine lv_lookup (off := 90) (tgt := 120) hx hb dX8_takeSign_30 (by decide +kernel) (by decide +kernel) (by decide) ?_
    refine lv_aload_n hx hb dX8_takeSign_120 rfl (lv_at hl 0 rfl) ?_
    refine lv_iload_n hx hb dX8_takeSign_121 rfl (lv_at hl 1 rfl) ?_
    refine va_put (D := D) (ci := 8) (v := .int 43) (ty := .int) (C := RX8) (T := TX8) (N := 7) hx hb hts hin_X8 tyX8 tyX8_ok nmX8 hown hK hP hD hS 0 rfl rfl 4 (by decide) (hts (.fieldLink RX8 31 "ClashFree$Scanner" "kind" "I") (List.mem_of_getElem? (i := 3) rfl)) (fun _ h9 => h9) rfl (by decide +kernel) rfl rfl (Nat.le_of_ble_eq_true rfl) dX8_takeSign_122 (fun H locs hP hD hS => ?_)
    have hP : va_P D vwCl [(oq 5, .inr (8, [.ref (ox 2), .int (nI zl), .int (nI ta), .int (nI (ta + 1)), .int 43, .int nu, .int wo]))] H := hP
    have hD : va_D A [(oq 5, .inr (8, [.ref (ox 2), .int (nI zl), .int (nI ta), .int (nI (ta + 1)), .int 43, .int nu, .int wo]))] := hD
    refine lv_goto (tgt := 133) hx hb dX8_takeSign_125 (by decide) ?_
    exact W.vret hx hb hr (fun t ht hW => ⟨⟨((ta + 1), 43), rfl, (by (try dsimp only); first | done | exact ⟨rfl, by rw [show ch = 43 from (nI_eq (b := 43) (by omega) (by decide)).mp hz.symm]; rfl⟩), by rw [ht]; exact hP.sub [0] rfl, va_K.moved hW.alike (hK.sub [] rfl), hD.sub [0] (by decide) rfl⟩, hS.F ht⟩) hS.2.2 dX8_takeSign_133
  by_cases hs7 : z1 = 45
  ·
    subst hs7
    refine lv_lookup (off := 90) (tgt := 120) hx hb dX8_takeSign_30 (by decide +kernel) (by decide +kernel) (by decide) ?_
    refine lv_aload_n hx hb dX8_takeSign_120 rfl (lv_at hl 0 rfl) ?_
    refine lv_iload_n hx hb dX8_takeSign_121 rfl (lv_at hl 1 rfl) ?_
    refine va_put (D := D) (ci := 8) (v := .int 45) (ty := .int) (C := RX8) (T := TX8) (N := 7) hx hb hts hin_X8 tyX8 tyX8_ok nmX8 hown hK hP hD hS 0 rfl rfl 4 (by decide) (hts (.fieldLink RX8 31 "ClashFree$Scanner" "kind" "I") (List.mem_of_getElem? (i := 3) rfl)) (fun _ h9 => h9) rfl (by decide +kernel) rfl rfl (Nat.le_of_ble_eq_true rfl) dX8_takeSign_122 (fun H locs hP hD hS => ?_)
    have hP : va_P D vwCl [(oq 5, .inr (8, [.ref (ox 2), .int (nI zl), .int (nI ta), .int (nI (ta + 1)), .int 45, .int nu, .int wo]))] H := hP
    have hD : va_D A [(oq 5, .inr (8, [.ref (ox 2), .int (nI zl), .int (nI ta), .int (nI (ta + 1)), .int 45, .int nu, .int wo]))] := hD
    refine lv_goto (tgt := 133) hx hb dX8_takeSign_125 (by decide) ?_
    exact W.vret hx hb hr (fun t ht hW => ⟨⟨((ta + 1), 45), rfl, (by (try dsimp only); first | done | exact ⟨rfl, by rw [show ch = 45 from (nI_eq (b := 45) (by omega) (by decide)).mp hz.symm]; rfl⟩), by rw [ht]; exact hP.sub [0] rfl, va_K.moved hW.alike (hK.sub [] rfl), hD.sub [0] (by decide) rfl⟩, hS.F ht⟩) hS.2.2 dX8_takeSign_133
  by_cases hs8 : z1 = 47
  ·
    subst hs8
    refine lv_lookup (off := 90) (tgt := 120) hx hb dX8_takeSign_30 (by decide +kernel) (by decide +kernel) (by decide) ?_
    refine lv_aload_n hx hb dX8_takeSign_120 rfl (lv_at hl 0 rfl) ?_
    refine lv_iload_n hx hb dX8_takeSign_121 rfl (lv_at hl 1 rfl) ?_
    refine va_put (D := D) (ci := 8) (v := .int 47) (ty := .int) (C := RX8) (T := TX8) (N := 7) hx hb hts hin_X8 tyX8 tyX8_ok nmX8 hown hK hP hD hS 0 rfl rfl 4 (by decide) (hts (.fieldLink RX8 31 "ClashFree$Scanner" "kind" "I") (List.mem_of_getElem? (i := 3) rfl)) (fun _ h9 => h9) rfl (by decide +kernel) rfl rfl (Nat.le_of_ble_eq_true rfl) dX8_takeSign_122 (fun H locs hP hD hS => ?_)
    have hP : va_P D vwCl [(oq 5, .inr (8, [.ref (ox 2), .int (nI zl), .int (nI ta), .int (nI (ta + 1)), .int 47, .int nu, .int wo]))] H := hP
    have hD : va_D A [(oq 5, .inr (8, [.ref (ox 2), .int (nI zl), .int (nI ta), .int (nI (ta + 1)), .int 47, .int nu, .int wo]))] := hD
    refine lv_goto (tgt := 133) hx hb dX8_takeSign_125 (by decide) ?_
    exact W.vret hx hb hr (fun t ht hW => ⟨⟨((ta + 1), 47), rfl, (by (try dsimp only); first | done | exact ⟨rfl, by rw [show ch = 47 from (nI_eq (b := 47) (by omega) (by decide)).mp hz.symm]; rfl⟩), by rw [ht]; exact hP.sub [0] rfl, va_K.moved hW.alike (hK.sub [] rfl), hD.sub [0] (by decide) rfl⟩, hS.F ht⟩) hS.2.2 dX8_takeSign_133
  by_cases hs9 : z1 = 59
  ·
    subst hs9
    refine lv_lookup (off := 90) (tgt := 120) hx hb dX8_takeSign_30 (by decide +kernel) (by decide +kernel) (by decide) ?_
    refine lv_aload_n hx hb dX8_takeSign_120 rfl (lv_at hl 0 rfl) ?_
    refine lv_iload_n hx hb dX8_takeSign_121 rfl (lv_at hl 1 rfl) ?_
    refine va_put (D := D) (ci := 8) (v := .int 59) (ty := .int) (C := RX8) (T := TX8) (N := 7) hx hb hts hin_X8 tyX8 tyX8_ok nmX8 hown hK hP hD hS 0 rfl rfl 4 (by decide) (hts (.fieldLink RX8 31 "ClashFree$Scanner" "kind" "I") (List.mem_of_getElem? (i := 3) rfl)) (fun _ h9 => h9) rfl (by decide +kernel) rfl rfl (Nat.le_of_ble_eq_true rfl) dX8_takeSign_122 (fun H locs hP hD hS => ?_)
    have hP : va_P D vwCl [(oq 5, .inr (8, [.ref (ox 2), .int (nI zl), .int (nI ta), .int (nI (ta + 1)), .int 59, .int nu, .int wo]))] H := hP
    have hD : va_D A [(oq 5, .inr (8, [.ref (ox 2), .int (nI zl), .int (nI ta), .int (nI (ta + 1)), .int 59, .int nu, .int wo]))] := hD
    refine lv_goto (tgt := 133) hx hb dX8_takeSign_125 (by decide) ?_
    exact W.vret hx hb hr (fun t ht hW => ⟨⟨((ta + 1), 59), rfl, (by (try dsimp only); first | done | exact ⟨rfl, by rw [show ch = 59 from (nI_eq (b := 59) (by omega) (by decide)).mp hz.symm]; rfl⟩), by rw [ht]; exact hP.sub [0] rfl, va_K.moved hW.alike (hK.sub [] rfl), hD.sub [0] (by decide) rfl⟩, hS.F ht⟩) hS.2.2 dX8_takeSign_133
  by_cases hs10 : z1 = 91
  ·
    subst hs10
    refine lv_lookup (off := 90) (tgt := 120) hx hb dX8_takeSign_30 (by decide +kernel) (by decide +kernel) (by decide) ?_
    refine lv_aload_n hx hb dX8_takeSign_120 rfl (lv_at hl 0 rfl) ?_
    refine lv_iload_n hx hb dX8_takeSign_121 rfl (lv_at hl 1 rfl) ?_
    refine va_put (D := D) (ci := 8) (v := .int 91) (ty := .int) (C := RX8) (T := TX8) (N := 7) hx hb hts hin_X8 tyX8 tyX8_ok nmX8 hown hK hP hD hS 0 rfl rfl 4 (by decide) (hts (.fieldLink RX8 31 "ClashFree$Scanner" "kind" "I") (List.mem_of_getElem? (i := 3) rfl)) (fun _ h9 => h9) rfl (by decide +kernel) rfl rfl (Nat.le_of_ble_eq_true rfl) dX8_takeSign_122 (fun H locs hP hD hS => ?_)
    have hP : va_P D vwCl [(oq 5, .inr (8, [.ref (ox 2), .int (nI zl), .int (nI ta), .int (nI (ta + 1)), .int 91, .int nu, .int wo]))] H := hP
    have hD : va_D A [(oq 5, .inr (8, [.ref (ox 2), .int (nI zl), .int (nI ta), .int (nI (ta + 1)), .int 91, .int nu, .int wo]))] := hD
    refine lv_goto (tgt := 133) hx hb dX8_takeSign_125 (by decide) ?_
    exact W.vret hx hb hr (fun t ht hW => ⟨⟨((ta + 1), 91), rfl, (by (try dsimp only); first | done | exact ⟨rfl, by rw [show ch = 91 from (nI_eq (b := 91) (by omega) (by decide)).mp hz.symm]; rfl⟩), by rw [ht]; exact hP.sub [0] rfl, va_K.moved hW.alike (hK.sub [] rfl), hD.sub [0] (by decide) rfl⟩, hS.F ht⟩) hS.2.2 dX8_takeSign_133
  by_cases hs11 : z1 = 93
  ·
    subst hs11
    refine lv_lookup (off := 90) (tgt := 120) hx hb dX8_takeSign_30 (by decide +kernel) (by decide +kernel) (by decide) ?_
    refine lv_aload_n hx hb dX8_takeSign_120 rfl (lv_at hl 0 rfl) ?_
    refine lv_iload_n hx hb dX8_takeSign_121 rfl (lv_at hl 1 rfl) ?_
    refine va_put (D := D) (ci := 8) (v := .int 93) (ty := .int) (C := RX8) (T := TX8) (N := 7) hx hb hts hin_X8 tyX8 tyX8_ok nmX8 hown hK hP hD hS 0 rfl rfl 4 (by decide) (hts (.fieldLink RX8 31 "ClashFree$Scanner" "kind" "I") (List.mem_of_getElem? (i := 3) rfl)) (fun _ h9 => h9) rfl (by decide +kernel) rfl rfl (Nat.le_of_ble_eq_true rfl) dX8_takeSign_122 (fun H locs hP hD hS => ?_)
    have hP : va_P D vwCl [(oq 5, .inr (8, [.ref (ox 2), .int (nI zl), .int (nI ta), .int (nI (ta + 1)), .int 93, .int nu, .int wo]))] H := hP
    have hD : va_D A [(oq 5, .inr (8, [.ref (ox 2), .int (nI zl), .int (nI ta), .int (nI (ta + 1)), .int 93, .int nu, .int wo]))] := hD
    refine lv_goto (tgt := 133) hx hb dX8_takeSign_125 (by decide) ?_
    exact W.vret hx hb hr (fun t ht hW => ⟨⟨((ta + 1), 93), rfl, (by (try dsimp only); first | done | exact ⟨rfl, by rw [show ch = 93 from (nI_eq (b := 93) (by omega) (by decide)).mp hz.symm]; rfl⟩), by rw [ht]; exact hP.sub [0] rfl, va_K.moved hW.alike (hK.sub [] rfl), hD.sub [0] (by decide) rfl⟩, hS.F ht⟩) hS.2.2 dX8_takeSign_133
  refine lv_lookup (off := 98) (tgt := 128) hx hb dX8_takeSign_30 (by decide +kernel) (by simp [Op.lookupswitch.offset, List.find?, show ¬ (37 : Int) = Int32.toInt z1 from fun q => sw_ne (n := 37) hs2 (by decide) (by decide) q.symm, show ¬ (40 : Int) = Int32.toInt z1 from fun q => sw_ne (n := 40) hs3 (by decide) (by decide) q.symm, show ¬ (41 : Int) = Int32.toInt z1 from fun q => sw_ne (n := 41) hs4 (by decide) (by decide) q.symm, show ¬ (42 : Int) = Int32.toInt z1 from fun q => sw_ne (n := 42) hs5 (by decide) (by decide) q.symm, show ¬ (43 : Int) = Int32.toInt z1 from fun q => sw_ne (n := 43) hs6 (by decide) (by decide) q.symm, show ¬ (45 : Int) = Int32.toInt z1 from fun q => sw_ne (n := 45) hs7 (by decide) (by decide) q.symm, show ¬ (47 : Int) = Int32.toInt z1 from fun q => sw_ne (n := 47) hs8 (by decide) (by decide) q.symm, show ¬ (59 : Int) = Int32.toInt z1 from fun q => sw_ne (n := 59) hs9 (by decide) (by decide) q.symm, show ¬ (91 : Int) = Int32.toInt z1 from fun q => sw_ne (n := 91) hs10 (by decide) (by decide) q.symm, show ¬ (93 : Int) = Int32.toInt z1 from fun q => sw_ne (n := 93) hs11 (by decide) (by decide) q.symm]) (by decide) ?_
  refine lv_aload_n hx hb dX8_takeSign_128 rfl (lv_at hl 0 rfl) ?_
  refine lv_iconst (v := 1) hx hb dX8_takeSign_129 (by decide) ?_
  refine va_put (D := D) (ci := 8) (v := .int 1) (ty := .int) (C := RX8) (T := TX8) (N := 7) hx hb hts hin_X8 tyX8 tyX8_ok nmX8 hown hK hP hD hS 0 rfl rfl 4 (by decide) (hts (.fieldLink RX8 31 "ClashFree$Scanner" "kind" "I") (List.mem_of_getElem? (i := 3) rfl)) (fun _ h9 => h9) rfl (by decide +kernel) rfl rfl (Nat.le_of_ble_eq_true rfl) dX8_takeSign_130 (fun H locs hP hD hS => ?_)
  have hP : va_P D vwCl [(oq 5, .inr (8, [.ref (ox 2), .int (nI zl), .int (nI ta), .int (nI (ta + 1)), .int 1, .int nu, .int wo]))] H := hP
  have hD : va_D A [(oq 5, .inr (8, [.ref (ox 2), .int (nI zl), .int (nI ta), .int (nI (ta + 1)), .int 1, .int nu, .int wo]))] := hD
  exact W.vret hx hb hr (fun t ht hW => ⟨⟨((ta + 1), 1), rfl, (by (try dsimp only); first | done | exact ⟨rfl, by rw [if_neg (fun q => by
      rcases of_decide_eq_true q with z | z | z | z | z | z | z | z | z | z <;> exact absurd (hz.trans (congrArg nI z)) (by assumption))]; rfl⟩), by rw [ht]; exact hP.sub [0] rfl, va_K.moved hW.alike (hK.sub [] rfl), hD.sub [0] (by decide) rfl⟩, hS.F ht⟩) hS.2.2 dX8_takeSign_133

def own_k_takeEnd : List Cond := [.fieldLink RX8 25 "ClashFree$Scanner" "at" "I", .fieldLink RX8 28 "ClashFree$Scanner" "behind" "I", .fieldLink RX8 31 "ClashFree$Scanner" "kind" "I"]
def wp_k_takeEnd : List Cond := .code yX8_takeSign cX8_takeSign 2 none :: (own_k_takeEnd ++ (wsX80 ++ ([] : List Cond)))
set_option maxRecDepth 20000 in
theorem inown_k_takeEnd : ∀ w ∈ own_k_takeEnd, w ∈ lw_tbl := mem_places [304, 306, 307] (by decide +kernel)
set_option maxRecDepth 20000 in
theorem in_k_takeEnd : ∀ w ∈ wp_k_takeEnd, w ∈ lw_tbl := List.forall_mem_cons.mpr ⟨List.mem_of_getElem? (i := 1014) (by decide +kernel), List.forall_mem_append.mpr ⟨inown_k_takeEnd, List.forall_mem_append.mpr ⟨lwb_X8, fun _ h => absurd h List.not_mem_nil⟩⟩⟩
set_option maxRecDepth 20000 in
theorem good_k_takeEnd : wp_k_takeEnd.all goodWord = true := by decide +kernel
set_option maxHeartbeats 4000000 in
set_option maxRecDepth 100000 in
theorem k_takeEnd (l : Launch) (D : va_G) (sz : Nat) (oq : Nat → Nat) (ox : Nat → Nat) (cI : ClassId) (zl : Nat) (ta : Nat) (be : Nat) (ki : Int32) (nu : Int32) (wo : Int32) (hzl : zl ≤ 1400) : Met l yX8_takeSign wp_k_takeEnd ({ frames := 0, cells := 0, slots := 0, locals := 0 }) (PcWC D [.ref (oq 5), .int (-1)] sz [(oq 5, .inr (8, [.ref (ox 2), .int (nI zl), .int (nI ta), .int (nI be), .int ki, .int nu, .int wo]))] []) (va_Qv (fun (u : (Nat) × (Int32)) => u.1 = ta ∧ u.2 = 0) (fun (u : (Nat) × (Int32)) t => va_P D vwCl [(oq 5, .inr (8, [.ref (ox 2), .int (nI zl), .int (nI ta), .int (nI u.1), .int u.2, .int nu, .int wo]))] t.heap ∧ va_K D vwCl [] t ∧ va_D (va_A [(oq 5, .inr (8, [.ref (ox 2), .int (nI zl), .int (nI ta), .int (nI be), .int ki, .int nu, .int wo]))] sz) [(oq 5, .inr (8, [.ref (ox 2), .int (nI zl), .int (nI ta), .int (nI u.1), .int u.2, .int nu, .int wo]))]) (va_A [(oq 5, .inr (8, [.ref (ox 2), .int (nI zl), .int (nI ta), .int (nI be), .int ki, .int nu, .int wo]))] sz)) 0 0 (va_A [(oq 5, .inr (8, [.ref (ox 2), .int (nI zl), .int (nI ta), .int (nI be), .int ki, .int nu, .int wo]))] sz) := by
  refine Met.ofW (cc := cX8_takeSign) (maxL := 2) (ret := none) (by decide) rfl ?_
  intro p e s m args below meth c s₁ B hml hv
  obtain ⟨rfl, hsz, hP, hK, hD0, hN⟩ := hv
  have hx := B.exec
  have hb := B.bytes
  have hr := B.returns
  have hts := atoms_spec (ws := wp_k_takeEnd) B.pre
  have hin_X8 : ∀ w ∈ wsX80, w ∈ wp_k_takeEnd := fun _ h => (List.mem_cons_of_mem _ (List.mem_append_right _ (List.mem_append_left _ h)))
  have hown : s.vm.findClass RX8 = some m.cls := findClass_of_methodNamed B.named
  have hlocks := B.notSynchronized
  subst hsz
  have hD := hD0.self (sz := s.heap.size)
  generalize hAe : va_A [(oq 5, .inr (8, [.ref (ox 2), .int (nI zl), .int (nI ta), .int (nI be), .int ki, .int nu, .int wo]))] s.heap.size = A at hD ⊢
  have hA : ∀ q : Nat, s.heap.size ≤ q → A q := fun q h => by rw [← hAe]; exact Or.inr h
  have hS : va_S A s.heap s.heap [] := va_S.rf
  have hP : va_P D vwCl [(oq 5, .inr (8, [.ref (ox 2), .int (nI zl), .int (nI ta), .int (nI be), .int ki, .int nu, .int wo]))] s.heap := hP
  have hl := lv_entry ([.ref (oq 5), .int (-1)]) (n := 2) (Nat.le_of_ble_eq_true rfl)
  rw [lg_entry_eq]
  generalize (lg_sl ([.ref (oq 5), .int (-1)]) ++ List.replicate (2 - (lg_sl ([.ref (oq 5), .int (-1)])).length) Slot.unset).toArray = ls at hl ⊢
  have hl : lv_has ls 2 [(0, .ref (oq 5)), (1, .int (-1))] := hl
  refine lv_aload_n hx hb dX8_takeSign_0 rfl (lv_at hl 0 rfl) ?_
  refine lv_aload_n hx hb dX8_takeSign_1 rfl (lv_at hl 0 rfl) ?_
  refine va_get (D := D) (ci := 8) (v := .int (nI ta)) (C := RX8) (T := TX8) (N := 7) hx hb hts hin_X8 hown hK hP 0 rfl rfl 2 (by decide) (hts (.fieldLink RX8 25 "ClashFree$Scanner" "at" "I") (List.mem_of_getElem? (i := 1) rfl)) (fun _ h9 => h9) rfl dX8_takeSign_2 ?_
  refine va_put (D := D) (ci := 8) (v := .int (nI ta)) (ty := .int) (C := RX8) (T := TX8) (N := 7) hx hb hts hin_X8 tyX8 tyX8_ok nmX8 hown hK hP hD hS 0 rfl rfl 3 (by decide) (hts (.fieldLink RX8 28 "ClashFree$Scanner" "behind" "I") (List.mem_of_getElem? (i := 2) rfl)) (fun _ h9 => h9) rfl (by decide +kernel) rfl rfl (Nat.le_of_ble_eq_true rfl) dX8_takeSign_5 (fun H locs hP hD hS => ?_)
  have hP : va_P D vwCl [(oq 5, .inr (8, [.ref (ox 2), .int (nI zl), .int (nI ta), .int (nI ta), .int ki, .int nu, .int wo]))] H := hP
  have hD : va_D A [(oq 5, .inr (8, [.ref (ox 2), .int (nI zl), .int (nI ta), .int (nI ta), .int ki, .int nu, .int wo]))] := hD
  refine lv_iload_n hx hb dX8_takeSign_8 rfl (lv_at hl 1 rfl) ?_
  refine lv_iconst (v := (-1)) hx hb dX8_takeSign_9 (by decide) ?_
  refine lv_icmp_ne (tgt := 19) hx hb dX8_takeSign_10 (by decide) (fun hc => absurd (by decide) hc) (fun hc => ?_)
  refine lv_aload_n hx hb dX8_takeSign_13 rfl (lv_at hl 0 rfl) ?_
  refine lv_iconst (v := 0) hx hb dX8_takeSign_14 (by decide) ?_
  refine va_put (D := D) (ci := 8) (v := .int 0) (ty := .int) (C := RX8) (T := TX8) (N := 7) hx hb hts hin_X8 tyX8 tyX8_ok nmX8 hown hK hP hD hS 0 rfl rfl 4 (by decide) (hts (.fieldLink RX8 31 "ClashFree$Scanner" "kind" "I") (List.mem_of_getElem? (i := 3) rfl)) (fun _ h9 => h9) rfl (by decide +kernel) rfl rfl (Nat.le_of_ble_eq_true rfl) dX8_takeSign_15 (fun H locs hP hD hS => ?_)
  have hP : va_P D vwCl [(oq 5, .inr (8, [.ref (ox 2), .int (nI zl), .int (nI ta), .int (nI ta), .int 0, .int nu, .int wo]))] H := hP
  have hD : va_D A [(oq 5, .inr (8, [.ref (ox 2), .int (nI zl), .int (nI ta), .int (nI ta), .int 0, .int nu, .int wo]))] := hD
  exact W.vret hx hb hr (fun t ht hW => ⟨⟨(ta, 0), rfl, (by (try dsimp only); first | done | exact ⟨rfl, rfl⟩), by rw [ht]; exact hP.sub [0] rfl, va_K.moved hW.alike (hK.sub [] rfl), hD.sub [0] (by decide) rfl⟩, hS.F ht⟩) hS.2.2 dX8_takeSign_18

