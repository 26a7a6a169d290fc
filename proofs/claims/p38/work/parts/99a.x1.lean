theorem dX10_feed_0 : decode cX10_feed 0 = .ok (.aload_n 0, 1) := by decide +kernel
theorem dX10_feed_1 : decode cX10_feed 1 = .ok (.getfield 19, 3) := by decide +kernel
theorem dX10_feed_4 : decode cX10_feed 4 = .ok (.bipush 20, 2) := by decide +kernel
theorem dX10_feed_6 : decode cX10_feed 6 = .ok (.iadd, 1) := by decide +kernel
theorem dX10_feed_7 : decode cX10_feed 7 = .ok (.sipush 1400, 3) := by decide +kernel
theorem dX10_feed_10 : decode cX10_feed 10 = .ok (.if_icmp .le 5, 3) := by decide +kernel
theorem dX10_feed_13 : decode cX10_feed 13 = .ok (.iconst (-1), 1) := by decide +kernel
theorem dX10_feed_14 : decode cX10_feed 14 = .ok (.ireturn, 1) := by decide +kernel
theorem dX10_feed_15 : decode cX10_feed 15 = .ok (.aload_n 0, 1) := by decide +kernel
theorem dX10_feed_16 : decode cX10_feed 16 = .ok (.getfield 15, 3) := by decide +kernel
theorem dX10_feed_19 : decode cX10_feed 19 = .ok (.aload_n 0, 1) := by decide +kernel
theorem dX10_feed_20 : decode cX10_feed 20 = .ok (.getfield 19, 3) := by decide +kernel
theorem dX10_feed_23 : decode cX10_feed 23 = .ok (.iload_n 1, 1) := by decide +kernel
theorem dX10_feed_24 : decode cX10_feed 24 = .ok (.invokestatic 51, 3) := by decide +kernel
theorem dX10_feed_27 : decode cX10_feed 27 = .ok (.aload_n 0, 1) := by decide +kernel
theorem dX10_feed_28 : decode cX10_feed 28 = .ok (.getfield 15, 3) := by decide +kernel
theorem dX10_feed_31 : decode cX10_feed 31 = .ok (.aload_n 0, 1) := by decide +kernel
theorem dX10_feed_32 : decode cX10_feed 32 = .ok (.getfield 19, 3) := by decide +kernel
theorem dX10_feed_35 : decode cX10_feed 35 = .ok (.iconst 4, 1) := by decide +kernel
theorem dX10_feed_36 : decode cX10_feed 36 = .ok (.iadd, 1) := by decide +kernel
theorem dX10_feed_37 : decode cX10_feed 37 = .ok (.iload_n 2, 1) := by decide +kernel
theorem dX10_feed_38 : decode cX10_feed 38 = .ok (.invokestatic 51, 3) := by decide +kernel
theorem dX10_feed_41 : decode cX10_feed 41 = .ok (.aload_n 0, 1) := by decide +kernel
theorem dX10_feed_42 : decode cX10_feed 42 = .ok (.getfield 15, 3) := by decide +kernel
theorem dX10_feed_45 : decode cX10_feed 45 = .ok (.aload_n 0, 1) := by decide +kernel
theorem dX10_feed_46 : decode cX10_feed 46 = .ok (.getfield 19, 3) := by decide +kernel
theorem dX10_feed_49 : decode cX10_feed 49 = .ok (.bipush 8, 2) := by decide +kernel
theorem dX10_feed_51 : decode cX10_feed 51 = .ok (.iadd, 1) := by decide +kernel
theorem dX10_feed_52 : decode cX10_feed 52 = .ok (.iload_n 3, 1) := by decide +kernel
theorem dX10_feed_53 : decode cX10_feed 53 = .ok (.invokestatic 51, 3) := by decide +kernel
theorem dX10_feed_56 : decode cX10_feed 56 = .ok (.aload_n 0, 1) := by decide +kernel
theorem dX10_feed_57 : decode cX10_feed 57 = .ok (.getfield 15, 3) := by decide +kernel
theorem dX10_feed_60 : decode cX10_feed 60 = .ok (.aload_n 0, 1) := by decide +kernel
theorem dX10_feed_61 : decode cX10_feed 61 = .ok (.getfield 19, 3) := by decide +kernel
theorem dX10_feed_64 : decode cX10_feed 64 = .ok (.bipush 12, 2) := by decide +kernel
theorem dX10_feed_66 : decode cX10_feed 66 = .ok (.iadd, 1) := by decide +kernel
theorem dX10_feed_67 : decode cX10_feed 67 = .ok (.iload 4, 2) := by decide +kernel
theorem dX10_feed_69 : decode cX10_feed 69 = .ok (.invokestatic 51, 3) := by decide +kernel
theorem dX10_feed_72 : decode cX10_feed 72 = .ok (.aload_n 0, 1) := by decide +kernel
theorem dX10_feed_73 : decode cX10_feed 73 = .ok (.getfield 15, 3) := by decide +kernel
theorem dX10_feed_76 : decode cX10_feed 76 = .ok (.aload_n 0, 1) := by decide +kernel
theorem dX10_feed_77 : decode cX10_feed 77 = .ok (.getfield 19, 3) := by decide +kernel
theorem dX10_feed_80 : decode cX10_feed 80 = .ok (.bipush 16, 2) := by decide +kernel
theorem dX10_feed_82 : decode cX10_feed 82 = .ok (.iadd, 1) := by decide +kernel
theorem dX10_feed_83 : decode cX10_feed 83 = .ok (.iload 5, 2) := by decide +kernel
theorem dX10_feed_85 : decode cX10_feed 85 = .ok (.invokestatic 51, 3) := by decide +kernel
theorem dX10_feed_88 : decode cX10_feed 88 = .ok (.aload_n 0, 1) := by decide +kernel
theorem dX10_feed_89 : decode cX10_feed 89 = .ok (.dup, 1) := by decide +kernel
theorem dX10_feed_90 : decode cX10_feed 90 = .ok (.getfield 19, 3) := by decide +kernel
theorem dX10_feed_93 : decode cX10_feed 93 = .ok (.bipush 20, 2) := by decide +kernel
theorem dX10_feed_95 : decode cX10_feed 95 = .ok (.iadd, 1) := by decide +kernel
theorem dX10_feed_96 : decode cX10_feed 96 = .ok (.putfield 19, 3) := by decide +kernel
theorem dX10_feed_99 : decode cX10_feed 99 = .ok (.aload_n 0, 1) := by decide +kernel
theorem dX10_feed_100 : decode cX10_feed 100 = .ok (.getfield 19, 3) := by decide +kernel
theorem dX10_feed_103 : decode cX10_feed 103 = .ok (.ireturn, 1) := by decide +kernel
theorem dX10_end_0 : decode cX10_end 0 = .ok (.iload_n 1, 1) := by decide +kernel
theorem dX10_end_1 : decode cX10_end 1 = .ok (.ifCond .lt 11, 3) := by decide +kernel
theorem dX10_end_4 : decode cX10_end 4 = .ok (.iload_n 1, 1) := by decide +kernel
theorem dX10_end_5 : decode cX10_end 5 = .ok (.aload_n 0, 1) := by decide +kernel
theorem dX10_end_6 : decode cX10_end 6 = .ok (.getfield 19, 3) := by decide +kernel
theorem dX10_end_9 : decode cX10_end 9 = .ok (.if_icmp .le 5, 3) := by decide +kernel
theorem dX10_end_12 : decode cX10_end 12 = .ok (.iconst 0, 1) := by decide +kernel
theorem dX10_end_13 : decode cX10_end 13 = .ok (.ireturn, 1) := by decide +kernel
theorem dX10_end_14 : decode cX10_end 14 = .ok (.aload_n 0, 1) := by decide +kernel
theorem dX10_end_15 : decode cX10_end 15 = .ok (.iload_n 1, 1) := by decide +kernel
theorem dX10_end_16 : decode cX10_end 16 = .ok (.putfield 19, 3) := by decide +kernel
theorem dX10_end_19 : decode cX10_end 19 = .ok (.iconst 1, 1) := by decide +kernel
theorem dX10_end_20 : decode cX10_end 20 = .ok (.ireturn, 1) := by decide +kernel
theorem dX10_make_0 : decode cX10_make 0 = .ok (.iload_n 1, 1) := by decide +kernel
theorem dX10_make_1 : decode cX10_make 1 = .ok (.invokestatic 55, 3) := by decide +kernel
theorem dX10_make_4 : decode cX10_make 4 = .ok (.ifCond .eq 13, 3) := by decide +kernel
theorem dX10_make_7 : decode cX10_make 7 = .ok (.iload_n 2, 1) := by decide +kernel
theorem dX10_make_8 : decode cX10_make 8 = .ok (.iload_n 3, 1) := by decide +kernel
theorem dX10_make_9 : decode cX10_make 9 = .ok (.iload 4, 2) := by decide +kernel
theorem dX10_make_11 : decode cX10_make 11 = .ok (.invokestatic 59, 3) := by decide +kernel
theorem dX10_make_14 : decode cX10_make 14 = .ok (.ifCond .ne 6, 3) := by decide +kernel
theorem dX10_make_17 : decode cX10_make 17 = .ok (.bipush (-2), 2) := by decide +kernel
theorem dX10_make_19 : decode cX10_make 19 = .ok (.ireturn, 1) := by decide +kernel
theorem dX10_make_20 : decode cX10_make 20 = .ok (.aload_n 0, 1) := by decide +kernel
theorem dX10_make_21 : decode cX10_make 21 = .ok (.iload_n 1, 1) := by decide +kernel
theorem dX10_make_22 : decode cX10_make 22 = .ok (.invokevirtual 63, 3) := by decide +kernel
theorem dX10_make_25 : decode cX10_make 25 = .ok (.astore 7, 2) := by decide +kernel
theorem dX10_make_27 : decode cX10_make 27 = .ok (.aload 7, 2) := by decide +kernel
theorem dX10_make_29 : decode cX10_make 29 = .ok (.iload_n 2, 1) := by decide +kernel
theorem dX10_make_30 : decode cX10_make 30 = .ok (.iload_n 3, 1) := by decide +kernel
theorem dX10_make_31 : decode cX10_make 31 = .ok (.iload 4, 2) := by decide +kernel
theorem dX10_make_33 : decode cX10_make 33 = .ok (.lload 5, 2) := by decide +kernel
theorem dX10_make_35 : decode cX10_make 35 = .ok (.invokevirtual 67, 3) := by decide +kernel
theorem dX10_make_38 : decode cX10_make 38 = .ok (.aload 7, 2) := by decide +kernel
theorem dX10_make_40 : decode cX10_make 40 = .ok (.invokevirtual 71, 3) := by decide +kernel
theorem dX10_make_43 : decode cX10_make 43 = .ok (.iconst 1, 1) := by decide +kernel
theorem dX10_make_44 : decode cX10_make 44 = .ok (.ireturn, 1) := by decide +kernel
theorem dX10_ran_0 : decode cX10_ran 0 = .ok (.aload_n 0, 1) := by decide +kernel
theorem dX10_ran_1 : decode cX10_ran 1 = .ok (.getfield 40, 3) := by decide +kernel
theorem dX10_ran_4 : decode cX10_ran 4 = .ok (.getfield 282, 3) := by decide +kernel
theorem dX10_ran_7 : decode cX10_ran 7 = .ok (.ifCond .eq 7, 3) := by decide +kernel
theorem dX10_ran_10 : decode cX10_ran 10 = .ok (.iconst 1, 1) := by decide +kernel
theorem dX10_ran_11 : decode cX10_ran 11 = .ok (.goto 4, 3) := by decide +kernel
theorem dX10_ran_14 : decode cX10_ran 14 = .ok (.iconst 0, 1) := by decide +kernel
theorem dX10_ran_15 : decode cX10_ran 15 = .ok (.istore_n 2, 1) := by decide +kernel
theorem dX10_ran_16 : decode cX10_ran 16 = .ok (.iload_n 1, 1) := by decide +kernel
theorem dX10_ran_17 : decode cX10_ran 17 = .ok (.tableswitch 120 0 5 #[39, 48, 67, 86, 95, 104], 39) := by decide +kernel
theorem dX10_ran_56 : decode cX10_ran 56 = .ok (.aload_n 0, 1) := by decide +kernel
theorem dX10_ran_57 : decode cX10_ran 57 = .ok (.getfield 40, 3) := by decide +kernel
theorem dX10_ran_60 : decode cX10_ran 60 = .ok (.getfield 282, 3) := by decide +kernel
theorem dX10_ran_63 : decode cX10_ran 63 = .ok (.i2l, 1) := by decide +kernel
theorem dX10_ran_64 : decode cX10_ran 64 = .ok (.lreturn, 1) := by decide +kernel
theorem dX10_ran_65 : decode cX10_ran 65 = .ok (.iload_n 2, 1) := by decide +kernel
theorem dX10_ran_66 : decode cX10_ran 66 = .ok (.ifCond .eq 14, 3) := by decide +kernel
theorem dX10_ran_69 : decode cX10_ran 69 = .ok (.aload_n 0, 1) := by decide +kernel
theorem dX10_ran_70 : decode cX10_ran 70 = .ok (.getfield 40, 3) := by decide +kernel
theorem dX10_ran_73 : decode cX10_ran 73 = .ok (.getfield 296, 3) := by decide +kernel
theorem dX10_ran_76 : decode cX10_ran 76 = .ok (.i2l, 1) := by decide +kernel
theorem dX10_ran_77 : decode cX10_ran 77 = .ok (.goto 6, 3) := by decide +kernel
theorem dX10_ran_80 : decode cX10_ran 80 = .ok (.ldc2_w 183, 3) := by decide +kernel
theorem dX10_ran_83 : decode cX10_ran 83 = .ok (.lreturn, 1) := by decide +kernel
theorem dX10_ran_84 : decode cX10_ran 84 = .ok (.iload_n 2, 1) := by decide +kernel
theorem dX10_ran_85 : decode cX10_ran 85 = .ok (.ifCond .eq 14, 3) := by decide +kernel
theorem dX10_ran_88 : decode cX10_ran 88 = .ok (.aload_n 0, 1) := by decide +kernel
theorem dX10_ran_89 : decode cX10_ran 89 = .ok (.getfield 40, 3) := by decide +kernel
theorem dX10_ran_92 : decode cX10_ran 92 = .ok (.getfield 299, 3) := by decide +kernel
theorem dX10_ran_95 : decode cX10_ran 95 = .ok (.i2l, 1) := by decide +kernel
theorem dX10_ran_96 : decode cX10_ran 96 = .ok (.goto 6, 3) := by decide +kernel
theorem dX10_ran_99 : decode cX10_ran 99 = .ok (.ldc2_w 183, 3) := by decide +kernel
theorem dX10_ran_102 : decode cX10_ran 102 = .ok (.lreturn, 1) := by decide +kernel
theorem dX10_ran_103 : decode cX10_ran 103 = .ok (.aload_n 0, 1) := by decide +kernel
theorem dX10_ran_104 : decode cX10_ran 104 = .ok (.getfield 47, 3) := by decide +kernel
theorem dX10_ran_107 : decode cX10_ran 107 = .ok (.getfield 302, 3) := by decide +kernel
theorem dX10_ran_110 : decode cX10_ran 110 = .ok (.i2l, 1) := by decide +kernel
theorem dX10_ran_111 : decode cX10_ran 111 = .ok (.lreturn, 1) := by decide +kernel
theorem dX10_ran_112 : decode cX10_ran 112 = .ok (.aload_n 0, 1) := by decide +kernel
theorem dX10_ran_113 : decode cX10_ran 113 = .ok (.getfield 47, 3) := by decide +kernel
theorem dX10_ran_116 : decode cX10_ran 116 = .ok (.getfield 305, 3) := by decide +kernel
theorem dX10_ran_119 : decode cX10_ran 119 = .ok (.i2l, 1) := by decide +kernel
theorem dX10_ran_120 : decode cX10_ran 120 = .ok (.lreturn, 1) := by decide +kernel
theorem dX10_ran_121 : decode cX10_ran 121 = .ok (.aload_n 0, 1) := by decide +kernel
theorem dX10_ran_122 : decode cX10_ran 122 = .ok (.getfield 47, 3) := by decide +kernel
theorem dX10_ran_125 : decode cX10_ran 125 = .ok (.getfield 308, 3) := by decide +kernel
theorem dX10_ran_128 : decode cX10_ran 128 = .ok (.ifCond .eq 7, 3) := by decide +kernel
theorem dX10_ran_131 : decode cX10_ran 131 = .ok (.lconst 1, 1) := by decide +kernel
theorem dX10_ran_132 : decode cX10_ran 132 = .ok (.goto 4, 3) := by decide +kernel
theorem dX10_ran_135 : decode cX10_ran 135 = .ok (.lconst 0, 1) := by decide +kernel
theorem dX10_ran_136 : decode cX10_ran 136 = .ok (.lreturn, 1) := by decide +kernel
theorem dX10_ran_137 : decode cX10_ran 137 = .ok (.ldc2_w 91, 3) := by decide +kernel
theorem dX10_ran_140 : decode cX10_ran 140 = .ok (.lreturn, 1) := by decide +kernel
theorem dX10_image_12 : decode cX10_image 12 = .ok (.aload_n 0, 1) := by decide +kernel
theorem dX10_image_13 : decode cX10_image 13 = .ok (.getfield 33, 3) := by decide +kernel
theorem dX10_image_16 : decode cX10_image 16 = .ok (.aload_n 2, 1) := by decide +kernel
theorem dX10_image_17 : decode cX10_image 17 = .ok (.invokevirtual 312, 3) := by decide +kernel
theorem dX10_image_20 : decode cX10_image 20 = .ok (.aload_n 0, 1) := by decide +kernel
theorem dX10_image_21 : decode cX10_image 21 = .ok (.getfield 33, 3) := by decide +kernel
theorem dX10_image_24 : decode cX10_image 24 = .ok (.getfield 316, 3) := by decide +kernel
theorem dX10_image_27 : decode cX10_image 27 = .ok (.ireturn, 1) := by decide +kernel
theorem dX10_octet_0 : decode cX10_octet 0 = .ok (.iload_n 1, 1) := by decide +kernel
theorem dX10_octet_1 : decode cX10_octet 1 = .ok (.ifCond .lt 14, 3) := by decide +kernel
theorem dX10_octet_4 : decode cX10_octet 4 = .ok (.iload_n 1, 1) := by decide +kernel
theorem dX10_octet_5 : decode cX10_octet 5 = .ok (.aload_n 0, 1) := by decide +kernel
theorem dX10_octet_6 : decode cX10_octet 6 = .ok (.getfield 33, 3) := by decide +kernel
theorem dX10_octet_9 : decode cX10_octet 9 = .ok (.getfield 316, 3) := by decide +kernel
theorem dX10_octet_12 : decode cX10_octet 12 = .ok (.if_icmp .lt 7, 3) := by decide +kernel
theorem dX10_octet_15 : decode cX10_octet 15 = .ok (.iconst (-1), 1) := by decide +kernel
theorem dX10_octet_16 : decode cX10_octet 16 = .ok (.goto 12, 3) := by decide +kernel
theorem dX10_octet_19 : decode cX10_octet 19 = .ok (.aload_n 0, 1) := by decide +kernel
theorem dX10_octet_20 : decode cX10_octet 20 = .ok (.getfield 33, 3) := by decide +kernel
theorem dX10_octet_23 : decode cX10_octet 23 = .ok (.getfield 319, 3) := by decide +kernel
theorem dX10_octet_26 : decode cX10_octet 26 = .ok (.iload_n 1, 1) := by decide +kernel
theorem dX10_octet_27 : decode cX10_octet 27 = .ok (.iaload, 1) := by decide +kernel
theorem dX10_octet_28 : decode cX10_octet 28 = .ok (.ireturn, 1) := by decide +kernel
theorem dX10_slot_0 : decode cX10_slot 0 = .ok (.aload_n 0, 1) := by decide +kernel
theorem dX10_slot_1 : decode cX10_slot 1 = .ok (.getfield 11, 3) := by decide +kernel
theorem dX10_slot_4 : decode cX10_slot 4 = .ok (.iload_n 1, 1) := by decide +kernel
theorem dX10_slot_5 : decode cX10_slot 5 = .ok (.aaload, 1) := by decide +kernel
theorem dX10_slot_6 : decode cX10_slot 6 = .ok (.astore_n 2, 1) := by decide +kernel
theorem dX10_slot_7 : decode cX10_slot 7 = .ok (.aload_n 2, 1) := by decide +kernel
theorem dX10_slot_8 : decode cX10_slot 8 = .ok (.ifnonnull 18, 3) := by decide +kernel
theorem dX10_slot_26 : decode cX10_slot 26 = .ok (.aload_n 2, 1) := by decide +kernel
theorem dX10_slot_27 : decode cX10_slot 27 = .ok (.areturn, 1) := by decide +kernel
def own_k_slotS : List Cond := [.fieldLink RX10 11 "ClashFree" "tables" "[LClashFree$Table;"]
def wp_k_slotS : List Cond := .code yX10_slot cX10_slot 3 (some (.object "ClashFree$Table")) :: (own_k_slotS ++ (wsX100 ++ ([] : List Cond)))
set_option maxRecDepth 20000 in
theorem inown_k_slotS : ∀ w ∈ own_k_slotS, w ∈ lw_tbl := mem_places [412] (by decide +kernel)
set_option maxRecDepth 20000 in
theorem in_k_slotS : ∀ w ∈ wp_k_slotS, w ∈ lw_tbl := List.forall_mem_cons.mpr ⟨List.mem_of_getElem? (i := 458) (by decide +kernel), List.forall_mem_append.mpr ⟨inown_k_slotS, List.forall_mem_append.mpr ⟨lwb_X10, fun _ h => absurd h List.not_mem_nil⟩⟩⟩
set_option maxRecDepth 20000 in
theorem good_k_slotS : wp_k_slotS.all goodWord = true := by decide +kernel
set_option maxHeartbeats 4000000 in
set_option maxRecDepth 100000 in
theorem k_slotS (l : Launch) (D : va_G) (sz : Nat) (ox : Nat → Nat) (ob3 : Nat → Nat) (og : Nat → Nat) (oq : Nat → Nat) (ow : Nat → Nat) (cI : ClassId) (cT : ClassId) (tp : Nat) (ft : Nat → Option Nat) (k : Nat) (tq : Nat) (hk : k < 4) (hft : ft k = some tq) : Met l yX10_slot wp_k_slotS ({ frames := 0, cells := 0, slots := 0, locals := 0 }) (PcRC D [.ref (ox 0), .int (nI k)] sz [(ox 0, .inr (10, [.ref (ox 1), .ref (ox 2), .int (nI tp), .ref (ob3 0), .ref (og 0), .ref (oq 0), .ref (ow 0)])), (ox 1, .inl (cT, 4, .inr (.inr (.inr (.inr ft)))))] [(cT, .object RX9)]) (va_Qq (fun (r : Option Nat) (u : Unit) => r = some tq) (fun (_ : Unit) _ => True) (va_A [] sz)) 0 0 (va_A [] sz) := by
  refine Met.ofW (cc := cX10_slot) (maxL := 3) (ret := (some (.object "ClashFree$Table"))) (by decide) rfl ?_
  intro p e s m args below meth c s₁ B hml hv
  obtain ⟨rfl, hsz, hP, hK, hN⟩ := hv
  have hx := B.exec
  have hb := B.bytes
  have hr := B.returns
  have hts := atoms_spec (ws := wp_k_slotS) B.pre
  have hin_X10 : ∀ w ∈ wsX100, w ∈ wp_k_slotS := fun _ h => (List.mem_cons_of_mem _ (List.mem_append_right _ (List.mem_append_left _ h)))
  have hown : s.vm.findClass RX10 = some m.cls := findClass_of_methodNamed B.named
  have hlocks := B.notSynchronized
  subst hsz
  generalize hAe : va_A [] s.heap.size = A at ⊢
  have hA : ∀ q : Nat, s.heap.size ≤ q → A q := fun q h => by rw [← hAe]; exact Or.inr h
  have hS : va_S A s.heap s.heap [] := va_S.rf
  have hP : va_P D vwCl [(ox 0, .inr (10, [.ref (ox 1), .ref (ox 2), .int (nI tp), .ref (ob3 0), .ref (og 0), .ref (oq 0), .ref (ow 0)])), (ox 1, .inl (cT, 4, .inr (.inr (.inr (.inr ft)))))] s.heap := hP
  have hl := lv_entry ([.ref (ox 0), .int (nI k)]) (n := 3) (Nat.le_of_ble_eq_true rfl)
  rw [lg_entry_eq]
  generalize (lg_sl ([.ref (ox 0), .int (nI k)]) ++ List.replicate (3 - (lg_sl ([.ref (ox 0), .int (nI k)])).length) Slot.unset).toArray = ls at hl ⊢
  have hl : lv_has ls 3 [(0, .ref (ox 0)), (1, .int (nI k))] := hl
  refine lv_aload_n hx hb dX10_slot_0 rfl (lv_at hl 0 rfl) ?_
  refine va_get (D := D) (ci := 10) (v := .ref (ox 1)) (C := RX10) (T := TX10) (N := 7) hx hb hts hin_X10 hown hK hP 0 rfl rfl 0 (by decide) (hts (.fieldLink RX10 11 "ClashFree" "tables" "[LClashFree$Table;") (List.mem_of_getElem? (i := 1) rfl)) (fun _ h9 => h9) rfl dX10_slot_1 ?_
  refine lv_iload_n hx hb dX10_slot_4 rfl (lv_at hl 1 rfl) ?_
  refine va_aldq hx hb hK hP 1 0 rfl rfl (vp_in_nI (by omega) (by decide)) dX10_slot_5 ?_
  refine W.eq (g2 := F0 m 6 ls [.ref tq]) (by rw [nI_clamp (by omega), hft]; rfl) ?_
  refine lv_astore_n (lv' := [(2, .ref tq), (0, .ref (ox 0)), (1, .int (nI k))]) hx hb dX10_slot_6 rfl hl (by decide) rfl (fun ls hl => ?_)
  refine lv_aload_n hx hb dX10_slot_7 rfl (lv_at hl 0 rfl) ?_
  refine lv_ifnonnull (tgt := 26) hx hb dX10_slot_8 (by decide) ?_
  refine lv_aload_n hx hb dX10_slot_26 rfl (lv_at hl 0 rfl) ?_
  exact W.aret (v := va_rf (some tq)) hx hb hr (Or.inl ⟨_, rfl⟩) (va_rf_or _) (fun t ht hW => ⟨⟨(some tq), (), rfl, rfl, trivial⟩, hS.F ht⟩) hS.2.2 dX10_slot_27

def own_x_feed : List Cond := [.fieldLink RX10 19 "ClashFree" "taped" "I", .fieldLink RX10 15 "ClashFree" "tape" "[I", .methodLink RX10 51 yX10_writeInt, .static yX10_writeInt, .initialized RX10]
def wp_x_feed : List Cond := .code yX10_feed cX10_feed 6 (some .int) :: (own_x_feed ++ (wp_k_wiT ++ (wsX100 ++ ([] : List Cond))))
set_option maxRecDepth 20000 in
theorem inown_x_feed : ∀ w ∈ own_x_feed, w ∈ lw_tbl := mem_places [414, 413, 438, 439, 106] (by decide +kernel)
set_option maxRecDepth 20000 in
theorem in_x_feed : ∀ w ∈ wp_x_feed, w ∈ lw_tbl := List.forall_mem_cons.mpr ⟨List.mem_of_getElem? (i := 437) (by decide +kernel), List.forall_mem_append.mpr ⟨inown_x_feed, List.forall_mem_append.mpr ⟨in_k_wiT, List.forall_mem_append.mpr ⟨lwb_X10, fun _ h => absurd h List.not_mem_nil⟩⟩⟩⟩
set_option maxRecDepth 20000 in
theorem good_x_feed : wp_x_feed.all goodWord = true := by decide +kernel
set_option maxRecDepth 20000 in
theorem g_x_feed_k_wiT_51 : GoodIn wp_x_feed (va_wsS RX10 51 yX10_writeInt wp_k_wiT) := goodIn_sub (List.forall_mem_append.mpr ⟨List.forall_mem_cons.mpr ⟨(List.mem_of_getElem? (i := 3) rfl), List.forall_mem_cons.mpr ⟨(List.mem_of_getElem? (i := 4) rfl), List.forall_mem_cons.mpr ⟨(List.mem_of_getElem? (i := 5) rfl), fun _ h => absurd h List.not_mem_nil⟩⟩⟩, (fun _ h => (List.mem_cons_of_mem _ (List.mem_append_right _ (List.mem_append_left _ h))))⟩) (by decide +kernel)
set_option maxHeartbeats 4000000 in
set_option maxRecDepth 100000 in
theorem x_feed (l : Launch) (D : va_G) (sz : Nat) (ox : Nat → Nat) (ob3 : Nat → Nat) (og : Nat → Nat) (oq : Nat → Nat) (ow : Nat → Nat) (cI : ClassId) (cT : ClassId) (tp : Nat) (ft : Nat → Option Nat) (fT : Nat → Int32) (z1 : Int32) (z2 : Int32) (z3 : Int32) (z4 : Int32) (z5 : Int32) (htp : tp ≤ 1400) : Met l yX10_feed wp_x_feed ({ frames := 1, cells := 0, slots := 0, locals := 23 }) (PcWC D [.ref (ox 0), .int z1, .int z2, .int z3, .int z4, .int z5] sz [(ox 0, .inr (10, [.ref (ox 1), .ref (ox 2), .int (nI tp), .ref (ob3 0), .ref (og 0), .ref (oq 0), .ref (ow 0)])), (ox 1, .inl (cT, 4, .inr (.inr (.inr (.inr ft))))), (ox 2, .inl (cI, 1400, .inl fT))] [(cI, .int), (cT, .object RX9)]) (va_Qi (fun (r : Int32) (u : (Nat) × (Nat → Int32)) => (tp + 20 ≤ 1400 ∧ r = nI (tp + 20) ∧ u.1 = tp + 20 ∧ u.2 = wrI5 fT tp z1 z2 z3 z4 z5) ∨ (1400 < tp + 20 ∧ r = -1 ∧ u.1 = tp ∧ u.2 = fT)) (fun (u : (Nat) × (Nat → Int32)) t => va_P D vwCl [(ox 0, .inr (10, [.ref (ox 1), .ref (ox 2), .int (nI u.1), .ref (ob3 0), .ref (og 0), .ref (oq 0), .ref (ow 0)])), (ox 1, .inl (cT, 4, .inr (.inr (.inr (.inr ft))))), (ox 2, .inl (cI, 1400, .inl u.2))] t.heap ∧ va_K D vwCl [(cI, .int), (cT, .object RX9)] t ∧ va_D (va_A [(ox 0, .inr (10, [.ref (ox 1), .ref (ox 2), .int (nI tp), .ref (ob3 0), .ref (og 0), .ref (oq 0), .ref (ow 0)])), (ox 1, .inl (cT, 4, .inr (.inr (.inr (.inr ft))))), (ox 2, .inl (cI, 1400, .inl fT))] sz) [(ox 0, .inr (10, [.ref (ox 1), .ref (ox 2), .int (nI u.1), .ref (ob3 0), .ref (og 0), .ref (oq 0), .ref (ow 0)])), (ox 1, .inl (cT, 4, .inr (.inr (.inr (.inr ft))))), (ox 2, .inl (cI, 1400, .inl u.2))]) (va_A [(ox 0, .inr (10, [.ref (ox 1), .ref (ox 2), .int (nI tp), .ref (ob3 0), .ref (og 0), .ref (oq 0), .ref (ow 0)])), (ox 1, .inl (cT, 4, .inr (.inr (.inr (.inr ft))))), (ox 2, .inl (cI, 1400, .inl fT))] sz)) 0 0 (va_A [(ox 0, .inr (10, [.ref (ox 1), .ref (ox 2), .int (nI tp), .ref (ob3 0), .ref (og 0), .ref (oq 0), .ref (ow 0)])), (ox 1, .inl (cT, 4, .inr (.inr (.inr (.inr ft))))), (ox 2, .inl (cI, 1400, .inl fT))] sz) := by
  refine Met.ofW (cc := cX10_feed) (maxL := 6) (ret := (some .int)) (by decide) rfl ?_
  intro p e s m args below meth c s₁ B hml hv
  obtain ⟨rfl, hsz, hP, hK, hD0, hN⟩ := hv
  have hx := B.exec
  have hb := B.bytes
  have hr := B.returns
  have hts := atoms_spec (ws := wp_x_feed) B.pre
  have hin_X10 : ∀ w ∈ wsX100, w ∈ wp_x_feed := fun _ h => (List.mem_cons_of_mem _ (List.mem_append_right _ (List.mem_append_right _ (List.mem_append_left _ h))))
  have hown : s.vm.findClass RX10 = some m.cls := findClass_of_methodNamed B.named
  have hlocks := B.notSynchronized
  subst hsz
  have hD := hD0.self (sz := s.heap.size)
  generalize hAe : va_A [(ox 0, .inr (10, [.ref (ox 1), .ref (ox 2), .int (nI tp), .ref (ob3 0), .ref (og 0), .ref (oq 0), .ref (ow 0)])), (ox 1, .inl (cT, 4, .inr (.inr (.inr (.inr ft))))), (ox 2, .inl (cI, 1400, .inl fT))] s.heap.size = A at hD ⊢
  have hA : ∀ q : Nat, s.heap.size ≤ q → A q := fun q h => by rw [← hAe]; exact Or.inr h
  have hS : va_S A s.heap s.heap [] := va_S.rf
  have hP : va_P D vwCl [(ox 0, .inr (10, [.ref (ox 1), .ref (ox 2), .int (nI tp), .ref (ob3 0), .ref (og 0), .ref (oq 0), .ref (ow 0)])), (ox 1, .inl (cT, 4, .inr (.inr (.inr (.inr ft))))), (ox 2, .inl (cI, 1400, .inl fT))] s.heap := hP
  have hl := lv_entry ([.ref (ox 0), .int z1, .int z2, .int z3, .int z4, .int z5]) (n := 6) (Nat.le_of_ble_eq_true rfl)
  rw [lg_entry_eq]
  generalize (lg_sl ([.ref (ox 0), .int z1, .int z2, .int z3, .int z4, .int z5]) ++ List.replicate (6 - (lg_sl ([.ref (ox 0), .int z1, .int z2, .int z3, .int z4, .int z5])).length) Slot.unset).toArray = ls at hl ⊢
  have hl : lv_has ls 6 [(0, .ref (ox 0)), (1, .int z1), (2, .int z2), (3, .int z3), (4, .int z4), (5, .int z5)] := hl
  refine lv_aload_n hx hb dX10_feed_0 rfl (lv_at hl 0 rfl) ?_
  refine va_get (D := D) (ci := 10) (v := .int (nI tp)) (C := RX10) (T := TX10) (N := 7) hx hb hts hin_X10 hown hK hP 0 rfl rfl 2 (by decide) (hts (.fieldLink RX10 19 "ClashFree" "taped" "I") (List.mem_of_getElem? (i := 1) rfl)) (fun _ h9 => h9) rfl dX10_feed_1 ?_
  refine lv_bipush (v := 20) hx hb dX10_feed_4 (by decide) ?_
  refine lv_iadd hx hb dX10_feed_6 ?_
  refine lv_topi (fun v1 ev1 => ?_)
  obtain rfl : v1 = nI (tp + 20) := ev1.trans (nI_add _ 20)
  refine lv_sipush (v := 1400) hx hb dX10_feed_7 (by decide) ?_
  refine lv_icmp_le (tgt := 15) hx hb dX10_feed_10 (by decide) (fun hc2 => ?_) (fun hc2 => ?_)
  ·
    have hfit : tp + 20 ≤ 1400 := (nI_leI (b := 1400) (by omega) (by decide)).mp hc2
    refine lv_aload_n hx hb dX10_feed_15 rfl (lv_at hl 0 rfl) ?_
    refine va_get (D := D) (ci := 10) (v := .ref (ox 2)) (C := RX10) (T := TX10) (N := 7) hx hb hts hin_X10 hown hK hP 0 rfl rfl 1 (by decide) (hts (.fieldLink RX10 15 "ClashFree" "tape" "[I") (List.mem_of_getElem? (i := 2) rfl)) (fun _ h9 => h9) rfl dX10_feed_16 ?_
    refine lv_aload_n hx hb dX10_feed_19 rfl (lv_at hl 0 rfl) ?_
    refine va_get (D := D) (ci := 10) (v := .int (nI tp)) (C := RX10) (T := TX10) (N := 7) hx hb hts hin_X10 hown hK hP 0 rfl rfl 2 (by decide) (hts (.fieldLink RX10 19 "ClashFree" "taped" "I") (List.mem_of_getElem? (i := 1) rfl)) (fun _ h9 => h9) rfl dX10_feed_20 ?_
    refine lv_iload_n hx hb dX10_feed_23 rfl (lv_at hl 1 rfl) ?_
    have hPc := hP.sub (ws' := [(ox 2, .inl (cI, 1400, .inl fT))]) [2] rfl
    have hKc := hK.sub (tys' := [(cI, .int)]) [0] rfl
    have hDc := hD.sub (ws' := [(ox 2, .inl (cI, 1400, .inl fT))]) [2] (by decide) rfl
    have hFc := va_free (wc := [(ox 2, .inl (cI, 1400, .inl fT))]) hD hS hA [2] rfl
    refine va_callv (va_runS (As := [.ref (ox 2), .int (nI tp), .int z1]) (rest := []) ⟨hx, hb, hml, hown, hts⟩ (k_wiT l D _ ox cI fT tp z1 (by first | assumption | omega)) (va_cwS 3 hts g_x_feed_k_wiT_51 rfl rfl rfl (by decide +kernel) ⟨(Nat.le_of_ble_eq_true rfl), (Nat.le_of_ble_eq_true rfl)⟩) (PcWC_S hPc hKc hDc hN) rfl rfl hl.1 rfl (lv_room (Nat.le_of_ble_eq_true rfl)) dX10_feed_24 ⟨(Nat.le_of_ble_eq_true rfl), (Nat.le_of_ble_eq_true rfl)⟩) hS (fun q _ h => hFc q h) hFc (fun uu tt H locs htt hvm hw hB hz1 hk1 hS => ?_)
    obtain ⟨w4, rfl⟩ : ∃ z, z = uu := ⟨_, rfl⟩
    obtain ⟨hP1, hK1, hD1⟩ := hB
    rw [htt] at hP1
    have hK1 := va_K.moved hvm.symm hK1
    have hP1 : va_P D vwCl [(ox 2, .inl (cI, 1400, .inl w4))] H := hP1
    obtain ⟨hP, hD⟩ := va_join (wr := [(ox 0, .inr (10, [.ref (ox 1), .ref (ox 2), .int (nI tp), .ref (ob3 0), .ref (og 0), .ref (oq 0), .ref (ow 0)])), (ox 1, .inl (cT, 4, .inr (.inr (.inr (.inr ft)))))]) (w1 := [(ox 2, .inl (cI, 1400, .inl w4))]) hP hD [2] [0, 1] rfl rfl (by decide) (by decide) hk1 hFc hP1 hD1
    have hP : va_P D vwCl [(ox 0, .inr (10, [.ref (ox 1), .ref (ox 2), .int (nI tp), .ref (ob3 0), .ref (og 0), .ref (oq 0), .ref (ow 0)])), (ox 1, .inl (cT, 4, .inr (.inr (.inr (.inr ft))))), (ox 2, .inl (cI, 1400, .inl w4))] H := hP
    have hD : va_D A [(ox 0, .inr (10, [.ref (ox 1), .ref (ox 2), .int (nI tp), .ref (ob3 0), .ref (og 0), .ref (oq 0), .ref (ow 0)])), (ox 1, .inl (cT, 4, .inr (.inr (.inr (.inr ft))))), (ox 2, .inl (cI, 1400, .inl w4))] := hD
    try dsimp only at hw
    clear hz1 hk1 hFc hPc hKc hDc
    obtain rfl := (hw.resolve_right (fun q => absurd q.1 (by omega))).2
    have hP : va_P D vwCl [(ox 0, .inr (10, [.ref (ox 1), .ref (ox 2), .int (nI tp), .ref (ob3 0), .ref (og 0), .ref (oq 0), .ref (ow 0)])), (ox 1, .inl (cT, 4, .inr (.inr (.inr (.inr ft))))), (ox 2, .inl (cI, 1400, .inl (wrI fT tp z1)))] H := hP
    have hD : va_D A [(ox 0, .inr (10, [.ref (ox 1), .ref (ox 2), .int (nI tp), .ref (ob3 0), .ref (og 0), .ref (oq 0), .ref (ow 0)])), (ox 1, .inl (cT, 4, .inr (.inr (.inr (.inr ft))))), (ox 2, .inl (cI, 1400, .inl (wrI fT tp z1)))] := hD
    refine lv_aload_n hx hb dX10_feed_27 rfl (lv_at hl 0 rfl) ?_
    refine va_get (D := D) (ci := 10) (v := .ref (ox 2)) (C := RX10) (T := TX10) (N := 7) hx hb hts hin_X10 hown hK hP 0 rfl rfl 1 (by decide) (hts (.fieldLink RX10 15 "ClashFree" "tape" "[I") (List.mem_of_getElem? (i := 2) rfl)) (fun _ h9 => h9) rfl dX10_feed_28 ?_
    refine lv_aload_n hx hb dX10_feed_31 rfl (lv_at hl 0 rfl) ?_
    refine va_get (D := D) (ci := 10) (v := .int (nI tp)) (C := RX10) (T := TX10) (N := 7) hx hb hts hin_X10 hown hK hP 0 rfl rfl 2 (by decide) (hts (.fieldLink RX10 19 "ClashFree" "taped" "I") (List.mem_of_getElem? (i := 1) rfl)) (fun _ h9 => h9) rfl dX10_feed_32 ?_
    refine lv_iconst (v := 4) hx hb dX10_feed_35 (by decide) ?_
    refine lv_iadd hx hb dX10_feed_36 ?_
    refine lv_topi (fun v5 ev5 => ?_)
    obtain rfl : v5 = nI (tp + 4) := ev5.trans (nI_add _ 4)
    refine lv_iload_n hx hb dX10_feed_37 rfl (lv_at hl 2 rfl) ?_
    have hPc := hP.sub (ws' := [(ox 2, .inl (cI, 1400, .inl (wrI fT tp z1)))]) [2] rfl
    have hKc := hK.sub (tys' := [(cI, .int)]) [0] rfl
    have hDc := hD.sub (ws' := [(ox 2, .inl (cI, 1400, .inl (wrI fT tp z1)))]) [2] (by decide) rfl
    have hFc := va_free (wc := [(ox 2, .inl (cI, 1400, .inl (wrI fT tp z1)))]) hD hS hA [2] rfl
    refine va_callv (va_runS (As := [.ref (ox 2), .int (nI (tp + 4)), .int z2]) (rest := []) ⟨hx, hb, hml, hown, hts⟩ (k_wiT l D _ ox cI (wrI fT tp z1) (tp + 4) z2 (by first | assumption | omega)) (va_cwS 3 hts g_x_feed_k_wiT_51 rfl rfl rfl (by decide +kernel) ⟨(Nat.le_of_ble_eq_true rfl), (Nat.le_of_ble_eq_true rfl)⟩) (PcWC_S hPc hKc hDc hN) rfl rfl hl.1 rfl (lv_room (Nat.le_of_ble_eq_true rfl)) dX10_feed_38 ⟨(Nat.le_of_ble_eq_true rfl), (Nat.le_of_ble_eq_true rfl)⟩) hS (fun q _ h => hFc q h) hFc (fun uu tt H locs htt hvm hw hB hz1 hk1 hS => ?_)
    obtain ⟨w7, rfl⟩ : ∃ z, z = uu := ⟨_, rfl⟩
    obtain ⟨hP1, hK1, hD1⟩ := hB
    rw [htt] at hP1
    have hK1 := va_K.moved hvm.symm hK1
    have hP1 : va_P D vwCl [(ox 2, .inl (cI, 1400, .inl w7))] H := hP1
    obtain ⟨hP, hD⟩ := va_join (wr := [(ox 0, .inr (10, [.ref (ox 1), .ref (ox 2), .int (nI tp), .ref (ob3 0), .ref (og 0), .ref (oq 0), .ref (ow 0)])), (ox 1, .inl (cT, 4, .inr (.inr (.inr (.inr ft)))))]) (w1 := [(ox 2, .inl (cI, 1400, .inl w7))]) hP hD [2] [0, 1] rfl rfl (by decide) (by decide) hk1 hFc hP1 hD1
    have hP : va_P D vwCl [(ox 0, .inr (10, [.ref (ox 1), .ref (ox 2), .int (nI tp), .ref (ob3 0), .ref (og 0), .ref (oq 0), .ref (ow 0)])), (ox 1, .inl (cT, 4, .inr (.inr (.inr (.inr ft))))), (ox 2, .inl (cI, 1400, .inl w7))] H := hP
    have hD : va_D A [(ox 0, .inr (10, [.ref (ox 1), .ref (ox 2), .int (nI tp), .ref (ob3 0), .ref (og 0), .ref (oq 0), .ref (ow 0)])), (ox 1, .inl (cT, 4, .inr (.inr (.inr (.inr ft))))), (ox 2, .inl (cI, 1400, .inl w7))] := hD
    try dsimp only at hw
    clear hz1 hk1 hFc hPc hKc hDc
    obtain rfl := (hw.resolve_right (fun q => absurd q.1 (by omega))).2
    have hP : va_P D vwCl [(ox 0, .inr (10, [.ref (ox 1), .ref (ox 2), .int (nI tp), .ref (ob3 0), .ref (og 0), .ref (oq 0), .ref (ow 0)])), (ox 1, .inl (cT, 4, .inr (.inr (.inr (.inr ft))))), (ox 2, .inl (cI, 1400, .inl (wrI (wrI fT tp z1) (tp + 4) z2)))] H := hP
    have hD : va_D A [(ox 0, .inr (10, [.ref (ox 1), .ref (ox 2), .int (nI tp), .ref (ob3 0), .ref (og 0), .ref (oq 0), .ref (ow 0)])), (ox 1, .inl (cT, 4, .inr (.inr (.inr (.inr ft))))), (ox 2, .inl (cI, 1400, .inl (wrI (wrI fT tp z1) (tp + 4) z2)))] := hD
    refine lv_aload_n hx hb dX10_feed_41 rfl (lv_at hl 0 rfl) ?_
    refine va_get (D := D) (ci := 10) (v := .ref (ox 2)) (C := RX10) (T := TX10) (N := 7) hx hb hts hin_X10 hown hK hP 0 rfl rfl 1 (by decide) (hts (.fieldLink RX10 15 "ClashFree" "tape" "[I") (List.mem_of_getElem? (i := 2) rfl)) (fun _ h9 => h9) rfl dX10_feed_42 ?_
    refine lv_aload_n hx hb dX10_feed_45 rfl (lv_at hl 0 rfl) ?_
    refine va_get (D := D) (ci := 10) (v := .int (nI tp)) (C := RX10) (T := TX10) (N := 7) hx hb hts hin_X10 hown hK hP 0 rfl rfl 2 (by decide) (hts (.fieldLink RX10 19 "ClashFree" "taped" "I") (List.mem_of_getElem? (i := 1) rfl)) (fun _ h9 => h9) rfl dX10_feed_46 ?_
    refine lv_bipush (v := 8) hx hb dX10_feed_49 (by decide) ?_
    refine lv_iadd hx hb dX10_feed_51 ?_
    refine lv_topi (fun v8 ev8 => ?_)
    obtain rfl : v8 = nI (tp + 8) := ev8.trans (nI_add _ 8)
    refine lv_iload_n hx hb dX10_feed_52 rfl (lv_at hl 3 rfl) ?_
    have hPc := hP.sub (ws' := [(ox 2, .inl (cI, 1400, .inl (wrI (wrI fT tp z1) (tp + 4) z2)))]) [2] rfl
    have hKc := hK.sub (tys' := [(cI, .int)]) [0] rfl
    have hDc := hD.sub (ws' := [(ox 2, .inl (cI, 1400, .inl (wrI (wrI fT tp z1) (tp + 4) z2)))]) [2] (by decide) rfl
    have hFc := va_free (wc := [(ox 2, .inl (cI, 1400, .inl (wrI (wrI fT tp z1) (tp + 4) z2)))]) hD hS hA [2] rfl
    refine va_callv (va_runS (As := [.ref (ox 2), .int (nI (tp + 8)), .int z3]) (rest := []) ⟨hx, hb, hml, hown, hts⟩ (k_wiT l D _ ox cI (wrI (wrI fT tp z1) (tp + 4) z2) (tp + 8) z3 (by first | assumption | omega)) (va_cwS 3 hts g_x_feed_k_wiT_51 rfl rfl rfl (by decide +kernel) ⟨(Nat.le_of_ble_eq_true rfl), (Nat.le_of_ble_eq_true rfl)⟩) (PcWC_S hPc hKc hDc hN) rfl rfl hl.1 rfl (lv_room (Nat.le_of_ble_eq_true rfl)) dX10_feed_53 ⟨(Nat.le_of_ble_eq_true rfl), (Nat.le_of_ble_eq_true rfl)⟩) hS (fun q _ h => hFc q h) hFc (fun uu tt H locs htt hvm hw hB hz1 hk1 hS => ?_)
    obtain ⟨w10, rfl⟩ : ∃ z, z = uu := ⟨_, rfl⟩
    obtain ⟨hP1, hK1, hD1⟩ := hB
    rw [htt] at hP1
    have hK1 := va_K.moved hvm.symm hK1
    have hP1 : va_P D vwCl [(ox 2, .inl (cI, 1400, .inl w10))] H := hP1
    obtain ⟨hP, hD⟩ := va_join (wr := [(ox 0, .inr (10, [.ref (ox 1), .ref (ox 2), .int (nI tp), .ref (ob3 0), .ref (og 0), .ref (oq 0), .ref (ow 0)])), (ox 1, .inl (cT, 4, .inr (.inr (.inr (.inr ft)))))]) (w1 := [(ox 2, .inl (cI, 1400, .inl w10))]) hP hD [2] [0, 1] rfl rfl (by decide) (by decide) hk1 hFc hP1 hD1
    have hP : va_P D vwCl [(ox 0, .inr (10, [.ref (ox 1), .ref (ox 2), .int (nI tp), .ref (ob3 0), .ref (og 0), .ref (oq 0), .ref (ow 0)])), (ox 1, .inl (cT, 4, .inr (.inr (.inr (.inr ft))))), (ox 2, .inl (cI, 1400, .inl w10))] H := hP
    have hD : va_D A [(ox 0, .inr (10, [.ref (ox 1), .ref (ox 2), .int (nI tp), .ref (ob3 0), .ref (og 0), .ref (oq 0), .ref (ow 0)])), (ox 1, .inl (cT, 4, .inr (.inr (.inr (.inr ft))))), (ox 2, .inl (cI, 1400, .inl w10))] := hD
    try dsimp only at hw
    clear hz1 hk1 hFc hPc hKc hDc
    obtain rfl := (hw.resolve_right (fun q => absurd q.1 (by omega))).2
    have hP : va_P D vwCl [(ox 0, .inr (10, [.ref (ox 1), .ref (ox 2), .int (nI tp), .ref (ob3 0), .ref (og 0), .ref (oq 0), .ref (ow 0)])), (ox 1, .inl (cT, 4, .inr (.inr (.inr (.inr ft))))), (ox 2, .inl (cI, 1400, .inl (wrI (wrI (wrI fT tp z1) (tp + 4) z2) (tp + 8) z3)))] H := hP
    have hD : va_D A [(ox 0, .inr (10, [.ref (ox 1), .ref (ox 2), .int (nI tp), .ref (ob3 0), .ref (og 0), .ref (oq 0), .ref (ow 0)])), (ox 1, .inl (cT, 4, .inr (.inr (.inr (.inr ft))))), (ox 2, .inl (cI, 1400, .inl (wrI (wrI (wrI fT tp z1) (tp + 4) z2) (tp + 8) z3)))] := hD
    refine lv_aload_n hx hb dX10_feed_56 rfl (lv_at hl 0 rfl) ?_
    refine va_get (D := D) (ci := 10) (v := .ref (ox 2)) (C := RX10) (T := TX10) (N := 7) hx hb hts hin_X10 hown hK hP 0 rfl rfl 1 (by decide) (hts (.fieldLink RX10 15 "ClashFree" "tape" "[I") (List.mem_of_getElem? (i := 2) rfl)) (fun _ h9 => h9) rfl dX10_feed_57 ?_
    refine lv_aload_n hx hb dX10_feed_60 rfl (lv_at hl 0 rfl) ?_
    refine va_get (D := D) (ci := 10) (v := .int (nI tp)) (C := RX10) (T := TX10) (N := 7) hx hb hts hin_X10 hown hK hP 0 rfl rfl 2 (by decide) (hts (.fieldLink RX10 19 "ClashFree" "taped" "I") (List.mem_of_getElem? (i := 1) rfl)) (fun _ h9 => h9) rfl dX10_feed_61 ?_
    refine lv_bipush (v := 12) hx hb dX10_feed_64 (by decide) ?_
    refine lv_iadd hx hb dX10_feed_66 ?_
    refine lv_topi (fun v11 ev11 => ?_)
    obtain rfl : v11 = nI (tp + 12) := ev11.trans (nI_add _ 12)
    refine lv_iload hx hb dX10_feed_67 (lv_at hl 4 rfl) ?_
    have hPc := hP.sub (ws' := [(ox 2, .inl (cI, 1400, .inl (wrI (wrI (wrI fT tp z1) (tp + 4) z2) (tp + 8) z3)))]) [2] rfl
    have hKc := hK.sub (tys' := [(cI, .int)]) [0] rfl
    have hDc := hD.sub (ws' := [(ox 2, .inl (cI, 1400, .inl (wrI (wrI (wrI fT tp z1) (tp + 4) z2) (tp + 8) z3)))]) [2] (by decide) rfl
    have hFc := va_free (wc := [(ox 2, .inl (cI, 1400, .inl (wrI (wrI (wrI fT tp z1) (tp + 4) z2) (tp + 8) z3)))]) hD hS hA [2] rfl
    refine va_callv (va_runS (As := [.ref (ox 2), .int (nI (tp + 12)), .int z4]) (rest := []) ⟨hx, hb, hml, hown, hts⟩ (k_wiT l D _ ox cI (wrI (wrI (wrI fT tp z1) (tp + 4) z2) (tp + 8) z3) (tp + 12) z4 (by first | assumption | omega)) (va_cwS 3 hts g_x_feed_k_wiT_51 rfl rfl rfl (by decide +kernel) ⟨(Nat.le_of_ble_eq_true rfl), (Nat.le_of_ble_eq_true rfl)⟩) (PcWC_S hPc hKc hDc hN) rfl rfl hl.1 rfl (lv_room (Nat.le_of_ble_eq_true rfl)) dX10_feed_69 ⟨(Nat.le_of_ble_eq_true rfl), (Nat.le_of_ble_eq_true rfl)⟩) hS (fun q _ h => hFc q h) hFc (fun uu tt H locs htt hvm hw hB hz1 hk1 hS => ?_)
    obtain ⟨w13, rfl⟩ : ∃ z, z = uu := ⟨_, rfl⟩
    obtain ⟨hP1, hK1, hD1⟩ := hB
    rw [htt] at hP1
    have hK1 := va_K.moved hvm.symm hK1
    have hP1 : va_P D vwCl [(ox 2, .inl (cI, 1400, .inl w13))] H := hP1
    obtain ⟨hP, hD⟩ := va_join (wr := [(ox 0, .inr (10, [.ref (ox 1), .ref (ox 2), .int (nI tp), .ref (ob3 0), .ref (og 0), .ref (oq 0), .ref (ow 0)])), (ox 1, .inl (cT, 4, .inr (.inr (.inr (.inr ft)))))]) (w1 := [(ox 2, .inl (cI, 1400, .inl w13))]) hP hD [2] [0, 1] rfl rfl (by decide) (by decide) hk1 hFc hP1 hD1
    have hP : va_P D vwCl [(ox 0, .inr (10, [.ref (ox 1), .ref (ox 2), .int (nI tp), .ref (ob3 0), .ref (og 0), .ref (oq 0), .ref (ow 0)])), (ox 1, .inl (cT, 4, .inr (.inr (.inr (.inr ft))))), (ox 2, .inl (cI, 1400, .inl w13))] H := hP
    have hD : va_D A [(ox 0, .inr (10, [.ref (ox 1), .ref (ox 2), .int (nI tp), .ref (ob3 0), .ref (og 0), .ref (oq 0), .ref (ow 0)])), (ox 1, .inl (cT, 4, .inr (.inr (.inr (.inr ft))))), (ox 2, .inl (cI, 1400, .inl w13))] := hD
    try dsimp only at hw
    clear hz1 hk1 hFc hPc hKc hDc
    obtain rfl := (hw.resolve_right (fun q => absurd q.1 (by omega))).2
    have hP : va_P D vwCl [(ox 0, .inr (10, [.ref (ox 1), .ref (ox 2), .int (nI tp), .ref (ob3 0), .ref (og 0), .ref (oq 0), .ref (ow 0)])), (ox 1, .inl (cT, 4, .inr (.inr (.inr (.inr ft))))), (ox 2, .inl (cI, 1400, .inl (wrI (wrI (wrI (wrI fT tp z1) (tp + 4) z2) (tp + 8) z3) (tp + 12) z4)))] H := hP
    have hD : va_D A [(ox 0, .inr (10, [.ref (ox 1), .ref (ox 2), .int (nI tp), .ref (ob3 0), .ref (og 0), .ref (oq 0), .ref (ow 0)])), (ox 1, .inl (cT, 4, .inr (.inr (.inr (.inr ft))))), (ox 2, .inl (cI, 1400, .inl (wrI (wrI (wrI (wrI fT tp z1) (tp + 4) z2) (tp + 8) z3) (tp + 12) z4)))] := hD
    refine lv_aload_n hx hb dX10_feed_72 rfl (lv_at hl 0 rfl) ?_
    refine va_get (D := D) (ci := 10) (v := .ref (ox 2)) (C := RX10) (T := TX10) (N := 7) hx hb hts hin_X10 hown hK hP 0 rfl rfl 1 (by decide) (hts (.fieldLink RX10 15 "ClashFree" "tape" "[I") (List.mem_of_getElem? (i := 2) rfl)) (fun _ h9 => h9) rfl dX10_feed_73 ?_
    refine lv_aload_n hx hb dX10_feed_76 rfl (lv_at hl 0 rfl) ?_
    refine va_get (D := D) (ci := 10) (v := .int (nI tp)) (C := RX10) (T := TX10) (N := 7) hx hb hts hin_X10 hown hK hP 0 rfl rfl 2 (by decide) (hts (.fieldLink RX10 19 "ClashFree" "taped" "I") (List.mem_of_getElem? (i := 1) rfl)) (fun _ h9 => h9) rfl dX10_feed_77 ?_
    refine lv_bipush (v := 16) hx hb dX10_feed_80 (by decide) ?_
    refine lv_iadd hx hb dX10_feed_82 ?_
    refine lv_topi (fun v14 ev14 => ?_)
    obtain rfl : v14 = nI (tp + 16) := ev14.trans (nI_add _ 16)
    refine lv_iload hx hb dX10_feed_83 (lv_at hl 5 rfl) ?_
    have hPc := hP.sub (ws' := [(ox 2, .inl (cI, 1400, .inl (wrI (wrI (wrI (wrI fT tp z1) (tp + 4) z2) (tp + 8) z3) (tp + 12) z4)))]) [2] rfl
    have hKc := hK.sub (tys' := [(cI, .int)]) [0] rfl
    have hDc := hD.sub (ws' := [(ox 2, .inl (cI, 1400, .inl (wrI (wrI (wrI (wrI fT tp z1) (tp + 4) z2) (tp + 8) z3) (tp + 12) z4)))]) [2] (by decide) rfl
    have hFc := va_free (wc := [(ox 2, .inl (cI, 1400, .inl (wrI (wrI (wrI (wrI fT tp z1) (tp + 4) z2) (tp + 8) z3) (tp + 12) z4)))]) hD hS hA [2] rfl
    refine va_callv (va_runS (As := [.ref (ox 2), .int (nI (tp + 16)), .int z5]) (rest := []) ⟨hx, hb, hml, hown, hts⟩ (k_wiT l D _ ox cI (wrI (wrI (wrI (wrI fT tp z1) (tp + 4) z2) (tp + 8) z3) (tp + 12) z4) (tp + 16) z5 (by first | assumption | omega)) (va_cwS 3 hts g_x_feed_k_wiT_51 rfl rfl rfl (by decide +kernel) ⟨(Nat.le_of_ble_eq_true rfl), (Nat.le_of_ble_eq_true rfl)⟩) (PcWC_S hPc hKc hDc hN) rfl rfl hl.1 rfl (lv_room (Nat.le_of_ble_eq_true rfl)) dX10_feed_85 ⟨(Nat.le_of_ble_eq_true rfl), (Nat.le_of_ble_eq_true rfl)⟩) hS (fun q _ h => hFc q h) hFc (fun uu tt H locs htt hvm hw hB hz1 hk1 hS => ?_)
    obtain ⟨w16, rfl⟩ : ∃ z, z = uu := ⟨_, rfl⟩
    obtain ⟨hP1, hK1, hD1⟩ := hB
    rw [htt] at hP1
    have hK1 := va_K.moved hvm.symm hK1
    have hP1 : va_P D vwCl [(ox 2, .inl (cI, 1400, .inl w16))] H := hP1
    obtain ⟨hP, hD⟩ := va_join (wr := [(ox 0, .inr (10, [.ref (ox 1), .ref (ox 2), .int (nI tp), .ref (ob3 0), .ref (og 0), .ref (oq 0), .ref (ow 0)])), (ox 1, .inl (cT, 4, .inr (.inr (.inr (.inr ft)))))]) (w1 := [(ox 2, .inl (cI, 1400, .inl w16))]) hP hD [2] [0, 1] rfl rfl (by decide) (by decide) hk1 hFc hP1 hD1
    have hP : va_P D vwCl [(ox 0, .inr (10, [.ref (ox 1), .ref (ox 2), .int (nI tp), .ref (ob3 0), .ref (og 0), .ref (oq 0), .ref (ow 0)])), (ox 1, .inl (cT, 4, .inr (.inr (.inr (.inr ft))))), (ox 2, .inl (cI, 1400, .inl w16))] H := hP
    have hD : va_D A [(ox 0, .inr (10, [.ref (ox 1), .ref (ox 2), .int (nI tp), .ref (ob3 0), .ref (og 0), .ref (oq 0), .ref (ow 0)])), (ox 1, .inl (cT, 4, .inr (.inr (.inr (.inr ft))))), (ox 2, .inl (cI, 1400, .inl w16))] := hD
    try dsimp only at hw
    clear hz1 hk1 hFc hPc hKc hDc
    obtain rfl := (hw.resolve_right (fun q => absurd q.1 (by omega))).2
    have hP : va_P D vwCl [(ox 0, .inr (10, [.ref (ox 1), .ref (ox 2), .int (nI tp), .ref (ob3 0), .ref (og 0), .ref (oq 0), .ref (ow 0)])), (ox 1, .inl (cT, 4, .inr (.inr (.inr (.inr ft))))), (ox 2, .inl (cI, 1400, .inl (wrI (wrI (wrI (wrI (wrI fT tp z1) (tp + 4) z2) (tp + 8) z3) (tp + 12) z4) (tp + 16) z5)))] H := hP
    have hD : va_D A [(ox 0, .inr (10, [.ref (ox 1), .ref (ox 2), .int (nI tp), .ref (ob3 0), .ref (og 0), .ref (oq 0), .ref (ow 0)])), (ox 1, .inl (cT, 4, .inr (.inr (.inr (.inr ft))))), (ox 2, .inl (cI, 1400, .inl (wrI (wrI (wrI (wrI (wrI fT tp z1) (tp + 4) z2) (tp + 8) z3) (tp + 12) z4) (tp + 16) z5)))] := hD
    refine lv_aload_n hx hb dX10_feed_88 rfl (lv_at hl 0 rfl) ?_
    refine lv_dup hx hb dX10_feed_89 rfl ?_
    refine va_get (D := D) (ci := 10) (v := .int (nI tp)) (C := RX10) (T := TX10) (N := 7) hx hb hts hin_X10 hown hK hP 0 rfl rfl 2 (by decide) (hts (.fieldLink RX10 19 "ClashFree" "taped" "I") (List.mem_of_getElem? (i := 1) rfl)) (fun _ h9 => h9) rfl dX10_feed_90 ?_
    refine lv_bipush (v := 20) hx hb dX10_feed_93 (by decide) ?_
    refine lv_iadd hx hb dX10_feed_95 ?_
    refine lv_topi (fun v17 ev17 => ?_)
    obtain rfl : v17 = nI (tp + 20) := ev17.trans (nI_add _ 20)
    refine va_put (D := D) (ci := 10) (v := .int (nI (tp + 20))) (ty := .int) (C := RX10) (T := TX10) (N := 7) hx hb hts hin_X10 tyX10 tyX10_ok nmX10 hown hK hP hD hS 0 rfl rfl 2 (by decide) (hts (.fieldLink RX10 19 "ClashFree" "taped" "I") (List.mem_of_getElem? (i := 1) rfl)) (fun _ h9 => h9) rfl (by decide +kernel) rfl rfl (Nat.le_of_ble_eq_true rfl) dX10_feed_96 (fun H locs hP hD hS => ?_)
    have hP : va_P D vwCl [(ox 0, .inr (10, [.ref (ox 1), .ref (ox 2), .int (nI (tp + 20)), .ref (ob3 0), .ref (og 0), .ref (oq 0), .ref (ow 0)])), (ox 1, .inl (cT, 4, .inr (.inr (.inr (.inr ft))))), (ox 2, .inl (cI, 1400, .inl (wrI (wrI (wrI (wrI (wrI fT tp z1) (tp + 4) z2) (tp + 8) z3) (tp + 12) z4) (tp + 16) z5)))] H := hP
    have hD : va_D A [(ox 0, .inr (10, [.ref (ox 1), .ref (ox 2), .int (nI (tp + 20)), .ref (ob3 0), .ref (og 0), .ref (oq 0), .ref (ow 0)])), (ox 1, .inl (cT, 4, .inr (.inr (.inr (.inr ft))))), (ox 2, .inl (cI, 1400, .inl (wrI (wrI (wrI (wrI (wrI fT tp z1) (tp + 4) z2) (tp + 8) z3) (tp + 12) z4) (tp + 16) z5)))] := hD
    refine lv_aload_n hx hb dX10_feed_99 rfl (lv_at hl 0 rfl) ?_
    refine va_get (D := D) (ci := 10) (v := .int (nI (tp + 20))) (C := RX10) (T := TX10) (N := 7) hx hb hts hin_X10 hown hK hP 0 rfl rfl 2 (by decide) (hts (.fieldLink RX10 19 "ClashFree" "taped" "I") (List.mem_of_getElem? (i := 1) rfl)) (fun _ h9 => h9) rfl dX10_feed_100 ?_
    exact W.iret (v := nI (tp + 20)) hx hb hr (fun t ht hW => ⟨⟨nI (tp + 20), ((tp + 20), (wrI (wrI (wrI (wrI (wrI fT tp z1) (tp + 4) z2) (tp + 8) z3) (tp + 12) z4) (tp + 16) z5)), rfl, (by (try dsimp only); first | done | exact Or.inl ⟨hfit, rfl, rfl, rfl⟩), by rw [ht]; exact hP.sub [0, 1, 2] rfl, va_K.moved hW.alike (hK.sub [0, 1] rfl), hD.sub [0, 1, 2] (by decide) rfl⟩, hS.F ht⟩) hS.2.2 dX10_feed_103
  ·
    have hnf : 1400 < tp + 20 := by
      rcases Nat.lt_or_ge 1400 (tp + 20) with z | z
      · exact z
      · exact absurd (nI_le (b := 1400) z (by decide)) hc2
    refine lv_iconst (v := (-1)) hx hb dX10_feed_13 (by decide) ?_
    exact W.iret (v := (-1)) hx hb hr (fun t ht hW => ⟨⟨(-1), (tp, fT), rfl, (by (try dsimp only); first | done | exact Or.inr ⟨hnf, rfl, rfl, rfl⟩), by rw [ht]; exact hP.sub [0, 1, 2] rfl, va_K.moved hW.alike (hK.sub [0, 1] rfl), hD.sub [0, 1, 2] (by decide) rfl⟩, hS.F ht⟩) hS.2.2 dX10_feed_14

def own_x_end : List Cond := [.fieldLink RX10 19 "ClashFree" "taped" "I"]
def wp_x_end : List Cond := .code yX10_end cX10_end 2 (some .boolean) :: (own_x_end ++ (wsX100 ++ ([] : List Cond)))
set_option maxRecDepth 20000 in
theorem inown_x_end : ∀ w ∈ own_x_end, w ∈ lw_tbl := mem_places [414] (by decide +kernel)
set_option maxRecDepth 20000 in
theorem in_x_end : ∀ w ∈ wp_x_end, w ∈ lw_tbl := List.forall_mem_cons.mpr ⟨List.mem_of_getElem? (i := 444) (by decide +kernel), List.forall_mem_append.mpr ⟨inown_x_end, List.forall_mem_append.mpr ⟨lwb_X10, fun _ h => absurd h List.not_mem_nil⟩⟩⟩
set_option maxRecDepth 20000 in
theorem good_x_end : wp_x_end.all goodWord = true := by decide +kernel
set_option maxHeartbeats 4000000 in
set_option maxRecDepth 100000 in
theorem x_end (l : Launch) (D : va_G) (sz : Nat) (ox : Nat → Nat) (ob3 : Nat → Nat) (og : Nat → Nat) (oq : Nat → Nat) (ow : Nat → Nat) (cI : ClassId) (cT : ClassId) (tp : Nat) (ft : Nat → Option Nat) (z1 : Int32) (htp : tp ≤ 1400) : Met l yX10_end wp_x_end ({ frames := 0, cells := 0, slots := 0, locals := 0 }) (PcWC D [.ref (ox 0), .int z1] sz [(ox 0, .inr (10, [.ref (ox 1), .ref (ox 2), .int (nI tp), .ref (ob3 0), .ref (og 0), .ref (oq 0), .ref (ow 0)])), (ox 1, .inl (cT, 4, .inr (.inr (.inr (.inr ft)))))] [(cT, .object RX9)]) (va_Qi (fun (r : Int32) (u : (Nat)) => (r = 1 ∧ z1 = nI u ∧ u ≤ tp) ∨ (r = 0 ∧ u = tp ∧ ¬ (0 ≤ z1 ∧ z1 ≤ nI tp))) (fun (u : (Nat)) t => va_P D vwCl [(ox 0, .inr (10, [.ref (ox 1), .ref (ox 2), .int (nI u), .ref (ob3 0), .ref (og 0), .ref (oq 0), .ref (ow 0)])), (ox 1, .inl (cT, 4, .inr (.inr (.inr (.inr ft)))))] t.heap ∧ va_K D vwCl [(cT, .object RX9)] t ∧ va_D (va_A [(ox 0, .inr (10, [.ref (ox 1), .ref (ox 2), .int (nI tp), .ref (ob3 0), .ref (og 0), .ref (oq 0), .ref (ow 0)])), (ox 1, .inl (cT, 4, .inr (.inr (.inr (.inr ft)))))] sz) [(ox 0, .inr (10, [.ref (ox 1), .ref (ox 2), .int (nI u), .ref (ob3 0), .ref (og 0), .ref (oq 0), .ref (ow 0)])), (ox 1, .inl (cT, 4, .inr (.inr (.inr (.inr ft)))))]) (va_A [(ox 0, .inr (10, [.ref (ox 1), .ref (ox 2), .int (nI tp), .ref (ob3 0), .ref (og 0), .ref (oq 0), .ref (ow 0)])), (ox 1, .inl (cT, 4, .inr (.inr (.inr (.inr ft)))))] sz)) 0 0 (va_A [(ox 0, .inr (10, [.ref (ox 1), .ref (ox 2), .int (nI tp), .ref (ob3 0), .ref (og 0), .ref (oq 0), .ref (ow 0)])), (ox 1, .inl (cT, 4, .inr (.inr (.inr (.inr ft)))))] sz) := by
  refine Met.ofW (cc := cX10_end) (maxL := 2) (ret := (some .boolean)) (by decide) rfl ?_
  intro p e s m args below meth c s₁ B hml hv
  obtain ⟨rfl, hsz, hP, hK, hD0, hN⟩ := hv
  have hx := B.exec
  have hb := B.bytes
  have hr := B.returns
  have hts := atoms_spec (ws := wp_x_end) B.pre
  have hin_X10 : ∀ w ∈ wsX100, w ∈ wp_x_end := fun _ h => (List.mem_cons_of_mem _ (List.mem_append_right _ (List.mem_append_left _ h)))
  have hown : s.vm.findClass RX10 = some m.cls := findClass_of_methodNamed B.named
  have hlocks := B.notSynchronized
  subst hsz
  have hD := hD0.self (sz := s.heap.size)
  generalize hAe : va_A [(ox 0, .inr (10, [.ref (ox 1), .ref (ox 2), .int (nI tp), .ref (ob3 0), .ref (og 0), .ref (oq 0), .ref (ow 0)])), (ox 1, .inl (cT, 4, .inr (.inr (.inr (.inr ft)))))] s.heap.size = A at hD ⊢
  have hA : ∀ q : Nat, s.heap.size ≤ q → A q := fun q h => by rw [← hAe]; exact Or.inr h
  have hS : va_S A s.heap s.heap [] := va_S.rf
  have hP : va_P D vwCl [(ox 0, .inr (10, [.ref (ox 1), .ref (ox 2), .int (nI tp), .ref (ob3 0), .ref (og 0), .ref (oq 0), .ref (ow 0)])), (ox 1, .inl (cT, 4, .inr (.inr (.inr (.inr ft)))))] s.heap := hP
  have hl := lv_entry ([.ref (ox 0), .int z1]) (n := 2) (Nat.le_of_ble_eq_true rfl)
  rw [lg_entry_eq]
  generalize (lg_sl ([.ref (ox 0), .int z1]) ++ List.replicate (2 - (lg_sl ([.ref (ox 0), .int z1])).length) Slot.unset).toArray = ls at hl ⊢
  have hl : lv_has ls 2 [(0, .ref (ox 0)), (1, .int z1)] := hl
  refine lv_iload_n hx hb dX10_end_0 rfl (lv_at hl 1 rfl) ?_
  refine lv_if_lt (tgt := 12) hx hb dX10_end_1 (by decide) (fun hc1 => ?_) (fun hc1 => ?_)
  ·
    refine lv_iconst (v := 0) hx hb dX10_end_12 (by decide) ?_
    exact W.zret (v := 0) hx hb hr rfl (fun t ht hW => ⟨⟨0, tp, rfl, Or.inr ⟨rfl, rfl, fun q => absurd q.1 (Int32.not_le.mpr hc1)⟩, by rw [ht]; exact hP.sub [0, 1] rfl, va_K.moved hW.alike (hK.sub [0] rfl), hD.sub [0, 1] (by decide) rfl⟩, hS.F ht⟩) hS.2.2 dX10_end_13
  ·
    refine lv_iload_n hx hb dX10_end_4 rfl (lv_at hl 1 rfl) ?_
    refine lv_aload_n hx hb dX10_end_5 rfl (lv_at hl 0 rfl) ?_
    refine va_get (D := D) (ci := 10) (v := .int (nI tp)) (C := RX10) (T := TX10) (N := 7) hx hb hts hin_X10 hown hK hP 0 rfl rfl 2 (by decide) (hts (.fieldLink RX10 19 "ClashFree" "taped" "I") (List.mem_of_getElem? (i := 1) rfl)) (fun _ h9 => h9) rfl dX10_end_6 ?_
    refine lv_icmp_le (tgt := 14) hx hb dX10_end_9 (by decide) (fun hc2 => ?_) (fun hc2 => ?_)
    ·
      obtain ⟨j, hj, rfl⟩ := inz_le (by omega) hc1 hc2
      refine lv_aload_n hx hb dX10_end_14 rfl (lv_at hl 0 rfl) ?_
      refine lv_iload_n hx hb dX10_end_15 rfl (lv_at hl 1 rfl) ?_
      refine va_put (D := D) (ci := 10) (v := .int (nI j)) (ty := .int) (C := RX10) (T := TX10) (N := 7) hx hb hts hin_X10 tyX10 tyX10_ok nmX10 hown hK hP hD hS 0 rfl rfl 2 (by decide) (hts (.fieldLink RX10 19 "ClashFree" "taped" "I") (List.mem_of_getElem? (i := 1) rfl)) (fun _ h9 => h9) rfl (by decide +kernel) rfl rfl (Nat.le_of_ble_eq_true rfl) dX10_end_16 (fun H locs hP hD hS => ?_)
      have hP : va_P D vwCl [(ox 0, .inr (10, [.ref (ox 1), .ref (ox 2), .int (nI j), .ref (ob3 0), .ref (og 0), .ref (oq 0), .ref (ow 0)])), (ox 1, .inl (cT, 4, .inr (.inr (.inr (.inr ft)))))] H := hP
      have hD : va_D A [(ox 0, .inr (10, [.ref (ox 1), .ref (ox 2), .int (nI j), .ref (ob3 0), .ref (og 0), .ref (oq 0), .ref (ow 0)])), (ox 1, .inl (cT, 4, .inr (.inr (.inr (.inr ft)))))] := hD
      refine lv_iconst (v := 1) hx hb dX10_end_19 (by decide) ?_
      exact W.zret (v := 1) hx hb hr rfl (fun t ht hW => ⟨⟨1, j, rfl, Or.inl ⟨rfl, rfl, hj⟩, by rw [ht]; exact hP.sub [0, 1] rfl, va_K.moved hW.alike (hK.sub [0] rfl), hD.sub [0, 1] (by decide) rfl⟩, hS.F ht⟩) hS.2.2 dX10_end_20
    ·
      refine lv_iconst (v := 0) hx hb dX10_end_12 (by decide) ?_
      exact W.zret (v := 0) hx hb hr rfl (fun t ht hW => ⟨⟨0, tp, rfl, Or.inr ⟨rfl, rfl, fun q => hc2 q.2⟩, by rw [ht]; exact hP.sub [0, 1] rfl, va_K.moved hW.alike (hK.sub [0] rfl), hD.sub [0, 1] (by decide) rfl⟩, hS.F ht⟩) hS.2.2 dX10_end_13

def own_x_ran : List Cond := [.fieldLink RX10 40 "ClashFree" "parser" "LClashFree$Parser;", .fieldLink RX10 282 "ClashFree$Parser" "fault" "I", .constantLong RX10 183 (-1), .fieldLink RX10 47 "ClashFree" "machine" "LClashFree$Machine;", .fieldLink RX10 302 "ClashFree$Machine" "refused" "I", .fieldLink RX10 305 "ClashFree$Machine" "latest" "I", .fieldLink RX10 308 "ClashFree$Machine" "ended" "Z", .constantLong RX10 91 (-1000000000000000), .fieldLink RX10 296 "ClashFree$Parser" "faultPlace" "I", .fieldLink RX10 299 "ClashFree$Parser" "faultDepth" "I"]
def wp_x_ran : List Cond := .code yX10_ran cX10_ran 3 (some .long) :: (own_x_ran ++ (wsX100 ++ (wsX60 ++ (wsX40 ++ ([] : List Cond)))))
set_option maxRecDepth 20000 in
theorem inown_x_ran : ∀ w ∈ own_x_ran, w ∈ lw_tbl := mem_places [417, 328, 727, 418, 386, 388, 390, 691, 330, 332] (by decide +kernel)
set_option maxRecDepth 20000 in
theorem in_x_ran : ∀ w ∈ wp_x_ran, w ∈ lw_tbl := List.forall_mem_cons.mpr ⟨List.mem_of_getElem? (i := 1143) (by decide +kernel), List.forall_mem_append.mpr ⟨inown_x_ran, List.forall_mem_append.mpr ⟨lwb_X10, List.forall_mem_append.mpr ⟨lwb_X6, List.forall_mem_append.mpr ⟨lwb_X4, fun _ h => absurd h List.not_mem_nil⟩⟩⟩⟩⟩
set_option maxRecDepth 20000 in
theorem good_x_ran : wp_x_ran.all goodWord = true := by decide +kernel
set_option maxHeartbeats 4000000 in
set_option maxRecDepth 100000 in
theorem x_ran (l : Launch) (D : va_G) (sz : Nat) (ox : Nat → Nat) (ob3 : Nat → Nat) (og : Nat → Nat) (oq : Nat → Nat) (ow : Nat → Nat) (cI : ClassId) (cT : ClassId) (tp : Nat) (ft : Nat → Option Nat) (qf : Int32) (qp : Int32) (qd : Int32) (qs : Int32) (qt : Int32) (qb : Int32) (qh : Int32) (qr : Int32) (qn : Int32) (bk : Nat) (wz : Nat) (pz : Nat) (fK : Nat → Int32) (fN : Nat → Int32) (fL : Nat → Int32) (tx : Value) (zl : Int32) (ta : Int32) (be : Int32) (ki : Int32) (nu : Int32) (wo : Int32) (fO : Nat → Int32) (fW : Nat → Int32) (st : Nat) (rf : Int32) (lt : Int32) (en : Int32) (lo : Nat) (oz : Nat) (fR : Nat → Int32) (fP : Nat → Int32) (z1 : Int32)  : Met l yX10_ran wp_x_ran ({ frames := 0, cells := 0, slots := 0, locals := 0 }) (PcRC D [.ref (ox 0), .int z1] sz [(ox 0, .inr (10, [.ref (ox 1), .ref (ox 2), .int (nI tp), .ref (ob3 0), .ref (og 0), .ref (oq 0), .ref (ow 0)])), (ox 1, .inl (cT, 4, .inr (.inr (.inr (.inr ft))))), (oq 0, .inr (6, gPs oq qf qp qd qs qt qb qh qr qn (nI bk) (nI wz))), (oq 1, .inr (7, [.int (nI pz), .ref (oq 2), .ref (oq 3), .ref (oq 4)])), (oq 2, .inl (cI, 600, .inl fK)), (oq 3, .inl (cI, 600, .inl fN)), (oq 4, .inl (cI, 600, .inl fL)), (oq 5, .inr (8, [tx, .int zl, .int ta, .int be, .int ki, .int nu, .int wo])), (oq 6, .inl (cI, 5, .inl fO)), (oq 7, .inl (cI, 600, .inl fW)), (ow 0, .inr (4, gMa ow (nI st) rf lt en (nI lo) (nI oz))), (ow 1, .inl (cI, 5, .inl fR)), (ow 2, .inl (cI, 64, .inl fP))] [(cI, .int), (cT, .object RX9)]) (va_Ql (fun (r : Int64) (u : Unit) => True) (fun (_ : Unit) _ => True) (va_A [] sz)) 0 0 (va_A [] sz) := by
  refine Met.ofW (cc := cX10_ran) (maxL := 3) (ret := (some .long)) (by decide) rfl ?_
  intro p e s m args below meth c s₁ B hml hv
  obtain ⟨rfl, hsz, hP, hK, hN⟩ := hv
  have hx := B.exec
  have hb := B.bytes
  have hr := B.returns
  have hts := atoms_spec (ws := wp_x_ran) B.pre
  have hin_X10 : ∀ w ∈ wsX100, w ∈ wp_x_ran := fun _ h => (List.mem_cons_of_mem _ (List.mem_append_right _ (List.mem_append_left _ h)))
  have hin_X6 : ∀ w ∈ wsX60, w ∈ wp_x_ran := fun _ h => (List.mem_cons_of_mem _ (List.mem_append_right _ (List.mem_append_right _ (List.mem_append_left _ h))))
  have hin_X4 : ∀ w ∈ wsX40, w ∈ wp_x_ran := fun _ h => (List.mem_cons_of_mem _ (List.mem_append_right _ (List.mem_append_right _ (List.mem_append_right _ (List.mem_append_left _ h)))))
  have hown : s.vm.findClass RX10 = some m.cls := findClass_of_methodNamed B.named
  have hlocks := B.notSynchronized
  subst hsz
  generalize hAe : va_A [] s.heap.size = A at ⊢
  have hA : ∀ q : Nat, s.heap.size ≤ q → A q := fun q h => by rw [← hAe]; exact Or.inr h
  have hS : va_S A s.heap s.heap [] := va_S.rf
  have hP : va_P D vwCl [(ox 0, .inr (10, [.ref (ox 1), .ref (ox 2), .int (nI tp), .ref (ob3 0), .ref (og 0), .ref (oq 0), .ref (ow 0)])), (ox 1, .inl (cT, 4, .inr (.inr (.inr (.inr ft))))), (oq 0, .inr (6, gPs oq qf qp qd qs qt qb qh qr qn (nI bk) (nI wz))), (oq 1, .inr (7, [.int (nI pz), .ref (oq 2), .ref (oq 3), .ref (oq 4)])), (oq 2, .inl (cI, 600, .inl fK)), (oq 3, .inl (cI, 600, .inl fN)), (oq 4, .inl (cI, 600, .inl fL)), (oq 5, .inr (8, [tx, .int zl, .int ta, .int be, .int ki, .int nu, .int wo])), (oq 6, .inl (cI, 5, .inl fO)), (oq 7, .inl (cI, 600, .inl fW)), (ow 0, .inr (4, gMa ow (nI st) rf lt en (nI lo) (nI oz))), (ow 1, .inl (cI, 5, .inl fR)), (ow 2, .inl (cI, 64, .inl fP))] s.heap := hP
  have hl := lv_entry ([.ref (ox 0), .int z1]) (n := 3) (Nat.le_of_ble_eq_true rfl)
  rw [lg_entry_eq]
  generalize (lg_sl ([.ref (ox 0), .int z1]) ++ List.replicate (3 - (lg_sl ([.ref (ox 0), .int z1])).length) Slot.unset).toArray = ls at hl ⊢
  have hl : lv_has ls 3 [(0, .ref (ox 0)), (1, .int z1)] := hl
  refine lv_aload_n hx hb dX10_ran_0 rfl (lv_at hl 0 rfl) ?_
  refine va_get (D := D) (ci := 10) (v := .ref (oq 0)) (C := RX10) (T := TX10) (N := 7) hx hb hts hin_X10 hown hK hP 0 rfl rfl 5 (by decide) (hts (.fieldLink RX10 40 "ClashFree" "parser" "LClashFree$Parser;") (List.mem_of_getElem? (i := 1) rfl)) (fun _ h9 => h9) rfl dX10_ran_1 ?_
  refine va_get (D := D) (ci := 6) (v := .int qf) (C := RX6) (T := TX6) (N := 15) hx hb hts hin_X6 hown hK hP 2 rfl rfl 0 (by decide) (hts (.fieldLink RX10 282 "ClashFree$Parser" "fault" "I") (List.mem_of_getElem? (i := 2) rfl)) (fun _ h9 => h9) rfl dX10_ran_4 ?_
  refine lv_if_eq (tgt := 14) hx hb dX10_ran_7 (by decide) (fun hc1 => ?_) (fun hc1 => ?_)
  ·
    refine lv_iconst (v := 0) hx hb dX10_ran_14 (by decide) ?_
    refine lv_istore_n (lv' := [(2, .int 0), (0, .ref (ox 0)), (1, .int z1)]) hx hb dX10_ran_15 rfl hl (by decide) rfl (fun ls hl => ?_)
    refine lv_iload_n hx hb dX10_ran_16 rfl (lv_at hl 2 rfl) ?_
    by_cases hs2 : z1 = 0
    ·
      subst hs2
      refine lv_tableIn (off := 39) (tgt := 56) hx hb dX10_ran_17 (by decide) (by decide) (by decide +kernel) (by decide) ?_
      refine lv_aload_n hx hb dX10_ran_56 rfl (lv_at hl 1 rfl) ?_
      refine va_get (D := D) (ci := 10) (v := .ref (oq 0)) (C := RX10) (T := TX10) (N := 7) hx hb hts hin_X10 hown hK hP 0 rfl rfl 5 (by decide) (hts (.fieldLink RX10 40 "ClashFree" "parser" "LClashFree$Parser;") (List.mem_of_getElem? (i := 1) rfl)) (fun _ h9 => h9) rfl dX10_ran_57 ?_
      refine va_get (D := D) (ci := 6) (v := .int qf) (C := RX6) (T := TX6) (N := 15) hx hb hts hin_X6 hown hK hP 2 rfl rfl 0 (by decide) (hts (.fieldLink RX10 282 "ClashFree$Parser" "fault" "I") (List.mem_of_getElem? (i := 2) rfl)) (fun _ h9 => h9) rfl dX10_ran_60 ?_
      refine lv_i2l hx hb dX10_ran_63 rfl ?_
      exact W.lret (v := Int32.toInt64 qf) hx hb hr (fun t ht hW => ⟨⟨Int32.toInt64 qf, (), rfl, trivial, trivial⟩, hS.F ht⟩) hS.2.2 dX10_ran_64
    by_cases hs3 : z1 = 1
    ·
      subst hs3
      refine lv_tableIn (off := 48) (tgt := 65) hx hb dX10_ran_17 (by decide) (by decide) (by decide +kernel) (by decide) ?_
      refine lv_iload_n hx hb dX10_ran_65 rfl (lv_at hl 0 rfl) ?_
      refine lv_if_eq (tgt := 80) hx hb dX10_ran_66 (by decide) (fun hc => ?_) (fun hc => absurd (by decide) hc)
      refine lv_ldc2 (v := (-1)) hx hb hown (hts (.constantLong RX10 183 (-1)) (List.mem_of_getElem? (i := 3) rfl)) dX10_ran_80 ?_
      exact W.lret (v := (-1)) hx hb hr (fun t ht hW => ⟨⟨(-1), (), rfl, trivial, trivial⟩, hS.F ht⟩) hS.2.2 dX10_ran_83
    by_cases hs4 : z1 = 2
    ·
      subst hs4
      refine lv_tableIn (off := 67) (tgt := 84) hx hb dX10_ran_17 (by decide) (by decide) (by decide +kernel) (by decide) ?_
      refine lv_iload_n hx hb dX10_ran_84 rfl (lv_at hl 0 rfl) ?_
      refine lv_if_eq (tgt := 99) hx hb dX10_ran_85 (by decide) (fun hc => ?_) (fun hc => absurd (by decide) hc)
      refine lv_ldc2 (v := (-1)) hx hb hown (hts (.constantLong RX10 183 (-1)) (List.mem_of_getElem? (i := 3) rfl)) dX10_ran_99 ?_
      exact W.lret (v := (-1)) hx hb hr (fun t ht hW => ⟨⟨(-1), (), rfl, trivial, trivial⟩, hS.F ht⟩) hS.2.2 dX10_ran_102
    by_cases hs5 : z1 = 3
    ·
      subst hs5
      refine lv_tableIn (off := 86) (tgt := 103) hx hb dX10_ran_17 (by decide) (by decide) (by decide +kernel) (by decide) ?_
      refine lv_aload_n hx hb dX10_ran_103 rfl (lv_at hl 1 rfl) ?_
      refine va_get (D := D) (ci := 10) (v := .ref (ow 0)) (C := RX10) (T := TX10) (N := 7) hx hb hts hin_X10 hown hK hP 0 rfl rfl 6 (by decide) (hts (.fieldLink RX10 47 "ClashFree" "machine" "LClashFree$Machine;") (List.mem_of_getElem? (i := 4) rfl)) (fun _ h9 => h9) rfl dX10_ran_104 ?_
      refine va_get (D := D) (ci := 4) (v := .int rf) (C := RX4) (T := TX4) (N := 8) hx hb hts hin_X4 hown hK hP 10 rfl rfl 1 (by decide) (hts (.fieldLink RX10 302 "ClashFree$Machine" "refused" "I") (List.mem_of_getElem? (i := 5) rfl)) (fun _ h9 => h9) rfl dX10_ran_107 ?_
      refine lv_i2l hx hb dX10_ran_110 rfl ?_
      exact W.lret (v := Int32.toInt64 rf) hx hb hr (fun t ht hW => ⟨⟨Int32.toInt64 rf, (), rfl, trivial, trivial⟩, hS.F ht⟩) hS.2.2 dX10_ran_111
    by_cases hs6 : z1 = 4
    ·
      subst hs6
      refine lv_tableIn (off := 95) (tgt := 112) hx hb dX10_ran_17 (by decide) (by decide) (by decide +kernel) (by decide) ?_
      refine lv_aload_n hx hb dX10_ran_112 rfl (lv_at hl 1 rfl) ?_
      refine va_get (D := D) (ci := 10) (v := .ref (ow 0)) (C := RX10) (T := TX10) (N := 7) hx hb hts hin_X10 hown hK hP 0 rfl rfl 6 (by decide) (hts (.fieldLink RX10 47 "ClashFree" "machine" "LClashFree$Machine;") (List.mem_of_getElem? (i := 4) rfl)) (fun _ h9 => h9) rfl dX10_ran_113 ?_
      refine va_get (D := D) (ci := 4) (v := .int lt) (C := RX4) (T := TX4) (N := 8) hx hb hts hin_X4 hown hK hP 10 rfl rfl 2 (by decide) (hts (.fieldLink RX10 305 "ClashFree$Machine" "latest" "I") (List.mem_of_getElem? (i := 6) rfl)) (fun _ h9 => h9) rfl dX10_ran_116 ?_
      refine lv_i2l hx hb dX10_ran_119 rfl ?_
      exact W.lret (v := Int32.toInt64 lt) hx hb hr (fun t ht hW => ⟨⟨Int32.toInt64 lt, (), rfl, trivial, trivial⟩, hS.F ht⟩) hS.2.2 dX10_ran_120
    by_cases hs7 : z1 = 5
    ·
      subst hs7
      refine lv_tableIn (off := 104) (tgt := 121) hx hb dX10_ran_17 (by decide) (by decide) (by decide +kernel) (by decide) ?_
      refine lv_aload_n hx hb dX10_ran_121 rfl (lv_at hl 1 rfl) ?_
      refine va_get (D := D) (ci := 10) (v := .ref (ow 0)) (C := RX10) (T := TX10) (N := 7) hx hb hts hin_X10 hown hK hP 0 rfl rfl 6 (by decide) (hts (.fieldLink RX10 47 "ClashFree" "machine" "LClashFree$Machine;") (List.mem_of_getElem? (i := 4) rfl)) (fun _ h9 => h9) rfl dX10_ran_122 ?_
      refine va_get (D := D) (ci := 4) (v := .int en) (C := RX4) (T := TX4) (N := 8) hx hb hts hin_X4 hown hK hP 10 rfl rfl 3 (by decide) (hts (.fieldLink RX10 308 "ClashFree$Machine" "ended" "Z") (List.mem_of_getElem? (i := 7) rfl)) (fun _ h9 => h9) rfl dX10_ran_125 ?_
      refine lv_if_eq (tgt := 135) hx hb dX10_ran_128 (by decide) (fun hc8 => ?_) (fun hc8 => ?_)
      ·
        refine lv_lconst (v := 0) hx hb dX10_ran_135 (by decide) ?_
        exact W.lret (v := 0) hx hb hr (fun t ht hW => ⟨⟨0, (), rfl, trivial, trivial⟩, hS.F ht⟩) hS.2.2 dX10_ran_136
      ·
        refine lv_lconst (v := 1) hx hb dX10_ran_131 (by decide) ?_
        refine lv_goto (tgt := 136) hx hb dX10_ran_132 (by decide) ?_
        exact W.lret (v := 1) hx hb hr (fun t ht hW => ⟨⟨1, (), rfl, trivial, trivial⟩, hS.F ht⟩) hS.2.2 dX10_ran_136
    refine lv_tableOut (tgt := 137) hx hb dX10_ran_17 (by have a0 := sw_ne (n := 0) hs2 (by decide) (by decide); have a1 := sw_ne (n := 1) hs3 (by decide) (by decide); have a2 := sw_ne (n := 2) hs4 (by decide) (by decide); have a3 := sw_ne (n := 3) hs5 (by decide) (by decide); have a4 := sw_ne (n := 4) hs6 (by decide) (by decide); have a5 := sw_ne (n := 5) hs7 (by decide) (by decide); omega) (by decide) ?_
    refine lv_ldc2 (v := (-1000000000000000)) hx hb hown (hts (.constantLong RX10 91 (-1000000000000000)) (List.mem_of_getElem? (i := 8) rfl)) dX10_ran_137 ?_
    exact W.lret (v := (-1000000000000000)) hx hb hr (fun t ht hW => ⟨⟨(-1000000000000000), (), rfl, trivial, trivial⟩, hS.F ht⟩) hS.2.2 dX10_ran_140
  ·
    refine lv_iconst (v := 1) hx hb dX10_ran_10 (by decide) ?_
    refine lv_goto (tgt := 15) hx hb dX10_ran_11 (by decide) ?_
    refine lv_istore_n (lv' := [(2, .int 1), (0, .ref (ox 0)), (1, .int z1)]) hx hb dX10_ran_15 rfl hl (by decide) rfl (fun ls hl => ?_)
    refine lv_iload_n hx hb dX10_ran_16 rfl (lv_at hl 2 rfl) ?_
    by_cases hs9 : z1 = 0
    ·
      subst hs9
      refine lv_tableIn (off := 39) (tgt := 56) hx hb dX10_ran_17 (by decide) (by decide) (by decide +kernel) (by decide) ?_
      refine lv_aload_n hx hb dX10_ran_56 rfl (lv_at hl 1 rfl) ?_
      refine va_get (D := D) (ci := 10) (v := .ref (oq 0)) (C := RX10) (T := TX10) (N := 7) hx hb hts hin_X10 hown hK hP 0 rfl rfl 5 (by decide) (hts (.fieldLink RX10 40 "ClashFree" "parser" "LClashFree$Parser;") (List.mem_of_getElem? (i := 1) rfl)) (fun _ h9 => h9) rfl dX10_ran_57 ?_
      refine va_get (D := D) (ci := 6) (v := .int qf) (C := RX6) (T := TX6) (N := 15) hx hb hts hin_X6 hown hK hP 2 rfl rfl 0 (by decide) (hts (.fieldLink RX10 282 "ClashFree$Parser" "fault" "I") (List.mem_of_getElem? (i := 2) rfl)) (fun _ h9 => h9) rfl dX10_ran_60 ?_
      refine lv_i2l hx hb dX10_ran_63 rfl ?_
      exact W.lret (v := Int32.toInt64 qf) hx hb hr (fun t ht hW => ⟨⟨Int32.toInt64 qf, (), rfl, trivial, trivial⟩, hS.F ht⟩) hS.2.2 dX10_ran_64
    by_cases hs10 : z1 = 1
    ·
      subst hs10
      refine lv_tableIn (off := 48) (tgt := 65) hx hb dX10_ran_17 (by decide) (by decide) (by decide +kernel) (by decide) ?_
      refine lv_iload_n hx hb dX10_ran_65 rfl (lv_at hl 0 rfl) ?_
      refine lv_if_eq (tgt := 80) hx hb dX10_ran_66 (by decide) (fun hc => absurd hc (by decide)) (fun hc => ?_)
      refine lv_aload_n hx hb dX10_ran_69 rfl (lv_at hl 1 rfl) ?_
      refine va_get (D := D) (ci := 10) (v := .ref (oq 0)) (C := RX10) (T := TX10) (N := 7) hx hb hts hin_X10 hown hK hP 0 rfl rfl 5 (by decide) (hts (.fieldLink RX10 40 "ClashFree" "parser" "LClashFree$Parser;") (List.mem_of_getElem? (i := 1) rfl)) (fun _ h9 => h9) rfl dX10_ran_70 ?_
      refine va_get (D := D) (ci := 6) (v := .int qp) (C := RX6) (T := TX6) (N := 15) hx hb hts hin_X6 hown hK hP 2 rfl rfl 1 (by decide) (hts (.fieldLink RX10 296 "ClashFree$Parser" "faultPlace" "I") (List.mem_of_getElem? (i := 9) rfl)) (fun _ h9 => h9) rfl dX10_ran_73 ?_
      refine lv_i2l hx hb dX10_ran_76 rfl ?_
      refine lv_goto (tgt := 83) hx hb dX10_ran_77 (by decide) ?_
      exact W.lret (v := Int32.toInt64 qp) hx hb hr (fun t ht hW => ⟨⟨Int32.toInt64 qp, (), rfl, trivial, trivial⟩, hS.F ht⟩) hS.2.2 dX10_ran_83
    by_cases hs11 : z1 = 2
    ·
      subst hs11
      refine lv_tableIn (off := 67) (tgt := 84) hx hb dX10_ran_17 (by decide) (by decide) (by decide +kernel) (by decide) ?_
      refine lv_iload_n hx hb dX10_ran_84 rfl (lv_at hl 0 rfl) ?_
      refine lv_if_eq (tgt := 99) hx hb dX10_ran_85 (by decide) (fun hc => absurd hc (by decide)) (fun hc => ?_)
      refine lv_aload_n hx hb dX10_ran_88 rfl (lv_at hl 1 rfl) ?_
      refine va_get (D := D) (ci := 10) (v := .ref (oq 0)) (C := RX10) (T := TX10) (N := 7) hx hb hts hin_X10 hown hK hP 0 rfl rfl 5 (by decide) (hts (.fieldLink RX10 40 "ClashFree" "parser" "LClashFree$Parser;") (List.mem_of_getElem? (i := 1) rfl)) (fun _ h9 => h9) rfl dX10_ran_89 ?_
      refine va_get (D := D) (ci := 6) (v := .int qd) (C := RX6) (T := TX6) (N := 15) hx hb hts hin_X6 hown hK hP 2 rfl rfl 2 (by decide) (hts (.fieldLink RX10 299 "ClashFree$Parser" "faultDepth" "I") (List.mem_of_getElem? (i := 10) rfl)) (fun _ h9 => h9) rfl dX10_ran_92 ?_
      refine lv_i2l hx hb dX10_ran_95 rfl ?_
      refine lv_goto (tgt := 102) hx hb dX10_ran_96 (by decide) ?_
      exact W.lret (v := Int32.toInt64 qd) hx hb hr (fun t ht hW => ⟨⟨Int32.toInt64 qd, (), rfl, trivial, trivial⟩, hS.F ht⟩) hS.2.2 dX10_ran_102
    by_cases hs12 : z1 = 3
    ·
      subst hs12
      refine lv_tableIn (off := 86) (tgt := 103) hx hb dX10_ran_17 (by decide) (by decide) (by decide +kernel) (by decide) ?_
      refine lv_aload_n hx hb dX10_ran_103 rfl (lv_at hl 1 rfl) ?_
      refine va_get (D := D) (ci := 10) (v := .ref (ow 0)) (C := RX10) (T := TX10) (N := 7) hx hb hts hin_X10 hown hK hP 0 rfl rfl 6 (by decide) (hts (.fieldLink RX10 47 "ClashFree" "machine" "LClashFree$Machine;") (List.mem_of_getElem? (i := 4) rfl)) (fun _ h9 => h9) rfl dX10_ran_104 ?_
      refine va_get (D := D) (ci := 4) (v := .int rf) (C := RX4) (T := TX4) (N := 8) hx hb hts hin_X4 hown hK hP 10 rfl rfl 1 (by decide) (hts (.fieldLink RX10 302 "ClashFree$Machine" "refused" "I") (List.mem_of_getElem? (i := 5) rfl)) (fun _ h9 => h9) rfl dX10_ran_107 ?_
      refine lv_i2l hx hb dX10_ran_110 rfl ?_
      exact W.lret (v := Int32.toInt64 rf) hx hb hr (fun t ht hW => ⟨⟨Int32.toInt64 rf, (), rfl, trivial, trivial⟩, hS.F ht⟩) hS.2.2 dX10_ran_111
    by_cases hs13 : z1 = 4
    ·
      subst hs13
      refine lv_tableIn (off := 95) (tgt := 112) hx hb dX10_ran_17 (by decide) (by decide) (by decide +kernel) (by decide) ?_
      refine lv_aload_n hx hb dX10_ran_112 rfl (lv_at hl 1 rfl) ?_
      refine va_get (D := D) (ci := 10) (v := .ref (ow 0)) (C := RX10) (T := TX10) (N := 7) hx hb hts hin_X10 hown hK hP 0 rfl rfl 6 (by decide) (hts (.fieldLink RX10 47 "ClashFree" "machine" "LClashFree$Machine;") (List.mem_of_getElem? (i := 4) rfl)) (fun _ h9 => h9) rfl dX10_ran_113 ?_
      refine va_get (D := D) (ci := 4) (v := .int lt) (C := RX4) (T := TX4) (N := 8) hx hb hts hin_X4 hown hK hP 10 rfl rfl 2 (by decide) (hts (.fieldLink RX10 305 "ClashFree$Machine" "latest" "I") (List.mem_of_getElem? (i := 6) rfl)) (fun _ h9 => h9) rfl dX10_ran_116 ?_
      refine lv_i2l hx hb dX10_ran_119 rfl ?_
      exact W.lret (v := Int32.toInt64 lt) hx hb hr (fun t ht hW => ⟨⟨Int32.toInt64 lt, (), rfl, trivial, trivial⟩, hS.F ht⟩) hS.2.2 dX10_ran_120
    by_cases hs14 : z1 = 5
    ·
      subst hs14
      refine lv_tableIn (off := 104) (tgt := 121) hx hb dX10_ran_17 (by decide) (by decide) (by decide +kernel) (by decide) ?_
      refine lv_aload_n hx hb dX10_ran_121 rfl (lv_at hl 1 rfl) ?_
      refine va_get (D := D) (ci := 10) (v := .ref (ow 0)) (C := RX10) (T := TX10) (N := 7) hx hb hts hin_X10 hown hK hP 0 rfl rfl 6 (by decide) (hts (.fieldLink RX10 47 "ClashFree" "machine" "LClashFree$Machine;") (List.mem_of_getElem? (i := 4) rfl)) (fun _ h9 => h9) rfl dX10_ran_122 ?_
      refine va_get (D := D) (ci := 4) (v := .int en) (C := RX4) (T := TX4) (N := 8) hx hb hts hin_X4 hown hK hP 10 rfl rfl 3 (by decide) (hts (.fieldLink RX10 308 "ClashFree$Machine" "ended" "Z") (List.mem_of_getElem? (i := 7) rfl)) (fun _ h9 => h9) rfl dX10_ran_125 ?_
      refine lv_if_eq (tgt := 135) hx hb dX10_ran_128 (by decide) (fun hc15 => ?_) (fun hc15 => ?_)
      ·
        refine lv_lconst (v := 0) hx hb dX10_ran_135 (by decide) ?_
        exact W.lret (v := 0) hx hb hr (fun t ht hW => ⟨⟨0, (), rfl, trivial, trivial⟩, hS.F ht⟩) hS.2.2 dX10_ran_136
      ·
        refine lv_lconst (v := 1) hx hb dX10_ran_131 (by decide) ?_
        refine lv_goto (tgt := 136) hx hb dX10_ran_132 (by decide) ?_
        exact W.lret (v := 1) hx hb hr (fun t ht hW => ⟨⟨1, (), rfl, trivial, trivial⟩, hS.F ht⟩) hS.2.2 dX10_ran_136
    refine lv_tableOut (tgt := 137) hx hb dX10_ran_17 (by have a0 := sw_ne (n := 0) hs9 (by decide) (by decide); have a1 := sw_ne (n := 1) hs10 (by decide) (by decide); have a2 := sw_ne (n := 2) hs11 (by decide) (by decide); have a3 := sw_ne (n := 3) hs12 (by decide) (by decide); have a4 := sw_ne (n := 4) hs13 (by decide) (by decide); have a5 := sw_ne (n := 5) hs14 (by decide) (by decide); omega) (by decide) ?_
    refine lv_ldc2 (v := (-1000000000000000)) hx hb hown (hts (.constantLong RX10 91 (-1000000000000000)) (List.mem_of_getElem? (i := 8) rfl)) dX10_ran_137 ?_
    exact W.lret (v := (-1000000000000000)) hx hb hr (fun t ht hW => ⟨⟨(-1000000000000000), (), rfl, trivial, trivial⟩, hS.F ht⟩) hS.2.2 dX10_ran_140

def own_x_octet : List Cond := [.fieldLink RX10 33 "ClashFree" "written" "LClashFree$Image;", .fieldLink RX10 316 "ClashFree$Image" "length" "I", .fieldLink RX10 319 "ClashFree$Image" "bytes" "[I"]
def wp_x_octet : List Cond := .code yX10_octet cX10_octet 2 (some .int) :: (own_x_octet ++ (wsX100 ++ (wsX10 ++ ([] : List Cond))))
set_option maxRecDepth 20000 in
theorem inown_x_octet : ∀ w ∈ own_x_octet, w ∈ lw_tbl := mem_places [416, 258, 260] (by decide +kernel)
set_option maxRecDepth 20000 in
theorem in_x_octet : ∀ w ∈ wp_x_octet, w ∈ lw_tbl := List.forall_mem_cons.mpr ⟨List.mem_of_getElem? (i := 1161) (by decide +kernel), List.forall_mem_append.mpr ⟨inown_x_octet, List.forall_mem_append.mpr ⟨lwb_X10, List.forall_mem_append.mpr ⟨lwb_X1, fun _ h => absurd h List.not_mem_nil⟩⟩⟩⟩
set_option maxRecDepth 20000 in
theorem good_x_octet : wp_x_octet.all goodWord = true := by decide +kernel
set_option maxHeartbeats 4000000 in
set_option maxRecDepth 100000 in
theorem x_octet (l : Launch) (D : va_G) (sz : Nat) (ox : Nat → Nat) (ob3 : Nat → Nat) (og : Nat → Nat) (oq : Nat → Nat) (ow : Nat → Nat) (cI : ClassId) (cT : ClassId) (tp : Nat) (ft : Nat → Option Nat) (il : Nat) (fi : Nat → Int32) (z1 : Int32) (hil : il ≤ 1294) : Met l yX10_octet wp_x_octet ({ frames := 0, cells := 0, slots := 0, locals := 0 }) (PcRC D [.ref (ox 0), .int z1] sz [(ox 0, .inr (10, [.ref (ox 1), .ref (ox 2), .int (nI tp), .ref (ob3 0), .ref (og 0), .ref (oq 0), .ref (ow 0)])), (ox 1, .inl (cT, 4, .inr (.inr (.inr (.inr ft))))), (og 0, .inr (1, [.int (nI il), .ref (og 1)])), (og 1, .inl (cI, 1294, .inl fi))] [(cI, .int), (cT, .object RX9)]) (va_Qi (fun (r : Int32) (u : Unit) => True) (fun (_ : Unit) _ => True) (va_A [] sz)) 0 0 (va_A [] sz) := by
  refine Met.ofW (cc := cX10_octet) (maxL := 2) (ret := (some .int)) (by decide) rfl ?_
  intro p e s m args below meth c s₁ B hml hv
  obtain ⟨rfl, hsz, hP, hK, hN⟩ := hv
  have hx := B.exec
  have hb := B.bytes
  have hr := B.returns
  have hts := atoms_spec (ws := wp_x_octet) B.pre
  have hin_X10 : ∀ w ∈ wsX100, w ∈ wp_x_octet := fun _ h => (List.mem_cons_of_mem _ (List.mem_append_right _ (List.mem_append_left _ h)))
  have hin_X1 : ∀ w ∈ wsX10, w ∈ wp_x_octet := fun _ h => (List.mem_cons_of_mem _ (List.mem_append_right _ (List.mem_append_right _ (List.mem_append_left _ h))))
  have hown : s.vm.findClass RX10 = some m.cls := findClass_of_methodNamed B.named
  have hlocks := B.notSynchronized
  subst hsz
  generalize hAe : va_A [] s.heap.size = A at ⊢
  have hA : ∀ q : Nat, s.heap.size ≤ q → A q := fun q h => by rw [← hAe]; exact Or.inr h
  have hS : va_S A s.heap s.heap [] := va_S.rf
  have hP : va_P D vwCl [(ox 0, .inr (10, [.ref (ox 1), .ref (ox 2), .int (nI tp), .ref (ob3 0), .ref (og 0), .ref (oq 0), .ref (ow 0)])), (ox 1, .inl (cT, 4, .inr (.inr (.inr (.inr ft))))), (og 0, .inr (1, [.int (nI il), .ref (og 1)])), (og 1, .inl (cI, 1294, .inl fi))] s.heap := hP
  have hl := lv_entry ([.ref (ox 0), .int z1]) (n := 2) (Nat.le_of_ble_eq_true rfl)
  rw [lg_entry_eq]
  generalize (lg_sl ([.ref (ox 0), .int z1]) ++ List.replicate (2 - (lg_sl ([.ref (ox 0), .int z1])).length) Slot.unset).toArray = ls at hl ⊢
  have hl : lv_has ls 2 [(0, .ref (ox 0)), (1, .int z1)] := hl
  refine lv_iload_n hx hb dX10_octet_0 rfl (lv_at hl 1 rfl) ?_
  refine lv_if_lt (tgt := 15) hx hb dX10_octet_1 (by decide) (fun hc1 => ?_) (fun hc1 => ?_)
  ·
    refine lv_iconst (v := (-1)) hx hb dX10_octet_15 (by decide) ?_
    refine lv_goto (tgt := 28) hx hb dX10_octet_16 (by decide) ?_
    exact W.iret (v := (-1)) hx hb hr (fun t ht hW => ⟨⟨(-1), (), rfl, trivial, trivial⟩, hS.F ht⟩) hS.2.2 dX10_octet_28
  ·
    refine lv_iload_n hx hb dX10_octet_4 rfl (lv_at hl 1 rfl) ?_
    refine lv_aload_n hx hb dX10_octet_5 rfl (lv_at hl 0 rfl) ?_
    refine va_get (D := D) (ci := 10) (v := .ref (og 0)) (C := RX10) (T := TX10) (N := 7) hx hb hts hin_X10 hown hK hP 0 rfl rfl 4 (by decide) (hts (.fieldLink RX10 33 "ClashFree" "written" "LClashFree$Image;") (List.mem_of_getElem? (i := 1) rfl)) (fun _ h9 => h9) rfl dX10_octet_6 ?_
    refine va_get (D := D) (ci := 1) (v := .int (nI il)) (C := RX1) (T := TX1) (N := 2) hx hb hts hin_X1 hown hK hP 2 rfl rfl 0 (by decide) (hts (.fieldLink RX10 316 "ClashFree$Image" "length" "I") (List.mem_of_getElem? (i := 2) rfl)) (fun _ h9 => h9) rfl dX10_octet_9 ?_
    refine lv_icmp_lt (tgt := 19) hx hb dX10_octet_12 (by decide) (fun hc2 => ?_) (fun hc2 => ?_)
    ·
      obtain ⟨j, hj, rfl⟩ := inz (by omega) hc1 (hc2)
      refine lv_aload_n hx hb dX10_octet_19 rfl (lv_at hl 0 rfl) ?_
      refine va_get (D := D) (ci := 10) (v := .ref (og 0)) (C := RX10) (T := TX10) (N := 7) hx hb hts hin_X10 hown hK hP 0 rfl rfl 4 (by decide) (hts (.fieldLink RX10 33 "ClashFree" "written" "LClashFree$Image;") (List.mem_of_getElem? (i := 1) rfl)) (fun _ h9 => h9) rfl dX10_octet_20 ?_
      refine va_get (D := D) (ci := 1) (v := .ref (og 1)) (C := RX1) (T := TX1) (N := 2) hx hb hts hin_X1 hown hK hP 2 rfl rfl 1 (by decide) (hts (.fieldLink RX10 319 "ClashFree$Image" "bytes" "[I") (List.mem_of_getElem? (i := 3) rfl)) (fun _ h9 => h9) rfl dX10_octet_23 ?_
      refine lv_iload_n hx hb dX10_octet_26 rfl (lv_at hl 1 rfl) ?_
      refine va_iald hx hb hK hP 3 0 rfl rfl (vp_in_nI (by omega) (by decide)) dX10_octet_27 ?_
      refine lv_topi (fun v3 ev3 => ?_)
      exact W.iret (v := v3) hx hb hr (fun t ht hW => ⟨⟨v3, (), rfl, trivial, trivial⟩, hS.F ht⟩) hS.2.2 dX10_octet_28
    ·
      refine lv_iconst (v := (-1)) hx hb dX10_octet_15 (by decide) ?_
      refine lv_goto (tgt := 28) hx hb dX10_octet_16 (by decide) ?_
      exact W.iret (v := (-1)) hx hb hr (fun t ht hW => ⟨⟨(-1), (), rfl, trivial, trivial⟩, hS.F ht⟩) hS.2.2 dX10_octet_28

def own_s_image : List Cond := [.methodLink RX10 74 yX10_tableAt, .instanceMethod yX10_tableAt, .selects RX10 yX10_tableAt yX10_tableAt, .initialized RX10, .fieldLink RX10 33 "ClashFree" "written" "LClashFree$Image;", .methodLink RX10 312 yX1_write, .instanceMethod yX1_write, .selects RX1 yX1_write yX1_write, .initialized RX1, .fieldLink RX10 316 "ClashFree$Image" "length" "I"]
def wp_s_image : List Cond := .code yX10_image cX10_image 3 (some .int) :: (own_s_image ++ (wp_k_tabS ++ (wp_k_write ++ (wsX100 ++ (wsX10 ++ ([] : List Cond))))))
set_option maxRecDepth 20000 in
theorem inown_s_image : ∀ w ∈ own_s_image, w ∈ lw_tbl := mem_places [610, 612, 2, 106, 416, 1148, 1149, 1150, 110, 258] (by decide +kernel)
set_option maxRecDepth 20000 in
theorem in_s_image : ∀ w ∈ wp_s_image, w ∈ lw_tbl := List.forall_mem_cons.mpr ⟨List.mem_of_getElem? (i := 1147) (by decide +kernel), List.forall_mem_append.mpr ⟨inown_s_image, List.forall_mem_append.mpr ⟨in_k_tabS, List.forall_mem_append.mpr ⟨in_k_write, List.forall_mem_append.mpr ⟨lwb_X10, List.forall_mem_append.mpr ⟨lwb_X1, fun _ h => absurd h List.not_mem_nil⟩⟩⟩⟩⟩⟩
set_option maxRecDepth 20000 in
theorem good_s_image : wp_s_image.all goodWord = true := by decide +kernel
set_option maxRecDepth 20000 in
theorem g_s_image_k_tabS_74 : GoodIn wp_s_image (wsV RX10 74 RX10 yX10_tableAt wp_k_tabS) := goodIn_sub (List.forall_mem_append.mpr ⟨List.forall_mem_cons.mpr ⟨(List.mem_of_getElem? (i := 1) rfl), List.forall_mem_cons.mpr ⟨(List.mem_of_getElem? (i := 2) rfl), List.forall_mem_cons.mpr ⟨(List.mem_of_getElem? (i := 3) rfl), List.forall_mem_cons.mpr ⟨(List.mem_of_getElem? (i := 4) rfl), fun _ h => absurd h List.not_mem_nil⟩⟩⟩⟩, (fun _ h => (List.mem_cons_of_mem _ (List.mem_append_right _ (List.mem_append_left _ h))))⟩) (by decide +kernel)
set_option maxRecDepth 20000 in
theorem g_s_image_k_write_312 : GoodIn wp_s_image (wsV RX10 312 RX1 yX1_write wp_k_write) := goodIn_sub (List.forall_mem_append.mpr ⟨List.forall_mem_cons.mpr ⟨(List.mem_of_getElem? (i := 6) rfl), List.forall_mem_cons.mpr ⟨(List.mem_of_getElem? (i := 7) rfl), List.forall_mem_cons.mpr ⟨(List.mem_of_getElem? (i := 8) rfl), List.forall_mem_cons.mpr ⟨(List.mem_of_getElem? (i := 9) rfl), fun _ h => absurd h List.not_mem_nil⟩⟩⟩⟩, (fun _ h => (List.mem_cons_of_mem _ (List.mem_append_right _ (List.mem_append_right _ (List.mem_append_left _ h)))))⟩) (by decide +kernel)
set_option maxHeartbeats 4000000 in
set_option maxRecDepth 100000 in
theorem s_image (l : Launch) (D : va_G) (sz : Nat) (ox : Nat → Nat) (ob3 : Nat → Nat) (og : Nat → Nat) (oq : Nat → Nat) (ow : Nat → Nat) (ob : Nat → Nat) (cI : ClassId) (cT : ClassId) (tp : Nat) (ft : Nat → Option Nat) (il : Nat) (fi : Nat → Int32) (tb : Int32) (ts : Int32) (tg : Int32) (tl : Int32) (tc : Int32) (tr : Int32) (tu : Int32) (tv : Int32) (tw : Int32) (sd : Int64) (da : Nat) (db : Nat) (pr : Int32) (cn : Nat) (fk : Nat → Int32) (fv : Nat → Int32) (nb : Nat) (ka : Nat) (kb : Nat) (sm : Int32) (ln : Nat) (fh : Nat → Int32) (ff : Nat → Int32) (fa : Nat → Int32) (fs : Nat → Int32) (fj : Nat → Int32) (fr : Nat → Int32) (fo : Nat → Int32) (fx : Nat → Int32) (k : Nat) (hk : k < 4) (hft : ft k = some (ob 0)) (hTb : TbI fk fj fh fo cn nb ka kb ln da db) : Met l yX10_image wp_s_image ({ frames := 2, cells := 0, slots := 0, locals := 84 }) (PcWC D [.ref (ox 0), .int (nI k)] sz [(ox 0, .inr (10, [.ref (ox 1), .ref (ox 2), .int (nI tp), .ref (ob3 0), .ref (og 0), .ref (oq 0), .ref (ow 0)])), (ox 1, .inl (cT, 4, .inr (.inr (.inr (.inr ft))))), (og 0, .inr (1, [.int (nI il), .ref (og 1)])), (og 1, .inl (cI, 1294, .inl fi)), (ob 0, .inr (9, gT ob tb ts tg tl tc tr tu tv tw)), (ob 1, .inr (0, [.long sd, .int (nI da), .int (nI db), .int pr])), (ob 2, .inr (2, [.int (nI cn), .ref (ob 3), .ref (ob 4)])), (ob 3, .inl (cI, 160, .inl fk)), (ob 4, .inl (cI, 160, .inl fv)), (ob 5, .inr (3, gY ob (nI nb) (nI ka) (nI kb) sm (nI ln))), (ob 6, .inl (cI, 2048, .inl fh)), (ob 7, .inl (cI, 2048, .inl ff)), (ob 8, .inl (cI, 2048, .inl fa)), (ob 9, .inl (cI, 2048, .inl fs)), (ob 10, .inl (cI, 160, .inl fj)), (ob 11, .inl (cI, 160, .inl fr)), (ob 12, .inl (cI, 160, .inl fo)), (ob 13, .inl (cI, 2048, .inl fx))] [(cI, .int), (cT, .object RX9)]) (va_Qi (fun (r : Int32) (u : (Nat) × (Nat → Int32)) => u.1 ≤ 1294 ∧ r = nI (14 + 8 * cn)) (fun (u : (Nat) × (Nat → Int32)) t => va_P D vwCl [(ox 0, .inr (10, [.ref (ox 1), .ref (ox 2), .int (nI tp), .ref (ob3 0), .ref (og 0), .ref (oq 0), .ref (ow 0)])), (ox 1, .inl (cT, 4, .inr (.inr (.inr (.inr ft))))), (og 0, .inr (1, [.int (nI u.1), .ref (og 1)])), (og 1, .inl (cI, 1294, .inl u.2)), (ob 0, .inr (9, gT ob tb ts tg tl tc tr tu tv tw)), (ob 1, .inr (0, [.long sd, .int (nI da), .int (nI db), .int pr])), (ob 2, .inr (2, [.int (nI cn), .ref (ob 3), .ref (ob 4)])), (ob 3, .inl (cI, 160, .inl fk)), (ob 4, .inl (cI, 160, .inl fv)), (ob 5, .inr (3, gY ob (nI nb) (nI ka) (nI kb) sm (nI ln))), (ob 6, .inl (cI, 2048, .inl fh)), (ob 7, .inl (cI, 2048, .inl ff)), (ob 8, .inl (cI, 2048, .inl fa)), (ob 9, .inl (cI, 2048, .inl fs)), (ob 10, .inl (cI, 160, .inl fj)), (ob 11, .inl (cI, 160, .inl fr)), (ob 12, .inl (cI, 160, .inl fo)), (ob 13, .inl (cI, 2048, .inl fx))] t.heap ∧ va_K D vwCl [(cI, .int), (cT, .object RX9)] t ∧ va_D (va_A [(ox 0, .inr (10, [.ref (ox 1), .ref (ox 2), .int (nI tp), .ref (ob3 0), .ref (og 0), .ref (oq 0), .ref (ow 0)])), (ox 1, .inl (cT, 4, .inr (.inr (.inr (.inr ft))))), (og 0, .inr (1, [.int (nI il), .ref (og 1)])), (og 1, .inl (cI, 1294, .inl fi)), (ob 0, .inr (9, gT ob tb ts tg tl tc tr tu tv tw)), (ob 1, .inr (0, [.long sd, .int (nI da), .int (nI db), .int pr])), (ob 2, .inr (2, [.int (nI cn), .ref (ob 3), .ref (ob 4)])), (ob 3, .inl (cI, 160, .inl fk)), (ob 4, .inl (cI, 160, .inl fv)), (ob 5, .inr (3, gY ob (nI nb) (nI ka) (nI kb) sm (nI ln))), (ob 6, .inl (cI, 2048, .inl fh)), (ob 7, .inl (cI, 2048, .inl ff)), (ob 8, .inl (cI, 2048, .inl fa)), (ob 9, .inl (cI, 2048, .inl fs)), (ob 10, .inl (cI, 160, .inl fj)), (ob 11, .inl (cI, 160, .inl fr)), (ob 12, .inl (cI, 160, .inl fo)), (ob 13, .inl (cI, 2048, .inl fx))] sz) [(ox 0, .inr (10, [.ref (ox 1), .ref (ox 2), .int (nI tp), .ref (ob3 0), .ref (og 0), .ref (oq 0), .ref (ow 0)])), (ox 1, .inl (cT, 4, .inr (.inr (.inr (.inr ft))))), (og 0, .inr (1, [.int (nI u.1), .ref (og 1)])), (og 1, .inl (cI, 1294, .inl u.2)), (ob 0, .inr (9, gT ob tb ts tg tl tc tr tu tv tw)), (ob 1, .inr (0, [.long sd, .int (nI da), .int (nI db), .int pr])), (ob 2, .inr (2, [.int (nI cn), .ref (ob 3), .ref (ob 4)])), (ob 3, .inl (cI, 160, .inl fk)), (ob 4, .inl (cI, 160, .inl fv)), (ob 5, .inr (3, gY ob (nI nb) (nI ka) (nI kb) sm (nI ln))), (ob 6, .inl (cI, 2048, .inl fh)), (ob 7, .inl (cI, 2048, .inl ff)), (ob 8, .inl (cI, 2048, .inl fa)), (ob 9, .inl (cI, 2048, .inl fs)), (ob 10, .inl (cI, 160, .inl fj)), (ob 11, .inl (cI, 160, .inl fr)), (ob 12, .inl (cI, 160, .inl fo)), (ob 13, .inl (cI, 2048, .inl fx))]) (va_A [(ox 0, .inr (10, [.ref (ox 1), .ref (ox 2), .int (nI tp), .ref (ob3 0), .ref (og 0), .ref (oq 0), .ref (ow 0)])), (ox 1, .inl (cT, 4, .inr (.inr (.inr (.inr ft))))), (og 0, .inr (1, [.int (nI il), .ref (og 1)])), (og 1, .inl (cI, 1294, .inl fi)), (ob 0, .inr (9, gT ob tb ts tg tl tc tr tu tv tw)), (ob 1, .inr (0, [.long sd, .int (nI da), .int (nI db), .int pr])), (ob 2, .inr (2, [.int (nI cn), .ref (ob 3), .ref (ob 4)])), (ob 3, .inl (cI, 160, .inl fk)), (ob 4, .inl (cI, 160, .inl fv)), (ob 5, .inr (3, gY ob (nI nb) (nI ka) (nI kb) sm (nI ln))), (ob 6, .inl (cI, 2048, .inl fh)), (ob 7, .inl (cI, 2048, .inl ff)), (ob 8, .inl (cI, 2048, .inl fa)), (ob 9, .inl (cI, 2048, .inl fs)), (ob 10, .inl (cI, 160, .inl fj)), (ob 11, .inl (cI, 160, .inl fr)), (ob 12, .inl (cI, 160, .inl fo)), (ob 13, .inl (cI, 2048, .inl fx))] sz)) 0 0 (va_A [(ox 0, .inr (10, [.ref (ox 1), .ref (ox 2), .int (nI tp), .ref (ob3 0), .ref (og 0), .ref (oq 0), .ref (ow 0)])), (ox 1, .inl (cT, 4, .inr (.inr (.inr (.inr ft))))), (og 0, .inr (1, [.int (nI il), .ref (og 1)])), (og 1, .inl (cI, 1294, .inl fi)), (ob 0, .inr (9, gT ob tb ts tg tl tc tr tu tv tw)), (ob 1, .inr (0, [.long sd, .int (nI da), .int (nI db), .int pr])), (ob 2, .inr (2, [.int (nI cn), .ref (ob 3), .ref (ob 4)])), (ob 3, .inl (cI, 160, .inl fk)), (ob 4, .inl (cI, 160, .inl fv)), (ob 5, .inr (3, gY ob (nI nb) (nI ka) (nI kb) sm (nI ln))), (ob 6, .inl (cI, 2048, .inl fh)), (ob 7, .inl (cI, 2048, .inl ff)), (ob 8, .inl (cI, 2048, .inl fa)), (ob 9, .inl (cI, 2048, .inl fs)), (ob 10, .inl (cI, 160, .inl fj)), (ob 11, .inl (cI, 160, .inl fr)), (ob 12, .inl (cI, 160, .inl fo)), (ob 13, .inl (cI, 2048, .inl fx))] sz) := by
  refine Met.ofW (cc := cX10_image) (maxL := 3) (ret := (some .int)) (by decide) rfl ?_
  intro p e s m args below meth c s₁ B hml hv
  obtain ⟨rfl, hsz, hP, hK, hD0, hN⟩ := hv
  have hx := B.exec
  have hb := B.bytes
  have hr := B.returns
  have hts := atoms_spec (ws := wp_s_image) B.pre
  have hin_X10 : ∀ w ∈ wsX100, w ∈ wp_s_image := fun _ h => (List.mem_cons_of_mem _ (List.mem_append_right _ (List.mem_append_right _ (List.mem_append_right _ (List.mem_append_left _ h)))))
  have hin_X1 : ∀ w ∈ wsX10, w ∈ wp_s_image := fun _ h => (List.mem_cons_of_mem _ (List.mem_append_right _ (List.mem_append_right _ (List.mem_append_right _ (List.mem_append_right _ (List.mem_append_left _ h))))))
  have hown : s.vm.findClass RX10 = some m.cls := findClass_of_methodNamed B.named
  have hlocks := B.notSynchronized
  subst hsz
  have hD := hD0.self (sz := s.heap.size)
  generalize hAe : va_A [(ox 0, .inr (10, [.ref (ox 1), .ref (ox 2), .int (nI tp), .ref (ob3 0), .ref (og 0), .ref (oq 0), .ref (ow 0)])), (ox 1, .inl (cT, 4, .inr (.inr (.inr (.inr ft))))), (og 0, .inr (1, [.int (nI il), .ref (og 1)])), (og 1, .inl (cI, 1294, .inl fi)), (ob 0, .inr (9, gT ob tb ts tg tl tc tr tu tv tw)), (ob 1, .inr (0, [.long sd, .int (nI da), .int (nI db), .int pr])), (ob 2, .inr (2, [.int (nI cn), .ref (ob 3), .ref (ob 4)])), (ob 3, .inl (cI, 160, .inl fk)), (ob 4, .inl (cI, 160, .inl fv)), (ob 5, .inr (3, gY ob (nI nb) (nI ka) (nI kb) sm (nI ln))), (ob 6, .inl (cI, 2048, .inl fh)), (ob 7, .inl (cI, 2048, .inl ff)), (ob 8, .inl (cI, 2048, .inl fa)), (ob 9, .inl (cI, 2048, .inl fs)), (ob 10, .inl (cI, 160, .inl fj)), (ob 11, .inl (cI, 160, .inl fr)), (ob 12, .inl (cI, 160, .inl fo)), (ob 13, .inl (cI, 2048, .inl fx))] s.heap.size = A at hD ⊢
  have hA : ∀ q : Nat, s.heap.size ≤ q → A q := fun q h => by rw [← hAe]; exact Or.inr h
  have hS : va_S A s.heap s.heap [] := va_S.rf
  have hP : va_P D vwCl [(ox 0, .inr (10, [.ref (ox 1), .ref (ox 2), .int (nI tp), .ref (ob3 0), .ref (og 0), .ref (oq 0), .ref (ow 0)])), (ox 1, .inl (cT, 4, .inr (.inr (.inr (.inr ft))))), (og 0, .inr (1, [.int (nI il), .ref (og 1)])), (og 1, .inl (cI, 1294, .inl fi)), (ob 0, .inr (9, gT ob tb ts tg tl tc tr tu tv tw)), (ob 1, .inr (0, [.long sd, .int (nI da), .int (nI db), .int pr])), (ob 2, .inr (2, [.int (nI cn), .ref (ob 3), .ref (ob 4)])), (ob 3, .inl (cI, 160, .inl fk)), (ob 4, .inl (cI, 160, .inl fv)), (ob 5, .inr (3, gY ob (nI nb) (nI ka) (nI kb) sm (nI ln))), (ob 6, .inl (cI, 2048, .inl fh)), (ob 7, .inl (cI, 2048, .inl ff)), (ob 8, .inl (cI, 2048, .inl fa)), (ob 9, .inl (cI, 2048, .inl fs)), (ob 10, .inl (cI, 160, .inl fj)), (ob 11, .inl (cI, 160, .inl fr)), (ob 12, .inl (cI, 160, .inl fo)), (ob 13, .inl (cI, 2048, .inl fx))] s.heap := hP
  have hl := lv_entry ([.ref (ox 0), .int (nI k)]) (n := 3) (Nat.le_of_ble_eq_true rfl)
  rw [lg_entry_eq]
  generalize (lg_sl ([.ref (ox 0), .int (nI k)]) ++ List.replicate (3 - (lg_sl ([.ref (ox 0), .int (nI k)])).length) Slot.unset).toArray = ls at hl ⊢
  have hl : lv_has ls 3 [(0, .ref (ox 0)), (1, .int (nI k))] := hl
  obtain ⟨hky, hL, hO, hn1, hka, hkb, hda, hdb⟩ := id hTb
  have hnb := hL.1
  have hln := hL.2.1
  have hc := hky.1
  have hcz := hky.1
  refine lv_aload_n hx hb dX10_image_0 rfl (lv_at hl 0 rfl) ?_
  refine lv_iload_n hx hb dX10_image_1 rfl (lv_at hl 1 rfl) ?_
  have hPc := hP.sub (ws' := [(ox 0, .inr (10, [.ref (ox 1), .ref (ox 2), .int (nI tp), .ref (ob3 0), .ref (og 0), .ref (oq 0), .ref (ow 0)])), (ox 1, .inl (cT, 4, .inr (.inr (.inr (.inr ft)))))]) [0, 1] rfl
  have hKc := hK.sub (tys' := [(cT, .object RX9)]) [1] rfl
  have hFc := va_free0 hS hA
  refine va_callq (va_runV (As := [.int (nI k)]) (rest := []) ⟨hx, hb, hml, hown, hts⟩ (k_tabS l D _ ox ob3 og oq ow cI cT tp ft k (ob 0) hk hft) (cwV 1 hts g_s_image_k_tabS_74 rfl rfl rfl (by decide +kernel) ⟨(Nat.le_of_ble_eq_true rfl), (Nat.le_of_ble_eq_true rfl)⟩) (PcRC_V (q0 := 0) hPc hKc hN rfl rfl) rfl rfl hl.1 rfl (lv_room (Nat.le_of_ble_eq_true rfl)) dX10_image_2 ⟨(Nat.le_of_ble_eq_true rfl), (Nat.le_of_ble_eq_true rfl)⟩) hS (fun q _ h => hFc q h) hFc (fun r1 uu tt H locs htt hvm hw hB hz1 hk1 hS => ?_)
  have hP := va_keep hP hk1
  try dsimp only at hw
  clear hB hz1 hk1 hFc hPc hKc
  obtain rfl : r1 = some (ob 0) := hw
  refine W.eq (g2 := F0 m 5 ls [.ref (ob 0)]) rfl ?_
  refine lv_astore_n (lv' := [(2, .ref (ob 0)), (0, .ref (ox 0)), (1, .int (nI k))]) hx hb dX10_image_5 rfl hl (by decide) rfl (fun ls hl => ?_)
  refine lv_aload_n hx hb dX10_image_6 rfl (lv_at hl 0 rfl) ?_
  refine lv_ifnonnull (tgt := 12) hx hb dX10_image_7 (by decide) ?_
  refine lv_aload_n hx hb dX10_image_12 rfl (lv_at hl 1 rfl) ?_
  refine va_get (D := D) (ci := 10) (v := .ref (og 0)) (C := RX10) (T := TX10) (N := 7) hx hb hts hin_X10 hown hK hP 0 rfl rfl 4 (by decide) (hts (.fieldLink RX10 33 "ClashFree" "written" "LClashFree$Image;") (List.mem_of_getElem? (i := 5) rfl)) (fun _ h9 => h9) rfl dX10_image_13 ?_
  refine lv_aload_n hx hb dX10_image_16 rfl (lv_at hl 0 rfl) ?_
  have hPc := hP.sub (ws' := [(og 0, .inr (1, [.int (nI il), .ref (og 1)])), (og 1, .inl (cI, 1294, .inl fi)), (ob 0, .inr (9, gT ob tb ts tg tl tc tr tu tv tw)), (ob 1, .inr (0, [.long sd, .int (nI da), .int (nI db), .int pr])), (ob 2, .inr (2, [.int (nI cn), .ref (ob 3), .ref (ob 4)])), (ob 3, .inl (cI, 160, .inl fk)), (ob 4, .inl (cI, 160, .inl fv))]) [2, 3, 4, 5, 6, 7, 8] rfl
  have hKc := hK.sub (tys' := [(cI, .int)]) [0] rfl
  have hDc := hD.sub (ws' := [(og 0, .inr (1, [.int (nI il), .ref (og 1)])), (og 1, .inl (cI, 1294, .inl fi)), (ob 0, .inr (9, gT ob tb ts tg tl tc tr tu tv tw)), (ob 1, .inr (0, [.long sd, .int (nI da), .int (nI db), .int pr])), (ob 2, .inr (2, [.int (nI cn), .ref (ob 3), .ref (ob 4)])), (ob 3, .inl (cI, 160, .inl fk)), (ob 4, .inl (cI, 160, .inl fv))]) [2, 3, 4, 5, 6, 7, 8] (by decide) rfl
  have hFc := va_free (wc := [(og 0, .inr (1, [.int (nI il), .ref (og 1)])), (og 1, .inl (cI, 1294, .inl fi)), (ob 0, .inr (9, gT ob tb ts tg tl tc tr tu tv tw)), (ob 1, .inr (0, [.long sd, .int (nI da), .int (nI db), .int pr])), (ob 2, .inr (2, [.int (nI cn), .ref (ob 3), .ref (ob 4)])), (ob 3, .inl (cI, 160, .inl fk)), (ob 4, .inl (cI, 160, .inl fv))]) hD hS hA [2, 3, 4, 5, 6, 7, 8] rfl
  refine va_callv (va_runV (As := [.ref (ob 0)]) (rest := []) ⟨hx, hb, hml, hown, hts⟩ (k_write l D _ og ob cI il fi tb ts tg tl tc tr tu tv tw sd da db pr cn fk fv hcz) (cwV 1 hts g_s_image_k_write_312 rfl rfl rfl (by decide +kernel) ⟨(Nat.le_of_ble_eq_true rfl), (Nat.le_of_ble_eq_true rfl)⟩) (PcWC_V (q0 := 0) hPc hKc hDc hN rfl rfl) rfl rfl hl.1 rfl (lv_room (Nat.le_of_ble_eq_true rfl)) dX10_image_17 ⟨(Nat.le_of_ble_eq_true rfl), (Nat.le_of_ble_eq_true rfl)⟩) hS (fun q _ h => hFc q h) hFc (fun uu tt H locs htt hvm hw hB hz1 hk1 hS => ?_)
  obtain ⟨w3, w4⟩ := uu
  obtain ⟨hP1, hK1, hD1⟩ := hB
  rw [htt] at hP1
  have hK1 := va_K.moved hvm.symm hK1
  have hP1 : va_P D vwCl [(og 0, .inr (1, [.int (nI w3), .ref (og 1)])), (og 1, .inl (cI, 1294, .inl w4)), (ob 0, .inr (9, gT ob tb ts tg tl tc tr tu tv tw)), (ob 1, .inr (0, [.long sd, .int (nI da), .int (nI db), .int pr])), (ob 2, .inr (2, [.int (nI cn), .ref (ob 3), .ref (ob 4)])), (ob 3, .inl (cI, 160, .inl fk)), (ob 4, .inl (cI, 160, .inl fv))] H := hP1
  obtain ⟨hP, hD⟩ := va_join (wr := [(ox 0, .inr (10, [.ref (ox 1), .ref (ox 2), .int (nI tp), .ref (ob3 0), .ref (og 0), .ref (oq 0), .ref (ow 0)])), (ox 1, .inl (cT, 4, .inr (.inr (.inr (.inr ft))))), (ob 5, .inr (3, gY ob (nI nb) (nI ka) (nI kb) sm (nI ln))), (ob 6, .inl (cI, 2048, .inl fh)), (ob 7, .inl (cI, 2048, .inl ff)), (ob 8, .inl (cI, 2048, .inl fa)), (ob 9, .inl (cI, 2048, .inl fs)), (ob 10, .inl (cI, 160, .inl fj)), (ob 11, .inl (cI, 160, .inl fr)), (ob 12, .inl (cI, 160, .inl fo)), (ob 13, .inl (cI, 2048, .inl fx))]) (w1 := [(og 0, .inr (1, [.int (nI w3), .ref (og 1)])), (og 1, .inl (cI, 1294, .inl w4)), (ob 0, .inr (9, gT ob tb ts tg tl tc tr tu tv tw)), (ob 1, .inr (0, [.long sd, .int (nI da), .int (nI db), .int pr])), (ob 2, .inr (2, [.int (nI cn), .ref (ob 3), .ref (ob 4)])), (ob 3, .inl (cI, 160, .inl fk)), (ob 4, .inl (cI, 160, .inl fv))]) hP hD [2, 3, 4, 5, 6, 7, 8] [0, 1, 9, 10, 11, 12, 13, 14, 15, 16, 17] rfl rfl (by decide) (by decide) hk1 hFc hP1 hD1
  have hP : va_P D vwCl [(ox 0, .inr (10, [.ref (ox 1), .ref (ox 2), .int (nI tp), .ref (ob3 0), .ref (og 0), .ref (oq 0), .ref (ow 0)])), (ox 1, .inl (cT, 4, .inr (.inr (.inr (.inr ft))))), (ob 5, .inr (3, gY ob (nI nb) (nI ka) (nI kb) sm (nI ln))), (ob 6, .inl (cI, 2048, .inl fh)), (ob 7, .inl (cI, 2048, .inl ff)), (ob 8, .inl (cI, 2048, .inl fa)), (ob 9, .inl (cI, 2048, .inl fs)), (ob 10, .inl (cI, 160, .inl fj)), (ob 11, .inl (cI, 160, .inl fr)), (ob 12, .inl (cI, 160, .inl fo)), (ob 13, .inl (cI, 2048, .inl fx)), (og 0, .inr (1, [.int (nI w3), .ref (og 1)])), (og 1, .inl (cI, 1294, .inl w4)), (ob 0, .inr (9, gT ob tb ts tg tl tc tr tu tv tw)), (ob 1, .inr (0, [.long sd, .int (nI da), .int (nI db), .int pr])), (ob 2, .inr (2, [.int (nI cn), .ref (ob 3), .ref (ob 4)])), (ob 3, .inl (cI, 160, .inl fk)), (ob 4, .inl (cI, 160, .inl fv))] H := hP
  have hD : va_D A [(ox 0, .inr (10, [.ref (ox 1), .ref (ox 2), .int (nI tp), .ref (ob3 0), .ref (og 0), .ref (oq 0), .ref (ow 0)])), (ox 1, .inl (cT, 4, .inr (.inr (.inr (.inr ft))))), (ob 5, .inr (3, gY ob (nI nb) (nI ka) (nI kb) sm (nI ln))), (ob 6, .inl (cI, 2048, .inl fh)), (ob 7, .inl (cI, 2048, .inl ff)), (ob 8, .inl (cI, 2048, .inl fa)), (ob 9, .inl (cI, 2048, .inl fs)), (ob 10, .inl (cI, 160, .inl fj)), (ob 11, .inl (cI, 160, .inl fr)), (ob 12, .inl (cI, 160, .inl fo)), (ob 13, .inl (cI, 2048, .inl fx)), (og 0, .inr (1, [.int (nI w3), .ref (og 1)])), (og 1, .inl (cI, 1294, .inl w4)), (ob 0, .inr (9, gT ob tb ts tg tl tc tr tu tv tw)), (ob 1, .inr (0, [.long sd, .int (nI da), .int (nI db), .int pr])), (ob 2, .inr (2, [.int (nI cn), .ref (ob 3), .ref (ob 4)])), (ob 3, .inl (cI, 160, .inl fk)), (ob 4, .inl (cI, 160, .inl fv))] := hD
  try dsimp only at hw
  clear hz1 hk1 hFc hPc hKc hDc
  obtain ⟨hil5, hil5_e⟩ := hw
  refine lv_aload_n hx hb dX10_image_20 rfl (lv_at hl 1 rfl) ?_
  refine va_get (D := D) (ci := 10) (v := .ref (og 0)) (C := RX10) (T := TX10) (N := 7) hx hb hts hin_X10 hown hK hP 0 rfl rfl 4 (by decide) (hts (.fieldLink RX10 33 "ClashFree" "written" "LClashFree$Image;") (List.mem_of_getElem? (i := 5) rfl)) (fun _ h9 => h9) rfl dX10_image_21 ?_
  refine va_get (D := D) (ci := 1) (v := .int (nI w3)) (C := RX1) (T := TX1) (N := 2) hx hb hts hin_X1 hown hK hP 11 rfl rfl 0 (by decide) (hts (.fieldLink RX10 316 "ClashFree$Image" "length" "I") (List.mem_of_getElem? (i := 10) rfl)) (fun _ h9 => h9) rfl dX10_image_24 ?_
  exact W.iret (v := nI w3) hx hb hr (fun t ht hW => ⟨⟨nI w3, (w3, w4), rfl, (by (try dsimp only); first | done | exact ⟨hil5, congrArg nI hil5_e⟩), by rw [ht]; exact hP.sub [0, 1, 11, 12, 13, 14, 15, 16, 17, 2, 3, 4, 5, 6, 7, 8, 9, 10] rfl, va_K.moved hW.alike (hK.sub [0, 1] rfl), hD.sub [0, 1, 11, 12, 13, 14, 15, 16, 17, 2, 3, 4, 5, 6, 7, 8, 9, 10] (by decide) rfl⟩, hS.F ht⟩) hS.2.2 dX10_image_27

def own_s_make : List Cond := [.methodLink RX10 55 yX10_isTableNumber, .static yX10_isTableNumber, .initialized RX10, .methodLink RX10 59 yX10_areSettings, .static yX10_areSettings, .methodLink RX10 63 yX10_slot, .instanceMethod yX10_slot, .selects RX10 yX10_slot yX10_slot, .methodLink RX10 67 yX9_begin, .instanceMethod yX9_begin, .selects RX9 yX9_begin yX9_begin, .initialized RX9, .methodLink RX10 71 yX9_buildAll, .instanceMethod yX9_buildAll, .selects RX9 yX9_buildAll yX9_buildAll]
def wp_s_make : List Cond := .code yX10_make cX10_make 8 (some .int) :: (own_s_make ++ (wp_k_isTN ++ (wp_k_areS ++ (wp_k_slotS ++ (wp_k_tbegin ++ (wp_k_buildAll ++ ([] : List Cond)))))))
set_option maxRecDepth 20000 in
theorem inown_s_make : ∀ w ∈ own_s_make, w ∈ lw_tbl := mem_places [449, 450, 106, 452, 453, 455, 457, 0, 548, 549, 550, 116, 556, 557, 558] (by decide +kernel)
set_option maxRecDepth 20000 in
theorem in_s_make : ∀ w ∈ wp_s_make, w ∈ lw_tbl := List.forall_mem_cons.mpr ⟨List.mem_of_getElem? (i := 448) (by decide +kernel), List.forall_mem_append.mpr ⟨inown_s_make, List.forall_mem_append.mpr ⟨in_k_isTN, List.forall_mem_append.mpr ⟨in_k_areS, List.forall_mem_append.mpr ⟨in_k_slotS, List.forall_mem_append.mpr ⟨in_k_tbegin, List.forall_mem_append.mpr ⟨in_k_buildAll, fun _ h => absurd h List.not_mem_nil⟩⟩⟩⟩⟩⟩⟩
set_option maxRecDepth 20000 in
theorem good_s_make : wp_s_make.all goodWord = true := by decide +kernel
set_option maxRecDepth 20000 in
theorem g_s_make_k_isTN_55 : GoodIn wp_s_make (va_wsS RX10 55 yX10_isTableNumber wp_k_isTN) := goodIn_sub (List.forall_mem_append.mpr ⟨List.forall_mem_cons.mpr ⟨(List.mem_of_getElem? (i := 1) rfl), List.forall_mem_cons.mpr ⟨(List.mem_of_getElem? (i := 2) rfl), List.forall_mem_cons.mpr ⟨(List.mem_of_getElem? (i := 3) rfl), fun _ h => absurd h List.not_mem_nil⟩⟩⟩, (fun _ h => (List.mem_cons_of_mem _ (List.mem_append_right _ (List.mem_append_left _ h))))⟩) (by decide +kernel)
set_option maxRecDepth 20000 in
theorem g_s_make_k_areS_59 : GoodIn wp_s_make (va_wsS RX10 59 yX10_areSettings wp_k_areS) := goodIn_sub (List.forall_mem_append.mpr ⟨List.forall_mem_cons.mpr ⟨(List.mem_of_getElem? (i := 4) rfl), List.forall_mem_cons.mpr ⟨(List.mem_of_getElem? (i := 5) rfl), List.forall_mem_cons.mpr ⟨(List.mem_of_getElem? (i := 3) rfl), fun _ h => absurd h List.not_mem_nil⟩⟩⟩, (fun _ h => (List.mem_cons_of_mem _ (List.mem_append_right _ (List.mem_append_right _ (List.mem_append_left _ h)))))⟩) (by decide +kernel)
set_option maxRecDepth 20000 in
theorem g_s_make_k_slotS_63 : GoodIn wp_s_make (wsV RX10 63 RX10 yX10_slot wp_k_slotS) := goodIn_sub (List.forall_mem_append.mpr ⟨List.forall_mem_cons.mpr ⟨(List.mem_of_getElem? (i := 6) rfl), List.forall_mem_cons.mpr ⟨(List.mem_of_getElem? (i := 7) rfl), List.forall_mem_cons.mpr ⟨(List.mem_of_getElem? (i := 8) rfl), List.forall_mem_cons.mpr ⟨(List.mem_of_getElem? (i := 3) rfl), fun _ h => absurd h List.not_mem_nil⟩⟩⟩⟩, (fun _ h => (List.mem_cons_of_mem _ (List.mem_append_right _ (List.mem_append_right _ (List.mem_append_right _ (List.mem_append_left _ h))))))⟩) (by decide +kernel)
set_option maxRecDepth 20000 in
theorem g_s_make_k_tbegin_67 : GoodIn wp_s_make (wsV RX10 67 RX9 yX9_begin wp_k_tbegin) := goodIn_sub (List.forall_mem_append.mpr ⟨List.forall_mem_cons.mpr ⟨(List.mem_of_getElem? (i := 9) rfl), List.forall_mem_cons.mpr ⟨(List.mem_of_getElem? (i := 10) rfl), List.forall_mem_cons.mpr ⟨(List.mem_of_getElem? (i := 11) rfl), List.forall_mem_cons.mpr ⟨(List.mem_of_getElem? (i := 12) rfl), fun _ h => absurd h List.not_mem_nil⟩⟩⟩⟩, (fun _ h => (List.mem_cons_of_mem _ (List.mem_append_right _ (List.mem_append_right _ (List.mem_append_right _ (List.mem_append_right _ (List.mem_append_left _ h)))))))⟩) (by decide +kernel)
set_option maxRecDepth 20000 in
theorem g_s_make_k_buildAll_71 : GoodIn wp_s_make (wsV RX10 71 RX9 yX9_buildAll wp_k_buildAll) := goodIn_sub (List.forall_mem_append.mpr ⟨List.forall_mem_cons.mpr ⟨(List.mem_of_getElem? (i := 13) rfl), List.forall_mem_cons.mpr ⟨(List.mem_of_getElem? (i := 14) rfl), List.forall_mem_cons.mpr ⟨(List.mem_of_getElem? (i := 15) rfl), List.forall_mem_cons.mpr ⟨(List.mem_of_getElem? (i := 12) rfl), fun _ h => absurd h List.not_mem_nil⟩⟩⟩⟩, (fun _ h => (List.mem_cons_of_mem _ (List.mem_append_right _ (List.mem_append_right _ (List.mem_append_right _ (List.mem_append_right _ (List.mem_append_right _ (List.mem_append_left _ h))))))))⟩) (by decide +kernel)
set_option maxHeartbeats 4000000 in
set_option maxRecDepth 100000 in
theorem s_make (l : Launch) (D : va_G) (sz : Nat) (ox : Nat → Nat) (ob3 : Nat → Nat) (og : Nat → Nat) (oq : Nat → Nat) (ow : Nat → Nat) (ob : Nat → Nat) (cI : ClassId) (cT : ClassId) (tp : Nat) (ft : Nat → Option Nat) (tb : Int32) (ts : Int32) (tg : Int32) (tl : Int32) (tc : Int32) (tr : Int32) (tu : Int32) (tv : Int32) (tw : Int32) (sd : Int64) (da : Nat) (db : Nat) (pr : Int32) (cn : Nat) (fk : Nat → Int32) (fv : Nat → Int32) (nb : Nat) (ka : Nat) (kb : Nat) (sm : Int32) (ln : Nat) (fh : Nat → Int32) (ff : Nat → Int32) (fa : Nat → Int32) (fs : Nat → Int32) (fj : Nat → Int32) (fr : Nat → Int32) (fo : Nat → Int32) (fx : Nat → Int32) (k : Nat) (z2 : Int32) (z3 : Int32) (z4 : Int32) (y5 : Int64) (hk : k < 4) (hft : ft k = some (ob 0)) (hTb : TbI fk fj fh fo cn nb ka kb ln da db) (hok : okS z2 z3 z4) : Met l yX10_make wp_s_make ({ frames := 5, cells := 0, slots := 0, locals := 183 }) (PcWC D [.ref (ox 0), .int (nI k), .int z2, .int z3, .int z4, .long y5] sz [(ox 0, .inr (10, [.ref (ox 1), .ref (ox 2), .int (nI tp), .ref (ob3 0), .ref (og 0), .ref (oq 0), .ref (ow 0)])), (ox 1, .inl (cT, 4, .inr (.inr (.inr (.inr ft))))), (ob 0, .inr (9, gT ob tb ts tg tl tc tr tu tv tw)), (ob 1, .inr (0, [.long sd, .int (nI da), .int (nI db), .int pr])), (ob 2, .inr (2, [.int (nI cn), .ref (ob 3), .ref (ob 4)])), (ob 3, .inl (cI, 160, .inl fk)), (ob 4, .inl (cI, 160, .inl fv)), (ob 5, .inr (3, gY ob (nI nb) (nI ka) (nI kb) sm (nI ln))), (ob 6, .inl (cI, 2048, .inl fh)), (ob 7, .inl (cI, 2048, .inl ff)), (ob 8, .inl (cI, 2048, .inl fa)), (ob 9, .inl (cI, 2048, .inl fs)), (ob 10, .inl (cI, 160, .inl fj)), (ob 11, .inl (cI, 160, .inl fr)), (ob 12, .inl (cI, 160, .inl fo)), (ob 13, .inl (cI, 2048, .inl fx))] [(cI, .int), (cT, .object RX9)]) (va_Qi (fun (r : Int32) (u : (Int32) × (Int32) × (Int32) × (Int32) × (Int32) × (Int32) × (Nat) × (Int32) × (Int32) × (Int32) × (Int64) × (Nat) × (Nat) × (Int32) × (Nat) × (Nat) × (Nat) × (Int32) × (Nat) × (Nat → Int32) × (Nat → Int32) × (Nat → Int32) × (Nat → Int32) × (Nat → Int32) × (Nat → Int32) × (Nat → Int32) × (Nat → Int32)) => r = 1 ∧ (TbI fk u.2.2.2.2.2.2.2.2.2.2.2.2.2.2.2.2.2.2.2.2.2.2.2.1 u.2.2.2.2.2.2.2.2.2.2.2.2.2.2.2.2.2.2.2.1 u.2.2.2.2.2.2.2.2.2.2.2.2.2.2.2.2.2.2.2.2.2.2.2.2.2.1 u.2.2.2.2.2.2.1 u.2.2.2.2.2.2.2.2.2.2.2.2.2.2.1 u.2.2.2.2.2.2.2.2.2.2.2.2.2.2.2.1 u.2.2.2.2.2.2.2.2.2.2.2.2.2.2.2.2.1 u.2.2.2.2.2.2.2.2.2.2.2.2.2.2.2.2.2.2.1 u.2.2.2.2.2.2.2.2.2.2.2.1 u.2.2.2.2.2.2.2.2.2.2.2.2.1) ∧ KvT fk fv u.2.2.2.2.2.2.1 []) (fun (u : (Int32) × (Int32) × (Int32) × (Int32) × (Int32) × (Int32) × (Nat) × (Int32) × (Int32) × (Int32) × (Int64) × (Nat) × (Nat) × (Int32) × (Nat) × (Nat) × (Nat) × (Int32) × (Nat) × (Nat → Int32) × (Nat → Int32) × (Nat → Int32) × (Nat → Int32) × (Nat → Int32) × (Nat → Int32) × (Nat → Int32) × (Nat → Int32)) t => va_P D vwCl [(ox 0, .inr (10, [.ref (ox 1), .ref (ox 2), .int (nI tp), .ref (ob3 0), .ref (og 0), .ref (oq 0), .ref (ow 0)])), (ox 1, .inl (cT, 4, .inr (.inr (.inr (.inr ft))))), (ob 0, .inr (9, gT ob u.1 u.2.1 u.2.2.1 u.2.2.2.2.2.2.2.1 u.2.2.2.2.2.2.2.2.1 u.2.2.2.1 u.2.2.2.2.1 u.2.2.2.2.2.1 u.2.2.2.2.2.2.2.2.2.1)), (ob 1, .inr (0, [.long u.2.2.2.2.2.2.2.2.2.2.1, .int (nI u.2.2.2.2.2.2.2.2.2.2.2.1), .int (nI u.2.2.2.2.2.2.2.2.2.2.2.2.1), .int u.2.2.2.2.2.2.2.2.2.2.2.2.2.1])), (ob 2, .inr (2, [.int (nI u.2.2.2.2.2.2.1), .ref (ob 3), .ref (ob 4)])), (ob 3, .inl (cI, 160, .inl fk)), (ob 4, .inl (cI, 160, .inl fv)), (ob 5, .inr (3, gY ob (nI u.2.2.2.2.2.2.2.2.2.2.2.2.2.2.1) (nI u.2.2.2.2.2.2.2.2.2.2.2.2.2.2.2.1) (nI u.2.2.2.2.2.2.2.2.2.2.2.2.2.2.2.2.1) u.2.2.2.2.2.2.2.2.2.2.2.2.2.2.2.2.2.1 (nI u.2.2.2.2.2.2.2.2.2.2.2.2.2.2.2.2.2.2.1))), (ob 6, .inl (cI, 2048, .inl u.2.2.2.2.2.2.2.2.2.2.2.2.2.2.2.2.2.2.2.1)), (ob 7, .inl (cI, 2048, .inl u.2.2.2.2.2.2.2.2.2.2.2.2.2.2.2.2.2.2.2.2.1)), (ob 8, .inl (cI, 2048, .inl u.2.2.2.2.2.2.2.2.2.2.2.2.2.2.2.2.2.2.2.2.2.1)), (ob 9, .inl (cI, 2048, .inl u.2.2.2.2.2.2.2.2.2.2.2.2.2.2.2.2.2.2.2.2.2.2.1)), (ob 10, .inl (cI, 160, .inl u.2.2.2.2.2.2.2.2.2.2.2.2.2.2.2.2.2.2.2.2.2.2.2.1)), (ob 11, .inl (cI, 160, .inl u.2.2.2.2.2.2.2.2.2.2.2.2.2.2.2.2.2.2.2.2.2.2.2.2.1)), (ob 12, .inl (cI, 160, .inl u.2.2.2.2.2.2.2.2.2.2.2.2.2.2.2.2.2.2.2.2.2.2.2.2.2.1)), (ob 13, .inl (cI, 2048, .inl u.2.2.2.2.2.2.2.2.2.2.2.2.2.2.2.2.2.2.2.2.2.2.2.2.2.2))] t.heap ∧ va_K D vwCl [(cI, .int), (cT, .object RX9)] t ∧ va_D (va_A [(ox 0, .inr (10, [.ref (ox 1), .ref (ox 2), .int (nI tp), .ref (ob3 0), .ref (og 0), .ref (oq 0), .ref (ow 0)])), (ox 1, .inl (cT, 4, .inr (.inr (.inr (.inr ft))))), (ob 0, .inr (9, gT ob tb ts tg tl tc tr tu tv tw)), (ob 1, .inr (0, [.long sd, .int (nI da), .int (nI db), .int pr])), (ob 2, .inr (2, [.int (nI cn), .ref (ob 3), .ref (ob 4)])), (ob 3, .inl (cI, 160, .inl fk)), (ob 4, .inl (cI, 160, .inl fv)), (ob 5, .inr (3, gY ob (nI nb) (nI ka) (nI kb) sm (nI ln))), (ob 6, .inl (cI, 2048, .inl fh)), (ob 7, .inl (cI, 2048, .inl ff)), (ob 8, .inl (cI, 2048, .inl fa)), (ob 9, .inl (cI, 2048, .inl fs)), (ob 10, .inl (cI, 160, .inl fj)), (ob 11, .inl (cI, 160, .inl fr)), (ob 12, .inl (cI, 160, .inl fo)), (ob 13, .inl (cI, 2048, .inl fx))] sz) [(ox 0, .inr (10, [.ref (ox 1), .ref (ox 2), .int (nI tp), .ref (ob3 0), .ref (og 0), .ref (oq 0), .ref (ow 0)])), (ox 1, .inl (cT, 4, .inr (.inr (.inr (.inr ft))))), (ob 0, .inr (9, gT ob u.1 u.2.1 u.2.2.1 u.2.2.2.2.2.2.2.1 u.2.2.2.2.2.2.2.2.1 u.2.2.2.1 u.2.2.2.2.1 u.2.2.2.2.2.1 u.2.2.2.2.2.2.2.2.2.1)), (ob 1, .inr (0, [.long u.2.2.2.2.2.2.2.2.2.2.1, .int (nI u.2.2.2.2.2.2.2.2.2.2.2.1), .int (nI u.2.2.2.2.2.2.2.2.2.2.2.2.1), .int u.2.2.2.2.2.2.2.2.2.2.2.2.2.1])), (ob 2, .inr (2, [.int (nI u.2.2.2.2.2.2.1), .ref (ob 3), .ref (ob 4)])), (ob 3, .inl (cI, 160, .inl fk)), (ob 4, .inl (cI, 160, .inl fv)), (ob 5, .inr (3, gY ob (nI u.2.2.2.2.2.2.2.2.2.2.2.2.2.2.1) (nI u.2.2.2.2.2.2.2.2.2.2.2.2.2.2.2.1) (nI u.2.2.2.2.2.2.2.2.2.2.2.2.2.2.2.2.1) u.2.2.2.2.2.2.2.2.2.2.2.2.2.2.2.2.2.1 (nI u.2.2.2.2.2.2.2.2.2.2.2.2.2.2.2.2.2.2.1))), (ob 6, .inl (cI, 2048, .inl u.2.2.2.2.2.2.2.2.2.2.2.2.2.2.2.2.2.2.2.1)), (ob 7, .inl (cI, 2048, .inl u.2.2.2.2.2.2.2.2.2.2.2.2.2.2.2.2.2.2.2.2.1)), (ob 8, .inl (cI, 2048, .inl u.2.2.2.2.2.2.2.2.2.2.2.2.2.2.2.2.2.2.2.2.2.1)), (ob 9, .inl (cI, 2048, .inl u.2.2.2.2.2.2.2.2.2.2.2.2.2.2.2.2.2.2.2.2.2.2.1)), (ob 10, .inl (cI, 160, .inl u.2.2.2.2.2.2.2.2.2.2.2.2.2.2.2.2.2.2.2.2.2.2.2.1)), (ob 11, .inl (cI, 160, .inl u.2.2.2.2.2.2.2.2.2.2.2.2.2.2.2.2.2.2.2.2.2.2.2.2.1)), (ob 12, .inl (cI, 160, .inl u.2.2.2.2.2.2.2.2.2.2.2.2.2.2.2.2.2.2.2.2.2.2.2.2.2.1)), (ob 13, .inl (cI, 2048, .inl u.2.2.2.2.2.2.2.2.2.2.2.2.2.2.2.2.2.2.2.2.2.2.2.2.2.2))]) (va_A [(ox 0, .inr (10, [.ref (ox 1), .ref (ox 2), .int (nI tp), .ref (ob3 0), .ref (og 0), .ref (oq 0), .ref (ow 0)])), (ox 1, .inl (cT, 4, .inr (.inr (.inr (.inr ft))))), (ob 0, .inr (9, gT ob tb ts tg tl tc tr tu tv tw)), (ob 1, .inr (0, [.long sd, .int (nI da), .int (nI db), .int pr])), (ob 2, .inr (2, [.int (nI cn), .ref (ob 3), .ref (ob 4)])), (ob 3, .inl (cI, 160, .inl fk)), (ob 4, .inl (cI, 160, .inl fv)), (ob 5, .inr (3, gY ob (nI nb) (nI ka) (nI kb) sm (nI ln))), (ob 6, .inl (cI, 2048, .inl fh)), (ob 7, .inl (cI, 2048, .inl ff)), (ob 8, .inl (cI, 2048, .inl fa)), (ob 9, .inl (cI, 2048, .inl fs)), (ob 10, .inl (cI, 160, .inl fj)), (ob 11, .inl (cI, 160, .inl fr)), (ob 12, .inl (cI, 160, .inl fo)), (ob 13, .inl (cI, 2048, .inl fx))] sz)) 0 0 (va_A [(ox 0, .inr (10, [.ref (ox 1), .ref (ox 2), .int (nI tp), .ref (ob3 0), .ref (og 0), .ref (oq 0), .ref (ow 0)])), (ox 1, .inl (cT, 4, .inr (.inr (.inr (.inr ft))))), (ob 0, .inr (9, gT ob tb ts tg tl tc tr tu tv tw)), (ob 1, .inr (0, [.long sd, .int (nI da), .int (nI db), .int pr])), (ob 2, .inr (2, [.int (nI cn), .ref (ob 3), .ref (ob 4)])), (ob 3, .inl (cI, 160, .inl fk)), (ob 4, .inl (cI, 160, .inl fv)), (ob 5, .inr (3, gY ob (nI nb) (nI ka) (nI kb) sm (nI ln))), (ob 6, .inl (cI, 2048, .inl fh)), (ob 7, .inl (cI, 2048, .inl ff)), (ob 8, .inl (cI, 2048, .inl fa)), (ob 9, .inl (cI, 2048, .inl fs)), (ob 10, .inl (cI, 160, .inl fj)), (ob 11, .inl (cI, 160, .inl fr)), (ob 12, .inl (cI, 160, .inl fo)), (ob 13, .inl (cI, 2048, .inl fx))] sz) := by
  refine Met.ofW (cc := cX10_make) (maxL := 8) (ret := (some .int)) (by decide) rfl ?_
  intro p e s m args below meth c s₁ B hml hv
  obtain ⟨rfl, hsz, hP, hK, hD0, hN⟩ := hv
  have hx := B.exec
  have hb := B.bytes
  have hr := B.returns
  have hts := atoms_spec (ws := wp_s_make) B.pre
  have hown : s.vm.findClass RX10 = some m.cls := findClass_of_methodNamed B.named
  have hlocks := B.notSynchronized
  subst hsz
  have hD := hD0.self (sz := s.heap.size)
  generalize hAe : va_A [(ox 0, .inr (10, [.ref (ox 1), .ref (ox 2), .int (nI tp), .ref (ob3 0), .ref (og 0), .ref (oq 0), .ref (ow 0)])), (ox 1, .inl (cT, 4, .inr (.inr (.inr (.inr ft))))), (ob 0, .inr (9, gT ob tb ts tg tl tc tr tu tv tw)), (ob 1, .inr (0, [.long sd, .int (nI da), .int (nI db), .int pr])), (ob 2, .inr (2, [.int (nI cn), .ref (ob 3), .ref (ob 4)])), (ob 3, .inl (cI, 160, .inl fk)), (ob 4, .inl (cI, 160, .inl fv)), (ob 5, .inr (3, gY ob (nI nb) (nI ka) (nI kb) sm (nI ln))), (ob 6, .inl (cI, 2048, .inl fh)), (ob 7, .inl (cI, 2048, .inl ff)), (ob 8, .inl (cI, 2048, .inl fa)), (ob 9, .inl (cI, 2048, .inl fs)), (ob 10, .inl (cI, 160, .inl fj)), (ob 11, .inl (cI, 160, .inl fr)), (ob 12, .inl (cI, 160, .inl fo)), (ob 13, .inl (cI, 2048, .inl fx))] s.heap.size = A at hD ⊢
  have hA : ∀ q : Nat, s.heap.size ≤ q → A q := fun q h => by rw [← hAe]; exact Or.inr h
  have hS : va_S A s.heap s.heap [] := va_S.rf
  have hP : va_P D vwCl [(ox 0, .inr (10, [.ref (ox 1), .ref (ox 2), .int (nI tp), .ref (ob3 0), .ref (og 0), .ref (oq 0), .ref (ow 0)])), (ox 1, .inl (cT, 4, .inr (.inr (.inr (.inr ft))))), (ob 0, .inr (9, gT ob tb ts tg tl tc tr tu tv tw)), (ob 1, .inr (0, [.long sd, .int (nI da), .int (nI db), .int pr])), (ob 2, .inr (2, [.int (nI cn), .ref (ob 3), .ref (ob 4)])), (ob 3, .inl (cI, 160, .inl fk)), (ob 4, .inl (cI, 160, .inl fv)), (ob 5, .inr (3, gY ob (nI nb) (nI ka) (nI kb) sm (nI ln))), (ob 6, .inl (cI, 2048, .inl fh)), (ob 7, .inl (cI, 2048, .inl ff)), (ob 8, .inl (cI, 2048, .inl fa)), (ob 9, .inl (cI, 2048, .inl fs)), (ob 10, .inl (cI, 160, .inl fj)), (ob 11, .inl (cI, 160, .inl fr)), (ob 12, .inl (cI, 160, .inl fo)), (ob 13, .inl (cI, 2048, .inl fx))] s.heap := hP
  have hl := lv_entry ([.ref (ox 0), .int (nI k), .int z2, .int z3, .int z4, .long y5]) (n := 8) (Nat.le_of_ble_eq_true rfl)
  rw [lg_entry_eq]
  generalize (lg_sl ([.ref (ox 0), .int (nI k), .int z2, .int z3, .int z4, .long y5]) ++ List.replicate (8 - (lg_sl ([.ref (ox 0), .int (nI k), .int z2, .int z3, .int z4, .long y5])).length) Slot.unset).toArray = ls at hl ⊢
  have hl : lv_has ls 8 [(0, .ref (ox 0)), (1, .int (nI k)), (2, .int z2), (3, .int z3), (4, .int z4), (5, .long y5)] := hl
  obtain ⟨hky, hL, hO, hn1, hka, hkb, hda, hdb⟩ := id hTb
  have hnb := hL.1
  have hln := hL.2.1
  have hc := hky.1
  have hcz := hky.1
  refine lv_iload_n hx hb dX10_make_0 rfl (lv_at hl 1 rfl) ?_
  have hPc := hP.sub (ws' := []) [] rfl
  have hKc := hK.sub (tys' := []) [] rfl
  have hFc := va_free0 hS hA
  refine va_calli (va_runS (As := [.int (nI k)]) (rest := []) ⟨hx, hb, hml, hown, hts⟩ (k_isTN l D _ cI (nI k)) (va_cwS 1 hts g_s_make_k_isTN_55 rfl rfl rfl (by decide +kernel) ⟨(Nat.le_of_ble_eq_true rfl), (Nat.le_of_ble_eq_true rfl)⟩) (PcRC_S hPc hKc hN) rfl rfl hl.1 rfl (lv_room (Nat.le_of_ble_eq_true rfl)) dX10_make_1 ⟨(Nat.le_of_ble_eq_true rfl), (Nat.le_of_ble_eq_true rfl)⟩) hS (fun q _ h => hFc q h) hFc (fun r1 uu tt H locs htt hvm hw hB hz1 hk1 hS => ?_)
  have hP := va_keep hP hk1
  try dsimp only at hw
  clear hB hz1 hk1 hFc hPc hKc
  rcases hw with ⟨rfl, hA_r1⟩ | ⟨rfl, hA_r1⟩
  ·
    refine lv_if_eq (tgt := 17) hx hb dX10_make_4 (by decide) (fun hc => absurd hc (by decide)) (fun hc => ?_)
    refine lv_iload_n hx hb dX10_make_7 rfl (lv_at hl 2 rfl) ?_
    refine lv_iload_n hx hb dX10_make_8 rfl (lv_at hl 3 rfl) ?_
    refine lv_iload hx hb dX10_make_9 (lv_at hl 4 rfl) ?_
    have hPc := hP.sub (ws' := []) [] rfl
    have hKc := hK.sub (tys' := []) [] rfl
    have hFc := va_free0 hS hA
    refine va_calli (va_runS (As := [.int z2, .int z3, .int z4]) (rest := []) ⟨hx, hb, hml, hown, hts⟩ (k_areS l D _ cI z2 z3 z4) (va_cwS 3 hts g_s_make_k_areS_59 rfl rfl rfl (by decide +kernel) ⟨(Nat.le_of_ble_eq_true rfl), (Nat.le_of_ble_eq_true rfl)⟩) (PcRC_S hPc hKc hN) rfl rfl hl.1 rfl (lv_room (Nat.le_of_ble_eq_true rfl)) dX10_make_11 ⟨(Nat.le_of_ble_eq_true rfl), (Nat.le_of_ble_eq_true rfl)⟩) hS (fun q _ h => hFc q h) hFc (fun r2 uu tt H locs htt hvm hw hB hz1 hk1 hS => ?_)
    have hP := va_keep hP hk1
    try dsimp only at hw
    clear hB hz1 hk1 hFc hPc hKc
    rcases hw with ⟨rfl, hA_r2⟩ | ⟨rfl, hA_r2⟩
    ·
      refine lv_if_ne (tgt := 20) hx hb dX10_make_14 (by decide) (fun hc => ?_) (fun hc => absurd hc (by decide))
      refine lv_aload_n hx hb dX10_make_20 rfl (lv_at hl 0 rfl) ?_
      refine lv_iload_n hx hb dX10_make_21 rfl (lv_at hl 1 rfl) ?_
      have hPc := hP.sub (ws' := [(ox 0, .inr (10, [.ref (ox 1), .ref (ox 2), .int (nI tp), .ref (ob3 0), .ref (og 0), .ref (oq 0), .ref (ow 0)])), (ox 1, .inl (cT, 4, .inr (.inr (.inr (.inr ft)))))]) [0, 1] rfl
      have hKc := hK.sub (tys' := [(cT, .object RX9)]) [1] rfl
      have hFc := va_free0 hS hA
      refine va_callq (va_runV (As := [.int (nI k)]) (rest := []) ⟨hx, hb, hml, hown, hts⟩ (k_slotS l D _ ox ob3 og oq ow cI cT tp ft k (ob 0) hk hft) (cwV 1 hts g_s_make_k_slotS_63 rfl rfl rfl (by decide +kernel) ⟨(Nat.le_of_ble_eq_true rfl), (Nat.le_of_ble_eq_true rfl)⟩) (PcRC_V (q0 := 0) hPc hKc hN rfl rfl) rfl rfl hl.1 rfl (lv_room (Nat.le_of_ble_eq_true rfl)) dX10_make_22 ⟨(Nat.le_of_ble_eq_true rfl), (Nat.le_of_ble_eq_true rfl)⟩) hS (fun q _ h => hFc q h) hFc (fun r3 uu tt H locs htt hvm hw hB hz1 hk1 hS => ?_)
      have hP := va_keep hP hk1
      try dsimp only at hw
      clear hB hz1 hk1 hFc hPc hKc
      obtain rfl : r3 = some (ob 0) := hw
      refine W.eq (g2 := F0 m 25 ls [.ref (ob 0)]) rfl ?_
      refine lv_astore (lv' := [(7, .ref (ob 0)), (0, .ref (ox 0)), (1, .int (nI k)), (2, .int z2), (3, .int z3), (4, .int z4), (5, .long y5)]) hx hb dX10_make_25 hl (by decide) rfl (fun ls hl => ?_)
      refine lv_aload hx hb dX10_make_27 (lv_at hl 0 rfl) ?_
      refine lv_iload_n hx hb dX10_make_29 rfl (lv_at hl 3 rfl) ?_
      refine lv_iload_n hx hb dX10_make_30 rfl (lv_at hl 4 rfl) ?_
      refine lv_iload hx hb dX10_make_31 (lv_at hl 5 rfl) ?_
      refine lv_lload hx hb dX10_make_33 (lv_at hl 6 rfl) ?_
      have hPc := hP.sub (ws' := [(ob 0, .inr (9, gT ob tb ts tg tl tc tr tu tv tw)), (ob 1, .inr (0, [.long sd, .int (nI da), .int (nI db), .int pr])), (ob 2, .inr (2, [.int (nI cn), .ref (ob 3), .ref (ob 4)]))]) [2, 3, 4] rfl
      have hKc := hK.sub (tys' := []) [] rfl
      have hDc := hD.sub (ws' := [(ob 0, .inr (9, gT ob tb ts tg tl tc tr tu tv tw)), (ob 1, .inr (0, [.long sd, .int (nI da), .int (nI db), .int pr])), (ob 2, .inr (2, [.int (nI cn), .ref (ob 3), .ref (ob 4)]))]) [2, 3, 4] (by decide) rfl
      have hFc := va_free (wc := [(ob 0, .inr (9, gT ob tb ts tg tl tc tr tu tv tw)), (ob 1, .inr (0, [.long sd, .int (nI da), .int (nI db), .int pr])), (ob 2, .inr (2, [.int (nI cn), .ref (ob 3), .ref (ob 4)]))]) hD hS hA [2, 3, 4] rfl
      refine va_callv (va_runV (As := [.int z2, .int z3, .int z4, .long y5]) (rest := []) ⟨hx, hb, hml, hown, hts⟩ (k_tbegin l D _ ob cI tb ts tg tl tc tr tu tv tw sd da db pr cn z2 z3 z4 y5) (cwV 4 hts g_s_make_k_tbegin_67 rfl rfl rfl (by decide +kernel) ⟨(Nat.le_of_ble_eq_true rfl), (Nat.le_of_ble_eq_true rfl)⟩) (PcWC_V (q0 := 0) hPc hKc hDc hN rfl rfl) rfl rfl hl.1 rfl (lv_room (Nat.le_of_ble_eq_true rfl)) dX10_make_35 ⟨(Nat.le_of_ble_eq_true rfl), (Nat.le_of_ble_eq_true rfl)⟩) hS (fun q _ h => hFc q h) hFc (fun uu tt H locs htt hvm hw hB hz1 hk1 hS => ?_)
      obtain ⟨w5, w6, w7, w8, w9, w10, w11, w12, w13, w14⟩ := uu
      obtain ⟨hP1, hK1, hD1⟩ := hB
      rw [htt] at hP1
      have hK1 := va_K.moved hvm.symm hK1
      have hP1 : va_P D vwCl [(ob 0, .inr (9, gT ob w5 w6 w7 tl tc w8 w9 w10 w11)), (ob 1, .inr (0, [.long w12, .int (nI da), .int (nI db), .int w13])), (ob 2, .inr (2, [.int (nI w14), .ref (ob 3), .ref (ob 4)]))] H := hP1
      obtain ⟨hP, hD⟩ := va_join (wr := [(ox 0, .inr (10, [.ref (ox 1), .ref (ox 2), .int (nI tp), .ref (ob3 0), .ref (og 0), .ref (oq 0), .ref (ow 0)])), (ox 1, .inl (cT, 4, .inr (.inr (.inr (.inr ft))))), (ob 3, .inl (cI, 160, .inl fk)), (ob 4, .inl (cI, 160, .inl fv)), (ob 5, .inr (3, gY ob (nI nb) (nI ka) (nI kb) sm (nI ln))), (ob 6, .inl (cI, 2048, .inl fh)), (ob 7, .inl (cI, 2048, .inl ff)), (ob 8, .inl (cI, 2048, .inl fa)), (ob 9, .inl (cI, 2048, .inl fs)), (ob 10, .inl (cI, 160, .inl fj)), (ob 11, .inl (cI, 160, .inl fr)), (ob 12, .inl (cI, 160, .inl fo)), (ob 13, .inl (cI, 2048, .inl fx))]) (w1 := [(ob 0, .inr (9, gT ob w5 w6 w7 tl tc w8 w9 w10 w11)), (ob 1, .inr (0, [.long w12, .int (nI da), .int (nI db), .int w13])), (ob 2, .inr (2, [.int (nI w14), .ref (ob 3), .ref (ob 4)]))]) hP hD [2, 3, 4] [0, 1, 5, 6, 7, 8, 9, 10, 11, 12, 13, 14, 15] rfl rfl (by decide) (by decide) hk1 hFc hP1 hD1
      have hP : va_P D vwCl [(ox 0, .inr (10, [.ref (ox 1), .ref (ox 2), .int (nI tp), .ref (ob3 0), .ref (og 0), .ref (oq 0), .ref (ow 0)])), (ox 1, .inl (cT, 4, .inr (.inr (.inr (.inr ft))))), (ob 3, .inl (cI, 160, .inl fk)), (ob 4, .inl (cI, 160, .inl fv)), (ob 5, .inr (3, gY ob (nI nb) (nI ka) (nI kb) sm (nI ln))), (ob 6, .inl (cI, 2048, .inl fh)), (ob 7, .inl (cI, 2048, .inl ff)), (ob 8, .inl (cI, 2048, .inl fa)), (ob 9, .inl (cI, 2048, .inl fs)), (ob 10, .inl (cI, 160, .inl fj)), (ob 11, .inl (cI, 160, .inl fr)), (ob 12, .inl (cI, 160, .inl fo)), (ob 13, .inl (cI, 2048, .inl fx)), (ob 0, .inr (9, gT ob w5 w6 w7 tl tc w8 w9 w10 w11)), (ob 1, .inr (0, [.long w12, .int (nI da), .int (nI db), .int w13])), (ob 2, .inr (2, [.int (nI w14), .ref (ob 3), .ref (ob 4)]))] H := hP
      have hD : va_D A [(ox 0, .inr (10, [.ref (ox 1), .ref (ox 2), .int (nI tp), .ref (ob3 0), .ref (og 0), .ref (oq 0), .ref (ow 0)])), (ox 1, .inl (cT, 4, .inr (.inr (.inr (.inr ft))))), (ob 3, .inl (cI, 160, .inl fk)), (ob 4, .inl (cI, 160, .inl fv)), (ob 5, .inr (3, gY ob (nI nb) (nI ka) (nI kb) sm (nI ln))), (ob 6, .inl (cI, 2048, .inl fh)), (ob 7, .inl (cI, 2048, .inl ff)), (ob 8, .inl (cI, 2048, .inl fa)), (ob 9, .inl (cI, 2048, .inl fs)), (ob 10, .inl (cI, 160, .inl fj)), (ob 11, .inl (cI, 160, .inl fr)), (ob 12, .inl (cI, 160, .inl fo)), (ob 13, .inl (cI, 2048, .inl fx)), (ob 0, .inr (9, gT ob w5 w6 w7 tl tc w8 w9 w10 w11)), (ob 1, .inr (0, [.long w12, .int (nI da), .int (nI db), .int w13])), (ob 2, .inr (2, [.int (nI w14), .ref (ob 3), .ref (ob 4)]))] := hD
      try dsimp only at hw
      clear hz1 hk1 hFc hPc hKc hDc
      obtain rfl : w14 = 0 := hw
      have hP : va_P D vwCl [(ox 0, .inr (10, [.ref (ox 1), .ref (ox 2), .int (nI tp), .ref (ob3 0), .ref (og 0), .ref (oq 0), .ref (ow 0)])), (ox 1, .inl (cT, 4, .inr (.inr (.inr (.inr ft))))), (ob 3, .inl (cI, 160, .inl fk)), (ob 4, .inl (cI, 160, .inl fv)), (ob 5, .inr (3, gY ob (nI nb) (nI ka) (nI kb) sm (nI ln))), (ob 6, .inl (cI, 2048, .inl fh)), (ob 7, .inl (cI, 2048, .inl ff)), (ob 8, .inl (cI, 2048, .inl fa)), (ob 9, .inl (cI, 2048, .inl fs)), (ob 10, .inl (cI, 160, .inl fj)), (ob 11, .inl (cI, 160, .inl fr)), (ob 12, .inl (cI, 160, .inl fo)), (ob 13, .inl (cI, 2048, .inl fx)), (ob 0, .inr (9, gT ob w5 w6 w7 tl tc w8 w9 w10 w11)), (ob 1, .inr (0, [.long w12, .int (nI da), .int (nI db), .int w13])), (ob 2, .inr (2, [.int 0, .ref (ob 3), .ref (ob 4)]))] H := hP
      have hD : va_D A [(ox 0, .inr (10, [.ref (ox 1), .ref (ox 2), .int (nI tp), .ref (ob3 0), .ref (og 0), .ref (oq 0), .ref (ow 0)])), (ox 1, .inl (cT, 4, .inr (.inr (.inr (.inr ft))))), (ob 3, .inl (cI, 160, .inl fk)), (ob 4, .inl (cI, 160, .inl fv)), (ob 5, .inr (3, gY ob (nI nb) (nI ka) (nI kb) sm (nI ln))), (ob 6, .inl (cI, 2048, .inl fh)), (ob 7, .inl (cI, 2048, .inl ff)), (ob 8, .inl (cI, 2048, .inl fa)), (ob 9, .inl (cI, 2048, .inl fs)), (ob 10, .inl (cI, 160, .inl fj)), (ob 11, .inl (cI, 160, .inl fr)), (ob 12, .inl (cI, 160, .inl fo)), (ob 13, .inl (cI, 2048, .inl fx)), (ob 0, .inr (9, gT ob w5 w6 w7 tl tc w8 w9 w10 w11)), (ob 1, .inr (0, [.long w12, .int (nI da), .int (nI db), .int w13])), (ob 2, .inr (2, [.int 0, .ref (ob 3), .ref (ob 4)]))] := hD
      refine lv_aload hx hb dX10_make_38 (lv_at hl 0 rfl) ?_
      have hPc := hP.sub (ws' := [(ob 0, .inr (9, gT ob w5 w6 w7 tl tc w8 w9 w10 w11)), (ob 1, .inr (0, [.long w12, .int (nI da), .int (nI db), .int w13])), (ob 2, .inr (2, [.int (nI 0), .ref (ob 3), .ref (ob 4)])), (ob 3, .inl (cI, 160, .inl fk)), (ob 5, .inr (3, gY ob (nI nb) (nI ka) (nI kb) sm (nI ln))), (ob 6, .inl (cI, 2048, .inl fh)), (ob 7, .inl (cI, 2048, .inl ff)), (ob 8, .inl (cI, 2048, .inl fa)), (ob 9, .inl (cI, 2048, .inl fs)), (ob 10, .inl (cI, 160, .inl fj)), (ob 11, .inl (cI, 160, .inl fr)), (ob 12, .inl (cI, 160, .inl fo)), (ob 13, .inl (cI, 2048, .inl fx))]) [13, 14, 15, 2, 4, 5, 6, 7, 8, 9, 10, 11, 12] rfl
      have hKc := hK.sub (tys' := [(cI, .int)]) [0] rfl
      have hDc := hD.sub (ws' := [(ob 0, .inr (9, gT ob w5 w6 w7 tl tc w8 w9 w10 w11)), (ob 1, .inr (0, [.long w12, .int (nI da), .int (nI db), .int w13])), (ob 2, .inr (2, [.int (nI 0), .ref (ob 3), .ref (ob 4)])), (ob 3, .inl (cI, 160, .inl fk)), (ob 5, .inr (3, gY ob (nI nb) (nI ka) (nI kb) sm (nI ln))), (ob 6, .inl (cI, 2048, .inl fh)), (ob 7, .inl (cI, 2048, .inl ff)), (ob 8, .inl (cI, 2048, .inl fa)), (ob 9, .inl (cI, 2048, .inl fs)), (ob 10, .inl (cI, 160, .inl fj)), (ob 11, .inl (cI, 160, .inl fr)), (ob 12, .inl (cI, 160, .inl fo)), (ob 13, .inl (cI, 2048, .inl fx))]) [13, 14, 15, 2, 4, 5, 6, 7, 8, 9, 10, 11, 12] (by decide) rfl
      have hFc := va_free (wc := [(ob 0, .inr (9, gT ob w5 w6 w7 tl tc w8 w9 w10 w11)), (ob 1, .inr (0, [.long w12, .int (nI da), .int (nI db), .int w13])), (ob 2, .inr (2, [.int (nI 0), .ref (ob 3), .ref (ob 4)])), (ob 3, .inl (cI, 160, .inl fk)), (ob 5, .inr (3, gY ob (nI nb) (nI ka) (nI kb) sm (nI ln))), (ob 6, .inl (cI, 2048, .inl fh)), (ob 7, .inl (cI, 2048, .inl ff)), (ob 8, .inl (cI, 2048, .inl fa)), (ob 9, .inl (cI, 2048, .inl fs)), (ob 10, .inl (cI, 160, .inl fj)), (ob 11, .inl (cI, 160, .inl fr)), (ob 12, .inl (cI, 160, .inl fo)), (ob 13, .inl (cI, 2048, .inl fx))]) hD hS hA [13, 14, 15, 2, 4, 5, 6, 7, 8, 9, 10, 11, 12] rfl
      refine va_callv (va_runV (As := []) (rest := []) ⟨hx, hb, hml, hown, hts⟩ (k_buildAll l D _ ob cI w5 w6 w7 tl tc w8 w9 w10 w11 w12 da db w13 0 fk nb ka kb sm ln fh ff fa fs fj fr fo fx (KyC_0 _) hL hO) (cwV 0 hts g_s_make_k_buildAll_71 rfl rfl rfl (by decide +kernel) ⟨(Nat.le_of_ble_eq_true rfl), (Nat.le_of_ble_eq_true rfl)⟩) (PcWC_V (q0 := 0) hPc hKc hDc hN rfl rfl) rfl rfl hl.1 rfl (lv_room (Nat.le_of_ble_eq_true rfl)) dX10_make_40 ⟨(Nat.le_of_ble_eq_true rfl), (Nat.le_of_ble_eq_true rfl)⟩) hS (fun q _ h => hFc q h) hFc (fun uu tt H locs htt hvm hw hB hz1 hk1 hS => ?_)
      obtain ⟨w16, w17, w18, w19, w20, w21, w22, w23, w24, w25, w26, w27, w28, w29, w30, w31, w32, w33, w34, w35⟩ := uu
      obtain ⟨hP1, hK1, hD1⟩ := hB
      rw [htt] at hP1
      have hK1 := va_K.moved hvm.symm hK1
      have hP1 : va_P D vwCl [(ob 0, .inr (9, gT ob w5 w6 w7 w16 w17 w8 w9 w10 w18)), (ob 1, .inr (0, [.long w19, .int (nI w20), .int (nI w21), .int w22])), (ob 2, .inr (2, [.int (nI 0), .ref (ob 3), .ref (ob 4)])), (ob 3, .inl (cI, 160, .inl fk)), (ob 5, .inr (3, gY ob (nI w23) (nI w24) (nI w25) w26 (nI w27))), (ob 6, .inl (cI, 2048, .inl w28)), (ob 7, .inl (cI, 2048, .inl w29)), (ob 8, .inl (cI, 2048, .inl w30)), (ob 9, .inl (cI, 2048, .inl w31)), (ob 10, .inl (cI, 160, .inl w32)), (ob 11, .inl (cI, 160, .inl w33)), (ob 12, .inl (cI, 160, .inl w34)), (ob 13, .inl (cI, 2048, .inl w35))] H := hP1
      obtain ⟨hP, hD⟩ := va_join (wr := [(ox 0, .inr (10, [.ref (ox 1), .ref (ox 2), .int (nI tp), .ref (ob3 0), .ref (og 0), .ref (oq 0), .ref (ow 0)])), (ox 1, .inl (cT, 4, .inr (.inr (.inr (.inr ft))))), (ob 4, .inl (cI, 160, .inl fv))]) (w1 := [(ob 0, .inr (9, gT ob w5 w6 w7 w16 w17 w8 w9 w10 w18)), (ob 1, .inr (0, [.long w19, .int (nI w20), .int (nI w21), .int w22])), (ob 2, .inr (2, [.int (nI 0), .ref (ob 3), .ref (ob 4)])), (ob 3, .inl (cI, 160, .inl fk)), (ob 5, .inr (3, gY ob (nI w23) (nI w24) (nI w25) w26 (nI w27))), (ob 6, .inl (cI, 2048, .inl w28)), (ob 7, .inl (cI, 2048, .inl w29)), (ob 8, .inl (cI, 2048, .inl w30)), (ob 9, .inl (cI, 2048, .inl w31)), (ob 10, .inl (cI, 160, .inl w32)), (ob 11, .inl (cI, 160, .inl w33)), (ob 12, .inl (cI, 160, .inl w34)), (ob 13, .inl (cI, 2048, .inl w35))]) hP hD [13, 14, 15, 2, 4, 5, 6, 7, 8, 9, 10, 11, 12] [0, 1, 3] rfl rfl (by decide) (by decide) hk1 hFc hP1 hD1
      have hP : va_P D vwCl [(ox 0, .inr (10, [.ref (ox 1), .ref (ox 2), .int (nI tp), .ref (ob3 0), .ref (og 0), .ref (oq 0), .ref (ow 0)])), (ox 1, .inl (cT, 4, .inr (.inr (.inr (.inr ft))))), (ob 4, .inl (cI, 160, .inl fv)), (ob 0, .inr (9, gT ob w5 w6 w7 w16 w17 w8 w9 w10 w18)), (ob 1, .inr (0, [.long w19, .int (nI w20), .int (nI w21), .int w22])), (ob 2, .inr (2, [.int (nI 0), .ref (ob 3), .ref (ob 4)])), (ob 3, .inl (cI, 160, .inl fk)), (ob 5, .inr (3, gY ob (nI w23) (nI w24) (nI w25) w26 (nI w27))), (ob 6, .inl (cI, 2048, .inl w28)), (ob 7, .inl (cI, 2048, .inl w29)), (ob 8, .inl (cI, 2048, .inl w30)), (ob 9, .inl (cI, 2048, .inl w31)), (ob 10, .inl (cI, 160, .inl w32)), (ob 11, .inl (cI, 160, .inl w33)), (ob 12, .inl (cI, 160, .inl w34)), (ob 13, .inl (cI, 2048, .inl w35))] H := hP
      have hD : va_D A [(ox 0, .inr (10, [.ref (ox 1), .ref (ox 2), .int (nI tp), .ref (ob3 0), .ref (og 0), .ref (oq 0), .ref (ow 0)])), (ox 1, .inl (cT, 4, .inr (.inr (.inr (.inr ft))))), (ob 4, .inl (cI, 160, .inl fv)), (ob 0, .inr (9, gT ob w5 w6 w7 w16 w17 w8 w9 w10 w18)), (ob 1, .inr (0, [.long w19, .int (nI w20), .int (nI w21), .int w22])), (ob 2, .inr (2, [.int (nI 0), .ref (ob 3), .ref (ob 4)])), (ob 3, .inl (cI, 160, .inl fk)), (ob 5, .inr (3, gY ob (nI w23) (nI w24) (nI w25) w26 (nI w27))), (ob 6, .inl (cI, 2048, .inl w28)), (ob 7, .inl (cI, 2048, .inl w29)), (ob 8, .inl (cI, 2048, .inl w30)), (ob 9, .inl (cI, 2048, .inl w31)), (ob 10, .inl (cI, 160, .inl w32)), (ob 11, .inl (cI, 160, .inl w33)), (ob 12, .inl (cI, 160, .inl w34)), (ob 13, .inl (cI, 2048, .inl w35))] := hD
      try dsimp only at hw
      clear hz1 hk1 hFc hPc hKc hDc
      have hTb36 := hw
      obtain ⟨hky36, hL36, hO36, hn136, hka36, hkb36, hda36, hdb36⟩ := id hTb36
      have hnb36 := hL36.1
      have hln36 := hL36.2.1
      have hc36 := hky36.1
      refine lv_iconst (v := 1) hx hb dX10_make_43 (by decide) ?_
      exact W.iret (v := 1) hx hb hr (fun t ht hW => ⟨⟨1, (w5, w6, w7, w8, w9, w10, 0, w16, w17, w18, w19, w20, w21, w22, w23, w24, w25, w26, w27, w28, w29, w30, w31, w32, w33, w34, w35), rfl, (by (try dsimp only); first | done | exact ⟨rfl, ⟨hky36, hL36, hO36, hn136, hka36, hkb36, hda36, hdb36⟩, KvT_0 _ _⟩), by rw [ht]; exact hP.sub [0, 1, 3, 4, 5, 6, 2, 7, 8, 9, 10, 11, 12, 13, 14, 15] rfl, va_K.moved hW.alike (hK.sub [0, 1] rfl), hD.sub [0, 1, 3, 4, 5, 6, 2, 7, 8, 9, 10, 11, 12, 13, 14, 15] (by decide) rfl⟩, hS.F ht⟩) hS.2.2 dX10_make_44
    ·
      exact absurd hok hA_r2
  ·
    exact absurd ⟨nI_pos' (by omega), nI_lt (b := 4) hk (by decide)⟩ hA_r1

def own_n_make : List Cond := [.methodLink RX10 55 yX10_isTableNumber, .static yX10_isTableNumber, .initialized RX10, .methodLink RX10 59 yX10_areSettings, .static yX10_areSettings]
def wp_n_make : List Cond := .code yX10_make cX10_make 8 (some .int) :: (own_n_make ++ (wp_k_isTN ++ (wp_k_areS ++ ([] : List Cond))))
set_option maxRecDepth 20000 in
theorem inown_n_make : ∀ w ∈ own_n_make, w ∈ lw_tbl := mem_places [449, 450, 106, 452, 453] (by decide +kernel)
set_option maxRecDepth 20000 in
theorem in_n_make : ∀ w ∈ wp_n_make, w ∈ lw_tbl := List.forall_mem_cons.mpr ⟨List.mem_of_getElem? (i := 448) (by decide +kernel), List.forall_mem_append.mpr ⟨inown_n_make, List.forall_mem_append.mpr ⟨in_k_isTN, List.forall_mem_append.mpr ⟨in_k_areS, fun _ h => absurd h List.not_mem_nil⟩⟩⟩⟩
set_option maxRecDepth 20000 in
theorem good_n_make : wp_n_make.all goodWord = true := by decide +kernel
set_option maxRecDepth 20000 in
theorem g_n_make_k_isTN_55 : GoodIn wp_n_make (va_wsS RX10 55 yX10_isTableNumber wp_k_isTN) := goodIn_sub (List.forall_mem_append.mpr ⟨List.forall_mem_cons.mpr ⟨(List.mem_of_getElem? (i := 1) rfl), List.forall_mem_cons.mpr ⟨(List.mem_of_getElem? (i := 2) rfl), List.forall_mem_cons.mpr ⟨(List.mem_of_getElem? (i := 3) rfl), fun _ h => absurd h List.not_mem_nil⟩⟩⟩, (fun _ h => (List.mem_cons_of_mem _ (List.mem_append_right _ (List.mem_append_left _ h))))⟩) (by decide +kernel)
set_option maxRecDepth 20000 in
theorem g_n_make_k_areS_59 : GoodIn wp_n_make (va_wsS RX10 59 yX10_areSettings wp_k_areS) := goodIn_sub (List.forall_mem_append.mpr ⟨List.forall_mem_cons.mpr ⟨(List.mem_of_getElem? (i := 4) rfl), List.forall_mem_cons.mpr ⟨(List.mem_of_getElem? (i := 5) rfl), List.forall_mem_cons.mpr ⟨(List.mem_of_getElem? (i := 3) rfl), fun _ h => absurd h List.not_mem_nil⟩⟩⟩, (fun _ h => (List.mem_cons_of_mem _ (List.mem_append_right _ (List.mem_append_right _ (List.mem_append_left _ h)))))⟩) (by decide +kernel)
set_option maxHeartbeats 4000000 in
set_option maxRecDepth 100000 in
theorem n_make (l : Launch) (D : va_G) (sz : Nat) (ox : Nat → Nat) (ob3 : Nat → Nat) (og : Nat → Nat) (oq : Nat → Nat) (ow : Nat → Nat) (cI : ClassId) (cT : ClassId) (tp : Nat) (ft : Nat → Option Nat) (z1 : Int32) (z2 : Int32) (z3 : Int32) (z4 : Int32) (y5 : Int64) (hb9 : ¬ ((0 ≤ z1 ∧ z1 < 4) ∧ okS z2 z3 z4)) : Met l yX10_make wp_n_make ({ frames := 1, cells := 0, slots := 0, locals := 22 }) (PcRC D [.ref (ox 0), .int z1, .int z2, .int z3, .int z4, .long y5] sz [(ox 0, .inr (10, [.ref (ox 1), .ref (ox 2), .int (nI tp), .ref (ob3 0), .ref (og 0), .ref (oq 0), .ref (ow 0)])), (ox 1, .inl (cT, 4, .inr (.inr (.inr (.inr ft)))))] [(cT, .object RX9)]) (va_Qi (fun (r : Int32) (u : Unit) => r = -2) (fun (_ : Unit) _ => True) (va_A [] sz)) 0 0 (va_A [] sz) := by
  refine Met.ofW (cc := cX10_make) (maxL := 8) (ret := (some .int)) (by decide) rfl ?_
  intro p e s m args below meth c s₁ B hml hv
  obtain ⟨rfl, hsz, hP, hK, hN⟩ := hv
  have hx := B.exec
  have hb := B.bytes
  have hr := B.returns
  have hts := atoms_spec (ws := wp_n_make) B.pre
  have hown : s.vm.findClass RX10 = some m.cls := findClass_of_methodNamed B.named
  have hlocks := B.notSynchronized
  subst hsz
  generalize hAe : va_A [] s.heap.size = A at ⊢
  have hA : ∀ q : Nat, s.heap.size ≤ q → A q := fun q h => by rw [← hAe]; exact Or.inr h
  have hS : va_S A s.heap s.heap [] := va_S.rf
  have hP : va_P D vwCl [(ox 0, .inr (10, [.ref (ox 1), .ref (ox 2), .int (nI tp), .ref (ob3 0), .ref (og 0), .ref (oq 0), .ref (ow 0)])), (ox 1, .inl (cT, 4, .inr (.inr (.inr (.inr ft)))))] s.heap := hP
  have hl := lv_entry ([.ref (ox 0), .int z1, .int z2, .int z3, .int z4, .long y5]) (n := 8) (Nat.le_of_ble_eq_true rfl)
  rw [lg_entry_eq]
  generalize (lg_sl ([.ref (ox 0), .int z1, .int z2, .int z3, .int z4, .long y5]) ++ List.replicate (8 - (lg_sl ([.ref (ox 0), .int z1, .int z2, .int z3, .int z4, .long y5])).length) Slot.unset).toArray = ls at hl ⊢
  have hl : lv_has ls 8 [(0, .ref (ox 0)), (1, .int z1), (2, .int z2), (3, .int z3), (4, .int z4), (5, .long y5)] := hl
  refine lv_iload_n hx hb dX10_make_0 rfl (lv_at hl 1 rfl) ?_
  have hPc := hP.sub (ws' := []) [] rfl
  have hKc := hK.sub (tys' := []) [] rfl
  have hFc := va_free0 hS hA
  refine va_calli (va_runS (As := [.int z1]) (rest := []) ⟨hx, hb, hml, hown, hts⟩ (k_isTN l D _ cI z1) (va_cwS 1 hts g_n_make_k_isTN_55 rfl rfl rfl (by decide +kernel) ⟨(Nat.le_of_ble_eq_true rfl), (Nat.le_of_ble_eq_true rfl)⟩) (PcRC_S hPc hKc hN) rfl rfl hl.1 rfl (lv_room (Nat.le_of_ble_eq_true rfl)) dX10_make_1 ⟨(Nat.le_of_ble_eq_true rfl), (Nat.le_of_ble_eq_true rfl)⟩) hS (fun q _ h => hFc q h) hFc (fun r1 uu tt H locs htt hvm hw hB hz1 hk1 hS => ?_)
  have hP := va_keep hP hk1
  try dsimp only at hw
  clear hB hz1 hk1 hFc hPc hKc
  rcases hw with ⟨rfl, hA_r1⟩ | ⟨rfl, hA_r1⟩
  ·
    refine lv_if_eq (tgt := 17) hx hb dX10_make_4 (by decide) (fun hc => absurd hc (by decide)) (fun hc => ?_)
    refine lv_iload_n hx hb dX10_make_7 rfl (lv_at hl 2 rfl) ?_
    refine lv_iload_n hx hb dX10_make_8 rfl (lv_at hl 3 rfl) ?_
    refine lv_iload hx hb dX10_make_9 (lv_at hl 4 rfl) ?_
    have hPc := hP.sub (ws' := []) [] rfl
    have hKc := hK.sub (tys' := []) [] rfl
    have hFc := va_free0 hS hA
    refine va_calli (va_runS (As := [.int z2, .int z3, .int z4]) (rest := []) ⟨hx, hb, hml, hown, hts⟩ (k_areS l D _ cI z2 z3 z4) (va_cwS 3 hts g_n_make_k_areS_59 rfl rfl rfl (by decide +kernel) ⟨(Nat.le_of_ble_eq_true rfl), (Nat.le_of_ble_eq_true rfl)⟩) (PcRC_S hPc hKc hN) rfl rfl hl.1 rfl (lv_room (Nat.le_of_ble_eq_true rfl)) dX10_make_11 ⟨(Nat.le_of_ble_eq_true rfl), (Nat.le_of_ble_eq_true rfl)⟩) hS (fun q _ h => hFc q h) hFc (fun r2 uu tt H locs htt hvm hw hB hz1 hk1 hS => ?_)
    have hP := va_keep hP hk1
    try dsimp only at hw
    clear hB hz1 hk1 hFc hPc hKc
    rcases hw with ⟨rfl, hA_r2⟩ | ⟨rfl, hA_r2⟩
    ·
      exact absurd ⟨hA_r1, hA_r2⟩ hb9
    ·
      refine lv_if_ne (tgt := 20) hx hb dX10_make_14 (by decide) (fun hc => absurd (by decide) hc) (fun hc => ?_)
      refine lv_bipush (v := (-2)) hx hb dX10_make_17 (by decide) ?_
      exact W.iret (v := (-2)) hx hb hr (fun t ht hW => ⟨⟨(-2), (), rfl, rfl, trivial⟩, hS.F ht⟩) hS.2.2 dX10_make_19
  ·
    refine lv_if_eq (tgt := 17) hx hb dX10_make_4 (by decide) (fun hc => ?_) (fun hc => absurd (by decide) hc)
    refine lv_bipush (v := (-2)) hx hb dX10_make_17 (by decide) ?_
    exact W.iret (v := (-2)) hx hb hr (fun t ht hW => ⟨⟨(-2), (), rfl, rfl, trivial⟩, hS.F ht⟩) hS.2.2 dX10_make_19

