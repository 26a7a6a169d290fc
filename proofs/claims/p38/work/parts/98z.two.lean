theorem dX10_shared_26 : decode cX10_shared 26 = .ok (.aload 4, 2) := by decide +kernel
theorem dX10_shared_28 : decode cX10_shared 28 = .ok (.getfield 93, 3) := by decide +kernel
theorem dX10_shared_31 : decode cX10_shared 31 = .ok (.aload 5, 2) := by decide +kernel
theorem dX10_shared_33 : decode cX10_shared 33 = .ok (.getfield 93, 3) := by decide +kernel
theorem dX10_shared_36 : decode cX10_shared 36 = .ok (.iconst 0, 1) := by decide +kernel
theorem dX10_shared_37 : decode cX10_shared 37 = .ok (.invokevirtual 265, 3) := by decide +kernel
theorem dX10_shared_40 : decode cX10_shared 40 = .ok (.istore 6, 2) := by decide +kernel
theorem dX10_shared_42 : decode cX10_shared 42 = .ok (.iload_n 3, 1) := by decide +kernel
theorem dX10_shared_43 : decode cX10_shared 43 = .ok (.tableswitch 80 0 3 #[29, 32, 53, 65], 29) := by decide +kernel
theorem dX10_shared_72 : decode cX10_shared 72 = .ok (.iload 6, 2) := by decide +kernel
theorem dX10_shared_74 : decode cX10_shared 74 = .ok (.ireturn, 1) := by decide +kernel
theorem dX10_shared_75 : decode cX10_shared 75 = .ok (.aload 4, 2) := by decide +kernel
theorem dX10_shared_77 : decode cX10_shared 77 = .ok (.getfield 93, 3) := by decide +kernel
theorem dX10_shared_80 : decode cX10_shared 80 = .ok (.getfield 121, 3) := by decide +kernel
theorem dX10_shared_83 : decode cX10_shared 83 = .ok (.aload 5, 2) := by decide +kernel
theorem dX10_shared_85 : decode cX10_shared 85 = .ok (.getfield 93, 3) := by decide +kernel
theorem dX10_shared_88 : decode cX10_shared 88 = .ok (.getfield 121, 3) := by decide +kernel
theorem dX10_shared_91 : decode cX10_shared 91 = .ok (.iadd, 1) := by decide +kernel
theorem dX10_shared_92 : decode cX10_shared 92 = .ok (.iload 6, 2) := by decide +kernel
theorem dX10_shared_94 : decode cX10_shared 94 = .ok (.isub, 1) := by decide +kernel
theorem dX10_shared_95 : decode cX10_shared 95 = .ok (.ireturn, 1) := by decide +kernel
theorem dX10_shared_96 : decode cX10_shared 96 = .ok (.aload 4, 2) := by decide +kernel
theorem dX10_shared_98 : decode cX10_shared 98 = .ok (.getfield 93, 3) := by decide +kernel
theorem dX10_shared_101 : decode cX10_shared 101 = .ok (.getfield 121, 3) := by decide +kernel
theorem dX10_shared_104 : decode cX10_shared 104 = .ok (.iload 6, 2) := by decide +kernel
theorem dX10_shared_106 : decode cX10_shared 106 = .ok (.isub, 1) := by decide +kernel
theorem dX10_shared_107 : decode cX10_shared 107 = .ok (.ireturn, 1) := by decide +kernel
theorem dX10_shared_108 : decode cX10_shared 108 = .ok (.aload 4, 2) := by decide +kernel
theorem dX10_shared_110 : decode cX10_shared 110 = .ok (.getfield 93, 3) := by decide +kernel
theorem dX10_shared_113 : decode cX10_shared 113 = .ok (.aload 5, 2) := by decide +kernel
theorem dX10_shared_115 : decode cX10_shared 115 = .ok (.getfield 93, 3) := by decide +kernel
theorem dX10_shared_118 : decode cX10_shared 118 = .ok (.iconst 1, 1) := by decide +kernel
theorem dX10_shared_119 : decode cX10_shared 119 = .ok (.invokevirtual 265, 3) := by decide +kernel
theorem dX10_shared_122 : decode cX10_shared 122 = .ok (.ireturn, 1) := by decide +kernel
theorem dX10_shared_123 : decode cX10_shared 123 = .ok (.iconst (-1), 1) := by decide +kernel
theorem dX10_shared_124 : decode cX10_shared 124 = .ok (.ireturn, 1) := by decide +kernel
theorem dX10_join_30 : decode cX10_join 30 = .ok (.iconst 0, 1) := by decide +kernel
theorem dX10_join_31 : decode cX10_join 31 = .ok (.istore 5, 2) := by decide +kernel
theorem dX10_join_33 : decode cX10_join 33 = .ok (.iconst 0, 1) := by decide +kernel
theorem dX10_join_34 : decode cX10_join 34 = .ok (.istore 6, 2) := by decide +kernel
theorem dX10_join_36 : decode cX10_join 36 = .ok (.iload 6, 2) := by decide +kernel
theorem dX10_join_38 : decode cX10_join 38 = .ok (.aload 4, 2) := by decide +kernel
theorem dX10_join_40 : decode cX10_join 40 = .ok (.getfield 93, 3) := by decide +kernel
theorem dX10_join_43 : decode cX10_join 43 = .ok (.getfield 121, 3) := by decide +kernel
theorem dX10_join_46 : decode cX10_join 46 = .ok (.if_icmp .ge 55, 3) := by decide +kernel
theorem dX10_join_49 : decode cX10_join 49 = .ok (.aload 4, 2) := by decide +kernel
theorem dX10_join_51 : decode cX10_join 51 = .ok (.getfield 93, 3) := by decide +kernel
theorem dX10_join_54 : decode cX10_join 54 = .ok (.iload 6, 2) := by decide +kernel
theorem dX10_join_56 : decode cX10_join 56 = .ok (.invokevirtual 197, 3) := by decide +kernel
theorem dX10_join_59 : decode cX10_join 59 = .ok (.istore 7, 2) := by decide +kernel
theorem dX10_join_61 : decode cX10_join 61 = .ok (.aload_n 3, 1) := by decide +kernel
theorem dX10_join_62 : decode cX10_join 62 = .ok (.iload 7, 2) := by decide +kernel
theorem dX10_join_64 : decode cX10_join 64 = .ok (.invokevirtual 80, 3) := by decide +kernel
theorem dX10_join_67 : decode cX10_join 67 = .ok (.ifCond .eq 6, 3) := by decide +kernel
theorem dX10_join_70 : decode cX10_join 70 = .ok (.goto 31, 3) := by decide +kernel
theorem dX10_join_73 : decode cX10_join 73 = .ok (.aload_n 3, 1) := by decide +kernel
theorem dX10_join_74 : decode cX10_join 74 = .ok (.iload 7, 2) := by decide +kernel
theorem dX10_join_76 : decode cX10_join 76 = .ok (.aload 4, 2) := by decide +kernel
theorem dX10_join_78 : decode cX10_join 78 = .ok (.getfield 93, 3) := by decide +kernel
theorem dX10_join_81 : decode cX10_join 81 = .ok (.iload 6, 2) := by decide +kernel
theorem dX10_join_83 : decode cX10_join 83 = .ok (.invokevirtual 103, 3) := by decide +kernel
theorem dX10_join_86 : decode cX10_join 86 = .ok (.invokevirtual 87, 3) := by decide +kernel
theorem dX10_join_89 : decode cX10_join 89 = .ok (.ifCond .eq 6, 3) := by decide +kernel
theorem dX10_join_92 : decode cX10_join 92 = .ok (.iinc 5 1, 3) := by decide +kernel
theorem dX10_join_95 : decode cX10_join 95 = .ok (.iinc 6 1, 3) := by decide +kernel
theorem dX10_join_98 : decode cX10_join 98 = .ok (.goto (-62), 3) := by decide +kernel
theorem dX10_join_101 : decode cX10_join 101 = .ok (.iload 5, 2) := by decide +kernel
theorem dX10_join_103 : decode cX10_join 103 = .ok (.ireturn, 1) := by decide +kernel
theorem dX10_cut_32 : decode cX10_cut 32 = .ok (.iconst 0, 1) := by decide +kernel
theorem dX10_cut_33 : decode cX10_cut 33 = .ok (.istore 6, 2) := by decide +kernel
theorem dX10_cut_35 : decode cX10_cut 35 = .ok (.iconst 0, 1) := by decide +kernel
theorem dX10_cut_36 : decode cX10_cut 36 = .ok (.istore 7, 2) := by decide +kernel
theorem dX10_cut_38 : decode cX10_cut 38 = .ok (.aload 4, 2) := by decide +kernel
theorem dX10_cut_40 : decode cX10_cut 40 = .ok (.getfield 93, 3) := by decide +kernel
theorem dX10_cut_43 : decode cX10_cut 43 = .ok (.getfield 121, 3) := by decide +kernel
theorem dX10_cut_46 : decode cX10_cut 46 = .ok (.istore 8, 2) := by decide +kernel
theorem dX10_cut_48 : decode cX10_cut 48 = .ok (.iload 8, 2) := by decide +kernel
theorem dX10_cut_50 : decode cX10_cut 50 = .ok (.ifCond .le 60, 3) := by decide +kernel
theorem dX10_cut_53 : decode cX10_cut 53 = .ok (.aload 4, 2) := by decide +kernel
theorem dX10_cut_55 : decode cX10_cut 55 = .ok (.getfield 93, 3) := by decide +kernel
theorem dX10_cut_58 : decode cX10_cut 58 = .ok (.iload 7, 2) := by decide +kernel
theorem dX10_cut_60 : decode cX10_cut 60 = .ok (.invokevirtual 197, 3) := by decide +kernel
theorem dX10_cut_63 : decode cX10_cut 63 = .ok (.istore 9, 2) := by decide +kernel
theorem dX10_cut_65 : decode cX10_cut 65 = .ok (.aload 5, 2) := by decide +kernel
theorem dX10_cut_67 : decode cX10_cut 67 = .ok (.getfield 93, 3) := by decide +kernel
theorem dX10_cut_70 : decode cX10_cut 70 = .ok (.iload 9, 2) := by decide +kernel
theorem dX10_cut_72 : decode cX10_cut 72 = .ok (.invokevirtual 97, 3) := by decide +kernel
theorem dX10_cut_75 : decode cX10_cut 75 = .ok (.ifCond .lt 7, 3) := by decide +kernel
theorem dX10_cut_78 : decode cX10_cut 78 = .ok (.iconst 1, 1) := by decide +kernel
theorem dX10_cut_79 : decode cX10_cut 79 = .ok (.goto 4, 3) := by decide +kernel
theorem dX10_cut_82 : decode cX10_cut 82 = .ok (.iconst 0, 1) := by decide +kernel
theorem dX10_cut_83 : decode cX10_cut 83 = .ok (.iload_n 3, 1) := by decide +kernel
theorem dX10_cut_84 : decode cX10_cut 84 = .ok (.if_icmp .ne 17, 3) := by decide +kernel
theorem dX10_cut_87 : decode cX10_cut 87 = .ok (.aload 4, 2) := by decide +kernel
theorem dX10_cut_89 : decode cX10_cut 89 = .ok (.iload 9, 2) := by decide +kernel
theorem dX10_cut_91 : decode cX10_cut 91 = .ok (.invokevirtual 106, 3) := by decide +kernel
theorem dX10_cut_94 : decode cX10_cut 94 = .ok (.pop, 1) := by decide +kernel
theorem dX10_cut_95 : decode cX10_cut 95 = .ok (.iinc 6 1, 3) := by decide +kernel
theorem dX10_cut_98 : decode cX10_cut 98 = .ok (.goto 6, 3) := by decide +kernel
theorem dX10_cut_101 : decode cX10_cut 101 = .ok (.iinc 7 1, 3) := by decide +kernel
theorem dX10_cut_104 : decode cX10_cut 104 = .ok (.iinc 8 (-1), 3) := by decide +kernel
theorem dX10_cut_107 : decode cX10_cut 107 = .ok (.goto (-59), 3) := by decide +kernel
theorem dX10_cut_110 : decode cX10_cut 110 = .ok (.iload 6, 2) := by decide +kernel
theorem dX10_cut_112 : decode cX10_cut 112 = .ok (.ireturn, 1) := by decide +kernel
def own_d_shared : List Cond := [.methodLink RX10 74 yX10_tableAt, .instanceMethod yX10_tableAt, .selects RX10 yX10_tableAt yX10_tableAt, .initialized RX10, .fieldLink RX10 93 "ClashFree$Table" "keys" "LClashFree$Keys;", .methodLink RX10 265 yX2_sharedWith, .instanceMethod yX2_sharedWith, .selects RX2 yX2_sharedWith yX2_sharedWith, .initialized RX2, .fieldLink RX10 121 "ClashFree$Keys" "size" "I"]
def wp_d_shared : List Cond := .code yX10_shared cX10_shared 7 (some .int) :: (own_d_shared ++ (wp_k_tabS ++ (wp_k_shared ++ (wsX90 ++ (wsX20 ++ ([] : List Cond))))))
set_option maxRecDepth 20000 in
theorem inown_d_shared : ∀ w ∈ own_d_shared, w ∈ lw_tbl := mem_places [610, 612, 2, 106, 518, 882, 883, 884, 117, 476] (by decide +kernel)
set_option maxRecDepth 20000 in
theorem in_d_shared : ∀ w ∈ wp_d_shared, w ∈ lw_tbl := List.forall_mem_cons.mpr ⟨List.mem_of_getElem? (i := 881) (by decide +kernel), List.forall_mem_append.mpr ⟨inown_d_shared, List.forall_mem_append.mpr ⟨in_k_tabS, List.forall_mem_append.mpr ⟨in_k_shared, List.forall_mem_append.mpr ⟨lwb_X9, List.forall_mem_append.mpr ⟨lwb_X2, fun _ h => absurd h List.not_mem_nil⟩⟩⟩⟩⟩⟩
set_option maxRecDepth 20000 in
theorem good_d_shared : wp_d_shared.all goodWord = true := by decide +kernel
set_option maxRecDepth 20000 in
theorem g_d_shared_k_tabS_74 : GoodIn wp_d_shared (wsV RX10 74 RX10 yX10_tableAt wp_k_tabS) := goodIn_sub (List.forall_mem_append.mpr ⟨List.forall_mem_cons.mpr ⟨(List.mem_of_getElem? (i := 1) rfl), List.forall_mem_cons.mpr ⟨(List.mem_of_getElem? (i := 2) rfl), List.forall_mem_cons.mpr ⟨(List.mem_of_getElem? (i := 3) rfl), List.forall_mem_cons.mpr ⟨(List.mem_of_getElem? (i := 4) rfl), fun _ h => absurd h List.not_mem_nil⟩⟩⟩⟩, (fun _ h => (List.mem_cons_of_mem _ (List.mem_append_right _ (List.mem_append_left _ h))))⟩) (by decide +kernel)
set_option maxRecDepth 20000 in
theorem g_d_shared_k_shared_265 : GoodIn wp_d_shared (wsV RX10 265 RX2 yX2_sharedWith wp_k_shared) := goodIn_sub (List.forall_mem_append.mpr ⟨List.forall_mem_cons.mpr ⟨(List.mem_of_getElem? (i := 6) rfl), List.forall_mem_cons.mpr ⟨(List.mem_of_getElem? (i := 7) rfl), List.forall_mem_cons.mpr ⟨(List.mem_of_getElem? (i := 8) rfl), List.forall_mem_cons.mpr ⟨(List.mem_of_getElem? (i := 9) rfl), fun _ h => absurd h List.not_mem_nil⟩⟩⟩⟩, (fun _ h => (List.mem_cons_of_mem _ (List.mem_append_right _ (List.mem_append_right _ (List.mem_append_left _ h)))))⟩) (by decide +kernel)
set_option maxHeartbeats 4000000 in
set_option maxRecDepth 100000 in
theorem d_shared (l : Launch) (D : va_G) (sz : Nat) (ox : Nat → Nat) (ob3 : Nat → Nat) (og : Nat → Nat) (oq : Nat → Nat) (ow : Nat → Nat) (ob : Nat → Nat) (ob2 : Nat → Nat) (cI : ClassId) (cT : ClassId) (tp : Nat) (ft : Nat → Option Nat) (tb : Int32) (ts : Int32) (tg : Int32) (tl : Int32) (tc : Int32) (tr : Int32) (tu : Int32) (tv : Int32) (tw : Int32) (sd : Int64) (da : Nat) (db : Nat) (pr : Int32) (cn : Nat) (fk : Nat → Int32) (fv : Nat → Int32) (nb : Nat) (ka : Nat) (kb : Nat) (sm : Int32) (ln : Nat) (fh : Nat → Int32) (ff : Nat → Int32) (fa : Nat → Int32) (fs : Nat → Int32) (fj : Nat → Int32) (fr : Nat → Int32) (fo : Nat → Int32) (fx : Nat → Int32) (tb2 : Int32) (ts2 : Int32) (tg2 : Int32) (tl2 : Int32) (tc2 : Int32) (tr2 : Int32) (tu2 : Int32) (tv2 : Int32) (tw2 : Int32) (sd2 : Int64) (da2 : Nat) (db2 : Nat) (pr2 : Int32) (cn2 : Nat) (fk2 : Nat → Int32) (fv2 : Nat → Int32) (nb2 : Nat) (ka2 : Nat) (kb2 : Nat) (sm2 : Int32) (ln2 : Nat) (fh2 : Nat → Int32) (ff2 : Nat → Int32) (fa2 : Nat → Int32) (fs2 : Nat → Int32) (fj2 : Nat → Int32) (fr2 : Nat → Int32) (fo2 : Nat → Int32) (fx2 : Nat → Int32) (k1 : Nat) (k2 : Nat) (z3 : Int32) (L : List (Nat × Int32)) (L2 : List (Nat × Int32)) (hk1 : k1 < 4) (hft1 : ft k1 = some (ob 0)) (hk2 : k2 < 4) (hft2 : ft k2 = some (ob2 0)) (hTb : TbI fk fj fh fo cn nb ka kb ln da db) (hTb2 : TbI fk2 fj2 fh2 fo2 cn2 nb2 ka2 kb2 ln2 da2 db2) (hKv : KvT fk fv cn L) (hKv2 : KvT fk2 fv2 cn2 L2) : Met l yX10_shared wp_d_shared ({ frames := 3, cells := 0, slots := 0, locals := 85 }) (PcRC D [.ref (ox 0), .int (nI k1), .int (nI k2), .int z3] sz [(ox 0, .inr (10, [.ref (ox 1), .ref (ox 2), .int (nI tp), .ref (ob3 0), .ref (og 0), .ref (oq 0), .ref (ow 0)])), (ox 1, .inl (cT, 4, .inr (.inr (.inr (.inr ft))))), (ob 0, .inr (9, gT ob tb ts tg tl tc tr tu tv tw)), (ob 1, .inr (0, [.long sd, .int (nI da), .int (nI db), .int pr])), (ob 2, .inr (2, [.int (nI cn), .ref (ob 3), .ref (ob 4)])), (ob 3, .inl (cI, 160, .inl fk)), (ob 4, .inl (cI, 160, .inl fv)), (ob 5, .inr (3, gY ob (nI nb) (nI ka) (nI kb) sm (nI ln))), (ob 6, .inl (cI, 2048, .inl fh)), (ob 7, .inl (cI, 2048, .inl ff)), (ob 8, .inl (cI, 2048, .inl fa)), (ob 9, .inl (cI, 2048, .inl fs)), (ob 10, .inl (cI, 160, .inl fj)), (ob 11, .inl (cI, 160, .inl fr)), (ob 12, .inl (cI, 160, .inl fo)), (ob 13, .inl (cI, 2048, .inl fx)), (ob2 0, .inr (9, gT ob2 tb2 ts2 tg2 tl2 tc2 tr2 tu2 tv2 tw2)), (ob2 1, .inr (0, [.long sd2, .int (nI da2), .int (nI db2), .int pr2])), (ob2 2, .inr (2, [.int (nI cn2), .ref (ob2 3), .ref (ob2 4)])), (ob2 3, .inl (cI, 160, .inl fk2)), (ob2 4, .inl (cI, 160, .inl fv2)), (ob2 5, .inr (3, gY ob2 (nI nb2) (nI ka2) (nI kb2) sm2 (nI ln2))), (ob2 6, .inl (cI, 2048, .inl fh2)), (ob2 7, .inl (cI, 2048, .inl ff2)), (ob2 8, .inl (cI, 2048, .inl fa2)), (ob2 9, .inl (cI, 2048, .inl fs2)), (ob2 10, .inl (cI, 160, .inl fj2)), (ob2 11, .inl (cI, 160, .inl fr2)), (ob2 12, .inl (cI, 160, .inl fo2)), (ob2 13, .inl (cI, 2048, .inl fx2))] [(cI, .int), (cT, .object RX9)]) (va_Qi (fun (r : Int32) (u : Unit) => r = shO L L2 z3) (fun (_ : Unit) _ => True) (va_A [] sz)) 0 0 (va_A [] sz) := by
  refine Met.ofW (cc := cX10_shared) (maxL := 7) (ret := (some .int)) (by decide) rfl ?_
  intro p e s m args below meth c s₁ B hml hv
  obtain ⟨rfl, hsz, hP, hK, hN⟩ := hv
  have hx := B.exec
  have hb := B.bytes
  have hr := B.returns
  have hts := atoms_spec (ws := wp_d_shared) B.pre
  have hin_X9 : ∀ w ∈ wsX90, w ∈ wp_d_shared := fun _ h => (List.mem_cons_of_mem _ (List.mem_append_right _ (List.mem_append_right _ (List.mem_append_right _ (List.mem_append_left _ h)))))
  have hin_X2 : ∀ w ∈ wsX20, w ∈ wp_d_shared := fun _ h => (List.mem_cons_of_mem _ (List.mem_append_right _ (List.mem_append_right _ (List.mem_append_right _ (List.mem_append_right _ (List.mem_append_left _ h))))))
  have hown : s.vm.findClass RX10 = some m.cls := findClass_of_methodNamed B.named
  have hlocks := B.notSynchronized
  subst hsz
  generalize hAe : va_A [] s.heap.size = A at ⊢
  have hA : ∀ q : Nat, s.heap.size ≤ q → A q := fun q h => by rw [← hAe]; exact Or.inr h
  have hS : va_S A s.heap s.heap [] := va_S.rf
  have hP : va_P D vwCl [(ox 0, .inr (10, [.ref (ox 1), .ref (ox 2), .int (nI tp), .ref (ob3 0), .ref (og 0), .ref (oq 0), .ref (ow 0)])), (ox 1, .inl (cT, 4, .inr (.inr (.inr (.inr ft))))), (ob 0, .inr (9, gT ob tb ts tg tl tc tr tu tv tw)), (ob 1, .inr (0, [.long sd, .int (nI da), .int (nI db), .int pr])), (ob 2, .inr (2, [.int (nI cn), .ref (ob 3), .ref (ob 4)])), (ob 3, .inl (cI, 160, .inl fk)), (ob 4, .inl (cI, 160, .inl fv)), (ob 5, .inr (3, gY ob (nI nb) (nI ka) (nI kb) sm (nI ln))), (ob 6, .inl (cI, 2048, .inl fh)), (ob 7, .inl (cI, 2048, .inl ff)), (ob 8, .inl (cI, 2048, .inl fa)), (ob 9, .inl (cI, 2048, .inl fs)), (ob 10, .inl (cI, 160, .inl fj)), (ob 11, .inl (cI, 160, .inl fr)), (ob 12, .inl (cI, 160, .inl fo)), (ob 13, .inl (cI, 2048, .inl fx)), (ob2 0, .inr (9, gT ob2 tb2 ts2 tg2 tl2 tc2 tr2 tu2 tv2 tw2)), (ob2 1, .inr (0, [.long sd2, .int (nI da2), .int (nI db2), .int pr2])), (ob2 2, .inr (2, [.int (nI cn2), .ref (ob2 3), .ref (ob2 4)])), (ob2 3, .inl (cI, 160, .inl fk2)), (ob2 4, .inl (cI, 160, .inl fv2)), (ob2 5, .inr (3, gY ob2 (nI nb2) (nI ka2) (nI kb2) sm2 (nI ln2))), (ob2 6, .inl (cI, 2048, .inl fh2)), (ob2 7, .inl (cI, 2048, .inl ff2)), (ob2 8, .inl (cI, 2048, .inl fa2)), (ob2 9, .inl (cI, 2048, .inl fs2)), (ob2 10, .inl (cI, 160, .inl fj2)), (ob2 11, .inl (cI, 160, .inl fr2)), (ob2 12, .inl (cI, 160, .inl fo2)), (ob2 13, .inl (cI, 2048, .inl fx2))] s.heap := hP
  have hl := lv_entry ([.ref (ox 0), .int (nI k1), .int (nI k2), .int z3]) (n := 7) (Nat.le_of_ble_eq_true rfl)
  rw [lg_entry_eq]
  generalize (lg_sl ([.ref (ox 0), .int (nI k1), .int (nI k2), .int z3]) ++ List.replicate (7 - (lg_sl ([.ref (ox 0), .int (nI k1), .int (nI k2), .int z3])).length) Slot.unset).toArray = ls at hl ⊢
  have hl : lv_has ls 7 [(0, .ref (ox 0)), (1, .int (nI k1)), (2, .int (nI k2)), (3, .int z3)] := hl
  obtain ⟨hky, hL, hO, hn1, hka, hkb, hda, hdb⟩ := id hTb
  have hnb := hL.1
  have hln := hL.2.1
  have hc := hky.1
  have hcz := hky.1
  obtain ⟨hky2, hL2, hO2, hn12, hka2, hkb2, hda2, hdb2⟩ := id hTb2
  have hcz2 := hky2.1
  obtain ⟨-, K, hK1, hK2, rfl⟩ := id hKv
  have hKT : KyT fk cn K := ⟨hcz, hK1, hK2⟩
  have hLn2 := hKv2.len
  refine lv_aload_n hx hb dX10_shared_0 rfl (lv_at hl 0 rfl) ?_
  refine lv_iload_n hx hb dX10_shared_1 rfl (lv_at hl 1 rfl) ?_
  have hPc := hP.sub (ws' := [(ox 0, .inr (10, [.ref (ox 1), .ref (ox 2), .int (nI tp), .ref (ob3 0), .ref (og 0), .ref (oq 0), .ref (ow 0)])), (ox 1, .inl (cT, 4, .inr (.inr (.inr (.inr ft)))))]) [0, 1] rfl
  have hKc := hK.sub (tys' := [(cT, .object RX9)]) [1] rfl
  have hFc := va_free0 hS hA
  refine va_callq (va_runV (As := [.int (nI k1)]) (rest := []) ⟨hx, hb, hml, hown, hts⟩ (k_tabS l D _ ox ob3 og oq ow cI cT tp ft k1 (ob 0) hk1 hft1) (cwV 1 hts g_d_shared_k_tabS_74 rfl rfl rfl (by decide +kernel) ⟨(Nat.le_of_ble_eq_true rfl), (Nat.le_of_ble_eq_true rfl)⟩) (PcRC_V (q0 := 0) hPc hKc hN rfl rfl) rfl rfl hl.1 rfl (lv_room (Nat.le_of_ble_eq_true rfl)) dX10_shared_2 ⟨(Nat.le_of_ble_eq_true rfl), (Nat.le_of_ble_eq_true rfl)⟩) hS (fun q _ h => hFc q h) hFc (fun r1 uu tt H locs htt hvm hw hB hz1 hk1 hS => ?_)
  have hP := va_keep hP hk1
  try dsimp only at hw
  clear hB hz1 hk1 hFc hPc hKc
  obtain rfl : r1 = some (ob 0) := hw
  refine W.eq (g2 := F0 m 5 ls [.ref (ob 0)]) rfl ?_
  refine lv_astore (lv' := [(4, .ref (ob 0)), (0, .ref (ox 0)), (1, .int (nI k1)), (2, .int (nI k2)), (3, .int z3)]) hx hb dX10_shared_5 hl (by decide) rfl (fun ls hl => ?_)
  refine lv_aload_n hx hb dX10_shared_7 rfl (lv_at hl 1 rfl) ?_
  refine lv_iload_n hx hb dX10_shared_8 rfl (lv_at hl 3 rfl) ?_
  have hPc := hP.sub (ws' := [(ox 0, .inr (10, [.ref (ox 1), .ref (ox 2), .int (nI tp), .ref (ob3 0), .ref (og 0), .ref (oq 0), .ref (ow 0)])), (ox 1, .inl (cT, 4, .inr (.inr (.inr (.inr ft)))))]) [0, 1] rfl
  have hKc := hK.sub (tys' := [(cT, .object RX9)]) [1] rfl
  have hFc := va_free0 hS hA
  refine va_callq (va_runV (As := [.int (nI k2)]) (rest := []) ⟨hx, hb, hml, hown, hts⟩ (k_tabS l D _ ox ob3 og oq ow cI cT tp ft k2 (ob2 0) hk2 hft2) (cwV 1 hts g_d_shared_k_tabS_74 rfl rfl rfl (by decide +kernel) ⟨(Nat.le_of_ble_eq_true rfl), (Nat.le_of_ble_eq_true rfl)⟩) (PcRC_V (q0 := 0) hPc hKc hN rfl rfl) rfl rfl hl.1 rfl (lv_room (Nat.le_of_ble_eq_true rfl)) dX10_shared_9 ⟨(Nat.le_of_ble_eq_true rfl), (Nat.le_of_ble_eq_true rfl)⟩) hS (fun q _ h => hFc q h) hFc (fun r2 uu tt H locs htt hvm hw hB hz1 hk1 hS => ?_)
  have hP := va_keep hP hk1
  try dsimp only at hw
  clear hB hz1 hk1 hFc hPc hKc
  obtain rfl : r2 = some (ob2 0) := hw
  refine W.eq (g2 := F0 m 12 ls [.ref (ob2 0)]) rfl ?_
  refine lv_astore (lv' := [(5, .ref (ob2 0)), (4, .ref (ob 0)), (0, .ref (ox 0)), (1, .int (nI k1)), (2, .int (nI k2)), (3, .int z3)]) hx hb dX10_shared_12 hl (by decide) rfl (fun ls hl => ?_)
  refine lv_aload hx hb dX10_shared_14 (lv_at hl 1 rfl) ?_
  refine lv_ifnull hx hb dX10_shared_16 ?_
  refine lv_aload hx hb dX10_shared_19 (lv_at hl 0 rfl) ?_
  refine lv_ifnonnull (tgt := 26) hx hb dX10_shared_21 (by decide) ?_
  refine lv_aload hx hb dX10_shared_26 (lv_at hl 1 rfl) ?_
  refine va_get (D := D) (ci := 9) (v := .ref (ob 2)) (C := RX9) (T := TX9) (N := 12) hx hb hts hin_X9 hown hK hP 2 rfl rfl 10 (by decide) (hts (.fieldLink RX10 93 "ClashFree$Table" "keys" "LClashFree$Keys;") (List.mem_of_getElem? (i := 5) rfl)) (fun _ h9 => h9) rfl dX10_shared_28 ?_
  refine lv_aload hx hb dX10_shared_31 (lv_at hl 0 rfl) ?_
  refine va_get (D := D) (ci := 9) (v := .ref (ob2 2)) (C := RX9) (T := TX9) (N := 12) hx hb hts hin_X9 hown hK hP 16 rfl rfl 10 (by decide) (hts (.fieldLink RX10 93 "ClashFree$Table" "keys" "LClashFree$Keys;") (List.mem_of_getElem? (i := 5) rfl)) (fun _ h9 => h9) rfl dX10_shared_33 ?_
  refine lv_iconst (v := 0) hx hb dX10_shared_36 (by decide) ?_
  have hPc := hP.sub (ws' := [(ob 2, .inr (2, [.int (nI cn), .ref (ob 3), .ref (ob 4)])), (ob 3, .inl (cI, 160, .inl fk)), (ob 4, .inl (cI, 160, .inl fv)), (ob2 2, .inr (2, [.int (nI cn2), .ref (ob2 3), .ref (ob2 4)])), (ob2 3, .inl (cI, 160, .inl fk2)), (ob2 4, .inl (cI, 160, .inl fv2))]) [4, 5, 6, 18, 19, 20] rfl
  have hKc := hK.sub (tys' := [(cI, .int)]) [0] rfl
  have hFc := va_free0 hS hA
  refine va_calli (va_runV (As := [.ref (ob2 2), .int 0]) (rest := []) ⟨hx, hb, hml, hown, hts⟩ (k_shared l D _ ob ob2 cI cn fk fv cn2 fk2 fv2 0 K L2 hcz hcz2 hKT hKv2) (cwV 2 hts g_d_shared_k_shared_265 rfl rfl rfl (by decide +kernel) ⟨(Nat.le_of_ble_eq_true rfl), (Nat.le_of_ble_eq_true rfl)⟩) (PcRC_V (q0 := 0) hPc hKc hN rfl rfl) rfl rfl hl.1 rfl (lv_room (Nat.le_of_ble_eq_true rfl)) dX10_shared_37 ⟨(Nat.le_of_ble_eq_true rfl), (Nat.le_of_ble_eq_true rfl)⟩) hS (fun q _ h => hFc q h) hFc (fun r3 uu tt H locs htt hvm hw hB hz1 hk1 hS => ?_)
  have hP := va_keep hP hk1
  try dsimp only at hw
  clear hB hz1 hk1 hFc hPc hKc
  have hsw4 := hw
  refine lv_istore (lv' := [(6, .int r3), (5, .ref (ob2 0)), (4, .ref (ob 0)), (0, .ref (ox 0)), (1, .int (nI k1)), (2, .int (nI k2)), (3, .int z3)]) hx hb dX10_shared_40 hl (by decide) rfl (fun ls hl => ?_)
  refine lv_iload_n hx hb dX10_shared_42 rfl (lv_at hl 6 rfl) ?_
  by_cases hs5 : z3 = 0
  ·
    subst hs5
    refine lv_tableIn (off := 29) (tgt := 72) hx hb dX10_shared_43 (by decide) (by decide) (by decide +kernel) (by decide) ?_
    refine lv_iload hx hb dX10_shared_72 (lv_at hl 0 rfl) ?_
    exact W.iret (v := r3) hx hb hr (fun t ht hW => ⟨⟨r3, (), rfl, (hsw4.1 rfl).trans ((shR_0 rfl rfl).symm.trans (shO_1 (show tn4 0 from ⟨by decide, by decide⟩)).symm), trivial⟩, hS.F ht⟩) hS.2.2 dX10_shared_74
  by_cases hs6 : z3 = 1
  ·
    subst hs6
    refine lv_tableIn (off := 32) (tgt := 75) hx hb dX10_shared_43 (by decide) (by decide) (by decide +kernel) (by decide) ?_
    refine lv_aload hx hb dX10_shared_75 (lv_at hl 2 rfl) ?_
    refine va_get (D := D) (ci := 9) (v := .ref (ob 2)) (C := RX9) (T := TX9) (N := 12) hx hb hts hin_X9 hown hK hP 2 rfl rfl 10 (by decide) (hts (.fieldLink RX10 93 "ClashFree$Table" "keys" "LClashFree$Keys;") (List.mem_of_getElem? (i := 5) rfl)) (fun _ h9 => h9) rfl dX10_shared_77 ?_
    refine va_get (D := D) (ci := 2) (v := .int (nI cn)) (C := RX2) (T := TX2) (N := 3) hx hb hts hin_X2 hown hK hP 4 rfl rfl 0 (by decide) (hts (.fieldLink RX10 121 "ClashFree$Keys" "size" "I") (List.mem_of_getElem? (i := 10) rfl)) (fun _ h9 => h9) rfl dX10_shared_80 ?_
    refine lv_aload hx hb dX10_shared_83 (lv_at hl 1 rfl) ?_
    refine va_get (D := D) (ci := 9) (v := .ref (ob2 2)) (C := RX9) (T := TX9) (N := 12) hx hb hts hin_X9 hown hK hP 16 rfl rfl 10 (by decide) (hts (.fieldLink RX10 93 "ClashFree$Table" "keys" "LClashFree$Keys;") (List.mem_of_getElem? (i := 5) rfl)) (fun _ h9 => h9) rfl dX10_shared_85 ?_
    refine va_get (D := D) (ci := 2) (v := .int (nI cn2)) (C := RX2) (T := TX2) (N := 3) hx hb hts hin_X2 hown hK hP 18 rfl rfl 0 (by decide) (hts (.fieldLink RX10 121 "ClashFree$Keys" "size" "I") (List.mem_of_getElem? (i := 10) rfl)) (fun _ h9 => h9) rfl dX10_shared_88 ?_
    refine lv_iadd hx hb dX10_shared_91 ?_
    refine lv_iload hx hb dX10_shared_92 (lv_at hl 0 rfl) ?_
    refine lv_isub hx hb dX10_shared_94 ?_
    exact W.iret (v := ((nI cn) + (nI cn2)) - r3) hx hb hr (fun t ht hW => ⟨⟨((nI cn) + (nI cn2)) - r3, (), rfl, by rw [shO_1 (show tn4 1 from ⟨by decide, by decide⟩), shR_1 rfl (by decide) rfl, hsw4.1 rfl, tabl_len, hLn2], trivial⟩, hS.F ht⟩) hS.2.2 dX10_shared_95
  by_cases hs7 : z3 = 2
  ·
    subst hs7
    refine lv_tableIn (off := 53) (tgt := 96) hx hb dX10_shared_43 (by decide) (by decide) (by decide +kernel) (by decide) ?_
    refine lv_aload hx hb dX10_shared_96 (lv_at hl 2 rfl) ?_
    refine va_get (D := D) (ci := 9) (v := .ref (ob 2)) (C := RX9) (T := TX9) (N := 12) hx hb hts hin_X9 hown hK hP 2 rfl rfl 10 (by decide) (hts (.fieldLink RX10 93 "ClashFree$Table" "keys" "LClashFree$Keys;") (List.mem_of_getElem? (i := 5) rfl)) (fun _ h9 => h9) rfl dX10_shared_98 ?_
    refine va_get (D := D) (ci := 2) (v := .int (nI cn)) (C := RX2) (T := TX2) (N := 3) hx hb hts hin_X2 hown hK hP 4 rfl rfl 0 (by decide) (hts (.fieldLink RX10 121 "ClashFree$Keys" "size" "I") (List.mem_of_getElem? (i := 10) rfl)) (fun _ h9 => h9) rfl dX10_shared_101 ?_
    refine lv_iload hx hb dX10_shared_104 (lv_at hl 0 rfl) ?_
    refine lv_isub hx hb dX10_shared_106 ?_
    exact W.iret (v := (nI cn) - r3) hx hb hr (fun t ht hW => ⟨⟨(nI cn) - r3, (), rfl, by rw [shO_1 (show tn4 2 from ⟨by decide, by decide⟩), shR_2 rfl (by decide) (by decide) rfl, hsw4.1 rfl, tabl_len], trivial⟩, hS.F ht⟩) hS.2.2 dX10_shared_107
  by_cases hs8 : z3 = 3
  ·
    subst hs8
    refine lv_tableIn (off := 65) (tgt := 108) hx hb dX10_shared_43 (by decide) (by decide) (by decide +kernel) (by decide) ?_
    refine lv_aload hx hb dX10_shared_108 (lv_at hl 2 rfl) ?_
    refine va_get (D := D) (ci := 9) (v := .ref (ob 2)) (C := RX9) (T := TX9) (N := 12) hx hb hts hin_X9 hown hK hP 2 rfl rfl 10 (by decide) (hts (.fieldLink RX10 93 "ClashFree$Table" "keys" "LClashFree$Keys;") (List.mem_of_getElem? (i := 5) rfl)) (fun _ h9 => h9) rfl dX10_shared_110 ?_
    refine lv_aload hx hb dX10_shared_113 (lv_at hl 1 rfl) ?_
    refine va_get (D := D) (ci := 9) (v := .ref (ob2 2)) (C := RX9) (T := TX9) (N := 12) hx hb hts hin_X9 hown hK hP 16 rfl rfl 10 (by decide) (hts (.fieldLink RX10 93 "ClashFree$Table" "keys" "LClashFree$Keys;") (List.mem_of_getElem? (i := 5) rfl)) (fun _ h9 => h9) rfl dX10_shared_115 ?_
    refine lv_iconst (v := 1) hx hb dX10_shared_118 (by decide) ?_
    have hPc := hP.sub (ws' := [(ob 2, .inr (2, [.int (nI cn), .ref (ob 3), .ref (ob 4)])), (ob 3, .inl (cI, 160, .inl fk)), (ob 4, .inl (cI, 160, .inl fv)), (ob2 2, .inr (2, [.int (nI cn2), .ref (ob2 3), .ref (ob2 4)])), (ob2 3, .inl (cI, 160, .inl fk2)), (ob2 4, .inl (cI, 160, .inl fv2))]) [4, 5, 6, 18, 19, 20] rfl
    have hKc := hK.sub (tys' := [(cI, .int)]) [0] rfl
    have hFc := va_free0 hS hA
    refine va_calli (va_runV (As := [.ref (ob2 2), .int 1]) (rest := []) ⟨hx, hb, hml, hown, hts⟩ (k_shared l D _ ob ob2 cI cn fk fv cn2 fk2 fv2 1 K L2 hcz hcz2 hKT hKv2) (cwV 2 hts g_d_shared_k_shared_265 rfl rfl rfl (by decide +kernel) ⟨(Nat.le_of_ble_eq_true rfl), (Nat.le_of_ble_eq_true rfl)⟩) (PcRC_V (q0 := 0) hPc hKc hN rfl rfl) rfl rfl hl.1 rfl (lv_room (Nat.le_of_ble_eq_true rfl)) dX10_shared_119 ⟨(Nat.le_of_ble_eq_true rfl), (Nat.le_of_ble_eq_true rfl)⟩) hS (fun q _ h => hFc q h) hFc (fun r9 uu tt H locs htt hvm hw hB hz1 hk1 hS => ?_)
    have hP := va_keep hP hk1
    try dsimp only at hw
    clear hB hz1 hk1 hFc hPc hKc
    have hsw10 := hw
    exact W.iret (v := r9) hx hb hr (fun t ht hW => ⟨⟨r9, (), rfl, (hsw10.2 (by decide)).trans ((shR_3 rfl (by decide) (by decide) (by decide)).symm.trans (shO_1 (show tn4 3 from ⟨by decide, by decide⟩)).symm), trivial⟩, hS.F ht⟩) hS.2.2 dX10_shared_122
  refine lv_tableOut (tgt := 123) hx hb dX10_shared_43 (by have a0 := sw_ne (n := 0) hs5 (by decide) (by decide); have a1 := sw_ne (n := 1) hs6 (by decide) (by decide); have a2 := sw_ne (n := 2) hs7 (by decide) (by decide); have a3 := sw_ne (n := 3) hs8 (by decide) (by decide); omega) (by decide) ?_
  refine lv_iconst (v := (-1)) hx hb dX10_shared_123 (by decide) ?_
  exact W.iret (v := (-1)) hx hb hr (fun t ht hW => ⟨⟨(-1), (), rfl, (shO_0 (fun q => by
      have a0 := sw_ne (n := 0) hs5 (by decide) (by decide)
      have a1 := sw_ne (n := 1) hs6 (by decide) (by decide)
      have a2 := sw_ne (n := 2) hs7 (by decide) (by decide)
      have a3 := sw_ne (n := 3) hs8 (by decide) (by decide)
      have q1 := Int32.le_iff_toInt_le.mp q.1
      have q2 := Int32.lt_iff_toInt_lt.mp q.2
      have e0 : (0 : Int32).toInt = 0 := by decide
      have e2 : (4 : Int32).toInt = 4 := by decide
      omega)).symm, trivial⟩, hS.F ht⟩) hS.2.2 dX10_shared_124

def own_e_shared : List Cond := [.methodLink RX10 74 yX10_tableAt, .instanceMethod yX10_tableAt, .selects RX10 yX10_tableAt yX10_tableAt, .initialized RX10, .fieldLink RX10 93 "ClashFree$Table" "keys" "LClashFree$Keys;", .methodLink RX10 265 yX2_sharedWith, .instanceMethod yX2_sharedWith, .selects RX2 yX2_sharedWith yX2_sharedWith, .initialized RX2, .fieldLink RX10 121 "ClashFree$Keys" "size" "I"]
def wp_e_shared : List Cond := .code yX10_shared cX10_shared 7 (some .int) :: (own_e_shared ++ (wp_k_tabS ++ (wp_k_shared ++ (wsX90 ++ (wsX20 ++ ([] : List Cond))))))
set_option maxRecDepth 20000 in
theorem inown_e_shared : ∀ w ∈ own_e_shared, w ∈ lw_tbl := mem_places [610, 612, 2, 106, 518, 882, 883, 884, 117, 476] (by decide +kernel)
set_option maxRecDepth 20000 in
theorem in_e_shared : ∀ w ∈ wp_e_shared, w ∈ lw_tbl := List.forall_mem_cons.mpr ⟨List.mem_of_getElem? (i := 881) (by decide +kernel), List.forall_mem_append.mpr ⟨inown_e_shared, List.forall_mem_append.mpr ⟨in_k_tabS, List.forall_mem_append.mpr ⟨in_k_shared, List.forall_mem_append.mpr ⟨lwb_X9, List.forall_mem_append.mpr ⟨lwb_X2, fun _ h => absurd h List.not_mem_nil⟩⟩⟩⟩⟩⟩
set_option maxRecDepth 20000 in
theorem good_e_shared : wp_e_shared.all goodWord = true := by decide +kernel
set_option maxRecDepth 20000 in
theorem g_e_shared_k_tabS_74 : GoodIn wp_e_shared (wsV RX10 74 RX10 yX10_tableAt wp_k_tabS) := goodIn_sub (List.forall_mem_append.mpr ⟨List.forall_mem_cons.mpr ⟨(List.mem_of_getElem? (i := 1) rfl), List.forall_mem_cons.mpr ⟨(List.mem_of_getElem? (i := 2) rfl), List.forall_mem_cons.mpr ⟨(List.mem_of_getElem? (i := 3) rfl), List.forall_mem_cons.mpr ⟨(List.mem_of_getElem? (i := 4) rfl), fun _ h => absurd h List.not_mem_nil⟩⟩⟩⟩, (fun _ h => (List.mem_cons_of_mem _ (List.mem_append_right _ (List.mem_append_left _ h))))⟩) (by decide +kernel)
set_option maxRecDepth 20000 in
theorem g_e_shared_k_shared_265 : GoodIn wp_e_shared (wsV RX10 265 RX2 yX2_sharedWith wp_k_shared) := goodIn_sub (List.forall_mem_append.mpr ⟨List.forall_mem_cons.mpr ⟨(List.mem_of_getElem? (i := 6) rfl), List.forall_mem_cons.mpr ⟨(List.mem_of_getElem? (i := 7) rfl), List.forall_mem_cons.mpr ⟨(List.mem_of_getElem? (i := 8) rfl), List.forall_mem_cons.mpr ⟨(List.mem_of_getElem? (i := 9) rfl), fun _ h => absurd h List.not_mem_nil⟩⟩⟩⟩, (fun _ h => (List.mem_cons_of_mem _ (List.mem_append_right _ (List.mem_append_right _ (List.mem_append_left _ h)))))⟩) (by decide +kernel)
set_option maxHeartbeats 4000000 in
set_option maxRecDepth 100000 in
theorem e_shared (l : Launch) (D : va_G) (sz : Nat) (ox : Nat → Nat) (ob3 : Nat → Nat) (og : Nat → Nat) (oq : Nat → Nat) (ow : Nat → Nat) (ob : Nat → Nat) (cI : ClassId) (cT : ClassId) (tp : Nat) (ft : Nat → Option Nat) (tb : Int32) (ts : Int32) (tg : Int32) (tl : Int32) (tc : Int32) (tr : Int32) (tu : Int32) (tv : Int32) (tw : Int32) (sd : Int64) (da : Nat) (db : Nat) (pr : Int32) (cn : Nat) (fk : Nat → Int32) (fv : Nat → Int32) (nb : Nat) (ka : Nat) (kb : Nat) (sm : Int32) (ln : Nat) (fh : Nat → Int32) (ff : Nat → Int32) (fa : Nat → Int32) (fs : Nat → Int32) (fj : Nat → Int32) (fr : Nat → Int32) (fo : Nat → Int32) (fx : Nat → Int32) (k : Nat) (z3 : Int32) (L : List (Nat × Int32)) (hk : k < 4) (hft : ft k = some (ob 0)) (hTb : TbI fk fj fh fo cn nb ka kb ln da db) (hKv : KvT fk fv cn L) : Met l yX10_shared wp_e_shared ({ frames := 3, cells := 0, slots := 0, locals := 85 }) (PcRC D [.ref (ox 0), .int (nI k), .int (nI k), .int z3] sz [(ox 0, .inr (10, [.ref (ox 1), .ref (ox 2), .int (nI tp), .ref (ob3 0), .ref (og 0), .ref (oq 0), .ref (ow 0)])), (ox 1, .inl (cT, 4, .inr (.inr (.inr (.inr ft))))), (ob 0, .inr (9, gT ob tb ts tg tl tc tr tu tv tw)), (ob 1, .inr (0, [.long sd, .int (nI da), .int (nI db), .int pr])), (ob 2, .inr (2, [.int (nI cn), .ref (ob 3), .ref (ob 4)])), (ob 3, .inl (cI, 160, .inl fk)), (ob 4, .inl (cI, 160, .inl fv)), (ob 5, .inr (3, gY ob (nI nb) (nI ka) (nI kb) sm (nI ln))), (ob 6, .inl (cI, 2048, .inl fh)), (ob 7, .inl (cI, 2048, .inl ff)), (ob 8, .inl (cI, 2048, .inl fa)), (ob 9, .inl (cI, 2048, .inl fs)), (ob 10, .inl (cI, 160, .inl fj)), (ob 11, .inl (cI, 160, .inl fr)), (ob 12, .inl (cI, 160, .inl fo)), (ob 13, .inl (cI, 2048, .inl fx))] [(cI, .int), (cT, .object RX9)]) (va_Qi (fun (r : Int32) (u : Unit) => r = shO L L z3) (fun (_ : Unit) _ => True) (va_A [] sz)) 0 0 (va_A [] sz) := by
  refine Met.ofW (cc := cX10_shared) (maxL := 7) (ret := (some .int)) (by decide) rfl ?_
  intro p e s m args below meth c s₁ B hml hv
  obtain ⟨rfl, hsz, hP, hK, hN⟩ := hv
  have hx := B.exec
  have hb := B.bytes
  have hr := B.returns
  have hts := atoms_spec (ws := wp_e_shared) B.pre
  have hin_X9 : ∀ w ∈ wsX90, w ∈ wp_e_shared := fun _ h => (List.mem_cons_of_mem _ (List.mem_append_right _ (List.mem_append_right _ (List.mem_append_right _ (List.mem_append_left _ h)))))
  have hin_X2 : ∀ w ∈ wsX20, w ∈ wp_e_shared := fun _ h => (List.mem_cons_of_mem _ (List.mem_append_right _ (List.mem_append_right _ (List.mem_append_right _ (List.mem_append_right _ (List.mem_append_left _ h))))))
  have hown : s.vm.findClass RX10 = some m.cls := findClass_of_methodNamed B.named
  have hlocks := B.notSynchronized
  subst hsz
  generalize hAe : va_A [] s.heap.size = A at ⊢
  have hA : ∀ q : Nat, s.heap.size ≤ q → A q := fun q h => by rw [← hAe]; exact Or.inr h
  have hS : va_S A s.heap s.heap [] := va_S.rf
  have hP : va_P D vwCl [(ox 0, .inr (10, [.ref (ox 1), .ref (ox 2), .int (nI tp), .ref (ob3 0), .ref (og 0), .ref (oq 0), .ref (ow 0)])), (ox 1, .inl (cT, 4, .inr (.inr (.inr (.inr ft))))), (ob 0, .inr (9, gT ob tb ts tg tl tc tr tu tv tw)), (ob 1, .inr (0, [.long sd, .int (nI da), .int (nI db), .int pr])), (ob 2, .inr (2, [.int (nI cn), .ref (ob 3), .ref (ob 4)])), (ob 3, .inl (cI, 160, .inl fk)), (ob 4, .inl (cI, 160, .inl fv)), (ob 5, .inr (3, gY ob (nI nb) (nI ka) (nI kb) sm (nI ln))), (ob 6, .inl (cI, 2048, .inl fh)), (ob 7, .inl (cI, 2048, .inl ff)), (ob 8, .inl (cI, 2048, .inl fa)), (ob 9, .inl (cI, 2048, .inl fs)), (ob 10, .inl (cI, 160, .inl fj)), (ob 11, .inl (cI, 160, .inl fr)), (ob 12, .inl (cI, 160, .inl fo)), (ob 13, .inl (cI, 2048, .inl fx))] s.heap := hP
  have hl := lv_entry ([.ref (ox 0), .int (nI k), .int (nI k), .int z3]) (n := 7) (Nat.le_of_ble_eq_true rfl)
  rw [lg_entry_eq]
  generalize (lg_sl ([.ref (ox 0), .int (nI k), .int (nI k), .int z3]) ++ List.replicate (7 - (lg_sl ([.ref (ox 0), .int (nI k), .int (nI k), .int z3])).length) Slot.unset).toArray = ls at hl ⊢
  have hl : lv_has ls 7 [(0, .ref (ox 0)), (1, .int (nI k)), (2, .int (nI k)), (3, .int z3)] := hl
  obtain ⟨hky, hL, hO, hn1, hka, hkb, hda, hdb⟩ := id hTb
  have hnb := hL.1
  have hln := hL.2.1
  have hc := hky.1
  have hcz := hky.1
  obtain ⟨-, K, hK1, hK2, rfl⟩ := id hKv
  have hKT : KyT fk cn K := ⟨hcz, hK1, hK2⟩
  have hLn2 := hKv.len
  refine lv_aload_n hx hb dX10_shared_0 rfl (lv_at hl 0 rfl) ?_
  refine lv_iload_n hx hb dX10_shared_1 rfl (lv_at hl 1 rfl) ?_
  have hPc := hP.sub (ws' := [(ox 0, .inr (10, [.ref (ox 1), .ref (ox 2), .int (nI tp), .ref (ob3 0), .ref (og 0), .ref (oq 0), .ref (ow 0)])), (ox 1, .inl (cT, 4, .inr (.inr (.inr (.inr ft)))))]) [0, 1] rfl
  have hKc := hK.sub (tys' := [(cT, .object RX9)]) [1] rfl
  have hFc := va_free0 hS hA
  refine va_callq (va_runV (As := [.int (nI k)]) (rest := []) ⟨hx, hb, hml, hown, hts⟩ (k_tabS l D _ ox ob3 og oq ow cI cT tp ft k (ob 0) hk hft) (cwV 1 hts g_e_shared_k_tabS_74 rfl rfl rfl (by decide +kernel) ⟨(Nat.le_of_ble_eq_true rfl), (Nat.le_of_ble_eq_true rfl)⟩) (PcRC_V (q0 := 0) hPc hKc hN rfl rfl) rfl rfl hl.1 rfl (lv_room (Nat.le_of_ble_eq_true rfl)) dX10_shared_2 ⟨(Nat.le_of_ble_eq_true rfl), (Nat.le_of_ble_eq_true rfl)⟩) hS (fun q _ h => hFc q h) hFc (fun r1 uu tt H locs htt hvm hw hB hz1 hk1 hS => ?_)
  have hP := va_keep hP hk1
  try dsimp only at hw
  clear hB hz1 hk1 hFc hPc hKc
  obtain rfl : r1 = some (ob 0) := hw
  refine W.eq (g2 := F0 m 5 ls [.ref (ob 0)]) rfl ?_
  refine lv_astore (lv' := [(4, .ref (ob 0)), (0, .ref (ox 0)), (1, .int (nI k)), (2, .int (nI k)), (3, .int z3)]) hx hb dX10_shared_5 hl (by decide) rfl (fun ls hl => ?_)
  refine lv_aload_n hx hb dX10_shared_7 rfl (lv_at hl 1 rfl) ?_
  refine lv_iload_n hx hb dX10_shared_8 rfl (lv_at hl 3 rfl) ?_
  have hPc := hP.sub (ws' := [(ox 0, .inr (10, [.ref (ox 1), .ref (ox 2), .int (nI tp), .ref (ob3 0), .ref (og 0), .ref (oq 0), .ref (ow 0)])), (ox 1, .inl (cT, 4, .inr (.inr (.inr (.inr ft)))))]) [0, 1] rfl
  have hKc := hK.sub (tys' := [(cT, .object RX9)]) [1] rfl
  have hFc := va_free0 hS hA
  refine va_callq (va_runV (As := [.int (nI k)]) (rest := []) ⟨hx, hb, hml, hown, hts⟩ (k_tabS l D _ ox ob3 og oq ow cI cT tp ft k (ob 0) hk hft) (cwV 1 hts g_e_shared_k_tabS_74 rfl rfl rfl (by decide +kernel) ⟨(Nat.le_of_ble_eq_true rfl), (Nat.le_of_ble_eq_true rfl)⟩) (PcRC_V (q0 := 0) hPc hKc hN rfl rfl) rfl rfl hl.1 rfl (lv_room (Nat.le_of_ble_eq_true rfl)) dX10_shared_9 ⟨(Nat.le_of_ble_eq_true rfl), (Nat.le_of_ble_eq_true rfl)⟩) hS (fun q _ h => hFc q h) hFc (fun r2 uu tt H locs htt hvm hw hB hz1 hk1 hS => ?_)
  have hP := va_keep hP hk1
  try dsimp only at hw
  clear hB hz1 hk1 hFc hPc hKc
  obtain rfl : r2 = some (ob 0) := hw
  refine W.eq (g2 := F0 m 12 ls [.ref (ob 0)]) rfl ?_
  refine lv_astore (lv' := [(5, .ref (ob 0)), (4, .ref (ob 0)), (0, .ref (ox 0)), (1, .int (nI k)), (2, .int (nI k)), (3, .int z3)]) hx hb dX10_shared_12 hl (by decide) rfl (fun ls hl => ?_)
  refine lv_aload hx hb dX10_shared_14 (lv_at hl 1 rfl) ?_
  refine lv_ifnull hx hb dX10_shared_16 ?_
  refine lv_aload hx hb dX10_shared_19 (lv_at hl 0 rfl) ?_
  refine lv_ifnonnull (tgt := 26) hx hb dX10_shared_21 (by decide) ?_
  refine lv_aload hx hb dX10_shared_26 (lv_at hl 1 rfl) ?_
  refine va_get (D := D) (ci := 9) (v := .ref (ob 2)) (C := RX9) (T := TX9) (N := 12) hx hb hts hin_X9 hown hK hP 2 rfl rfl 10 (by decide) (hts (.fieldLink RX10 93 "ClashFree$Table" "keys" "LClashFree$Keys;") (List.mem_of_getElem? (i := 5) rfl)) (fun _ h9 => h9) rfl dX10_shared_28 ?_
  refine lv_aload hx hb dX10_shared_31 (lv_at hl 0 rfl) ?_
  refine va_get (D := D) (ci := 9) (v := .ref (ob 2)) (C := RX9) (T := TX9) (N := 12) hx hb hts hin_X9 hown hK hP 2 rfl rfl 10 (by decide) (hts (.fieldLink RX10 93 "ClashFree$Table" "keys" "LClashFree$Keys;") (List.mem_of_getElem? (i := 5) rfl)) (fun _ h9 => h9) rfl dX10_shared_33 ?_
  refine lv_iconst (v := 0) hx hb dX10_shared_36 (by decide) ?_
  have hPc := hP.sub (ws' := [(ob 2, .inr (2, [.int (nI cn), .ref (ob 3), .ref (ob 4)])), (ob 3, .inl (cI, 160, .inl fk)), (ob 4, .inl (cI, 160, .inl fv)), (ob 2, .inr (2, [.int (nI cn), .ref (ob 3), .ref (ob 4)])), (ob 3, .inl (cI, 160, .inl fk)), (ob 4, .inl (cI, 160, .inl fv))]) [4, 5, 6, 4, 5, 6] rfl
  have hKc := hK.sub (tys' := [(cI, .int)]) [0] rfl
  have hFc := va_free0 hS hA
  refine va_calli (va_runV (As := [.ref (ob 2), .int 0]) (rest := []) ⟨hx, hb, hml, hown, hts⟩ (k_shared l D _ ob ob cI cn fk fv cn fk fv 0 K (tabl cn K fv) hcz hcz hKT hKv) (cwV 2 hts g_e_shared_k_shared_265 rfl rfl rfl (by decide +kernel) ⟨(Nat.le_of_ble_eq_true rfl), (Nat.le_of_ble_eq_true rfl)⟩) (PcRC_V (q0 := 0) hPc hKc hN rfl rfl) rfl rfl hl.1 rfl (lv_room (Nat.le_of_ble_eq_true rfl)) dX10_shared_37 ⟨(Nat.le_of_ble_eq_true rfl), (Nat.le_of_ble_eq_true rfl)⟩) hS (fun q _ h => hFc q h) hFc (fun r3 uu tt H locs htt hvm hw hB hz1 hk1 hS => ?_)
  have hP := va_keep hP hk1
  try dsimp only at hw
  clear hB hz1 hk1 hFc hPc hKc
  have hsw4 := hw
  refine lv_istore (lv' := [(6, .int r3), (5, .ref (ob 0)), (4, .ref (ob 0)), (0, .ref (ox 0)), (1, .int (nI k)), (2, .int (nI k)), (3, .int z3)]) hx hb dX10_shared_40 hl (by decide) rfl (fun ls hl => ?_)
  refine lv_iload_n hx hb dX10_shared_42 rfl (lv_at hl 6 rfl) ?_
  by_cases hs5 : z3 = 0
  ·
    subst hs5
    refine lv_tableIn (off := 29) (tgt := 72) hx hb dX10_shared_43 (by decide) (by decide) (by decide +kernel) (by decide) ?_
    refine lv_iload hx hb dX10_shared_72 (lv_at hl 0 rfl) ?_
    exact W.iret (v := r3) hx hb hr (fun t ht hW => ⟨⟨r3, (), rfl, (hsw4.1 rfl).trans ((shR_0 rfl rfl).symm.trans (shO_1 (show tn4 0 from ⟨by decide, by decide⟩)).symm), trivial⟩, hS.F ht⟩) hS.2.2 dX10_shared_74
  by_cases hs6 : z3 = 1
  ·
    subst hs6
    refine lv_tableIn (off := 32) (tgt := 75) hx hb dX10_shared_43 (by decide) (by decide) (by decide +kernel) (by decide) ?_
    refine lv_aload hx hb dX10_shared_75 (lv_at hl 2 rfl) ?_
    refine va_get (D := D) (ci := 9) (v := .ref (ob 2)) (C := RX9) (T := TX9) (N := 12) hx hb hts hin_X9 hown hK hP 2 rfl rfl 10 (by decide) (hts (.fieldLink RX10 93 "ClashFree$Table" "keys" "LClashFree$Keys;") (List.mem_of_getElem? (i := 5) rfl)) (fun _ h9 => h9) rfl dX10_shared_77 ?_
    refine va_get (D := D) (ci := 2) (v := .int (nI cn)) (C := RX2) (T := TX2) (N := 3) hx hb hts hin_X2 hown hK hP 4 rfl rfl 0 (by decide) (hts (.fieldLink RX10 121 "ClashFree$Keys" "size" "I") (List.mem_of_getElem? (i := 10) rfl)) (fun _ h9 => h9) rfl dX10_shared_80 ?_
    refine lv_aload hx hb dX10_shared_83 (lv_at hl 1 rfl) ?_
    refine va_get (D := D) (ci := 9) (v := .ref (ob 2)) (C := RX9) (T := TX9) (N := 12) hx hb hts hin_X9 hown hK hP 2 rfl rfl 10 (by decide) (hts (.fieldLink RX10 93 "ClashFree$Table" "keys" "LClashFree$Keys;") (List.mem_of_getElem? (i := 5) rfl)) (fun _ h9 => h9) rfl dX10_shared_85 ?_
    refine va_get (D := D) (ci := 2) (v := .int (nI cn)) (C := RX2) (T := TX2) (N := 3) hx hb hts hin_X2 hown hK hP 4 rfl rfl 0 (by decide) (hts (.fieldLink RX10 121 "ClashFree$Keys" "size" "I") (List.mem_of_getElem? (i := 10) rfl)) (fun _ h9 => h9) rfl dX10_shared_88 ?_
    refine lv_iadd hx hb dX10_shared_91 ?_
    refine lv_iload hx hb dX10_shared_92 (lv_at hl 0 rfl) ?_
    refine lv_isub hx hb dX10_shared_94 ?_
    exact W.iret (v := ((nI cn) + (nI cn)) - r3) hx hb hr (fun t ht hW => ⟨⟨((nI cn) + (nI cn)) - r3, (), rfl, by rw [shO_1 (show tn4 1 from ⟨by decide, by decide⟩), shR_1 rfl (by decide) rfl, hsw4.1 rfl, tabl_len], trivial⟩, hS.F ht⟩) hS.2.2 dX10_shared_95
  by_cases hs7 : z3 = 2
  ·
    subst hs7
    refine lv_tableIn (off := 53) (tgt := 96) hx hb dX10_shared_43 (by decide) (by decide) (by decide +kernel) (by decide) ?_
    refine lv_aload hx hb dX10_shared_96 (lv_at hl 2 rfl) ?_
    refine va_get (D := D) (ci := 9) (v := .ref (ob 2)) (C := RX9) (T := TX9) (N := 12) hx hb hts hin_X9 hown hK hP 2 rfl rfl 10 (by decide) (hts (.fieldLink RX10 93 "ClashFree$Table" "keys" "LClashFree$Keys;") (List.mem_of_getElem? (i := 5) rfl)) (fun _ h9 => h9) rfl dX10_shared_98 ?_
    refine va_get (D := D) (ci := 2) (v := .int (nI cn)) (C := RX2) (T := TX2) (N := 3) hx hb hts hin_X2 hown hK hP 4 rfl rfl 0 (by decide) (hts (.fieldLink RX10 121 "ClashFree$Keys" "size" "I") (List.mem_of_getElem? (i := 10) rfl)) (fun _ h9 => h9) rfl dX10_shared_101 ?_
    refine lv_iload hx hb dX10_shared_104 (lv_at hl 0 rfl) ?_
    refine lv_isub hx hb dX10_shared_106 ?_
    exact W.iret (v := (nI cn) - r3) hx hb hr (fun t ht hW => ⟨⟨(nI cn) - r3, (), rfl, by rw [shO_1 (show tn4 2 from ⟨by decide, by decide⟩), shR_2 rfl (by decide) (by decide) rfl, hsw4.1 rfl, tabl_len], trivial⟩, hS.F ht⟩) hS.2.2 dX10_shared_107
  by_cases hs8 : z3 = 3
  ·
    subst hs8
    refine lv_tableIn (off := 65) (tgt := 108) hx hb dX10_shared_43 (by decide) (by decide) (by decide +kernel) (by decide) ?_
    refine lv_aload hx hb dX10_shared_108 (lv_at hl 2 rfl) ?_
    refine va_get (D := D) (ci := 9) (v := .ref (ob 2)) (C := RX9) (T := TX9) (N := 12) hx hb hts hin_X9 hown hK hP 2 rfl rfl 10 (by decide) (hts (.fieldLink RX10 93 "ClashFree$Table" "keys" "LClashFree$Keys;") (List.mem_of_getElem? (i := 5) rfl)) (fun _ h9 => h9) rfl dX10_shared_110 ?_
    refine lv_aload hx hb dX10_shared_113 (lv_at hl 1 rfl) ?_
    refine va_get (D := D) (ci := 9) (v := .ref (ob 2)) (C := RX9) (T := TX9) (N := 12) hx hb hts hin_X9 hown hK hP 2 rfl rfl 10 (by decide) (hts (.fieldLink RX10 93 "ClashFree$Table" "keys" "LClashFree$Keys;") (List.mem_of_getElem? (i := 5) rfl)) (fun _ h9 => h9) rfl dX10_shared_115 ?_
    refine lv_iconst (v := 1) hx hb dX10_shared_118 (by decide) ?_
    have hPc := hP.sub (ws' := [(ob 2, .inr (2, [.int (nI cn), .ref (ob 3), .ref (ob 4)])), (ob 3, .inl (cI, 160, .inl fk)), (ob 4, .inl (cI, 160, .inl fv)), (ob 2, .inr (2, [.int (nI cn), .ref (ob 3), .ref (ob 4)])), (ob 3, .inl (cI, 160, .inl fk)), (ob 4, .inl (cI, 160, .inl fv))]) [4, 5, 6, 4, 5, 6] rfl
    have hKc := hK.sub (tys' := [(cI, .int)]) [0] rfl
    have hFc := va_free0 hS hA
    refine va_calli (va_runV (As := [.ref (ob 2), .int 1]) (rest := []) ⟨hx, hb, hml, hown, hts⟩ (k_shared l D _ ob ob cI cn fk fv cn fk fv 1 K (tabl cn K fv) hcz hcz hKT hKv) (cwV 2 hts g_e_shared_k_shared_265 rfl rfl rfl (by decide +kernel) ⟨(Nat.le_of_ble_eq_true rfl), (Nat.le_of_ble_eq_true rfl)⟩) (PcRC_V (q0 := 0) hPc hKc hN rfl rfl) rfl rfl hl.1 rfl (lv_room (Nat.le_of_ble_eq_true rfl)) dX10_shared_119 ⟨(Nat.le_of_ble_eq_true rfl), (Nat.le_of_ble_eq_true rfl)⟩) hS (fun q _ h => hFc q h) hFc (fun r9 uu tt H locs htt hvm hw hB hz1 hk1 hS => ?_)
    have hP := va_keep hP hk1
    try dsimp only at hw
    clear hB hz1 hk1 hFc hPc hKc
    have hsw10 := hw
    exact W.iret (v := r9) hx hb hr (fun t ht hW => ⟨⟨r9, (), rfl, (hsw10.2 (by decide)).trans ((shR_3 rfl (by decide) (by decide) (by decide)).symm.trans (shO_1 (show tn4 3 from ⟨by decide, by decide⟩)).symm), trivial⟩, hS.F ht⟩) hS.2.2 dX10_shared_122
  refine lv_tableOut (tgt := 123) hx hb dX10_shared_43 (by have a0 := sw_ne (n := 0) hs5 (by decide) (by decide); have a1 := sw_ne (n := 1) hs6 (by decide) (by decide); have a2 := sw_ne (n := 2) hs7 (by decide) (by decide); have a3 := sw_ne (n := 3) hs8 (by decide) (by decide); omega) (by decide) ?_
  refine lv_iconst (v := (-1)) hx hb dX10_shared_123 (by decide) ?_
  exact W.iret (v := (-1)) hx hb hr (fun t ht hW => ⟨⟨(-1), (), rfl, (shO_0 (fun q => by
      have a0 := sw_ne (n := 0) hs5 (by decide) (by decide)
      have a1 := sw_ne (n := 1) hs6 (by decide) (by decide)
      have a2 := sw_ne (n := 2) hs7 (by decide) (by decide)
      have a3 := sw_ne (n := 3) hs8 (by decide) (by decide)
      have q1 := Int32.le_iff_toInt_le.mp q.1
      have q2 := Int32.lt_iff_toInt_lt.mp q.2
      have e0 : (0 : Int32).toInt = 0 := by decide
      have e2 : (4 : Int32).toInt = 4 := by decide
      omega)).symm, trivial⟩, hS.F ht⟩) hS.2.2 dX10_shared_124

def own_d_join : List Cond := [.fieldLink RX10 93 "ClashFree$Table" "keys" "LClashFree$Keys;", .fieldLink RX10 121 "ClashFree$Keys" "size" "I", .methodLink RX10 197 yX2_keyAt, .instanceMethod yX2_keyAt, .selects RX2 yX2_keyAt yX2_keyAt, .initialized RX2, .methodLink RX10 80 yX9_isFullFor, .instanceMethod yX9_isFullFor, .selects RX9 yX9_isFullFor yX9_isFullFor, .initialized RX9, .methodLink RX10 103 yX2_valueAt, .instanceMethod yX2_valueAt, .selects RX2 yX2_valueAt yX2_valueAt, .methodLink RX10 87 yX9_lay, .instanceMethod yX9_lay, .selects RX9 yX9_lay yX9_lay, .methodLink RX10 74 yX10_tableAt, .instanceMethod yX10_tableAt, .selects RX10 yX10_tableAt yX10_tableAt, .initialized RX10]
def wp_d_join : List Cond := .code yX10_join cX10_join 8 (some .int) :: (own_d_join ++ (wp_k_keyAt ++ (wp_k_isFullFor ++ (wp_k_valueAt ++ (wp_k_lay ++ (wp_k_tabS ++ (wsX90 ++ (wsX20 ++ ([] : List Cond)))))))))
set_option maxRecDepth 20000 in
theorem inown_d_join : ∀ w ∈ own_d_join, w ∈ lw_tbl := mem_places [518, 476, 734, 735, 736, 117, 618, 619, 620, 116, 693, 694, 695, 639, 640, 641, 610, 612, 2, 106] (by decide +kernel)
set_option maxRecDepth 20000 in
theorem in_d_join : ∀ w ∈ wp_d_join, w ∈ lw_tbl := List.forall_mem_cons.mpr ⟨List.mem_of_getElem? (i := 890) (by decide +kernel), List.forall_mem_append.mpr ⟨inown_d_join, List.forall_mem_append.mpr ⟨in_k_keyAt, List.forall_mem_append.mpr ⟨in_k_isFullFor, List.forall_mem_append.mpr ⟨in_k_valueAt, List.forall_mem_append.mpr ⟨in_k_lay, List.forall_mem_append.mpr ⟨in_k_tabS, List.forall_mem_append.mpr ⟨lwb_X9, List.forall_mem_append.mpr ⟨lwb_X2, fun _ h => absurd h List.not_mem_nil⟩⟩⟩⟩⟩⟩⟩⟩⟩
set_option maxRecDepth 20000 in
theorem good_d_join : wp_d_join.all goodWord = true := by decide +kernel
set_option maxRecDepth 20000 in
theorem g_d_join_k_keyAt_197 : GoodIn wp_d_join (wsV RX10 197 RX2 yX2_keyAt wp_k_keyAt) := goodIn_sub (List.forall_mem_append.mpr ⟨List.forall_mem_cons.mpr ⟨(List.mem_of_getElem? (i := 3) rfl), List.forall_mem_cons.mpr ⟨(List.mem_of_getElem? (i := 4) rfl), List.forall_mem_cons.mpr ⟨(List.mem_of_getElem? (i := 5) rfl), List.forall_mem_cons.mpr ⟨(List.mem_of_getElem? (i := 6) rfl), fun _ h => absurd h List.not_mem_nil⟩⟩⟩⟩, (fun _ h => (List.mem_cons_of_mem _ (List.mem_append_right _ (List.mem_append_left _ h))))⟩) (by decide +kernel)
set_option maxRecDepth 20000 in
theorem g_d_join_k_isFullFor_80 : GoodIn wp_d_join (wsV RX10 80 RX9 yX9_isFullFor wp_k_isFullFor) := goodIn_sub (List.forall_mem_append.mpr ⟨List.forall_mem_cons.mpr ⟨(List.mem_of_getElem? (i := 7) rfl), List.forall_mem_cons.mpr ⟨(List.mem_of_getElem? (i := 8) rfl), List.forall_mem_cons.mpr ⟨(List.mem_of_getElem? (i := 9) rfl), List.forall_mem_cons.mpr ⟨(List.mem_of_getElem? (i := 10) rfl), fun _ h => absurd h List.not_mem_nil⟩⟩⟩⟩, (fun _ h => (List.mem_cons_of_mem _ (List.mem_append_right _ (List.mem_append_right _ (List.mem_append_left _ h)))))⟩) (by decide +kernel)
set_option maxRecDepth 20000 in
theorem g_d_join_k_valueAt_103 : GoodIn wp_d_join (wsV RX10 103 RX2 yX2_valueAt wp_k_valueAt) := goodIn_sub (List.forall_mem_append.mpr ⟨List.forall_mem_cons.mpr ⟨(List.mem_of_getElem? (i := 11) rfl), List.forall_mem_cons.mpr ⟨(List.mem_of_getElem? (i := 12) rfl), List.forall_mem_cons.mpr ⟨(List.mem_of_getElem? (i := 13) rfl), List.forall_mem_cons.mpr ⟨(List.mem_of_getElem? (i := 6) rfl), fun _ h => absurd h List.not_mem_nil⟩⟩⟩⟩, (fun _ h => (List.mem_cons_of_mem _ (List.mem_append_right _ (List.mem_append_right _ (List.mem_append_right _ (List.mem_append_left _ h))))))⟩) (by decide +kernel)
set_option maxRecDepth 20000 in
theorem g_d_join_k_lay_87 : GoodIn wp_d_join (wsV RX10 87 RX9 yX9_lay wp_k_lay) := goodIn_sub (List.forall_mem_append.mpr ⟨List.forall_mem_cons.mpr ⟨(List.mem_of_getElem? (i := 14) rfl), List.forall_mem_cons.mpr ⟨(List.mem_of_getElem? (i := 15) rfl), List.forall_mem_cons.mpr ⟨(List.mem_of_getElem? (i := 16) rfl), List.forall_mem_cons.mpr ⟨(List.mem_of_getElem? (i := 10) rfl), fun _ h => absurd h List.not_mem_nil⟩⟩⟩⟩, (fun _ h => (List.mem_cons_of_mem _ (List.mem_append_right _ (List.mem_append_right _ (List.mem_append_right _ (List.mem_append_right _ (List.mem_append_left _ h)))))))⟩) (by decide +kernel)
set_option maxRecDepth 20000 in
theorem g_d_join_k_tabS_74 : GoodIn wp_d_join (wsV RX10 74 RX10 yX10_tableAt wp_k_tabS) := goodIn_sub (List.forall_mem_append.mpr ⟨List.forall_mem_cons.mpr ⟨(List.mem_of_getElem? (i := 17) rfl), List.forall_mem_cons.mpr ⟨(List.mem_of_getElem? (i := 18) rfl), List.forall_mem_cons.mpr ⟨(List.mem_of_getElem? (i := 19) rfl), List.forall_mem_cons.mpr ⟨(List.mem_of_getElem? (i := 20) rfl), fun _ h => absurd h List.not_mem_nil⟩⟩⟩⟩, (fun _ h => (List.mem_cons_of_mem _ (List.mem_append_right _ (List.mem_append_right _ (List.mem_append_right _ (List.mem_append_right _ (List.mem_append_right _ (List.mem_append_left _ h))))))))⟩) (by decide +kernel)
set_option maxHeartbeats 4000000 in
set_option maxRecDepth 100000 in
theorem lk_join (l : Launch) {p : Program} {e : Env} {s : State} {m : MethodId} {args : Array Value} {below : List Frame} {meth : Method} {c : Code} {Q : State → Prop} {A : Nat → Prop} (D : va_G) (ox : Nat → Nat) (ob3 : Nat → Nat) (og : Nat → Nat) (oq : Nat → Nat) (ow : Nat → Nat) (ob : Nat → Nat) (ob2 : Nat → Nat) (cI : ClassId) (cT : ClassId) (tp : Nat) (ft : Nat → Option Nat) (tb : Int32) (ts : Int32) (tg : Int32) (tr : Int32) (tb2 : Int32) (ts2 : Int32) (tg2 : Int32) (tl2 : Int32) (tc2 : Int32) (tr2 : Int32) (tu2 : Int32) (tv2 : Int32) (tw2 : Int32) (sd2 : Int64) (da2 : Nat) (db2 : Nat) (pr2 : Int32) (cn2 : Nat) (fk2 : Nat → Int32) (fv2 : Nat → Int32) (nb2 : Nat) (ka2 : Nat) (kb2 : Nat) (sm2 : Int32) (ln2 : Nat) (fh2 : Nat → Int32) (ff2 : Nat → Int32) (fa2 : Nat → Int32) (fs2 : Nat → Int32) (fj2 : Nat → Int32) (fr2 : Nat → Int32) (fo2 : Nat → Int32) (fx2 : Nat → Int32) (L : List (Nat × Int32)) (L2 : List (Nat × Int32)) (hky2 : KyC fk2 cn2) (hKv2 : KvT fk2 fv2 cn2 L2) (hx : p.tables.exec = Jvm.exec) (hb : c.code = cX10_join) (hml : c.maxLocals = 8) (hown : s.vm.findClass RX10 = some m.cls) (hts : ∀ w ∈ wp_d_join, w.before args s = true) (hA : ∀ q, s.heap.size ≤ q → A q) (hK : va_K D vwCl [(cI, .int), (cT, .object RX9)] s) (hN : NC s) (kx101 : ∀ (y : Nat), ∀ (sn : Nat), ∀ (Lc : List (Nat × Int32)), ∀ (xtl : Int32), ∀ (xtc : Int32), ∀ (xtu : Int32), ∀ (xtv : Int32), ∀ (xtw : Int32), ∀ (xsd : Int64), ∀ (xda : Nat), ∀ (xdb : Nat), ∀ (xpr : Int32), ∀ (xcn : Nat), ∀ (gfk : Nat → Int32), ∀ (gfv : Nat → Int32), ∀ (xnb : Nat), ∀ (xka : Nat), ∀ (xkb : Nat), ∀ (xsm : Int32), ∀ (xln : Nat), ∀ (gfh : Nat → Int32), ∀ (gff : Nat → Int32), ∀ (gfa : Nat → Int32), ∀ (gfs : Nat → Int32), ∀ (gfj : Nat → Int32), ∀ (gfr : Nat → Int32), ∀ (gfo : Nat → Int32), ∀ (gfx : Nat → Int32), (y ≤ cn2) → (TbI gfk gfj gfh gfo xcn xnb xka xkb xln xda xdb) → (KvT gfk gfv xcn Lc) → (jnF (L2.drop y) Lc sn = jnF L2 L 0) → (jnF L2 L 0 = (Lc, sn)) → ∀ (H : Heap) (locs : List Loc) (ls : Array Slot), va_P D vwCl [(ox 0, .inr (10, [.ref (ox 1), .ref (ox 2), .int (nI tp), .ref (ob3 0), .ref (og 0), .ref (oq 0), .ref (ow 0)])), (ox 1, .inl (cT, 4, .inr (.inr (.inr (.inr ft))))), (ob 0, .inr (9, gT ob tb ts tg xtl xtc tr xtu xtv xtw)), (ob 1, .inr (0, [.long xsd, .int (nI xda), .int (nI xdb), .int xpr])), (ob 2, .inr (2, [.int (nI xcn), .ref (ob 3), .ref (ob 4)])), (ob 3, .inl (cI, 160, .inl gfk)), (ob 4, .inl (cI, 160, .inl gfv)), (ob 5, .inr (3, gY ob (nI xnb) (nI xka) (nI xkb) xsm (nI xln))), (ob 6, .inl (cI, 2048, .inl gfh)), (ob 7, .inl (cI, 2048, .inl gff)), (ob 8, .inl (cI, 2048, .inl gfa)), (ob 9, .inl (cI, 2048, .inl gfs)), (ob 10, .inl (cI, 160, .inl gfj)), (ob 11, .inl (cI, 160, .inl gfr)), (ob 12, .inl (cI, 160, .inl gfo)), (ob 13, .inl (cI, 2048, .inl gfx)), (ob2 0, .inr (9, gT ob2 tb2 ts2 tg2 tl2 tc2 tr2 tu2 tv2 tw2)), (ob2 1, .inr (0, [.long sd2, .int (nI da2), .int (nI db2), .int pr2])), (ob2 2, .inr (2, [.int (nI cn2), .ref (ob2 3), .ref (ob2 4)])), (ob2 3, .inl (cI, 160, .inl fk2)), (ob2 4, .inl (cI, 160, .inl fv2)), (ob2 5, .inr (3, gY ob2 (nI nb2) (nI ka2) (nI kb2) sm2 (nI ln2))), (ob2 6, .inl (cI, 2048, .inl fh2)), (ob2 7, .inl (cI, 2048, .inl ff2)), (ob2 8, .inl (cI, 2048, .inl fa2)), (ob2 9, .inl (cI, 2048, .inl fs2)), (ob2 10, .inl (cI, 160, .inl fj2)), (ob2 11, .inl (cI, 160, .inl fr2)), (ob2 12, .inl (cI, 160, .inl fo2)), (ob2 13, .inl (cI, 2048, .inl fx2))] H → va_D A [(ox 0, .inr (10, [.ref (ox 1), .ref (ox 2), .int (nI tp), .ref (ob3 0), .ref (og 0), .ref (oq 0), .ref (ow 0)])), (ox 1, .inl (cT, 4, .inr (.inr (.inr (.inr ft))))), (ob 0, .inr (9, gT ob tb ts tg xtl xtc tr xtu xtv xtw)), (ob 1, .inr (0, [.long xsd, .int (nI xda), .int (nI xdb), .int xpr])), (ob 2, .inr (2, [.int (nI xcn), .ref (ob 3), .ref (ob 4)])), (ob 3, .inl (cI, 160, .inl gfk)), (ob 4, .inl (cI, 160, .inl gfv)), (ob 5, .inr (3, gY ob (nI xnb) (nI xka) (nI xkb) xsm (nI xln))), (ob 6, .inl (cI, 2048, .inl gfh)), (ob 7, .inl (cI, 2048, .inl gff)), (ob 8, .inl (cI, 2048, .inl gfa)), (ob 9, .inl (cI, 2048, .inl gfs)), (ob 10, .inl (cI, 160, .inl gfj)), (ob 11, .inl (cI, 160, .inl gfr)), (ob 12, .inl (cI, 160, .inl gfo)), (ob 13, .inl (cI, 2048, .inl gfx)), (ob2 0, .inr (9, gT ob2 tb2 ts2 tg2 tl2 tc2 tr2 tu2 tv2 tw2)), (ob2 1, .inr (0, [.long sd2, .int (nI da2), .int (nI db2), .int pr2])), (ob2 2, .inr (2, [.int (nI cn2), .ref (ob2 3), .ref (ob2 4)])), (ob2 3, .inl (cI, 160, .inl fk2)), (ob2 4, .inl (cI, 160, .inl fv2)), (ob2 5, .inr (3, gY ob2 (nI nb2) (nI ka2) (nI kb2) sm2 (nI ln2))), (ob2 6, .inl (cI, 2048, .inl fh2)), (ob2 7, .inl (cI, 2048, .inl ff2)), (ob2 8, .inl (cI, 2048, .inl fa2)), (ob2 9, .inl (cI, 2048, .inl fs2)), (ob2 10, .inl (cI, 160, .inl fj2)), (ob2 11, .inl (cI, 160, .inl fr2)), (ob2 12, .inl (cI, 160, .inl fo2)), (ob2 13, .inl (cI, 2048, .inl fx2))] → va_S A s.heap H locs → lv_has ls 8 [(5, .int (nI sn))] → W p l e ({ frames := 9, cells := 0, slots := 0, locals := 330 }) s m args below meth c H locs 0 0 Q (F0 m 101 ls [])) : ∀ (N : Nat), ∀ (y : Nat), ∀ (sn : Nat), ∀ (Lc : List (Nat × Int32)), ∀ (xtl : Int32), ∀ (xtc : Int32), ∀ (xtu : Int32), ∀ (xtv : Int32), ∀ (xtw : Int32), ∀ (xsd : Int64), ∀ (xda : Nat), ∀ (xdb : Nat), ∀ (xpr : Int32), ∀ (xcn : Nat), ∀ (gfk : Nat → Int32), ∀ (gfv : Nat → Int32), ∀ (xnb : Nat), ∀ (xka : Nat), ∀ (xkb : Nat), ∀ (xsm : Int32), ∀ (xln : Nat), ∀ (gfh : Nat → Int32), ∀ (gff : Nat → Int32), ∀ (gfa : Nat → Int32), ∀ (gfs : Nat → Int32), ∀ (gfj : Nat → Int32), ∀ (gfr : Nat → Int32), ∀ (gfo : Nat → Int32), ∀ (gfx : Nat → Int32), (y ≤ cn2) → (TbI gfk gfj gfh gfo xcn xnb xka xkb xln xda xdb) → (KvT gfk gfv xcn Lc) → (jnF (L2.drop y) Lc sn = jnF L2 L 0) → cn2 - y < N → ∀ (H : Heap) (locs : List Loc) (ls : Array Slot), va_P D vwCl [(ox 0, .inr (10, [.ref (ox 1), .ref (ox 2), .int (nI tp), .ref (ob3 0), .ref (og 0), .ref (oq 0), .ref (ow 0)])), (ox 1, .inl (cT, 4, .inr (.inr (.inr (.inr ft))))), (ob 0, .inr (9, gT ob tb ts tg xtl xtc tr xtu xtv xtw)), (ob 1, .inr (0, [.long xsd, .int (nI xda), .int (nI xdb), .int xpr])), (ob 2, .inr (2, [.int (nI xcn), .ref (ob 3), .ref (ob 4)])), (ob 3, .inl (cI, 160, .inl gfk)), (ob 4, .inl (cI, 160, .inl gfv)), (ob 5, .inr (3, gY ob (nI xnb) (nI xka) (nI xkb) xsm (nI xln))), (ob 6, .inl (cI, 2048, .inl gfh)), (ob 7, .inl (cI, 2048, .inl gff)), (ob 8, .inl (cI, 2048, .inl gfa)), (ob 9, .inl (cI, 2048, .inl gfs)), (ob 10, .inl (cI, 160, .inl gfj)), (ob 11, .inl (cI, 160, .inl gfr)), (ob 12, .inl (cI, 160, .inl gfo)), (ob 13, .inl (cI, 2048, .inl gfx)), (ob2 0, .inr (9, gT ob2 tb2 ts2 tg2 tl2 tc2 tr2 tu2 tv2 tw2)), (ob2 1, .inr (0, [.long sd2, .int (nI da2), .int (nI db2), .int pr2])), (ob2 2, .inr (2, [.int (nI cn2), .ref (ob2 3), .ref (ob2 4)])), (ob2 3, .inl (cI, 160, .inl fk2)), (ob2 4, .inl (cI, 160, .inl fv2)), (ob2 5, .inr (3, gY ob2 (nI nb2) (nI ka2) (nI kb2) sm2 (nI ln2))), (ob2 6, .inl (cI, 2048, .inl fh2)), (ob2 7, .inl (cI, 2048, .inl ff2)), (ob2 8, .inl (cI, 2048, .inl fa2)), (ob2 9, .inl (cI, 2048, .inl fs2)), (ob2 10, .inl (cI, 160, .inl fj2)), (ob2 11, .inl (cI, 160, .inl fr2)), (ob2 12, .inl (cI, 160, .inl fo2)), (ob2 13, .inl (cI, 2048, .inl fx2))] H → va_D A [(ox 0, .inr (10, [.ref (ox 1), .ref (ox 2), .int (nI tp), .ref (ob3 0), .ref (og 0), .ref (oq 0), .ref (ow 0)])), (ox 1, .inl (cT, 4, .inr (.inr (.inr (.inr ft))))), (ob 0, .inr (9, gT ob tb ts tg xtl xtc tr xtu xtv xtw)), (ob 1, .inr (0, [.long xsd, .int (nI xda), .int (nI xdb), .int xpr])), (ob 2, .inr (2, [.int (nI xcn), .ref (ob 3), .ref (ob 4)])), (ob 3, .inl (cI, 160, .inl gfk)), (ob 4, .inl (cI, 160, .inl gfv)), (ob 5, .inr (3, gY ob (nI xnb) (nI xka) (nI xkb) xsm (nI xln))), (ob 6, .inl (cI, 2048, .inl gfh)), (ob 7, .inl (cI, 2048, .inl gff)), (ob 8, .inl (cI, 2048, .inl gfa)), (ob 9, .inl (cI, 2048, .inl gfs)), (ob 10, .inl (cI, 160, .inl gfj)), (ob 11, .inl (cI, 160, .inl gfr)), (ob 12, .inl (cI, 160, .inl gfo)), (ob 13, .inl (cI, 2048, .inl gfx)), (ob2 0, .inr (9, gT ob2 tb2 ts2 tg2 tl2 tc2 tr2 tu2 tv2 tw2)), (ob2 1, .inr (0, [.long sd2, .int (nI da2), .int (nI db2), .int pr2])), (ob2 2, .inr (2, [.int (nI cn2), .ref (ob2 3), .ref (ob2 4)])), (ob2 3, .inl (cI, 160, .inl fk2)), (ob2 4, .inl (cI, 160, .inl fv2)), (ob2 5, .inr (3, gY ob2 (nI nb2) (nI ka2) (nI kb2) sm2 (nI ln2))), (ob2 6, .inl (cI, 2048, .inl fh2)), (ob2 7, .inl (cI, 2048, .inl ff2)), (ob2 8, .inl (cI, 2048, .inl fa2)), (ob2 9, .inl (cI, 2048, .inl fs2)), (ob2 10, .inl (cI, 160, .inl fj2)), (ob2 11, .inl (cI, 160, .inl fr2)), (ob2 12, .inl (cI, 160, .inl fo2)), (ob2 13, .inl (cI, 2048, .inl fx2))] → va_S A s.heap H locs → lv_has ls 8 [(6, .int (nI y)), (5, .int (nI sn)), (3, .ref (ob 0)), (4, .ref (ob2 0)), (0, .ref (ox 0))] → W p l e ({ frames := 9, cells := 0, slots := 0, locals := 330 }) s m args below meth c H locs 0 0 Q (F0 m 36 ls []) := by
  have hin_X9 : ∀ w ∈ wsX90, w ∈ wp_d_join := fun _ h => (List.mem_cons_of_mem _ (List.mem_append_right _ (List.mem_append_right _ (List.mem_append_right _ (List.mem_append_right _ (List.mem_append_right _ (List.mem_append_right _ (List.mem_append_left _ h))))))))
  have hin_X2 : ∀ w ∈ wsX20, w ∈ wp_d_join := fun _ h => (List.mem_cons_of_mem _ (List.mem_append_right _ (List.mem_append_right _ (List.mem_append_right _ (List.mem_append_right _ (List.mem_append_right _ (List.mem_append_right _ (List.mem_append_right _ (List.mem_append_left _ h)))))))))
  intro N
  induction N with
  | zero =>
    intro y sn Lc xtl xtc xtu xtv xtw xsd xda xdb xpr xcn gfk gfv xnb xka xkb xsm xln gfh gff gfa gfs gfj gfr gfo gfx hy1 hTb hKl hJ hm
    exact absurd hm (Nat.not_lt_zero _)
  | succ N ih =>
    intro y sn Lc xtl xtc xtu xtv xtw xsd xda xdb xpr xcn gfk gfv xnb xka xkb xsm xln gfh gff gfa gfs gfj gfr gfo gfx hy1 hTb hKl hJ hm H locs ls hP hD hS hl
    obtain ⟨hky, hL, hO, hn1, hka, hkb, hda, hdb⟩ := id hTb
    have hnb := hL.1
    have hln := hL.2.1
    have hc := hky.1
    have hcz := hky.1
    have hcz2 := hky2.1
    obtain ⟨-, K2, hK21, hK22, rfl⟩ := id hKv2
    refine lv_iload hx hb dX10_join_36 (lv_at hl 0 rfl) ?_
    refine lv_aload hx hb dX10_join_38 (lv_at hl 3 rfl) ?_
    refine va_get (D := D) (ci := 9) (v := .ref (ob2 2)) (C := RX9) (T := TX9) (N := 12) hx hb hts hin_X9 hown hK hP 16 rfl rfl 10 (by decide) (hts (.fieldLink RX10 93 "ClashFree$Table" "keys" "LClashFree$Keys;") (List.mem_of_getElem? (i := 1) rfl)) (fun _ h9 => h9) rfl dX10_join_40 ?_
    refine va_get (D := D) (ci := 2) (v := .int (nI cn2)) (C := RX2) (T := TX2) (N := 3) hx hb hts hin_X2 hown hK hP 18 rfl rfl 0 (by decide) (hts (.fieldLink RX10 121 "ClashFree$Keys" "size" "I") (List.mem_of_getElem? (i := 2) rfl)) (fun _ h9 => h9) rfl dX10_join_43 ?_
    refine lv_icmp_ge (tgt := 101) hx hb dX10_join_46 (by decide) (fun hc1 => ?_) (fun hc1 => ?_)
    ·
      have hlt : cn2 ≤ y := (nI_leI (by omega) (by omega)).mp hc1
      exact kx101 y sn Lc xtl xtc xtu xtv xtw xsd xda xdb xpr xcn gfk gfv xnb xka xkb xsm xln gfh gff gfa gfs gfj gfr gfo gfx (by omega) (hTb) (hKl) (hJ) (by rw [tabl_dnil _ _ hlt] at hJ; exact hJ.symm) H locs ls (hP.sub [0, 1, 2, 3, 4, 5, 6, 7, 8, 9, 10, 11, 12, 13, 14, 15, 16, 17, 18, 19, 20, 21, 22, 23, 24, 25, 26, 27, 28, 29] rfl) (hD.sub [0, 1, 2, 3, 4, 5, 6, 7, 8, 9, 10, 11, 12, 13, 14, 15, 16, 17, 18, 19, 20, 21, 22, 23, 24, 25, 26, 27, 28, 29] (by decide) rfl) hS (lv_sub hl [1] rfl)
    ·
      have hlt : y < cn2 := by
        rcases Nat.lt_or_ge y (cn2) with z | z
        · exact z
        · exact absurd (nI_le z (by omega)) hc1
      obtain ⟨kx, hkd⟩ : ∃ q, q = K2 y := ⟨_, rfl⟩
      have ekx : fk2 y = nI kx := by rw [hkd]; exact (hK21 y hlt).1
      have hkx : kx < 2147483647 := by rw [hkd]; exact (hK21 y hlt).2
      rw [tabl_drop _ _ hlt, ← hkd] at hJ
      refine lv_aload hx hb dX10_join_49 (lv_at hl 3 rfl) ?_
      refine va_get (D := D) (ci := 9) (v := .ref (ob2 2)) (C := RX9) (T := TX9) (N := 12) hx hb hts hin_X9 hown hK hP 16 rfl rfl 10 (by decide) (hts (.fieldLink RX10 93 "ClashFree$Table" "keys" "LClashFree$Keys;") (List.mem_of_getElem? (i := 1) rfl)) (fun _ h9 => h9) rfl dX10_join_51 ?_
      refine lv_iload hx hb dX10_join_54 (lv_at hl 0 rfl) ?_
      have hPc := hP.sub (ws' := [(ob2 2, .inr (2, [.int (nI cn2), .ref (ob2 3), .ref (ob2 4)])), (ob2 3, .inl (cI, 160, .inl fk2))]) [18, 19] rfl
      have hKc := hK.sub (tys' := [(cI, .int)]) [0] rfl
      have hFc := va_free0 hS hA
      refine va_calli (va_runV (As := [.int (nI y)]) (rest := []) ⟨hx, hb, hml, hown, hts⟩ (k_keyAt l D _ ob2 cI cn2 fk2 (nI y) hcz2) (cwV 1 hts g_d_join_k_keyAt_197 rfl rfl rfl (by decide +kernel) ⟨(Nat.le_of_ble_eq_true rfl), (Nat.le_of_ble_eq_true rfl)⟩) (PcRC_V (q0 := 0) hPc hKc hN rfl rfl) rfl rfl hl.1 rfl (lv_room (Nat.le_of_ble_eq_true rfl)) dX10_join_56 ⟨(Nat.le_of_ble_eq_true rfl), (Nat.le_of_ble_eq_true rfl)⟩) hS (fun q _ h => hFc q h) hFc (fun r2 uu tt H locs htt hvm hw hB hz1 hk1 hS => ?_)
      have hP := va_keep hP hk1
      try dsimp only at hw
      clear hB hz1 hk1 hFc hPc hKc
      obtain ⟨hka_r2, hkb_r2⟩ := hw
      obtain rfl : r2 = nI kx := (hka_r2 y hlt rfl).trans ekx
      refine lv_istore (lv' := [(7, .int (nI kx)), (6, .int (nI y)), (5, .int (nI sn)), (3, .ref (ob 0)), (4, .ref (ob2 0)), (0, .ref (ox 0))]) hx hb dX10_join_59 hl (by decide) rfl (fun ls hl => ?_)
      refine lv_aload_n hx hb dX10_join_61 rfl (lv_at hl 3 rfl) ?_
      refine lv_iload hx hb dX10_join_62 (lv_at hl 0 rfl) ?_
      have hPc := hP.sub (ws' := [(ob 0, .inr (9, gT ob tb ts tg xtl xtc tr xtu xtv xtw)), (ob 2, .inr (2, [.int (nI xcn), .ref (ob 3), .ref (ob 4)])), (ob 3, .inl (cI, 160, .inl gfk))]) [2, 4, 5] rfl
      have hKc := hK.sub (tys' := [(cI, .int)]) [0] rfl
      have hFc := va_free0 hS hA
      refine va_calli (va_runV (As := [.int (nI kx)]) (rest := []) ⟨hx, hb, hml, hown, hts⟩ (k_isFullFor l D _ ob cI tb ts tg xtl xtc tr xtu xtv xtw xcn gfk kx hcz) (cwV 1 hts g_d_join_k_isFullFor_80 rfl rfl rfl (by decide +kernel) ⟨(Nat.le_of_ble_eq_true rfl), (Nat.le_of_ble_eq_true rfl)⟩) (PcRC_V (q0 := 0) hPc hKc hN rfl rfl) rfl rfl hl.1 rfl (lv_room (Nat.le_of_ble_eq_true rfl)) dX10_join_64 ⟨(Nat.le_of_ble_eq_true rfl), (Nat.le_of_ble_eq_true rfl)⟩) hS (fun q _ h => hFc q h) hFc (fun r3 uu tt H locs htt hvm hw hB hz1 hk1 hS => ?_)
      have hP := va_keep hP hk1
      try dsimp only at hw
      clear hB hz1 hk1 hFc hPc hKc
      rcases hw with ⟨rfl, hA_r3⟩ | ⟨rfl, hA_r3⟩
      ·
        refine lv_if_eq (tgt := 73) hx hb dX10_join_67 (by decide) (fun hc => absurd hc (by decide)) (fun hc => ?_)
        refine lv_goto (tgt := 101) hx hb dX10_join_70 (by decide) ?_
        exact kx101 y sn Lc xtl xtc xtu xtv xtw xsd xda xdb xpr xcn gfk gfv xnb xka xkb xsm xln gfh gff gfa gfs gfj gfr gfo gfx (by omega) (hTb) (hKl) (by rw [tabl_drop _ _ hlt, ← hkd]; exact hJ) (hJ.symm.trans (jnF_f (fulK_t hKl hkx hA_r3.1 hA_r3.2))) H locs ls (hP.sub [0, 1, 2, 3, 4, 5, 6, 7, 8, 9, 10, 11, 12, 13, 14, 15, 16, 17, 18, 19, 20, 21, 22, 23, 24, 25, 26, 27, 28, 29] rfl) (hD.sub [0, 1, 2, 3, 4, 5, 6, 7, 8, 9, 10, 11, 12, 13, 14, 15, 16, 17, 18, 19, 20, 21, 22, 23, 24, 25, 26, 27, 28, 29] (by decide) rfl) hS (lv_sub hl [2] rfl)
      ·
        refine lv_if_eq (tgt := 73) hx hb dX10_join_67 (by decide) (fun hc => ?_) (fun hc => absurd (by decide) hc)
        refine lv_aload_n hx hb dX10_join_73 rfl (lv_at hl 3 rfl) ?_
        refine lv_iload hx hb dX10_join_74 (lv_at hl 0 rfl) ?_
        refine lv_aload hx hb dX10_join_76 (lv_at hl 4 rfl) ?_
        refine va_get (D := D) (ci := 9) (v := .ref (ob2 2)) (C := RX9) (T := TX9) (N := 12) hx hb hts hin_X9 hown hK hP 16 rfl rfl 10 (by decide) (hts (.fieldLink RX10 93 "ClashFree$Table" "keys" "LClashFree$Keys;") (List.mem_of_getElem? (i := 1) rfl)) (fun _ h9 => h9) rfl dX10_join_78 ?_
        refine lv_iload hx hb dX10_join_81 (lv_at hl 1 rfl) ?_
        have hPc := hP.sub (ws' := [(ob2 2, .inr (2, [.int (nI cn2), .ref (ob2 3), .ref (ob2 4)])), (ob2 4, .inl (cI, 160, .inl fv2))]) [18, 20] rfl
        have hKc := hK.sub (tys' := [(cI, .int)]) [0] rfl
        have hFc := va_free0 hS hA
        refine va_calli (va_runV (As := [.int (nI y)]) (rest := [.int (nI kx), .ref (ob 0)]) ⟨hx, hb, hml, hown, hts⟩ (k_valueAt l D _ ob2 cI cn2 fv2 (nI y) hcz2) (cwV 1 hts g_d_join_k_valueAt_103 rfl rfl rfl (by decide +kernel) ⟨(Nat.le_of_ble_eq_true rfl), (Nat.le_of_ble_eq_true rfl)⟩) (PcRC_V (q0 := 0) hPc hKc hN rfl rfl) rfl rfl hl.1 rfl (lv_room (Nat.le_of_ble_eq_true rfl)) dX10_join_83 ⟨(Nat.le_of_ble_eq_true rfl), (Nat.le_of_ble_eq_true rfl)⟩) hS (fun q _ h => hFc q h) hFc (fun r4 uu tt H locs htt hvm hw hB hz1 hk1 hS => ?_)
        have hP := va_keep hP hk1
        try dsimp only at hw
        clear hB hz1 hk1 hFc hPc hKc
        have hva_r4 := hw
        obtain rfl : r4 = fv2 y := hva_r4 y hlt rfl
        have hPc := hP.sub (ws' := [(ob 0, .inr (9, gT ob tb ts tg xtl xtc tr xtu xtv xtw)), (ob 1, .inr (0, [.long xsd, .int (nI xda), .int (nI xdb), .int xpr])), (ob 2, .inr (2, [.int (nI xcn), .ref (ob 3), .ref (ob 4)])), (ob 3, .inl (cI, 160, .inl gfk)), (ob 4, .inl (cI, 160, .inl gfv)), (ob 5, .inr (3, gY ob (nI xnb) (nI xka) (nI xkb) xsm (nI xln))), (ob 6, .inl (cI, 2048, .inl gfh)), (ob 7, .inl (cI, 2048, .inl gff)), (ob 8, .inl (cI, 2048, .inl gfa)), (ob 9, .inl (cI, 2048, .inl gfs)), (ob 10, .inl (cI, 160, .inl gfj)), (ob 11, .inl (cI, 160, .inl gfr)), (ob 12, .inl (cI, 160, .inl gfo)), (ob 13, .inl (cI, 2048, .inl gfx))]) [2, 3, 4, 5, 6, 7, 8, 9, 10, 11, 12, 13, 14, 15] rfl
        have hKc := hK.sub (tys' := [(cI, .int)]) [0] rfl
        have hDc := hD.sub (ws' := [(ob 0, .inr (9, gT ob tb ts tg xtl xtc tr xtu xtv xtw)), (ob 1, .inr (0, [.long xsd, .int (nI xda), .int (nI xdb), .int xpr])), (ob 2, .inr (2, [.int (nI xcn), .ref (ob 3), .ref (ob 4)])), (ob 3, .inl (cI, 160, .inl gfk)), (ob 4, .inl (cI, 160, .inl gfv)), (ob 5, .inr (3, gY ob (nI xnb) (nI xka) (nI xkb) xsm (nI xln))), (ob 6, .inl (cI, 2048, .inl gfh)), (ob 7, .inl (cI, 2048, .inl gff)), (ob 8, .inl (cI, 2048, .inl gfa)), (ob 9, .inl (cI, 2048, .inl gfs)), (ob 10, .inl (cI, 160, .inl gfj)), (ob 11, .inl (cI, 160, .inl gfr)), (ob 12, .inl (cI, 160, .inl gfo)), (ob 13, .inl (cI, 2048, .inl gfx))]) [2, 3, 4, 5, 6, 7, 8, 9, 10, 11, 12, 13, 14, 15] (by decide) rfl
        have hFc := va_free (wc := [(ob 0, .inr (9, gT ob tb ts tg xtl xtc tr xtu xtv xtw)), (ob 1, .inr (0, [.long xsd, .int (nI xda), .int (nI xdb), .int xpr])), (ob 2, .inr (2, [.int (nI xcn), .ref (ob 3), .ref (ob 4)])), (ob 3, .inl (cI, 160, .inl gfk)), (ob 4, .inl (cI, 160, .inl gfv)), (ob 5, .inr (3, gY ob (nI xnb) (nI xka) (nI xkb) xsm (nI xln))), (ob 6, .inl (cI, 2048, .inl gfh)), (ob 7, .inl (cI, 2048, .inl gff)), (ob 8, .inl (cI, 2048, .inl gfa)), (ob 9, .inl (cI, 2048, .inl gfs)), (ob 10, .inl (cI, 160, .inl gfj)), (ob 11, .inl (cI, 160, .inl gfr)), (ob 12, .inl (cI, 160, .inl gfo)), (ob 13, .inl (cI, 2048, .inl gfx))]) hD hS hA [2, 3, 4, 5, 6, 7, 8, 9, 10, 11, 12, 13, 14, 15] rfl
        refine va_calli (va_runV (As := [.int (nI kx), .int (fv2 y)]) (rest := []) ⟨hx, hb, hml, hown, hts⟩ (k_lay l D _ ob cI tb ts tg xtl xtc tr xtu xtv xtw xsd xda xdb xpr xcn gfk gfv xnb xka xkb xsm xln gfh gff gfa gfs gfj gfr gfo gfx kx (fv2 y) hTb hkx hA_r3) (cwV 2 hts g_d_join_k_lay_87 rfl rfl rfl (by decide +kernel) ⟨(Nat.le_of_ble_eq_true rfl), (Nat.le_of_ble_eq_true rfl)⟩) (PcWC_V (q0 := 0) hPc hKc hDc hN rfl rfl) rfl rfl hl.1 rfl (lv_room (Nat.le_of_ble_eq_true rfl)) dX10_join_86 ⟨(Nat.le_of_ble_eq_true rfl), (Nat.le_of_ble_eq_true rfl)⟩) hS (fun q _ h => hFc q h) hFc (fun r5 uu tt H locs htt hvm hw hB hz1 hk1 hS => ?_)
        obtain ⟨w6, w7, w8, w9, w10, w11, w12, w13, w14, w15, w16, w17, w18, w19, w20, w21, w22, w23, w24, w25, w26, w27, w28, w29, w30⟩ := uu
        obtain ⟨hP1, hK1, hD1⟩ := hB
        rw [htt] at hP1
        have hK1 := va_K.moved hvm.symm hK1
        have hP1 : va_P D vwCl [(ob 0, .inr (9, gT ob tb ts tg w6 w7 tr w8 w9 w10)), (ob 1, .inr (0, [.long w11, .int (nI w12), .int (nI w13), .int w14])), (ob 2, .inr (2, [.int (nI w15), .ref (ob 3), .ref (ob 4)])), (ob 3, .inl (cI, 160, .inl w16)), (ob 4, .inl (cI, 160, .inl w17)), (ob 5, .inr (3, gY ob (nI w18) (nI w19) (nI w20) w21 (nI w22))), (ob 6, .inl (cI, 2048, .inl w23)), (ob 7, .inl (cI, 2048, .inl w24)), (ob 8, .inl (cI, 2048, .inl w25)), (ob 9, .inl (cI, 2048, .inl w26)), (ob 10, .inl (cI, 160, .inl w27)), (ob 11, .inl (cI, 160, .inl w28)), (ob 12, .inl (cI, 160, .inl w29)), (ob 13, .inl (cI, 2048, .inl w30))] H := hP1
        obtain ⟨hP, hD⟩ := va_join (wr := [(ox 0, .inr (10, [.ref (ox 1), .ref (ox 2), .int (nI tp), .ref (ob3 0), .ref (og 0), .ref (oq 0), .ref (ow 0)])), (ox 1, .inl (cT, 4, .inr (.inr (.inr (.inr ft))))), (ob2 0, .inr (9, gT ob2 tb2 ts2 tg2 tl2 tc2 tr2 tu2 tv2 tw2)), (ob2 1, .inr (0, [.long sd2, .int (nI da2), .int (nI db2), .int pr2])), (ob2 2, .inr (2, [.int (nI cn2), .ref (ob2 3), .ref (ob2 4)])), (ob2 3, .inl (cI, 160, .inl fk2)), (ob2 4, .inl (cI, 160, .inl fv2)), (ob2 5, .inr (3, gY ob2 (nI nb2) (nI ka2) (nI kb2) sm2 (nI ln2))), (ob2 6, .inl (cI, 2048, .inl fh2)), (ob2 7, .inl (cI, 2048, .inl ff2)), (ob2 8, .inl (cI, 2048, .inl fa2)), (ob2 9, .inl (cI, 2048, .inl fs2)), (ob2 10, .inl (cI, 160, .inl fj2)), (ob2 11, .inl (cI, 160, .inl fr2)), (ob2 12, .inl (cI, 160, .inl fo2)), (ob2 13, .inl (cI, 2048, .inl fx2))]) (w1 := [(ob 0, .inr (9, gT ob tb ts tg w6 w7 tr w8 w9 w10)), (ob 1, .inr (0, [.long w11, .int (nI w12), .int (nI w13), .int w14])), (ob 2, .inr (2, [.int (nI w15), .ref (ob 3), .ref (ob 4)])), (ob 3, .inl (cI, 160, .inl w16)), (ob 4, .inl (cI, 160, .inl w17)), (ob 5, .inr (3, gY ob (nI w18) (nI w19) (nI w20) w21 (nI w22))), (ob 6, .inl (cI, 2048, .inl w23)), (ob 7, .inl (cI, 2048, .inl w24)), (ob 8, .inl (cI, 2048, .inl w25)), (ob 9, .inl (cI, 2048, .inl w26)), (ob 10, .inl (cI, 160, .inl w27)), (ob 11, .inl (cI, 160, .inl w28)), (ob 12, .inl (cI, 160, .inl w29)), (ob 13, .inl (cI, 2048, .inl w30))]) hP hD [2, 3, 4, 5, 6, 7, 8, 9, 10, 11, 12, 13, 14, 15] [0, 1, 16, 17, 18, 19, 20, 21, 22, 23, 24, 25, 26, 27, 28, 29] rfl rfl (by decide) (by decide) hk1 hFc hP1 hD1
        have hP : va_P D vwCl [(ox 0, .inr (10, [.ref (ox 1), .ref (ox 2), .int (nI tp), .ref (ob3 0), .ref (og 0), .ref (oq 0), .ref (ow 0)])), (ox 1, .inl (cT, 4, .inr (.inr (.inr (.inr ft))))), (ob2 0, .inr (9, gT ob2 tb2 ts2 tg2 tl2 tc2 tr2 tu2 tv2 tw2)), (ob2 1, .inr (0, [.long sd2, .int (nI da2), .int (nI db2), .int pr2])), (ob2 2, .inr (2, [.int (nI cn2), .ref (ob2 3), .ref (ob2 4)])), (ob2 3, .inl (cI, 160, .inl fk2)), (ob2 4, .inl (cI, 160, .inl fv2)), (ob2 5, .inr (3, gY ob2 (nI nb2) (nI ka2) (nI kb2) sm2 (nI ln2))), (ob2 6, .inl (cI, 2048, .inl fh2)), (ob2 7, .inl (cI, 2048, .inl ff2)), (ob2 8, .inl (cI, 2048, .inl fa2)), (ob2 9, .inl (cI, 2048, .inl fs2)), (ob2 10, .inl (cI, 160, .inl fj2)), (ob2 11, .inl (cI, 160, .inl fr2)), (ob2 12, .inl (cI, 160, .inl fo2)), (ob2 13, .inl (cI, 2048, .inl fx2)), (ob 0, .inr (9, gT ob tb ts tg w6 w7 tr w8 w9 w10)), (ob 1, .inr (0, [.long w11, .int (nI w12), .int (nI w13), .int w14])), (ob 2, .inr (2, [.int (nI w15), .ref (ob 3), .ref (ob 4)])), (ob 3, .inl (cI, 160, .inl w16)), (ob 4, .inl (cI, 160, .inl w17)), (ob 5, .inr (3, gY ob (nI w18) (nI w19) (nI w20) w21 (nI w22))), (ob 6, .inl (cI, 2048, .inl w23)), (ob 7, .inl (cI, 2048, .inl w24)), (ob 8, .inl (cI, 2048, .inl w25)), (ob 9, .inl (cI, 2048, .inl w26)), (ob 10, .inl (cI, 160, .inl w27)), (ob 11, .inl (cI, 160, .inl w28)), (ob 12, .inl (cI, 160, .inl w29)), (ob 13, .inl (cI, 2048, .inl w30))] H := hP
        have hD : va_D A [(ox 0, .inr (10, [.ref (ox 1), .ref (ox 2), .int (nI tp), .ref (ob3 0), .ref (og 0), .ref (oq 0), .ref (ow 0)])), (ox 1, .inl (cT, 4, .inr (.inr (.inr (.inr ft))))), (ob2 0, .inr (9, gT ob2 tb2 ts2 tg2 tl2 tc2 tr2 tu2 tv2 tw2)), (ob2 1, .inr (0, [.long sd2, .int (nI da2), .int (nI db2), .int pr2])), (ob2 2, .inr (2, [.int (nI cn2), .ref (ob2 3), .ref (ob2 4)])), (ob2 3, .inl (cI, 160, .inl fk2)), (ob2 4, .inl (cI, 160, .inl fv2)), (ob2 5, .inr (3, gY ob2 (nI nb2) (nI ka2) (nI kb2) sm2 (nI ln2))), (ob2 6, .inl (cI, 2048, .inl fh2)), (ob2 7, .inl (cI, 2048, .inl ff2)), (ob2 8, .inl (cI, 2048, .inl fa2)), (ob2 9, .inl (cI, 2048, .inl fs2)), (ob2 10, .inl (cI, 160, .inl fj2)), (ob2 11, .inl (cI, 160, .inl fr2)), (ob2 12, .inl (cI, 160, .inl fo2)), (ob2 13, .inl (cI, 2048, .inl fx2)), (ob 0, .inr (9, gT ob tb ts tg w6 w7 tr w8 w9 w10)), (ob 1, .inr (0, [.long w11, .int (nI w12), .int (nI w13), .int w14])), (ob 2, .inr (2, [.int (nI w15), .ref (ob 3), .ref (ob 4)])), (ob 3, .inl (cI, 160, .inl w16)), (ob 4, .inl (cI, 160, .inl w17)), (ob 5, .inr (3, gY ob (nI w18) (nI w19) (nI w20) w21 (nI w22))), (ob 6, .inl (cI, 2048, .inl w23)), (ob 7, .inl (cI, 2048, .inl w24)), (ob 8, .inl (cI, 2048, .inl w25)), (ob 9, .inl (cI, 2048, .inl w26)), (ob 10, .inl (cI, 160, .inl w27)), (ob 11, .inl (cI, 160, .inl w28)), (ob 12, .inl (cI, 160, .inl w29)), (ob 13, .inl (cI, 2048, .inl w30))] := hD
        try dsimp only at hw
        clear hz1 hk1 hFc hPc hKc hDc
        obtain ⟨hLy31_1, hLy31_2, hLy31_q⟩ := hw
        have hw := And.intro hLy31_1 hLy31_2
        obtain ⟨hTb32, hTb32_v⟩ := hw
        obtain ⟨hky32, hL32, hO32, hn132, hka32, hkb32, hda32, hdb32⟩ := id hTb32
        have hnb32 := hL32.1
        have hln32 := hL32.2.1
        have hc32 := hky32.1
        refine lv_if_eq (tgt := 95) hx hb dX10_join_89 (by decide) (fun hc33 => ?_) (fun hc33 => ?_)
        ·
          have hF := (hLy31_q.resolve_right (fun z => z.1 hc33)).2
          refine lv_iinc (v := nI (y + 1)) (lv' := [(6, .int (nI (y + 1))), (7, .int (nI kx)), (5, .int (nI sn)), (3, .ref (ob 0)), (4, .ref (ob2 0)), (0, .ref (ox 0))]) hx hb dX10_join_95 hl (k := 1) rfl (nI_1 _) (by decide) rfl (fun ls hl => ?_)
          refine lv_goto (tgt := 36) hx hb dX10_join_98 (by decide) ?_
          have hJ2 := jnF_s hJ (fulK_f hKl hkx hA_r3)
          rw [(hKl.fd hkx hF).2.1] at hJ2
          exact ih (y + 1) sn (putL Lc kx (fv2 y)) w6 w7 w8 w9 w10 w11 w12 w13 w14 w15 w16 w17 w18 w19 w20 w21 w22 w23 w24 w25 w26 w27 w28 w29 w30 (by omega) (hTb32) (hTb32_v Lc hKl) (hJ2) (by omega) H locs ls (hP.sub [0, 1, 16, 17, 18, 19, 20, 21, 22, 23, 24, 25, 26, 27, 28, 29, 2, 3, 4, 5, 6, 7, 8, 9, 10, 11, 12, 13, 14, 15] rfl) (hD.sub [0, 1, 16, 17, 18, 19, 20, 21, 22, 23, 24, 25, 26, 27, 28, 29, 2, 3, 4, 5, 6, 7, 8, 9, 10, 11, 12, 13, 14, 15] (by decide) rfl) hS (lv_sub hl [0, 2, 3, 4, 5] rfl)
        ·
          have hF := (hLy31_q.resolve_left (fun z => hc33 z.1)).2
          refine lv_iinc (v := nI (sn + 1)) (lv' := [(5, .int (nI (sn + 1))), (7, .int (nI kx)), (6, .int (nI y)), (3, .ref (ob 0)), (4, .ref (ob2 0)), (0, .ref (ox 0))]) hx hb dX10_join_92 hl (k := 2) rfl (nI_1 _) (by decide) rfl (fun ls hl => ?_)
          refine lv_iinc (v := nI (y + 1)) (lv' := [(6, .int (nI (y + 1))), (5, .int (nI (sn + 1))), (7, .int (nI kx)), (3, .ref (ob 0)), (4, .ref (ob2 0)), (0, .ref (ox 0))]) hx hb dX10_join_95 hl (k := 2) rfl (nI_1 _) (by decide) rfl (fun ls hl => ?_)
          refine lv_goto (tgt := 36) hx hb dX10_join_98 (by decide) ?_
          have hJ2 := jnF_s hJ (fulK_f hKl hkx hA_r3)
          rw [(hKl.nf hkx hF).2.1] at hJ2
          exact ih (y + 1) (sn + 1) (putL Lc kx (fv2 y)) w6 w7 w8 w9 w10 w11 w12 w13 w14 w15 w16 w17 w18 w19 w20 w21 w22 w23 w24 w25 w26 w27 w28 w29 w30 (by omega) (hTb32) (hTb32_v Lc hKl) (hJ2) (by omega) H locs ls (hP.sub [0, 1, 16, 17, 18, 19, 20, 21, 22, 23, 24, 25, 26, 27, 28, 29, 2, 3, 4, 5, 6, 7, 8, 9, 10, 11, 12, 13, 14, 15] rfl) (hD.sub [0, 1, 16, 17, 18, 19, 20, 21, 22, 23, 24, 25, 26, 27, 28, 29, 2, 3, 4, 5, 6, 7, 8, 9, 10, 11, 12, 13, 14, 15] (by decide) rfl) hS (lv_sub hl [0, 1, 3, 4, 5] rfl)
set_option maxHeartbeats 4000000 in
set_option maxRecDepth 100000 in
theorem d_join (l : Launch) (D : va_G) (sz : Nat) (ox : Nat → Nat) (ob3 : Nat → Nat) (og : Nat → Nat) (oq : Nat → Nat) (ow : Nat → Nat) (ob : Nat → Nat) (ob2 : Nat → Nat) (cI : ClassId) (cT : ClassId) (tp : Nat) (ft : Nat → Option Nat) (tb : Int32) (ts : Int32) (tg : Int32) (tl : Int32) (tc : Int32) (tr : Int32) (tu : Int32) (tv : Int32) (tw : Int32) (sd : Int64) (da : Nat) (db : Nat) (pr : Int32) (cn : Nat) (fk : Nat → Int32) (fv : Nat → Int32) (nb : Nat) (ka : Nat) (kb : Nat) (sm : Int32) (ln : Nat) (fh : Nat → Int32) (ff : Nat → Int32) (fa : Nat → Int32) (fs : Nat → Int32) (fj : Nat → Int32) (fr : Nat → Int32) (fo : Nat → Int32) (fx : Nat → Int32) (tb2 : Int32) (ts2 : Int32) (tg2 : Int32) (tl2 : Int32) (tc2 : Int32) (tr2 : Int32) (tu2 : Int32) (tv2 : Int32) (tw2 : Int32) (sd2 : Int64) (da2 : Nat) (db2 : Nat) (pr2 : Int32) (cn2 : Nat) (fk2 : Nat → Int32) (fv2 : Nat → Int32) (nb2 : Nat) (ka2 : Nat) (kb2 : Nat) (sm2 : Int32) (ln2 : Nat) (fh2 : Nat → Int32) (ff2 : Nat → Int32) (fa2 : Nat → Int32) (fs2 : Nat → Int32) (fj2 : Nat → Int32) (fr2 : Nat → Int32) (fo2 : Nat → Int32) (fx2 : Nat → Int32) (k1 : Nat) (k2 : Nat) (L : List (Nat × Int32)) (L2 : List (Nat × Int32)) (hk1 : k1 < 4) (hft1 : ft k1 = some (ob 0)) (hk2 : k2 < 4) (hft2 : ft k2 = some (ob2 0)) (hne : k1 ≠ k2) (hTb : TbI fk fj fh fo cn nb ka kb ln da db) (hTb2 : TbI fk2 fj2 fh2 fo2 cn2 nb2 ka2 kb2 ln2 da2 db2) (hKv : KvT fk fv cn L) (hKv2 : KvT fk2 fv2 cn2 L2) : Met l yX10_join wp_d_join ({ frames := 9, cells := 0, slots := 0, locals := 330 }) (PcWC D [.ref (ox 0), .int (nI k1), .int (nI k2)] sz [(ox 0, .inr (10, [.ref (ox 1), .ref (ox 2), .int (nI tp), .ref (ob3 0), .ref (og 0), .ref (oq 0), .ref (ow 0)])), (ox 1, .inl (cT, 4, .inr (.inr (.inr (.inr ft))))), (ob 0, .inr (9, gT ob tb ts tg tl tc tr tu tv tw)), (ob 1, .inr (0, [.long sd, .int (nI da), .int (nI db), .int pr])), (ob 2, .inr (2, [.int (nI cn), .ref (ob 3), .ref (ob 4)])), (ob 3, .inl (cI, 160, .inl fk)), (ob 4, .inl (cI, 160, .inl fv)), (ob 5, .inr (3, gY ob (nI nb) (nI ka) (nI kb) sm (nI ln))), (ob 6, .inl (cI, 2048, .inl fh)), (ob 7, .inl (cI, 2048, .inl ff)), (ob 8, .inl (cI, 2048, .inl fa)), (ob 9, .inl (cI, 2048, .inl fs)), (ob 10, .inl (cI, 160, .inl fj)), (ob 11, .inl (cI, 160, .inl fr)), (ob 12, .inl (cI, 160, .inl fo)), (ob 13, .inl (cI, 2048, .inl fx)), (ob2 0, .inr (9, gT ob2 tb2 ts2 tg2 tl2 tc2 tr2 tu2 tv2 tw2)), (ob2 1, .inr (0, [.long sd2, .int (nI da2), .int (nI db2), .int pr2])), (ob2 2, .inr (2, [.int (nI cn2), .ref (ob2 3), .ref (ob2 4)])), (ob2 3, .inl (cI, 160, .inl fk2)), (ob2 4, .inl (cI, 160, .inl fv2)), (ob2 5, .inr (3, gY ob2 (nI nb2) (nI ka2) (nI kb2) sm2 (nI ln2))), (ob2 6, .inl (cI, 2048, .inl fh2)), (ob2 7, .inl (cI, 2048, .inl ff2)), (ob2 8, .inl (cI, 2048, .inl fa2)), (ob2 9, .inl (cI, 2048, .inl fs2)), (ob2 10, .inl (cI, 160, .inl fj2)), (ob2 11, .inl (cI, 160, .inl fr2)), (ob2 12, .inl (cI, 160, .inl fo2)), (ob2 13, .inl (cI, 2048, .inl fx2))] [(cI, .int), (cT, .object RX9)]) (va_Qi (fun (r : Int32) (u : (Int32) × (Int32) × (Int32) × (Int32) × (Int32) × (Int64) × (Nat) × (Nat) × (Int32) × (Nat) × (Nat → Int32) × (Nat → Int32) × (Nat) × (Nat) × (Nat) × (Int32) × (Nat) × (Nat → Int32) × (Nat → Int32) × (Nat → Int32) × (Nat → Int32) × (Nat → Int32) × (Nat → Int32) × (Nat → Int32) × (Nat → Int32)) => (TbI u.2.2.2.2.2.2.2.2.2.2.1 u.2.2.2.2.2.2.2.2.2.2.2.2.2.2.2.2.2.2.2.2.2.1 u.2.2.2.2.2.2.2.2.2.2.2.2.2.2.2.2.2.1 u.2.2.2.2.2.2.2.2.2.2.2.2.2.2.2.2.2.2.2.2.2.2.2.1 u.2.2.2.2.2.2.2.2.2.1 u.2.2.2.2.2.2.2.2.2.2.2.2.1 u.2.2.2.2.2.2.2.2.2.2.2.2.2.1 u.2.2.2.2.2.2.2.2.2.2.2.2.2.2.1 u.2.2.2.2.2.2.2.2.2.2.2.2.2.2.2.2.1 u.2.2.2.2.2.2.1 u.2.2.2.2.2.2.2.1) ∧ KvT u.2.2.2.2.2.2.2.2.2.2.1 u.2.2.2.2.2.2.2.2.2.2.2.1 u.2.2.2.2.2.2.2.2.2.1 (jnF L2 L 0).1 ∧ r = nI (jnF L2 L 0).2) (fun (u : (Int32) × (Int32) × (Int32) × (Int32) × (Int32) × (Int64) × (Nat) × (Nat) × (Int32) × (Nat) × (Nat → Int32) × (Nat → Int32) × (Nat) × (Nat) × (Nat) × (Int32) × (Nat) × (Nat → Int32) × (Nat → Int32) × (Nat → Int32) × (Nat → Int32) × (Nat → Int32) × (Nat → Int32) × (Nat → Int32) × (Nat → Int32)) t => va_P D vwCl [(ox 0, .inr (10, [.ref (ox 1), .ref (ox 2), .int (nI tp), .ref (ob3 0), .ref (og 0), .ref (oq 0), .ref (ow 0)])), (ox 1, .inl (cT, 4, .inr (.inr (.inr (.inr ft))))), (ob 0, .inr (9, gT ob tb ts tg u.1 u.2.1 tr u.2.2.1 u.2.2.2.1 u.2.2.2.2.1)), (ob 1, .inr (0, [.long u.2.2.2.2.2.1, .int (nI u.2.2.2.2.2.2.1), .int (nI u.2.2.2.2.2.2.2.1), .int u.2.2.2.2.2.2.2.2.1])), (ob 2, .inr (2, [.int (nI u.2.2.2.2.2.2.2.2.2.1), .ref (ob 3), .ref (ob 4)])), (ob 3, .inl (cI, 160, .inl u.2.2.2.2.2.2.2.2.2.2.1)), (ob 4, .inl (cI, 160, .inl u.2.2.2.2.2.2.2.2.2.2.2.1)), (ob 5, .inr (3, gY ob (nI u.2.2.2.2.2.2.2.2.2.2.2.2.1) (nI u.2.2.2.2.2.2.2.2.2.2.2.2.2.1) (nI u.2.2.2.2.2.2.2.2.2.2.2.2.2.2.1) u.2.2.2.2.2.2.2.2.2.2.2.2.2.2.2.1 (nI u.2.2.2.2.2.2.2.2.2.2.2.2.2.2.2.2.1))), (ob 6, .inl (cI, 2048, .inl u.2.2.2.2.2.2.2.2.2.2.2.2.2.2.2.2.2.1)), (ob 7, .inl (cI, 2048, .inl u.2.2.2.2.2.2.2.2.2.2.2.2.2.2.2.2.2.2.1)), (ob 8, .inl (cI, 2048, .inl u.2.2.2.2.2.2.2.2.2.2.2.2.2.2.2.2.2.2.2.1)), (ob 9, .inl (cI, 2048, .inl u.2.2.2.2.2.2.2.2.2.2.2.2.2.2.2.2.2.2.2.2.1)), (ob 10, .inl (cI, 160, .inl u.2.2.2.2.2.2.2.2.2.2.2.2.2.2.2.2.2.2.2.2.2.1)), (ob 11, .inl (cI, 160, .inl u.2.2.2.2.2.2.2.2.2.2.2.2.2.2.2.2.2.2.2.2.2.2.1)), (ob 12, .inl (cI, 160, .inl u.2.2.2.2.2.2.2.2.2.2.2.2.2.2.2.2.2.2.2.2.2.2.2.1)), (ob 13, .inl (cI, 2048, .inl u.2.2.2.2.2.2.2.2.2.2.2.2.2.2.2.2.2.2.2.2.2.2.2.2)), (ob2 0, .inr (9, gT ob2 tb2 ts2 tg2 tl2 tc2 tr2 tu2 tv2 tw2)), (ob2 1, .inr (0, [.long sd2, .int (nI da2), .int (nI db2), .int pr2])), (ob2 2, .inr (2, [.int (nI cn2), .ref (ob2 3), .ref (ob2 4)])), (ob2 3, .inl (cI, 160, .inl fk2)), (ob2 4, .inl (cI, 160, .inl fv2)), (ob2 5, .inr (3, gY ob2 (nI nb2) (nI ka2) (nI kb2) sm2 (nI ln2))), (ob2 6, .inl (cI, 2048, .inl fh2)), (ob2 7, .inl (cI, 2048, .inl ff2)), (ob2 8, .inl (cI, 2048, .inl fa2)), (ob2 9, .inl (cI, 2048, .inl fs2)), (ob2 10, .inl (cI, 160, .inl fj2)), (ob2 11, .inl (cI, 160, .inl fr2)), (ob2 12, .inl (cI, 160, .inl fo2)), (ob2 13, .inl (cI, 2048, .inl fx2))] t.heap ∧ va_K D vwCl [(cI, .int), (cT, .object RX9)] t ∧ va_D (va_A [(ox 0, .inr (10, [.ref (ox 1), .ref (ox 2), .int (nI tp), .ref (ob3 0), .ref (og 0), .ref (oq 0), .ref (ow 0)])), (ox 1, .inl (cT, 4, .inr (.inr (.inr (.inr ft))))), (ob 0, .inr (9, gT ob tb ts tg tl tc tr tu tv tw)), (ob 1, .inr (0, [.long sd, .int (nI da), .int (nI db), .int pr])), (ob 2, .inr (2, [.int (nI cn), .ref (ob 3), .ref (ob 4)])), (ob 3, .inl (cI, 160, .inl fk)), (ob 4, .inl (cI, 160, .inl fv)), (ob 5, .inr (3, gY ob (nI nb) (nI ka) (nI kb) sm (nI ln))), (ob 6, .inl (cI, 2048, .inl fh)), (ob 7, .inl (cI, 2048, .inl ff)), (ob 8, .inl (cI, 2048, .inl fa)), (ob 9, .inl (cI, 2048, .inl fs)), (ob 10, .inl (cI, 160, .inl fj)), (ob 11, .inl (cI, 160, .inl fr)), (ob 12, .inl (cI, 160, .inl fo)), (ob 13, .inl (cI, 2048, .inl fx)), (ob2 0, .inr (9, gT ob2 tb2 ts2 tg2 tl2 tc2 tr2 tu2 tv2 tw2)), (ob2 1, .inr (0, [.long sd2, .int (nI da2), .int (nI db2), .int pr2])), (ob2 2, .inr (2, [.int (nI cn2), .ref (ob2 3), .ref (ob2 4)])), (ob2 3, .inl (cI, 160, .inl fk2)), (ob2 4, .inl (cI, 160, .inl fv2)), (ob2 5, .inr (3, gY ob2 (nI nb2) (nI ka2) (nI kb2) sm2 (nI ln2))), (ob2 6, .inl (cI, 2048, .inl fh2)), (ob2 7, .inl (cI, 2048, .inl ff2)), (ob2 8, .inl (cI, 2048, .inl fa2)), (ob2 9, .inl (cI, 2048, .inl fs2)), (ob2 10, .inl (cI, 160, .inl fj2)), (ob2 11, .inl (cI, 160, .inl fr2)), (ob2 12, .inl (cI, 160, .inl fo2)), (ob2 13, .inl (cI, 2048, .inl fx2))] sz) [(ox 0, .inr (10, [.ref (ox 1), .ref (ox 2), .int (nI tp), .ref (ob3 0), .ref (og 0), .ref (oq 0), .ref (ow 0)])), (ox 1, .inl (cT, 4, .inr (.inr (.inr (.inr ft))))), (ob 0, .inr (9, gT ob tb ts tg u.1 u.2.1 tr u.2.2.1 u.2.2.2.1 u.2.2.2.2.1)), (ob 1, .inr (0, [.long u.2.2.2.2.2.1, .int (nI u.2.2.2.2.2.2.1), .int (nI u.2.2.2.2.2.2.2.1), .int u.2.2.2.2.2.2.2.2.1])), (ob 2, .inr (2, [.int (nI u.2.2.2.2.2.2.2.2.2.1), .ref (ob 3), .ref (ob 4)])), (ob 3, .inl (cI, 160, .inl u.2.2.2.2.2.2.2.2.2.2.1)), (ob 4, .inl (cI, 160, .inl u.2.2.2.2.2.2.2.2.2.2.2.1)), (ob 5, .inr (3, gY ob (nI u.2.2.2.2.2.2.2.2.2.2.2.2.1) (nI u.2.2.2.2.2.2.2.2.2.2.2.2.2.1) (nI u.2.2.2.2.2.2.2.2.2.2.2.2.2.2.1) u.2.2.2.2.2.2.2.2.2.2.2.2.2.2.2.1 (nI u.2.2.2.2.2.2.2.2.2.2.2.2.2.2.2.2.1))), (ob 6, .inl (cI, 2048, .inl u.2.2.2.2.2.2.2.2.2.2.2.2.2.2.2.2.2.1)), (ob 7, .inl (cI, 2048, .inl u.2.2.2.2.2.2.2.2.2.2.2.2.2.2.2.2.2.2.1)), (ob 8, .inl (cI, 2048, .inl u.2.2.2.2.2.2.2.2.2.2.2.2.2.2.2.2.2.2.2.1)), (ob 9, .inl (cI, 2048, .inl u.2.2.2.2.2.2.2.2.2.2.2.2.2.2.2.2.2.2.2.2.1)), (ob 10, .inl (cI, 160, .inl u.2.2.2.2.2.2.2.2.2.2.2.2.2.2.2.2.2.2.2.2.2.1)), (ob 11, .inl (cI, 160, .inl u.2.2.2.2.2.2.2.2.2.2.2.2.2.2.2.2.2.2.2.2.2.2.1)), (ob 12, .inl (cI, 160, .inl u.2.2.2.2.2.2.2.2.2.2.2.2.2.2.2.2.2.2.2.2.2.2.2.1)), (ob 13, .inl (cI, 2048, .inl u.2.2.2.2.2.2.2.2.2.2.2.2.2.2.2.2.2.2.2.2.2.2.2.2)), (ob2 0, .inr (9, gT ob2 tb2 ts2 tg2 tl2 tc2 tr2 tu2 tv2 tw2)), (ob2 1, .inr (0, [.long sd2, .int (nI da2), .int (nI db2), .int pr2])), (ob2 2, .inr (2, [.int (nI cn2), .ref (ob2 3), .ref (ob2 4)])), (ob2 3, .inl (cI, 160, .inl fk2)), (ob2 4, .inl (cI, 160, .inl fv2)), (ob2 5, .inr (3, gY ob2 (nI nb2) (nI ka2) (nI kb2) sm2 (nI ln2))), (ob2 6, .inl (cI, 2048, .inl fh2)), (ob2 7, .inl (cI, 2048, .inl ff2)), (ob2 8, .inl (cI, 2048, .inl fa2)), (ob2 9, .inl (cI, 2048, .inl fs2)), (ob2 10, .inl (cI, 160, .inl fj2)), (ob2 11, .inl (cI, 160, .inl fr2)), (ob2 12, .inl (cI, 160, .inl fo2)), (ob2 13, .inl (cI, 2048, .inl fx2))]) (va_A [(ox 0, .inr (10, [.ref (ox 1), .ref (ox 2), .int (nI tp), .ref (ob3 0), .ref (og 0), .ref (oq 0), .ref (ow 0)])), (ox 1, .inl (cT, 4, .inr (.inr (.inr (.inr ft))))), (ob 0, .inr (9, gT ob tb ts tg tl tc tr tu tv tw)), (ob 1, .inr (0, [.long sd, .int (nI da), .int (nI db), .int pr])), (ob 2, .inr (2, [.int (nI cn), .ref (ob 3), .ref (ob 4)])), (ob 3, .inl (cI, 160, .inl fk)), (ob 4, .inl (cI, 160, .inl fv)), (ob 5, .inr (3, gY ob (nI nb) (nI ka) (nI kb) sm (nI ln))), (ob 6, .inl (cI, 2048, .inl fh)), (ob 7, .inl (cI, 2048, .inl ff)), (ob 8, .inl (cI, 2048, .inl fa)), (ob 9, .inl (cI, 2048, .inl fs)), (ob 10, .inl (cI, 160, .inl fj)), (ob 11, .inl (cI, 160, .inl fr)), (ob 12, .inl (cI, 160, .inl fo)), (ob 13, .inl (cI, 2048, .inl fx)), (ob2 0, .inr (9, gT ob2 tb2 ts2 tg2 tl2 tc2 tr2 tu2 tv2 tw2)), (ob2 1, .inr (0, [.long sd2, .int (nI da2), .int (nI db2), .int pr2])), (ob2 2, .inr (2, [.int (nI cn2), .ref (ob2 3), .ref (ob2 4)])), (ob2 3, .inl (cI, 160, .inl fk2)), (ob2 4, .inl (cI, 160, .inl fv2)), (ob2 5, .inr (3, gY ob2 (nI nb2) (nI ka2) (nI kb2) sm2 (nI ln2))), (ob2 6, .inl (cI, 2048, .inl fh2)), (ob2 7, .inl (cI, 2048, .inl ff2)), (ob2 8, .inl (cI, 2048, .inl fa2)), (ob2 9, .inl (cI, 2048, .inl fs2)), (ob2 10, .inl (cI, 160, .inl fj2)), (ob2 11, .inl (cI, 160, .inl fr2)), (ob2 12, .inl (cI, 160, .inl fo2)), (ob2 13, .inl (cI, 2048, .inl fx2))] sz)) 0 0 (va_A [(ox 0, .inr (10, [.ref (ox 1), .ref (ox 2), .int (nI tp), .ref (ob3 0), .ref (og 0), .ref (oq 0), .ref (ow 0)])), (ox 1, .inl (cT, 4, .inr (.inr (.inr (.inr ft))))), (ob 0, .inr (9, gT ob tb ts tg tl tc tr tu tv tw)), (ob 1, .inr (0, [.long sd, .int (nI da), .int (nI db), .int pr])), (ob 2, .inr (2, [.int (nI cn), .ref (ob 3), .ref (ob 4)])), (ob 3, .inl (cI, 160, .inl fk)), (ob 4, .inl (cI, 160, .inl fv)), (ob 5, .inr (3, gY ob (nI nb) (nI ka) (nI kb) sm (nI ln))), (ob 6, .inl (cI, 2048, .inl fh)), (ob 7, .inl (cI, 2048, .inl ff)), (ob 8, .inl (cI, 2048, .inl fa)), (ob 9, .inl (cI, 2048, .inl fs)), (ob 10, .inl (cI, 160, .inl fj)), (ob 11, .inl (cI, 160, .inl fr)), (ob 12, .inl (cI, 160, .inl fo)), (ob 13, .inl (cI, 2048, .inl fx)), (ob2 0, .inr (9, gT ob2 tb2 ts2 tg2 tl2 tc2 tr2 tu2 tv2 tw2)), (ob2 1, .inr (0, [.long sd2, .int (nI da2), .int (nI db2), .int pr2])), (ob2 2, .inr (2, [.int (nI cn2), .ref (ob2 3), .ref (ob2 4)])), (ob2 3, .inl (cI, 160, .inl fk2)), (ob2 4, .inl (cI, 160, .inl fv2)), (ob2 5, .inr (3, gY ob2 (nI nb2) (nI ka2) (nI kb2) sm2 (nI ln2))), (ob2 6, .inl (cI, 2048, .inl fh2)), (ob2 7, .inl (cI, 2048, .inl ff2)), (ob2 8, .inl (cI, 2048, .inl fa2)), (ob2 9, .inl (cI, 2048, .inl fs2)), (ob2 10, .inl (cI, 160, .inl fj2)), (ob2 11, .inl (cI, 160, .inl fr2)), (ob2 12, .inl (cI, 160, .inl fo2)), (ob2 13, .inl (cI, 2048, .inl fx2))] sz) := by
  refine Met.ofW (cc := cX10_join) (maxL := 8) (ret := (some .int)) (by decide) rfl ?_
  intro p e s m args below meth c s₁ B hml hv
  obtain ⟨rfl, hsz, hP, hK, hD0, hN⟩ := hv
  have hx := B.exec
  have hb := B.bytes
  have hr := B.returns
  have hts := atoms_spec (ws := wp_d_join) B.pre
  have hin_X9 : ∀ w ∈ wsX90, w ∈ wp_d_join := fun _ h => (List.mem_cons_of_mem _ (List.mem_append_right _ (List.mem_append_right _ (List.mem_append_right _ (List.mem_append_right _ (List.mem_append_right _ (List.mem_append_right _ (List.mem_append_left _ h))))))))
  have hin_X2 : ∀ w ∈ wsX20, w ∈ wp_d_join := fun _ h => (List.mem_cons_of_mem _ (List.mem_append_right _ (List.mem_append_right _ (List.mem_append_right _ (List.mem_append_right _ (List.mem_append_right _ (List.mem_append_right _ (List.mem_append_right _ (List.mem_append_left _ h)))))))))
  have hown : s.vm.findClass RX10 = some m.cls := findClass_of_methodNamed B.named
  have hlocks := B.notSynchronized
  subst hsz
  have hD := hD0.self (sz := s.heap.size)
  generalize hAe : va_A [(ox 0, .inr (10, [.ref (ox 1), .ref (ox 2), .int (nI tp), .ref (ob3 0), .ref (og 0), .ref (oq 0), .ref (ow 0)])), (ox 1, .inl (cT, 4, .inr (.inr (.inr (.inr ft))))), (ob 0, .inr (9, gT ob tb ts tg tl tc tr tu tv tw)), (ob 1, .inr (0, [.long sd, .int (nI da), .int (nI db), .int pr])), (ob 2, .inr (2, [.int (nI cn), .ref (ob 3), .ref (ob 4)])), (ob 3, .inl (cI, 160, .inl fk)), (ob 4, .inl (cI, 160, .inl fv)), (ob 5, .inr (3, gY ob (nI nb) (nI ka) (nI kb) sm (nI ln))), (ob 6, .inl (cI, 2048, .inl fh)), (ob 7, .inl (cI, 2048, .inl ff)), (ob 8, .inl (cI, 2048, .inl fa)), (ob 9, .inl (cI, 2048, .inl fs)), (ob 10, .inl (cI, 160, .inl fj)), (ob 11, .inl (cI, 160, .inl fr)), (ob 12, .inl (cI, 160, .inl fo)), (ob 13, .inl (cI, 2048, .inl fx)), (ob2 0, .inr (9, gT ob2 tb2 ts2 tg2 tl2 tc2 tr2 tu2 tv2 tw2)), (ob2 1, .inr (0, [.long sd2, .int (nI da2), .int (nI db2), .int pr2])), (ob2 2, .inr (2, [.int (nI cn2), .ref (ob2 3), .ref (ob2 4)])), (ob2 3, .inl (cI, 160, .inl fk2)), (ob2 4, .inl (cI, 160, .inl fv2)), (ob2 5, .inr (3, gY ob2 (nI nb2) (nI ka2) (nI kb2) sm2 (nI ln2))), (ob2 6, .inl (cI, 2048, .inl fh2)), (ob2 7, .inl (cI, 2048, .inl ff2)), (ob2 8, .inl (cI, 2048, .inl fa2)), (ob2 9, .inl (cI, 2048, .inl fs2)), (ob2 10, .inl (cI, 160, .inl fj2)), (ob2 11, .inl (cI, 160, .inl fr2)), (ob2 12, .inl (cI, 160, .inl fo2)), (ob2 13, .inl (cI, 2048, .inl fx2))] s.heap.size = A at hD ⊢
  have hA : ∀ q : Nat, s.heap.size ≤ q → A q := fun q h => by rw [← hAe]; exact Or.inr h
  have hS : va_S A s.heap s.heap [] := va_S.rf
  have hP : va_P D vwCl [(ox 0, .inr (10, [.ref (ox 1), .ref (ox 2), .int (nI tp), .ref (ob3 0), .ref (og 0), .ref (oq 0), .ref (ow 0)])), (ox 1, .inl (cT, 4, .inr (.inr (.inr (.inr ft))))), (ob 0, .inr (9, gT ob tb ts tg tl tc tr tu tv tw)), (ob 1, .inr (0, [.long sd, .int (nI da), .int (nI db), .int pr])), (ob 2, .inr (2, [.int (nI cn), .ref (ob 3), .ref (ob 4)])), (ob 3, .inl (cI, 160, .inl fk)), (ob 4, .inl (cI, 160, .inl fv)), (ob 5, .inr (3, gY ob (nI nb) (nI ka) (nI kb) sm (nI ln))), (ob 6, .inl (cI, 2048, .inl fh)), (ob 7, .inl (cI, 2048, .inl ff)), (ob 8, .inl (cI, 2048, .inl fa)), (ob 9, .inl (cI, 2048, .inl fs)), (ob 10, .inl (cI, 160, .inl fj)), (ob 11, .inl (cI, 160, .inl fr)), (ob 12, .inl (cI, 160, .inl fo)), (ob 13, .inl (cI, 2048, .inl fx)), (ob2 0, .inr (9, gT ob2 tb2 ts2 tg2 tl2 tc2 tr2 tu2 tv2 tw2)), (ob2 1, .inr (0, [.long sd2, .int (nI da2), .int (nI db2), .int pr2])), (ob2 2, .inr (2, [.int (nI cn2), .ref (ob2 3), .ref (ob2 4)])), (ob2 3, .inl (cI, 160, .inl fk2)), (ob2 4, .inl (cI, 160, .inl fv2)), (ob2 5, .inr (3, gY ob2 (nI nb2) (nI ka2) (nI kb2) sm2 (nI ln2))), (ob2 6, .inl (cI, 2048, .inl fh2)), (ob2 7, .inl (cI, 2048, .inl ff2)), (ob2 8, .inl (cI, 2048, .inl fa2)), (ob2 9, .inl (cI, 2048, .inl fs2)), (ob2 10, .inl (cI, 160, .inl fj2)), (ob2 11, .inl (cI, 160, .inl fr2)), (ob2 12, .inl (cI, 160, .inl fo2)), (ob2 13, .inl (cI, 2048, .inl fx2))] s.heap := hP
  have hl := lv_entry ([.ref (ox 0), .int (nI k1), .int (nI k2)]) (n := 8) (Nat.le_of_ble_eq_true rfl)
  rw [lg_entry_eq]
  generalize (lg_sl ([.ref (ox 0), .int (nI k1), .int (nI k2)]) ++ List.replicate (8 - (lg_sl ([.ref (ox 0), .int (nI k1), .int (nI k2)])).length) Slot.unset).toArray = ls at hl ⊢
  have hl : lv_has ls 8 [(0, .ref (ox 0)), (1, .int (nI k1)), (2, .int (nI k2))] := hl
  obtain ⟨hky, hL, hO, hn1, hka, hkb, hda, hdb⟩ := id hTb
  have hnb := hL.1
  have hln := hL.2.1
  have hc := hky.1
  have hcz := hky.1
  obtain ⟨hky2, hL2, hO2, hn12, hka2, hkb2, hda2, hdb2⟩ := id hTb2
  have hcz2 := hky2.1
  refine lv_aload_n hx hb dX10_join_0 rfl (lv_at hl 0 rfl) ?_
  refine lv_iload_n hx hb dX10_join_1 rfl (lv_at hl 1 rfl) ?_
  have hPc := hP.sub (ws' := [(ox 0, .inr (10, [.ref (ox 1), .ref (ox 2), .int (nI tp), .ref (ob3 0), .ref (og 0), .ref (oq 0), .ref (ow 0)])), (ox 1, .inl (cT, 4, .inr (.inr (.inr (.inr ft)))))]) [0, 1] rfl
  have hKc := hK.sub (tys' := [(cT, .object RX9)]) [1] rfl
  have hFc := va_free0 hS hA
  refine va_callq (va_runV (As := [.int (nI k1)]) (rest := []) ⟨hx, hb, hml, hown, hts⟩ (k_tabS l D _ ox ob3 og oq ow cI cT tp ft k1 (ob 0) hk1 hft1) (cwV 1 hts g_d_join_k_tabS_74 rfl rfl rfl (by decide +kernel) ⟨(Nat.le_of_ble_eq_true rfl), (Nat.le_of_ble_eq_true rfl)⟩) (PcRC_V (q0 := 0) hPc hKc hN rfl rfl) rfl rfl hl.1 rfl (lv_room (Nat.le_of_ble_eq_true rfl)) dX10_join_2 ⟨(Nat.le_of_ble_eq_true rfl), (Nat.le_of_ble_eq_true rfl)⟩) hS (fun q _ h => hFc q h) hFc (fun r1 uu tt H locs htt hvm hw hB hz1 hk1 hS => ?_)
  have hP := va_keep hP hk1
  try dsimp only at hw
  clear hB hz1 hk1 hFc hPc hKc
  obtain rfl : r1 = some (ob 0) := hw
  refine W.eq (g2 := F0 m 5 ls [.ref (ob 0)]) rfl ?_
  refine lv_astore_n (lv' := [(3, .ref (ob 0)), (0, .ref (ox 0)), (1, .int (nI k1)), (2, .int (nI k2))]) hx hb dX10_join_5 rfl hl (by decide) rfl (fun ls hl => ?_)
  refine lv_aload_n hx hb dX10_join_6 rfl (lv_at hl 1 rfl) ?_
  refine lv_iload_n hx hb dX10_join_7 rfl (lv_at hl 3 rfl) ?_
  have hPc := hP.sub (ws' := [(ox 0, .inr (10, [.ref (ox 1), .ref (ox 2), .int (nI tp), .ref (ob3 0), .ref (og 0), .ref (oq 0), .ref (ow 0)])), (ox 1, .inl (cT, 4, .inr (.inr (.inr (.inr ft)))))]) [0, 1] rfl
  have hKc := hK.sub (tys' := [(cT, .object RX9)]) [1] rfl
  have hFc := va_free0 hS hA
  refine va_callq (va_runV (As := [.int (nI k2)]) (rest := []) ⟨hx, hb, hml, hown, hts⟩ (k_tabS l D _ ox ob3 og oq ow cI cT tp ft k2 (ob2 0) hk2 hft2) (cwV 1 hts g_d_join_k_tabS_74 rfl rfl rfl (by decide +kernel) ⟨(Nat.le_of_ble_eq_true rfl), (Nat.le_of_ble_eq_true rfl)⟩) (PcRC_V (q0 := 0) hPc hKc hN rfl rfl) rfl rfl hl.1 rfl (lv_room (Nat.le_of_ble_eq_true rfl)) dX10_join_8 ⟨(Nat.le_of_ble_eq_true rfl), (Nat.le_of_ble_eq_true rfl)⟩) hS (fun q _ h => hFc q h) hFc (fun r2 uu tt H locs htt hvm hw hB hz1 hk1 hS => ?_)
  have hP := va_keep hP hk1
  try dsimp only at hw
  clear hB hz1 hk1 hFc hPc hKc
  obtain rfl : r2 = some (ob2 0) := hw
  refine W.eq (g2 := F0 m 11 ls [.ref (ob2 0)]) rfl ?_
  refine lv_astore (lv' := [(4, .ref (ob2 0)), (3, .ref (ob 0)), (0, .ref (ox 0)), (1, .int (nI k1)), (2, .int (nI k2))]) hx hb dX10_join_11 hl (by decide) rfl (fun ls hl => ?_)
  refine lv_aload_n hx hb dX10_join_13 rfl (lv_at hl 1 rfl) ?_
  refine lv_ifnull hx hb dX10_join_14 ?_
  refine lv_aload hx hb dX10_join_17 (lv_at hl 0 rfl) ?_
  refine lv_ifnull hx hb dX10_join_19 ?_
  refine lv_iload_n hx hb dX10_join_22 rfl (lv_at hl 3 rfl) ?_
  refine lv_iload_n hx hb dX10_join_23 rfl (lv_at hl 4 rfl) ?_
  refine lv_icmp_ne (tgt := 30) hx hb dX10_join_24 (by decide) (fun hc => ?_) (fun hc => absurd hc (fun q => hne ((nI_eq (by omega) (by omega)).mp q)))
  refine lv_iconst (v := 0) hx hb dX10_join_30 (by decide) ?_
  refine lv_istore (lv' := [(5, .int 0), (4, .ref (ob2 0)), (3, .ref (ob 0)), (0, .ref (ox 0)), (1, .int (nI k1)), (2, .int (nI k2))]) hx hb dX10_join_31 hl (by decide) rfl (fun ls hl => ?_)
  refine lv_iconst (v := 0) hx hb dX10_join_33 (by decide) ?_
  refine lv_istore (lv' := [(6, .int 0), (5, .int 0), (4, .ref (ob2 0)), (3, .ref (ob 0)), (0, .ref (ox 0)), (1, .int (nI k1)), (2, .int (nI k2))]) hx hb dX10_join_34 hl (by decide) rfl (fun ls hl => ?_)
  refine lk_join l D ox ob3 og oq ow ob ob2 cI cT tp ft tb ts tg tr tb2 ts2 tg2 tl2 tc2 tr2 tu2 tv2 tw2 sd2 da2 db2 pr2 cn2 fk2 fv2 nb2 ka2 kb2 sm2 ln2 fh2 ff2 fa2 fs2 fj2 fr2 fo2 fx2 L L2 (hky2) (hKv2) hx hb hml hown hts hA (hK.sub [0, 1] rfl) hN ?_ (cn2 + 1) 0 0 L tl tc tu tv tw sd da db pr cn fk fv nb ka kb sm ln fh ff fa fs fj fr fo fx (Nat.zero_le _) (hTb) (hKv) (rfl) (by omega) _ _ _ (hP.sub [0, 1, 2, 3, 4, 5, 6, 7, 8, 9, 10, 11, 12, 13, 14, 15, 16, 17, 18, 19, 20, 21, 22, 23, 24, 25, 26, 27, 28, 29] rfl) (hD.sub [0, 1, 2, 3, 4, 5, 6, 7, 8, 9, 10, 11, 12, 13, 14, 15, 16, 17, 18, 19, 20, 21, 22, 23, 24, 25, 26, 27, 28, 29] (by decide) rfl) hS (lv_sub hl [0, 1, 3, 2, 4] rfl)
  intro y_3 sn_4 Lc_5 xtl_6 xtc_7 xtu_8 xtv_9 xtw_10 xsd_11 xda_12 xdb_13 xpr_14 xcn_15 gfk_16 gfv_17 xnb_18 xka_19 xkb_20 xsm_21 xln_22 gfh_23 gff_24 gfa_25 gfs_26 gfj_27 gfr_28 gfo_29 gfx_30 hy1_31 hTb_32 hKl_33 hJ_34 hx35 H locs ls hP hD hS hl
  refine lv_iload hx hb dX10_join_101 (lv_at hl 0 rfl) ?_
  exact W.iret (v := nI sn_4) hx hb hr (fun t ht hW => ⟨⟨nI sn_4, (xtl_6, xtc_7, xtu_8, xtv_9, xtw_10, xsd_11, xda_12, xdb_13, xpr_14, xcn_15, gfk_16, gfv_17, xnb_18, xka_19, xkb_20, xsm_21, xln_22, gfh_23, gff_24, gfa_25, gfs_26, gfj_27, gfr_28, gfo_29, gfx_30), rfl, (by (try dsimp only); first | done | exact ⟨hTb_32, by rw [hx35]; exact hKl_33, by rw [hx35]⟩), by rw [ht]; exact hP.sub [0, 1, 2, 3, 4, 5, 6, 7, 8, 9, 10, 11, 12, 13, 14, 15, 16, 17, 18, 19, 20, 21, 22, 23, 24, 25, 26, 27, 28, 29] rfl, va_K.moved hW.alike (hK.sub [0, 1] rfl), hD.sub [0, 1, 2, 3, 4, 5, 6, 7, 8, 9, 10, 11, 12, 13, 14, 15, 16, 17, 18, 19, 20, 21, 22, 23, 24, 25, 26, 27, 28, 29] (by decide) rfl⟩, hS.F ht⟩) hS.2.2 dX10_join_103

def own_d_cut : List Cond := [.fieldLink RX10 93 "ClashFree$Table" "keys" "LClashFree$Keys;", .methodLink RX10 197 yX2_keyAt, .instanceMethod yX2_keyAt, .selects RX2 yX2_keyAt yX2_keyAt, .initialized RX2, .methodLink RX10 97 yX2_find, .instanceMethod yX2_find, .selects RX2 yX2_find yX2_find, .methodLink RX10 106 yX9_take, .instanceMethod yX9_take, .selects RX9 yX9_take yX9_take, .initialized RX9, .methodLink RX10 74 yX10_tableAt, .instanceMethod yX10_tableAt, .selects RX10 yX10_tableAt yX10_tableAt, .initialized RX10, .fieldLink RX10 121 "ClashFree$Keys" "size" "I"]
def wp_d_cut : List Cond := .code yX10_cut cX10_cut 10 (some .int) :: (own_d_cut ++ (wp_k_keyAt ++ (wp_k_find ++ (wp_k_take ++ (wp_k_tabS ++ (wsX90 ++ (wsX20 ++ ([] : List Cond))))))))
set_option maxRecDepth 20000 in
theorem inown_d_cut : ∀ w ∈ own_d_cut, w ∈ lw_tbl := mem_places [518, 734, 735, 736, 117, 692, 623, 624, 701, 702, 703, 116, 610, 612, 2, 106, 476] (by decide +kernel)
set_option maxRecDepth 20000 in
theorem in_d_cut : ∀ w ∈ wp_d_cut, w ∈ lw_tbl := List.forall_mem_cons.mpr ⟨List.mem_of_getElem? (i := 894) (by decide +kernel), List.forall_mem_append.mpr ⟨inown_d_cut, List.forall_mem_append.mpr ⟨in_k_keyAt, List.forall_mem_append.mpr ⟨in_k_find, List.forall_mem_append.mpr ⟨in_k_take, List.forall_mem_append.mpr ⟨in_k_tabS, List.forall_mem_append.mpr ⟨lwb_X9, List.forall_mem_append.mpr ⟨lwb_X2, fun _ h => absurd h List.not_mem_nil⟩⟩⟩⟩⟩⟩⟩⟩
set_option maxRecDepth 20000 in
theorem good_d_cut : wp_d_cut.all goodWord = true := by decide +kernel
set_option maxRecDepth 20000 in
theorem g_d_cut_k_keyAt_197 : GoodIn wp_d_cut (wsV RX10 197 RX2 yX2_keyAt wp_k_keyAt) := goodIn_sub (List.forall_mem_append.mpr ⟨List.forall_mem_cons.mpr ⟨(List.mem_of_getElem? (i := 2) rfl), List.forall_mem_cons.mpr ⟨(List.mem_of_getElem? (i := 3) rfl), List.forall_mem_cons.mpr ⟨(List.mem_of_getElem? (i := 4) rfl), List.forall_mem_cons.mpr ⟨(List.mem_of_getElem? (i := 5) rfl), fun _ h => absurd h List.not_mem_nil⟩⟩⟩⟩, (fun _ h => (List.mem_cons_of_mem _ (List.mem_append_right _ (List.mem_append_left _ h))))⟩) (by decide +kernel)
set_option maxRecDepth 20000 in
theorem g_d_cut_k_find_97 : GoodIn wp_d_cut (wsV RX10 97 RX2 yX2_find wp_k_find) := goodIn_sub (List.forall_mem_append.mpr ⟨List.forall_mem_cons.mpr ⟨(List.mem_of_getElem? (i := 6) rfl), List.forall_mem_cons.mpr ⟨(List.mem_of_getElem? (i := 7) rfl), List.forall_mem_cons.mpr ⟨(List.mem_of_getElem? (i := 8) rfl), List.forall_mem_cons.mpr ⟨(List.mem_of_getElem? (i := 5) rfl), fun _ h => absurd h List.not_mem_nil⟩⟩⟩⟩, (fun _ h => (List.mem_cons_of_mem _ (List.mem_append_right _ (List.mem_append_right _ (List.mem_append_left _ h)))))⟩) (by decide +kernel)
set_option maxRecDepth 20000 in
theorem g_d_cut_k_take_106 : GoodIn wp_d_cut (wsV RX10 106 RX9 yX9_take wp_k_take) := goodIn_sub (List.forall_mem_append.mpr ⟨List.forall_mem_cons.mpr ⟨(List.mem_of_getElem? (i := 9) rfl), List.forall_mem_cons.mpr ⟨(List.mem_of_getElem? (i := 10) rfl), List.forall_mem_cons.mpr ⟨(List.mem_of_getElem? (i := 11) rfl), List.forall_mem_cons.mpr ⟨(List.mem_of_getElem? (i := 12) rfl), fun _ h => absurd h List.not_mem_nil⟩⟩⟩⟩, (fun _ h => (List.mem_cons_of_mem _ (List.mem_append_right _ (List.mem_append_right _ (List.mem_append_right _ (List.mem_append_left _ h))))))⟩) (by decide +kernel)
set_option maxRecDepth 20000 in
theorem g_d_cut_k_tabS_74 : GoodIn wp_d_cut (wsV RX10 74 RX10 yX10_tableAt wp_k_tabS) := goodIn_sub (List.forall_mem_append.mpr ⟨List.forall_mem_cons.mpr ⟨(List.mem_of_getElem? (i := 13) rfl), List.forall_mem_cons.mpr ⟨(List.mem_of_getElem? (i := 14) rfl), List.forall_mem_cons.mpr ⟨(List.mem_of_getElem? (i := 15) rfl), List.forall_mem_cons.mpr ⟨(List.mem_of_getElem? (i := 16) rfl), fun _ h => absurd h List.not_mem_nil⟩⟩⟩⟩, (fun _ h => (List.mem_cons_of_mem _ (List.mem_append_right _ (List.mem_append_right _ (List.mem_append_right _ (List.mem_append_right _ (List.mem_append_left _ h)))))))⟩) (by decide +kernel)
set_option maxHeartbeats 4000000 in
set_option maxRecDepth 100000 in
theorem lk_cut (l : Launch) {p : Program} {e : Env} {s : State} {m : MethodId} {args : Array Value} {below : List Frame} {meth : Method} {c : Code} {Q : State → Prop} {A : Nat → Prop} (D : va_G) (ox : Nat → Nat) (ob3 : Nat → Nat) (og : Nat → Nat) (oq : Nat → Nat) (ow : Nat → Nat) (ob : Nat → Nat) (ob2 : Nat → Nat) (cI : ClassId) (cT : ClassId) (tp : Nat) (ft : Nat → Option Nat) (tb : Int32) (ts : Int32) (tg : Int32) (tr : Int32) (tb2 : Int32) (ts2 : Int32) (tg2 : Int32) (tl2 : Int32) (tc2 : Int32) (tr2 : Int32) (tu2 : Int32) (tv2 : Int32) (tw2 : Int32) (sd2 : Int64) (da2 : Nat) (db2 : Nat) (pr2 : Int32) (cn2 : Nat) (fk2 : Nat → Int32) (fv2 : Nat → Int32) (nb2 : Nat) (ka2 : Nat) (kb2 : Nat) (sm2 : Int32) (ln2 : Nat) (fh2 : Nat → Int32) (ff2 : Nat → Int32) (fa2 : Nat → Int32) (fs2 : Nat → Int32) (fj2 : Nat → Int32) (fr2 : Nat → Int32) (fo2 : Nat → Int32) (fx2 : Nat → Int32) (z3 : Int32) (L : List (Nat × Int32)) (L2 : List (Nat × Int32)) (hky2 : KyC fk2 cn2) (hKv2 : KvT fk2 fv2 cn2 L2) (hx : p.tables.exec = Jvm.exec) (hb : c.code = cX10_cut) (hml : c.maxLocals = 10) (hown : s.vm.findClass RX10 = some m.cls) (hts : ∀ w ∈ wp_d_cut, w.before args s = true) (hA : ∀ q, s.heap.size ≤ q → A q) (hK : va_K D vwCl [(cI, .int), (cT, .object RX9)] s) (hN : NC s) (kx110 : ∀ (n8 : Nat), ∀ (y : Nat), ∀ (sn : Nat), ∀ (Lc : List (Nat × Int32)), ∀ (xtl : Int32), ∀ (xtc : Int32), ∀ (xtu : Int32), ∀ (xtv : Int32), ∀ (xtw : Int32), ∀ (xsd : Int64), ∀ (xda : Nat), ∀ (xdb : Nat), ∀ (xpr : Int32), ∀ (xcn : Nat), ∀ (gfk : Nat → Int32), ∀ (gfv : Nat → Int32), ∀ (xnb : Nat), ∀ (xka : Nat), ∀ (xkb : Nat), ∀ (xsm : Int32), ∀ (xln : Nat), ∀ (gfh : Nat → Int32), ∀ (gff : Nat → Int32), ∀ (gfa : Nat → Int32), ∀ (gfs : Nat → Int32), ∀ (gfj : Nat → Int32), ∀ (gfr : Nat → Int32), ∀ (gfo : Nat → Int32), ∀ (gfx : Nat → Int32), (n8 ≤ 160) → (y + n8 = xcn) → (TbI gfk gfj gfh gfo xcn xnb xka xkb xln xda xdb) → (KvT gfk gfv xcn Lc) → (CtI L L2 Lc z3 y sn) → (Lc = ctF L L2 z3) → (sn = L.length - (ctF L L2 z3).length) → ∀ (H : Heap) (locs : List Loc) (ls : Array Slot), va_P D vwCl [(ox 0, .inr (10, [.ref (ox 1), .ref (ox 2), .int (nI tp), .ref (ob3 0), .ref (og 0), .ref (oq 0), .ref (ow 0)])), (ox 1, .inl (cT, 4, .inr (.inr (.inr (.inr ft))))), (ob 0, .inr (9, gT ob tb ts tg xtl xtc tr xtu xtv xtw)), (ob 1, .inr (0, [.long xsd, .int (nI xda), .int (nI xdb), .int xpr])), (ob 2, .inr (2, [.int (nI xcn), .ref (ob 3), .ref (ob 4)])), (ob 3, .inl (cI, 160, .inl gfk)), (ob 4, .inl (cI, 160, .inl gfv)), (ob 5, .inr (3, gY ob (nI xnb) (nI xka) (nI xkb) xsm (nI xln))), (ob 6, .inl (cI, 2048, .inl gfh)), (ob 7, .inl (cI, 2048, .inl gff)), (ob 8, .inl (cI, 2048, .inl gfa)), (ob 9, .inl (cI, 2048, .inl gfs)), (ob 10, .inl (cI, 160, .inl gfj)), (ob 11, .inl (cI, 160, .inl gfr)), (ob 12, .inl (cI, 160, .inl gfo)), (ob 13, .inl (cI, 2048, .inl gfx)), (ob2 0, .inr (9, gT ob2 tb2 ts2 tg2 tl2 tc2 tr2 tu2 tv2 tw2)), (ob2 1, .inr (0, [.long sd2, .int (nI da2), .int (nI db2), .int pr2])), (ob2 2, .inr (2, [.int (nI cn2), .ref (ob2 3), .ref (ob2 4)])), (ob2 3, .inl (cI, 160, .inl fk2)), (ob2 4, .inl (cI, 160, .inl fv2)), (ob2 5, .inr (3, gY ob2 (nI nb2) (nI ka2) (nI kb2) sm2 (nI ln2))), (ob2 6, .inl (cI, 2048, .inl fh2)), (ob2 7, .inl (cI, 2048, .inl ff2)), (ob2 8, .inl (cI, 2048, .inl fa2)), (ob2 9, .inl (cI, 2048, .inl fs2)), (ob2 10, .inl (cI, 160, .inl fj2)), (ob2 11, .inl (cI, 160, .inl fr2)), (ob2 12, .inl (cI, 160, .inl fo2)), (ob2 13, .inl (cI, 2048, .inl fx2))] H → va_D A [(ox 0, .inr (10, [.ref (ox 1), .ref (ox 2), .int (nI tp), .ref (ob3 0), .ref (og 0), .ref (oq 0), .ref (ow 0)])), (ox 1, .inl (cT, 4, .inr (.inr (.inr (.inr ft))))), (ob 0, .inr (9, gT ob tb ts tg xtl xtc tr xtu xtv xtw)), (ob 1, .inr (0, [.long xsd, .int (nI xda), .int (nI xdb), .int xpr])), (ob 2, .inr (2, [.int (nI xcn), .ref (ob 3), .ref (ob 4)])), (ob 3, .inl (cI, 160, .inl gfk)), (ob 4, .inl (cI, 160, .inl gfv)), (ob 5, .inr (3, gY ob (nI xnb) (nI xka) (nI xkb) xsm (nI xln))), (ob 6, .inl (cI, 2048, .inl gfh)), (ob 7, .inl (cI, 2048, .inl gff)), (ob 8, .inl (cI, 2048, .inl gfa)), (ob 9, .inl (cI, 2048, .inl gfs)), (ob 10, .inl (cI, 160, .inl gfj)), (ob 11, .inl (cI, 160, .inl gfr)), (ob 12, .inl (cI, 160, .inl gfo)), (ob 13, .inl (cI, 2048, .inl gfx)), (ob2 0, .inr (9, gT ob2 tb2 ts2 tg2 tl2 tc2 tr2 tu2 tv2 tw2)), (ob2 1, .inr (0, [.long sd2, .int (nI da2), .int (nI db2), .int pr2])), (ob2 2, .inr (2, [.int (nI cn2), .ref (ob2 3), .ref (ob2 4)])), (ob2 3, .inl (cI, 160, .inl fk2)), (ob2 4, .inl (cI, 160, .inl fv2)), (ob2 5, .inr (3, gY ob2 (nI nb2) (nI ka2) (nI kb2) sm2 (nI ln2))), (ob2 6, .inl (cI, 2048, .inl fh2)), (ob2 7, .inl (cI, 2048, .inl ff2)), (ob2 8, .inl (cI, 2048, .inl fa2)), (ob2 9, .inl (cI, 2048, .inl fs2)), (ob2 10, .inl (cI, 160, .inl fj2)), (ob2 11, .inl (cI, 160, .inl fr2)), (ob2 12, .inl (cI, 160, .inl fo2)), (ob2 13, .inl (cI, 2048, .inl fx2))] → va_S A s.heap H locs → lv_has ls 10 [(6, .int (nI sn))] → W p l e ({ frames := 9, cells := 0, slots := 0, locals := 330 }) s m args below meth c H locs 0 0 Q (F0 m 110 ls [])) : ∀ (N : Nat), ∀ (n8 : Nat), ∀ (y : Nat), ∀ (sn : Nat), ∀ (Lc : List (Nat × Int32)), ∀ (xtl : Int32), ∀ (xtc : Int32), ∀ (xtu : Int32), ∀ (xtv : Int32), ∀ (xtw : Int32), ∀ (xsd : Int64), ∀ (xda : Nat), ∀ (xdb : Nat), ∀ (xpr : Int32), ∀ (xcn : Nat), ∀ (gfk : Nat → Int32), ∀ (gfv : Nat → Int32), ∀ (xnb : Nat), ∀ (xka : Nat), ∀ (xkb : Nat), ∀ (xsm : Int32), ∀ (xln : Nat), ∀ (gfh : Nat → Int32), ∀ (gff : Nat → Int32), ∀ (gfa : Nat → Int32), ∀ (gfs : Nat → Int32), ∀ (gfj : Nat → Int32), ∀ (gfr : Nat → Int32), ∀ (gfo : Nat → Int32), ∀ (gfx : Nat → Int32), (n8 ≤ 160) → (y + n8 = xcn) → (TbI gfk gfj gfh gfo xcn xnb xka xkb xln xda xdb) → (KvT gfk gfv xcn Lc) → (CtI L L2 Lc z3 y sn) → n8 < N → ∀ (H : Heap) (locs : List Loc) (ls : Array Slot), va_P D vwCl [(ox 0, .inr (10, [.ref (ox 1), .ref (ox 2), .int (nI tp), .ref (ob3 0), .ref (og 0), .ref (oq 0), .ref (ow 0)])), (ox 1, .inl (cT, 4, .inr (.inr (.inr (.inr ft))))), (ob 0, .inr (9, gT ob tb ts tg xtl xtc tr xtu xtv xtw)), (ob 1, .inr (0, [.long xsd, .int (nI xda), .int (nI xdb), .int xpr])), (ob 2, .inr (2, [.int (nI xcn), .ref (ob 3), .ref (ob 4)])), (ob 3, .inl (cI, 160, .inl gfk)), (ob 4, .inl (cI, 160, .inl gfv)), (ob 5, .inr (3, gY ob (nI xnb) (nI xka) (nI xkb) xsm (nI xln))), (ob 6, .inl (cI, 2048, .inl gfh)), (ob 7, .inl (cI, 2048, .inl gff)), (ob 8, .inl (cI, 2048, .inl gfa)), (ob 9, .inl (cI, 2048, .inl gfs)), (ob 10, .inl (cI, 160, .inl gfj)), (ob 11, .inl (cI, 160, .inl gfr)), (ob 12, .inl (cI, 160, .inl gfo)), (ob 13, .inl (cI, 2048, .inl gfx)), (ob2 0, .inr (9, gT ob2 tb2 ts2 tg2 tl2 tc2 tr2 tu2 tv2 tw2)), (ob2 1, .inr (0, [.long sd2, .int (nI da2), .int (nI db2), .int pr2])), (ob2 2, .inr (2, [.int (nI cn2), .ref (ob2 3), .ref (ob2 4)])), (ob2 3, .inl (cI, 160, .inl fk2)), (ob2 4, .inl (cI, 160, .inl fv2)), (ob2 5, .inr (3, gY ob2 (nI nb2) (nI ka2) (nI kb2) sm2 (nI ln2))), (ob2 6, .inl (cI, 2048, .inl fh2)), (ob2 7, .inl (cI, 2048, .inl ff2)), (ob2 8, .inl (cI, 2048, .inl fa2)), (ob2 9, .inl (cI, 2048, .inl fs2)), (ob2 10, .inl (cI, 160, .inl fj2)), (ob2 11, .inl (cI, 160, .inl fr2)), (ob2 12, .inl (cI, 160, .inl fo2)), (ob2 13, .inl (cI, 2048, .inl fx2))] H → va_D A [(ox 0, .inr (10, [.ref (ox 1), .ref (ox 2), .int (nI tp), .ref (ob3 0), .ref (og 0), .ref (oq 0), .ref (ow 0)])), (ox 1, .inl (cT, 4, .inr (.inr (.inr (.inr ft))))), (ob 0, .inr (9, gT ob tb ts tg xtl xtc tr xtu xtv xtw)), (ob 1, .inr (0, [.long xsd, .int (nI xda), .int (nI xdb), .int xpr])), (ob 2, .inr (2, [.int (nI xcn), .ref (ob 3), .ref (ob 4)])), (ob 3, .inl (cI, 160, .inl gfk)), (ob 4, .inl (cI, 160, .inl gfv)), (ob 5, .inr (3, gY ob (nI xnb) (nI xka) (nI xkb) xsm (nI xln))), (ob 6, .inl (cI, 2048, .inl gfh)), (ob 7, .inl (cI, 2048, .inl gff)), (ob 8, .inl (cI, 2048, .inl gfa)), (ob 9, .inl (cI, 2048, .inl gfs)), (ob 10, .inl (cI, 160, .inl gfj)), (ob 11, .inl (cI, 160, .inl gfr)), (ob 12, .inl (cI, 160, .inl gfo)), (ob 13, .inl (cI, 2048, .inl gfx)), (ob2 0, .inr (9, gT ob2 tb2 ts2 tg2 tl2 tc2 tr2 tu2 tv2 tw2)), (ob2 1, .inr (0, [.long sd2, .int (nI da2), .int (nI db2), .int pr2])), (ob2 2, .inr (2, [.int (nI cn2), .ref (ob2 3), .ref (ob2 4)])), (ob2 3, .inl (cI, 160, .inl fk2)), (ob2 4, .inl (cI, 160, .inl fv2)), (ob2 5, .inr (3, gY ob2 (nI nb2) (nI ka2) (nI kb2) sm2 (nI ln2))), (ob2 6, .inl (cI, 2048, .inl fh2)), (ob2 7, .inl (cI, 2048, .inl ff2)), (ob2 8, .inl (cI, 2048, .inl fa2)), (ob2 9, .inl (cI, 2048, .inl fs2)), (ob2 10, .inl (cI, 160, .inl fj2)), (ob2 11, .inl (cI, 160, .inl fr2)), (ob2 12, .inl (cI, 160, .inl fo2)), (ob2 13, .inl (cI, 2048, .inl fx2))] → va_S A s.heap H locs → lv_has ls 10 [(8, .int (nI n8)), (7, .int (nI y)), (6, .int (nI sn)), (4, .ref (ob 0)), (5, .ref (ob2 0)), (0, .ref (ox 0)), (3, .int z3)] → W p l e ({ frames := 9, cells := 0, slots := 0, locals := 330 }) s m args below meth c H locs 0 0 Q (F0 m 48 ls []) := by
  have hin_X9 : ∀ w ∈ wsX90, w ∈ wp_d_cut := fun _ h => (List.mem_cons_of_mem _ (List.mem_append_right _ (List.mem_append_right _ (List.mem_append_right _ (List.mem_append_right _ (List.mem_append_right _ (List.mem_append_left _ h)))))))
  have hin_X2 : ∀ w ∈ wsX20, w ∈ wp_d_cut := fun _ h => (List.mem_cons_of_mem _ (List.mem_append_right _ (List.mem_append_right _ (List.mem_append_right _ (List.mem_append_right _ (List.mem_append_right _ (List.mem_append_right _ (List.mem_append_left _ h))))))))
  intro N
  induction N with
  | zero =>
    intro n8 y sn Lc xtl xtc xtu xtv xtw xsd xda xdb xpr xcn gfk gfv xnb xka xkb xsm xln gfh gff gfa gfs gfj gfr gfo gfx hn8 hny hTb hKl hC hm
    exact absurd hm (Nat.not_lt_zero _)
  | succ N ih =>
    intro n8 y sn Lc xtl xtc xtu xtv xtw xsd xda xdb xpr xcn gfk gfv xnb xka xkb xsm xln gfh gff gfa gfs gfj gfr gfo gfx hn8 hny hTb hKl hC hm H locs ls hP hD hS hl
    obtain ⟨hky, hL, hO, hn1, hka, hkb, hda, hdb⟩ := id hTb
    have hnb := hL.1
    have hln := hL.2.1
    have hc := hky.1
    have hcz := hky.1
    have hcz2 := hky2.1
    obtain ⟨-, K, hK1, hK2, eK⟩ := id hKl
    have hKT : KyT gfk xcn K := ⟨hcz, hK1, hK2⟩
    refine lv_iload hx hb dX10_cut_48 (lv_at hl 0 rfl) ?_
    refine lv_if_le (tgt := 110) hx hb dX10_cut_50 (by decide) (fun hc1 => ?_) (fun hc1 => ?_)
    ·
      have hn0 : n8 = 0 := by
        have := (nI_leI (b := 0) (by omega) (by decide)).mp hc1
        omega
      exact kx110 n8 y sn Lc xtl xtc xtu xtv xtw xsd xda xdb xpr xcn gfk gfv xnb xka xkb xsm xln gfh gff gfa gfs gfj gfr gfo gfx (hn8) (hny) (hTb) (hKl) (hC) ((CtI_e hC (by rw [hKl.len]; omega)).1) ((CtI_e hC (by rw [hKl.len]; omega)).2) H locs ls (hP.sub [0, 1, 2, 3, 4, 5, 6, 7, 8, 9, 10, 11, 12, 13, 14, 15, 16, 17, 18, 19, 20, 21, 22, 23, 24, 25, 26, 27, 28, 29] rfl) (hD.sub [0, 1, 2, 3, 4, 5, 6, 7, 8, 9, 10, 11, 12, 13, 14, 15, 16, 17, 18, 19, 20, 21, 22, 23, 24, 25, 26, 27, 28, 29] (by decide) rfl) hS (lv_sub hl [2] rfl)
    ·
      have hn1_ : 1 ≤ n8 := by
        rcases Nat.eq_zero_or_pos n8 with z | z
        · exact absurd (by rw [z]; decide) hc1
        · exact z
      have hyl : y < xcn := by omega
      obtain ⟨kx, hkd⟩ : ∃ q, q = K y := ⟨_, rfl⟩
      have hkx : kx < 2147483647 := by rw [hkd]; exact (hK1 y hyl).2
      have ekx : gfk y = nI kx := by rw [hkd]; exact (hK1 y hyl).1
      refine lv_aload hx hb dX10_cut_53 (lv_at hl 3 rfl) ?_
      refine va_get (D := D) (ci := 9) (v := .ref (ob 2)) (C := RX9) (T := TX9) (N := 12) hx hb hts hin_X9 hown hK hP 2 rfl rfl 10 (by decide) (hts (.fieldLink RX10 93 "ClashFree$Table" "keys" "LClashFree$Keys;") (List.mem_of_getElem? (i := 1) rfl)) (fun _ h9 => h9) rfl dX10_cut_55 ?_
      refine lv_iload hx hb dX10_cut_58 (lv_at hl 1 rfl) ?_
      have hPc := hP.sub (ws' := [(ob 2, .inr (2, [.int (nI xcn), .ref (ob 3), .ref (ob 4)])), (ob 3, .inl (cI, 160, .inl gfk))]) [4, 5] rfl
      have hKc := hK.sub (tys' := [(cI, .int)]) [0] rfl
      have hFc := va_free0 hS hA
      refine va_calli (va_runV (As := [.int (nI y)]) (rest := []) ⟨hx, hb, hml, hown, hts⟩ (k_keyAt l D _ ob cI xcn gfk (nI y) hcz) (cwV 1 hts g_d_cut_k_keyAt_197 rfl rfl rfl (by decide +kernel) ⟨(Nat.le_of_ble_eq_true rfl), (Nat.le_of_ble_eq_true rfl)⟩) (PcRC_V (q0 := 0) hPc hKc hN rfl rfl) rfl rfl hl.1 rfl (lv_room (Nat.le_of_ble_eq_true rfl)) dX10_cut_60 ⟨(Nat.le_of_ble_eq_true rfl), (Nat.le_of_ble_eq_true rfl)⟩) hS (fun q _ h => hFc q h) hFc (fun r2 uu tt H locs htt hvm hw hB hz1 hk1 hS => ?_)
      have hP := va_keep hP hk1
      try dsimp only at hw
      clear hB hz1 hk1 hFc hPc hKc
      obtain ⟨hka_r2, hkb_r2⟩ := hw
      obtain rfl : r2 = nI kx := (hka_r2 y hyl rfl).trans ekx
      refine lv_istore (lv' := [(9, .int (nI kx)), (8, .int (nI n8)), (7, .int (nI y)), (6, .int (nI sn)), (4, .ref (ob 0)), (5, .ref (ob2 0)), (0, .ref (ox 0)), (3, .int z3)]) hx hb dX10_cut_63 hl (by decide) rfl (fun ls hl => ?_)
      refine lv_aload hx hb dX10_cut_65 (lv_at hl 5 rfl) ?_
      refine va_get (D := D) (ci := 9) (v := .ref (ob2 2)) (C := RX9) (T := TX9) (N := 12) hx hb hts hin_X9 hown hK hP 16 rfl rfl 10 (by decide) (hts (.fieldLink RX10 93 "ClashFree$Table" "keys" "LClashFree$Keys;") (List.mem_of_getElem? (i := 1) rfl)) (fun _ h9 => h9) rfl dX10_cut_67 ?_
      refine lv_iload hx hb dX10_cut_70 (lv_at hl 0 rfl) ?_
      have hPc := hP.sub (ws' := [(ob2 2, .inr (2, [.int (nI cn2), .ref (ob2 3), .ref (ob2 4)])), (ob2 3, .inl (cI, 160, .inl fk2))]) [18, 19] rfl
      have hKc := hK.sub (tys' := [(cI, .int)]) [0] rfl
      have hFc := va_free0 hS hA
      refine va_calli (va_runV (As := [.int (nI kx)]) (rest := []) ⟨hx, hb, hml, hown, hts⟩ (k_find l D _ ob2 cI cn2 fk2 (nI kx) hcz2) (cwV 1 hts g_d_cut_k_find_97 rfl rfl rfl (by decide +kernel) ⟨(Nat.le_of_ble_eq_true rfl), (Nat.le_of_ble_eq_true rfl)⟩) (PcRC_V (q0 := 0) hPc hKc hN rfl rfl) rfl rfl hl.1 rfl (lv_room (Nat.le_of_ble_eq_true rfl)) dX10_cut_72 ⟨(Nat.le_of_ble_eq_true rfl), (Nat.le_of_ble_eq_true rfl)⟩) hS (fun q _ h => hFc q h) hFc (fun r3 uu tt H locs htt hvm hw hB hz1 hk1 hS => ?_)
      have hP := va_keep hP hk1
      try dsimp only at hw
      clear hB hz1 hk1 hFc hPc hKc
      rcases hw with ⟨rfl, hF_rk4⟩ | ⟨erk4_, hF_rk4⟩
      ·
        refine lv_if_lt (tgt := 82) hx hb dX10_cut_75 (by decide) (fun hc => ?_) (fun hc => absurd (by decide) hc)
        refine lv_iconst (v := 0) hx hb dX10_cut_82 (by decide) ?_
        refine lv_iload_n hx hb dX10_cut_83 rfl (lv_at hl 7 rfl) ?_
        refine lv_icmp_ne (tgt := 101) hx hb dX10_cut_84 (by decide) (fun hc5 => ?_) (fun hc5 => ?_)
        ·
          refine lv_iinc (v := nI (y + 1)) (lv' := [(7, .int (nI (y + 1))), (9, .int (nI kx)), (8, .int (nI n8)), (6, .int (nI sn)), (4, .ref (ob 0)), (5, .ref (ob2 0)), (0, .ref (ox 0)), (3, .int z3)]) hx hb dX10_cut_101 hl (k := 2) rfl (nI_1 _) (by decide) rfl (fun ls hl => ?_)
          refine lv_iinc (v := nI (n8 - 1)) (lv' := [(8, .int (nI (n8 - 1))), (7, .int (nI (y + 1))), (9, .int (nI kx)), (6, .int (nI sn)), (4, .ref (ob 0)), (5, .ref (ob2 0)), (0, .ref (ox 0)), (3, .int z3)]) hx hb dX10_cut_104 hl (k := 2) rfl (sb_m1 (by omega)) (by decide) rfl (fun ls hl => ?_)
          refine lv_goto (tgt := 48) hx hb dX10_cut_107 (by decide) ?_
          exact ih (n8 - 1) (y + 1) sn Lc xtl xtc xtu xtv xtw xsd xda xdb xpr xcn gfk gfv xnb xka xkb xsm xln gfh gff gfa gfs gfj gfr gfo gfx (by omega) (by omega) (hTb) (hKl) (eK.symm ▸ CtI_k (eK ▸ hC) hyl (fun q => hc5 ((ctK_0 (hKv2.nf hkx hF_rk4).2.1).symm.trans (hkd.symm ▸ q)))) (by omega) H locs ls (hP.sub [0, 1, 2, 3, 4, 5, 6, 7, 8, 9, 10, 11, 12, 13, 14, 15, 16, 17, 18, 19, 20, 21, 22, 23, 24, 25, 26, 27, 28, 29] rfl) (hD.sub [0, 1, 2, 3, 4, 5, 6, 7, 8, 9, 10, 11, 12, 13, 14, 15, 16, 17, 18, 19, 20, 21, 22, 23, 24, 25, 26, 27, 28, 29] (by decide) rfl) hS (lv_sub hl [0, 1, 3, 4, 5, 6, 7] rfl)
        ·
          refine lv_aload hx hb dX10_cut_87 (lv_at hl 4 rfl) ?_
          refine lv_iload hx hb dX10_cut_89 (lv_at hl 0 rfl) ?_
          have hPc := hP.sub (ws' := [(ob 0, .inr (9, gT ob tb ts tg xtl xtc tr xtu xtv xtw)), (ob 1, .inr (0, [.long xsd, .int (nI xda), .int (nI xdb), .int xpr])), (ob 2, .inr (2, [.int (nI xcn), .ref (ob 3), .ref (ob 4)])), (ob 3, .inl (cI, 160, .inl gfk)), (ob 4, .inl (cI, 160, .inl gfv)), (ob 5, .inr (3, gY ob (nI xnb) (nI xka) (nI xkb) xsm (nI xln))), (ob 6, .inl (cI, 2048, .inl gfh)), (ob 7, .inl (cI, 2048, .inl gff)), (ob 8, .inl (cI, 2048, .inl gfa)), (ob 9, .inl (cI, 2048, .inl gfs)), (ob 10, .inl (cI, 160, .inl gfj)), (ob 11, .inl (cI, 160, .inl gfr)), (ob 12, .inl (cI, 160, .inl gfo)), (ob 13, .inl (cI, 2048, .inl gfx))]) [2, 3, 4, 5, 6, 7, 8, 9, 10, 11, 12, 13, 14, 15] rfl
          have hKc := hK.sub (tys' := [(cI, .int)]) [0] rfl
          have hDc := hD.sub (ws' := [(ob 0, .inr (9, gT ob tb ts tg xtl xtc tr xtu xtv xtw)), (ob 1, .inr (0, [.long xsd, .int (nI xda), .int (nI xdb), .int xpr])), (ob 2, .inr (2, [.int (nI xcn), .ref (ob 3), .ref (ob 4)])), (ob 3, .inl (cI, 160, .inl gfk)), (ob 4, .inl (cI, 160, .inl gfv)), (ob 5, .inr (3, gY ob (nI xnb) (nI xka) (nI xkb) xsm (nI xln))), (ob 6, .inl (cI, 2048, .inl gfh)), (ob 7, .inl (cI, 2048, .inl gff)), (ob 8, .inl (cI, 2048, .inl gfa)), (ob 9, .inl (cI, 2048, .inl gfs)), (ob 10, .inl (cI, 160, .inl gfj)), (ob 11, .inl (cI, 160, .inl gfr)), (ob 12, .inl (cI, 160, .inl gfo)), (ob 13, .inl (cI, 2048, .inl gfx))]) [2, 3, 4, 5, 6, 7, 8, 9, 10, 11, 12, 13, 14, 15] (by decide) rfl
          have hFc := va_free (wc := [(ob 0, .inr (9, gT ob tb ts tg xtl xtc tr xtu xtv xtw)), (ob 1, .inr (0, [.long xsd, .int (nI xda), .int (nI xdb), .int xpr])), (ob 2, .inr (2, [.int (nI xcn), .ref (ob 3), .ref (ob 4)])), (ob 3, .inl (cI, 160, .inl gfk)), (ob 4, .inl (cI, 160, .inl gfv)), (ob 5, .inr (3, gY ob (nI xnb) (nI xka) (nI xkb) xsm (nI xln))), (ob 6, .inl (cI, 2048, .inl gfh)), (ob 7, .inl (cI, 2048, .inl gff)), (ob 8, .inl (cI, 2048, .inl gfa)), (ob 9, .inl (cI, 2048, .inl gfs)), (ob 10, .inl (cI, 160, .inl gfj)), (ob 11, .inl (cI, 160, .inl gfr)), (ob 12, .inl (cI, 160, .inl gfo)), (ob 13, .inl (cI, 2048, .inl gfx))]) hD hS hA [2, 3, 4, 5, 6, 7, 8, 9, 10, 11, 12, 13, 14, 15] rfl
          refine va_calli (va_runV (As := [.int (nI kx)]) (rest := []) ⟨hx, hb, hml, hown, hts⟩ (k_take l D _ ob cI tb ts tg xtl xtc tr xtu xtv xtw xsd xda xdb xpr xcn gfk gfv xnb xka xkb xsm xln gfh gff gfa gfs gfj gfr gfo gfx (nI kx) hTb) (cwV 1 hts g_d_cut_k_take_106 rfl rfl rfl (by decide +kernel) ⟨(Nat.le_of_ble_eq_true rfl), (Nat.le_of_ble_eq_true rfl)⟩) (PcWC_V (q0 := 0) hPc hKc hDc hN rfl rfl) rfl rfl hl.1 rfl (lv_room (Nat.le_of_ble_eq_true rfl)) dX10_cut_91 ⟨(Nat.le_of_ble_eq_true rfl), (Nat.le_of_ble_eq_true rfl)⟩) hS (fun q _ h => hFc q h) hFc (fun r6 uu tt H locs htt hvm hw hB hz1 hk1 hS => ?_)
          obtain ⟨w7, w8, w9, w10, w11, w12, w13, w14, w15, w16, w17, w18, w19, w20, w21, w22, w23, w24, w25, w26, w27, w28, w29, w30, w31⟩ := uu
          obtain ⟨hP1, hK1, hD1⟩ := hB
          rw [htt] at hP1
          have hK1 := va_K.moved hvm.symm hK1
          have hP1 : va_P D vwCl [(ob 0, .inr (9, gT ob tb ts tg w7 w8 tr w9 w10 w11)), (ob 1, .inr (0, [.long w12, .int (nI w13), .int (nI w14), .int w15])), (ob 2, .inr (2, [.int (nI w16), .ref (ob 3), .ref (ob 4)])), (ob 3, .inl (cI, 160, .inl w17)), (ob 4, .inl (cI, 160, .inl w18)), (ob 5, .inr (3, gY ob (nI w19) (nI w20) (nI w21) w22 (nI w23))), (ob 6, .inl (cI, 2048, .inl w24)), (ob 7, .inl (cI, 2048, .inl w25)), (ob 8, .inl (cI, 2048, .inl w26)), (ob 9, .inl (cI, 2048, .inl w27)), (ob 10, .inl (cI, 160, .inl w28)), (ob 11, .inl (cI, 160, .inl w29)), (ob 12, .inl (cI, 160, .inl w30)), (ob 13, .inl (cI, 2048, .inl w31))] H := hP1
          obtain ⟨hP, hD⟩ := va_join (wr := [(ox 0, .inr (10, [.ref (ox 1), .ref (ox 2), .int (nI tp), .ref (ob3 0), .ref (og 0), .ref (oq 0), .ref (ow 0)])), (ox 1, .inl (cT, 4, .inr (.inr (.inr (.inr ft))))), (ob2 0, .inr (9, gT ob2 tb2 ts2 tg2 tl2 tc2 tr2 tu2 tv2 tw2)), (ob2 1, .inr (0, [.long sd2, .int (nI da2), .int (nI db2), .int pr2])), (ob2 2, .inr (2, [.int (nI cn2), .ref (ob2 3), .ref (ob2 4)])), (ob2 3, .inl (cI, 160, .inl fk2)), (ob2 4, .inl (cI, 160, .inl fv2)), (ob2 5, .inr (3, gY ob2 (nI nb2) (nI ka2) (nI kb2) sm2 (nI ln2))), (ob2 6, .inl (cI, 2048, .inl fh2)), (ob2 7, .inl (cI, 2048, .inl ff2)), (ob2 8, .inl (cI, 2048, .inl fa2)), (ob2 9, .inl (cI, 2048, .inl fs2)), (ob2 10, .inl (cI, 160, .inl fj2)), (ob2 11, .inl (cI, 160, .inl fr2)), (ob2 12, .inl (cI, 160, .inl fo2)), (ob2 13, .inl (cI, 2048, .inl fx2))]) (w1 := [(ob 0, .inr (9, gT ob tb ts tg w7 w8 tr w9 w10 w11)), (ob 1, .inr (0, [.long w12, .int (nI w13), .int (nI w14), .int w15])), (ob 2, .inr (2, [.int (nI w16), .ref (ob 3), .ref (ob 4)])), (ob 3, .inl (cI, 160, .inl w17)), (ob 4, .inl (cI, 160, .inl w18)), (ob 5, .inr (3, gY ob (nI w19) (nI w20) (nI w21) w22 (nI w23))), (ob 6, .inl (cI, 2048, .inl w24)), (ob 7, .inl (cI, 2048, .inl w25)), (ob 8, .inl (cI, 2048, .inl w26)), (ob 9, .inl (cI, 2048, .inl w27)), (ob 10, .inl (cI, 160, .inl w28)), (ob 11, .inl (cI, 160, .inl w29)), (ob 12, .inl (cI, 160, .inl w30)), (ob 13, .inl (cI, 2048, .inl w31))]) hP hD [2, 3, 4, 5, 6, 7, 8, 9, 10, 11, 12, 13, 14, 15] [0, 1, 16, 17, 18, 19, 20, 21, 22, 23, 24, 25, 26, 27, 28, 29] rfl rfl (by decide) (by decide) hk1 hFc hP1 hD1
          have hP : va_P D vwCl [(ox 0, .inr (10, [.ref (ox 1), .ref (ox 2), .int (nI tp), .ref (ob3 0), .ref (og 0), .ref (oq 0), .ref (ow 0)])), (ox 1, .inl (cT, 4, .inr (.inr (.inr (.inr ft))))), (ob2 0, .inr (9, gT ob2 tb2 ts2 tg2 tl2 tc2 tr2 tu2 tv2 tw2)), (ob2 1, .inr (0, [.long sd2, .int (nI da2), .int (nI db2), .int pr2])), (ob2 2, .inr (2, [.int (nI cn2), .ref (ob2 3), .ref (ob2 4)])), (ob2 3, .inl (cI, 160, .inl fk2)), (ob2 4, .inl (cI, 160, .inl fv2)), (ob2 5, .inr (3, gY ob2 (nI nb2) (nI ka2) (nI kb2) sm2 (nI ln2))), (ob2 6, .inl (cI, 2048, .inl fh2)), (ob2 7, .inl (cI, 2048, .inl ff2)), (ob2 8, .inl (cI, 2048, .inl fa2)), (ob2 9, .inl (cI, 2048, .inl fs2)), (ob2 10, .inl (cI, 160, .inl fj2)), (ob2 11, .inl (cI, 160, .inl fr2)), (ob2 12, .inl (cI, 160, .inl fo2)), (ob2 13, .inl (cI, 2048, .inl fx2)), (ob 0, .inr (9, gT ob tb ts tg w7 w8 tr w9 w10 w11)), (ob 1, .inr (0, [.long w12, .int (nI w13), .int (nI w14), .int w15])), (ob 2, .inr (2, [.int (nI w16), .ref (ob 3), .ref (ob 4)])), (ob 3, .inl (cI, 160, .inl w17)), (ob 4, .inl (cI, 160, .inl w18)), (ob 5, .inr (3, gY ob (nI w19) (nI w20) (nI w21) w22 (nI w23))), (ob 6, .inl (cI, 2048, .inl w24)), (ob 7, .inl (cI, 2048, .inl w25)), (ob 8, .inl (cI, 2048, .inl w26)), (ob 9, .inl (cI, 2048, .inl w27)), (ob 10, .inl (cI, 160, .inl w28)), (ob 11, .inl (cI, 160, .inl w29)), (ob 12, .inl (cI, 160, .inl w30)), (ob 13, .inl (cI, 2048, .inl w31))] H := hP
          have hD : va_D A [(ox 0, .inr (10, [.ref (ox 1), .ref (ox 2), .int (nI tp), .ref (ob3 0), .ref (og 0), .ref (oq 0), .ref (ow 0)])), (ox 1, .inl (cT, 4, .inr (.inr (.inr (.inr ft))))), (ob2 0, .inr (9, gT ob2 tb2 ts2 tg2 tl2 tc2 tr2 tu2 tv2 tw2)), (ob2 1, .inr (0, [.long sd2, .int (nI da2), .int (nI db2), .int pr2])), (ob2 2, .inr (2, [.int (nI cn2), .ref (ob2 3), .ref (ob2 4)])), (ob2 3, .inl (cI, 160, .inl fk2)), (ob2 4, .inl (cI, 160, .inl fv2)), (ob2 5, .inr (3, gY ob2 (nI nb2) (nI ka2) (nI kb2) sm2 (nI ln2))), (ob2 6, .inl (cI, 2048, .inl fh2)), (ob2 7, .inl (cI, 2048, .inl ff2)), (ob2 8, .inl (cI, 2048, .inl fa2)), (ob2 9, .inl (cI, 2048, .inl fs2)), (ob2 10, .inl (cI, 160, .inl fj2)), (ob2 11, .inl (cI, 160, .inl fr2)), (ob2 12, .inl (cI, 160, .inl fo2)), (ob2 13, .inl (cI, 2048, .inl fx2)), (ob 0, .inr (9, gT ob tb ts tg w7 w8 tr w9 w10 w11)), (ob 1, .inr (0, [.long w12, .int (nI w13), .int (nI w14), .int w15])), (ob 2, .inr (2, [.int (nI w16), .ref (ob 3), .ref (ob 4)])), (ob 3, .inl (cI, 160, .inl w17)), (ob 4, .inl (cI, 160, .inl w18)), (ob 5, .inr (3, gY ob (nI w19) (nI w20) (nI w21) w22 (nI w23))), (ob 6, .inl (cI, 2048, .inl w24)), (ob 7, .inl (cI, 2048, .inl w25)), (ob 8, .inl (cI, 2048, .inl w26)), (ob 9, .inl (cI, 2048, .inl w27)), (ob 10, .inl (cI, 160, .inl w28)), (ob 11, .inl (cI, 160, .inl w29)), (ob 12, .inl (cI, 160, .inl w30)), (ob 13, .inl (cI, 2048, .inl w31))] := hD
          try dsimp only at hw
          clear hz1 hk1 hFc hPc hKc hDc
          obtain ⟨hTb32, hTb32_v⟩ := hw
          obtain ⟨hky32, hL32, hO32, hn132, hka32, hkb32, hda32, hdb32⟩ := id hTb32
          have hnb32 := hL32.1
          have hln32 := hL32.2.1
          have hc32 := hky32.1
          refine lv_pop hx hb dX10_cut_94 rfl ?_
          refine lv_iinc (v := nI (sn + 1)) (lv' := [(6, .int (nI (sn + 1))), (9, .int (nI kx)), (8, .int (nI n8)), (7, .int (nI y)), (4, .ref (ob 0)), (5, .ref (ob2 0)), (0, .ref (ox 0)), (3, .int z3)]) hx hb dX10_cut_95 hl (k := 3) rfl (nI_1 _) (by decide) rfl (fun ls hl => ?_)
          refine lv_goto (tgt := 104) hx hb dX10_cut_98 (by decide) ?_
          refine lv_iinc (v := nI (n8 - 1)) (lv' := [(8, .int (nI (n8 - 1))), (6, .int (nI (sn + 1))), (9, .int (nI kx)), (7, .int (nI y)), (4, .ref (ob 0)), (5, .ref (ob2 0)), (0, .ref (ox 0)), (3, .int z3)]) hx hb dX10_cut_104 hl (k := 2) rfl (sb_m1 (by omega)) (by decide) rfl (fun ls hl => ?_)
          refine lv_goto (tgt := 48) hx hb dX10_cut_107 (by decide) ?_
          have hKd := hTb32_v Lc kx hKl rfl hkx
          have hln := hKd.len
          have hln0 := hKl.len
          have hC2 := CtI_d hK2 (eK ▸ hC) hyl (show ctK L2 (K y) = z3 from hkd ▸ ((ctK_0 (hKv2.nf hkx hF_rk4).2.1).trans hc5))
          rw [← hkd, ← eK] at hC2
          exact ih (n8 - 1) y (sn + 1) (dropL Lc kx) w7 w8 w9 w10 w11 w12 w13 w14 w15 w16 w17 w18 w19 w20 w21 w22 w23 w24 w25 w26 w27 w28 w29 w30 w31 (by omega) (by have h9 := hC.2; have h8 := hC2.2; omega) (hTb32) (hKd) (hC2) (by omega) H locs ls (hP.sub [0, 1, 16, 17, 18, 19, 20, 21, 22, 23, 24, 25, 26, 27, 28, 29, 2, 3, 4, 5, 6, 7, 8, 9, 10, 11, 12, 13, 14, 15] rfl) (hD.sub [0, 1, 16, 17, 18, 19, 20, 21, 22, 23, 24, 25, 26, 27, 28, 29, 2, 3, 4, 5, 6, 7, 8, 9, 10, 11, 12, 13, 14, 15] (by decide) rfl) hS (lv_sub hl [0, 3, 1, 4, 5, 6, 7] rfl)
      ·
        obtain ⟨rk4, erk4, rfl⟩ : ∃ q, q = (rkF fk2 cn2 (nI kx)) ∧ r3 = nI q := ⟨_, rfl, erk4_⟩
        have hrk4 : rk4 < cn2 := by rw [erk4]; exact hF_rk4.1
        refine lv_if_lt (tgt := 82) hx hb dX10_cut_75 (by decide) (fun hc => absurd hc (Int32.not_lt.mpr (nI_pos' (by omega)))) (fun hc => ?_)
        refine lv_iconst (v := 1) hx hb dX10_cut_78 (by decide) ?_
        refine lv_goto (tgt := 83) hx hb dX10_cut_79 (by decide) ?_
        refine lv_iload_n hx hb dX10_cut_83 rfl (lv_at hl 7 rfl) ?_
        refine lv_icmp_ne (tgt := 101) hx hb dX10_cut_84 (by decide) (fun hc33 => ?_) (fun hc33 => ?_)
        ·
          refine lv_iinc (v := nI (y + 1)) (lv' := [(7, .int (nI (y + 1))), (9, .int (nI kx)), (8, .int (nI n8)), (6, .int (nI sn)), (4, .ref (ob 0)), (5, .ref (ob2 0)), (0, .ref (ox 0)), (3, .int z3)]) hx hb dX10_cut_101 hl (k := 2) rfl (nI_1 _) (by decide) rfl (fun ls hl => ?_)
          refine lv_iinc (v := nI (n8 - 1)) (lv' := [(8, .int (nI (n8 - 1))), (7, .int (nI (y + 1))), (9, .int (nI kx)), (6, .int (nI sn)), (4, .ref (ob 0)), (5, .ref (ob2 0)), (0, .ref (ox 0)), (3, .int z3)]) hx hb dX10_cut_104 hl (k := 2) rfl (sb_m1 (by omega)) (by decide) rfl (fun ls hl => ?_)
          refine lv_goto (tgt := 48) hx hb dX10_cut_107 (by decide) ?_
          exact ih (n8 - 1) (y + 1) sn Lc xtl xtc xtu xtv xtw xsd xda xdb xpr xcn gfk gfv xnb xka xkb xsm xln gfh gff gfa gfs gfj gfr gfo gfx (by omega) (by omega) (hTb) (hKl) (eK.symm ▸ CtI_k (eK ▸ hC) hyl (fun q => hc33 ((ctK_1 (hKv2.fd hkx hF_rk4).2.1).symm.trans (hkd.symm ▸ q)))) (by omega) H locs ls (hP.sub [0, 1, 2, 3, 4, 5, 6, 7, 8, 9, 10, 11, 12, 13, 14, 15, 16, 17, 18, 19, 20, 21, 22, 23, 24, 25, 26, 27, 28, 29] rfl) (hD.sub [0, 1, 2, 3, 4, 5, 6, 7, 8, 9, 10, 11, 12, 13, 14, 15, 16, 17, 18, 19, 20, 21, 22, 23, 24, 25, 26, 27, 28, 29] (by decide) rfl) hS (lv_sub hl [0, 1, 3, 4, 5, 6, 7] rfl)
        ·
          refine lv_aload hx hb dX10_cut_87 (lv_at hl 4 rfl) ?_
          refine lv_iload hx hb dX10_cut_89 (lv_at hl 0 rfl) ?_
          have hPc := hP.sub (ws' := [(ob 0, .inr (9, gT ob tb ts tg xtl xtc tr xtu xtv xtw)), (ob 1, .inr (0, [.long xsd, .int (nI xda), .int (nI xdb), .int xpr])), (ob 2, .inr (2, [.int (nI xcn), .ref (ob 3), .ref (ob 4)])), (ob 3, .inl (cI, 160, .inl gfk)), (ob 4, .inl (cI, 160, .inl gfv)), (ob 5, .inr (3, gY ob (nI xnb) (nI xka) (nI xkb) xsm (nI xln))), (ob 6, .inl (cI, 2048, .inl gfh)), (ob 7, .inl (cI, 2048, .inl gff)), (ob 8, .inl (cI, 2048, .inl gfa)), (ob 9, .inl (cI, 2048, .inl gfs)), (ob 10, .inl (cI, 160, .inl gfj)), (ob 11, .inl (cI, 160, .inl gfr)), (ob 12, .inl (cI, 160, .inl gfo)), (ob 13, .inl (cI, 2048, .inl gfx))]) [2, 3, 4, 5, 6, 7, 8, 9, 10, 11, 12, 13, 14, 15] rfl
          have hKc := hK.sub (tys' := [(cI, .int)]) [0] rfl
          have hDc := hD.sub (ws' := [(ob 0, .inr (9, gT ob tb ts tg xtl xtc tr xtu xtv xtw)), (ob 1, .inr (0, [.long xsd, .int (nI xda), .int (nI xdb), .int xpr])), (ob 2, .inr (2, [.int (nI xcn), .ref (ob 3), .ref (ob 4)])), (ob 3, .inl (cI, 160, .inl gfk)), (ob 4, .inl (cI, 160, .inl gfv)), (ob 5, .inr (3, gY ob (nI xnb) (nI xka) (nI xkb) xsm (nI xln))), (ob 6, .inl (cI, 2048, .inl gfh)), (ob 7, .inl (cI, 2048, .inl gff)), (ob 8, .inl (cI, 2048, .inl gfa)), (ob 9, .inl (cI, 2048, .inl gfs)), (ob 10, .inl (cI, 160, .inl gfj)), (ob 11, .inl (cI, 160, .inl gfr)), (ob 12, .inl (cI, 160, .inl gfo)), (ob 13, .inl (cI, 2048, .inl gfx))]) [2, 3, 4, 5, 6, 7, 8, 9, 10, 11, 12, 13, 14, 15] (by decide) rfl
          have hFc := va_free (wc := [(ob 0, .inr (9, gT ob tb ts tg xtl xtc tr xtu xtv xtw)), (ob 1, .inr (0, [.long xsd, .int (nI xda), .int (nI xdb), .int xpr])), (ob 2, .inr (2, [.int (nI xcn), .ref (ob 3), .ref (ob 4)])), (ob 3, .inl (cI, 160, .inl gfk)), (ob 4, .inl (cI, 160, .inl gfv)), (ob 5, .inr (3, gY ob (nI xnb) (nI xka) (nI xkb) xsm (nI xln))), (ob 6, .inl (cI, 2048, .inl gfh)), (ob 7, .inl (cI, 2048, .inl gff)), (ob 8, .inl (cI, 2048, .inl gfa)), (ob 9, .inl (cI, 2048, .inl gfs)), (ob 10, .inl (cI, 160, .inl gfj)), (ob 11, .inl (cI, 160, .inl gfr)), (ob 12, .inl (cI, 160, .inl gfo)), (ob 13, .inl (cI, 2048, .inl gfx))]) hD hS hA [2, 3, 4, 5, 6, 7, 8, 9, 10, 11, 12, 13, 14, 15] rfl
          refine va_calli (va_runV (As := [.int (nI kx)]) (rest := []) ⟨hx, hb, hml, hown, hts⟩ (k_take l D _ ob cI tb ts tg xtl xtc tr xtu xtv xtw xsd xda xdb xpr xcn gfk gfv xnb xka xkb xsm xln gfh gff gfa gfs gfj gfr gfo gfx (nI kx) hTb) (cwV 1 hts g_d_cut_k_take_106 rfl rfl rfl (by decide +kernel) ⟨(Nat.le_of_ble_eq_true rfl), (Nat.le_of_ble_eq_true rfl)⟩) (PcWC_V (q0 := 0) hPc hKc hDc hN rfl rfl) rfl rfl hl.1 rfl (lv_room (Nat.le_of_ble_eq_true rfl)) dX10_cut_91 ⟨(Nat.le_of_ble_eq_true rfl), (Nat.le_of_ble_eq_true rfl)⟩) hS (fun q _ h => hFc q h) hFc (fun r34 uu tt H locs htt hvm hw hB hz1 hk1 hS => ?_)
          obtain ⟨w35, w36, w37, w38, w39, w40, w41, w42, w43, w44, w45, w46, w47, w48, w49, w50, w51, w52, w53, w54, w55, w56, w57, w58, w59⟩ := uu
          obtain ⟨hP1, hK1, hD1⟩ := hB
          rw [htt] at hP1
          have hK1 := va_K.moved hvm.symm hK1
          have hP1 : va_P D vwCl [(ob 0, .inr (9, gT ob tb ts tg w35 w36 tr w37 w38 w39)), (ob 1, .inr (0, [.long w40, .int (nI w41), .int (nI w42), .int w43])), (ob 2, .inr (2, [.int (nI w44), .ref (ob 3), .ref (ob 4)])), (ob 3, .inl (cI, 160, .inl w45)), (ob 4, .inl (cI, 160, .inl w46)), (ob 5, .inr (3, gY ob (nI w47) (nI w48) (nI w49) w50 (nI w51))), (ob 6, .inl (cI, 2048, .inl w52)), (ob 7, .inl (cI, 2048, .inl w53)), (ob 8, .inl (cI, 2048, .inl w54)), (ob 9, .inl (cI, 2048, .inl w55)), (ob 10, .inl (cI, 160, .inl w56)), (ob 11, .inl (cI, 160, .inl w57)), (ob 12, .inl (cI, 160, .inl w58)), (ob 13, .inl (cI, 2048, .inl w59))] H := hP1
          obtain ⟨hP, hD⟩ := va_join (wr := [(ox 0, .inr (10, [.ref (ox 1), .ref (ox 2), .int (nI tp), .ref (ob3 0), .ref (og 0), .ref (oq 0), .ref (ow 0)])), (ox 1, .inl (cT, 4, .inr (.inr (.inr (.inr ft))))), (ob2 0, .inr (9, gT ob2 tb2 ts2 tg2 tl2 tc2 tr2 tu2 tv2 tw2)), (ob2 1, .inr (0, [.long sd2, .int (nI da2), .int (nI db2), .int pr2])), (ob2 2, .inr (2, [.int (nI cn2), .ref (ob2 3), .ref (ob2 4)])), (ob2 3, .inl (cI, 160, .inl fk2)), (ob2 4, .inl (cI, 160, .inl fv2)), (ob2 5, .inr (3, gY ob2 (nI nb2) (nI ka2) (nI kb2) sm2 (nI ln2))), (ob2 6, .inl (cI, 2048, .inl fh2)), (ob2 7, .inl (cI, 2048, .inl ff2)), (ob2 8, .inl (cI, 2048, .inl fa2)), (ob2 9, .inl (cI, 2048, .inl fs2)), (ob2 10, .inl (cI, 160, .inl fj2)), (ob2 11, .inl (cI, 160, .inl fr2)), (ob2 12, .inl (cI, 160, .inl fo2)), (ob2 13, .inl (cI, 2048, .inl fx2))]) (w1 := [(ob 0, .inr (9, gT ob tb ts tg w35 w36 tr w37 w38 w39)), (ob 1, .inr (0, [.long w40, .int (nI w41), .int (nI w42), .int w43])), (ob 2, .inr (2, [.int (nI w44), .ref (ob 3), .ref (ob 4)])), (ob 3, .inl (cI, 160, .inl w45)), (ob 4, .inl (cI, 160, .inl w46)), (ob 5, .inr (3, gY ob (nI w47) (nI w48) (nI w49) w50 (nI w51))), (ob 6, .inl (cI, 2048, .inl w52)), (ob 7, .inl (cI, 2048, .inl w53)), (ob 8, .inl (cI, 2048, .inl w54)), (ob 9, .inl (cI, 2048, .inl w55)), (ob 10, .inl (cI, 160, .inl w56)), (ob 11, .inl (cI, 160, .inl w57)), (ob 12, .inl (cI, 160, .inl w58)), (ob 13, .inl (cI, 2048, .inl w59))]) hP hD [2, 3, 4, 5, 6, 7, 8, 9, 10, 11, 12, 13, 14, 15] [0, 1, 16, 17, 18, 19, 20, 21, 22, 23, 24, 25, 26, 27, 28, 29] rfl rfl (by decide) (by decide) hk1 hFc hP1 hD1
          have hP : va_P D vwCl [(ox 0, .inr (10, [.ref (ox 1), .ref (ox 2), .int (nI tp), .ref (ob3 0), .ref (og 0), .ref (oq 0), .ref (ow 0)])), (ox 1, .inl (cT, 4, .inr (.inr (.inr (.inr ft))))), (ob2 0, .inr (9, gT ob2 tb2 ts2 tg2 tl2 tc2 tr2 tu2 tv2 tw2)), (ob2 1, .inr (0, [.long sd2, .int (nI da2), .int (nI db2), .int pr2])), (ob2 2, .inr (2, [.int (nI cn2), .ref (ob2 3), .ref (ob2 4)])), (ob2 3, .inl (cI, 160, .inl fk2)), (ob2 4, .inl (cI, 160, .inl fv2)), (ob2 5, .inr (3, gY ob2 (nI nb2) (nI ka2) (nI kb2) sm2 (nI ln2))), (ob2 6, .inl (cI, 2048, .inl fh2)), (ob2 7, .inl (cI, 2048, .inl ff2)), (ob2 8, .inl (cI, 2048, .inl fa2)), (ob2 9, .inl (cI, 2048, .inl fs2)), (ob2 10, .inl (cI, 160, .inl fj2)), (ob2 11, .inl (cI, 160, .inl fr2)), (ob2 12, .inl (cI, 160, .inl fo2)), (ob2 13, .inl (cI, 2048, .inl fx2)), (ob 0, .inr (9, gT ob tb ts tg w35 w36 tr w37 w38 w39)), (ob 1, .inr (0, [.long w40, .int (nI w41), .int (nI w42), .int w43])), (ob 2, .inr (2, [.int (nI w44), .ref (ob 3), .ref (ob 4)])), (ob 3, .inl (cI, 160, .inl w45)), (ob 4, .inl (cI, 160, .inl w46)), (ob 5, .inr (3, gY ob (nI w47) (nI w48) (nI w49) w50 (nI w51))), (ob 6, .inl (cI, 2048, .inl w52)), (ob 7, .inl (cI, 2048, .inl w53)), (ob 8, .inl (cI, 2048, .inl w54)), (ob 9, .inl (cI, 2048, .inl w55)), (ob 10, .inl (cI, 160, .inl w56)), (ob 11, .inl (cI, 160, .inl w57)), (ob 12, .inl (cI, 160, .inl w58)), (ob 13, .inl (cI, 2048, .inl w59))] H := hP
          have hD : va_D A [(ox 0, .inr (10, [.ref (ox 1), .ref (ox 2), .int (nI tp), .ref (ob3 0), .ref (og 0), .ref (oq 0), .ref (ow 0)])), (ox 1, .inl (cT, 4, .inr (.inr (.inr (.inr ft))))), (ob2 0, .inr (9, gT ob2 tb2 ts2 tg2 tl2 tc2 tr2 tu2 tv2 tw2)), (ob2 1, .inr (0, [.long sd2, .int (nI da2), .int (nI db2), .int pr2])), (ob2 2, .inr (2, [.int (nI cn2), .ref (ob2 3), .ref (ob2 4)])), (ob2 3, .inl (cI, 160, .inl fk2)), (ob2 4, .inl (cI, 160, .inl fv2)), (ob2 5, .inr (3, gY ob2 (nI nb2) (nI ka2) (nI kb2) sm2 (nI ln2))), (ob2 6, .inl (cI, 2048, .inl fh2)), (ob2 7, .inl (cI, 2048, .inl ff2)), (ob2 8, .inl (cI, 2048, .inl fa2)), (ob2 9, .inl (cI, 2048, .inl fs2)), (ob2 10, .inl (cI, 160, .inl fj2)), (ob2 11, .inl (cI, 160, .inl fr2)), (ob2 12, .inl (cI, 160, .inl fo2)), (ob2 13, .inl (cI, 2048, .inl fx2)), (ob 0, .inr (9, gT ob tb ts tg w35 w36 tr w37 w38 w39)), (ob 1, .inr (0, [.long w40, .int (nI w41), .int (nI w42), .int w43])), (ob 2, .inr (2, [.int (nI w44), .ref (ob 3), .ref (ob 4)])), (ob 3, .inl (cI, 160, .inl w45)), (ob 4, .inl (cI, 160, .inl w46)), (ob 5, .inr (3, gY ob (nI w47) (nI w48) (nI w49) w50 (nI w51))), (ob 6, .inl (cI, 2048, .inl w52)), (ob 7, .inl (cI, 2048, .inl w53)), (ob 8, .inl (cI, 2048, .inl w54)), (ob 9, .inl (cI, 2048, .inl w55)), (ob 10, .inl (cI, 160, .inl w56)), (ob 11, .inl (cI, 160, .inl w57)), (ob 12, .inl (cI, 160, .inl w58)), (ob 13, .inl (cI, 2048, .inl w59))] := hD
          try dsimp only at hw
          clear hz1 hk1 hFc hPc hKc hDc
          obtain ⟨hTb60, hTb60_v⟩ := hw
          obtain ⟨hky60, hL60, hO60, hn160, hka60, hkb60, hda60, hdb60⟩ := id hTb60
          have hnb60 := hL60.1
          have hln60 := hL60.2.1
          have hc60 := hky60.1
          refine lv_pop hx hb dX10_cut_94 rfl ?_
          refine lv_iinc (v := nI (sn + 1)) (lv' := [(6, .int (nI (sn + 1))), (9, .int (nI kx)), (8, .int (nI n8)), (7, .int (nI y)), (4, .ref (ob 0)), (5, .ref (ob2 0)), (0, .ref (ox 0)), (3, .int z3)]) hx hb dX10_cut_95 hl (k := 3) rfl (nI_1 _) (by decide) rfl (fun ls hl => ?_)
          refine lv_goto (tgt := 104) hx hb dX10_cut_98 (by decide) ?_
          refine lv_iinc (v := nI (n8 - 1)) (lv' := [(8, .int (nI (n8 - 1))), (6, .int (nI (sn + 1))), (9, .int (nI kx)), (7, .int (nI y)), (4, .ref (ob 0)), (5, .ref (ob2 0)), (0, .ref (ox 0)), (3, .int z3)]) hx hb dX10_cut_104 hl (k := 2) rfl (sb_m1 (by omega)) (by decide) rfl (fun ls hl => ?_)
          refine lv_goto (tgt := 48) hx hb dX10_cut_107 (by decide) ?_
          have hKd := hTb60_v Lc kx hKl rfl hkx
          have hln := hKd.len
          have hln0 := hKl.len
          have hC2 := CtI_d hK2 (eK ▸ hC) hyl (show ctK L2 (K y) = z3 from hkd ▸ ((ctK_1 (hKv2.fd hkx hF_rk4).2.1).trans hc33))
          rw [← hkd, ← eK] at hC2
          exact ih (n8 - 1) y (sn + 1) (dropL Lc kx) w35 w36 w37 w38 w39 w40 w41 w42 w43 w44 w45 w46 w47 w48 w49 w50 w51 w52 w53 w54 w55 w56 w57 w58 w59 (by omega) (by have h9 := hC.2; have h8 := hC2.2; omega) (hTb60) (hKd) (hC2) (by omega) H locs ls (hP.sub [0, 1, 16, 17, 18, 19, 20, 21, 22, 23, 24, 25, 26, 27, 28, 29, 2, 3, 4, 5, 6, 7, 8, 9, 10, 11, 12, 13, 14, 15] rfl) (hD.sub [0, 1, 16, 17, 18, 19, 20, 21, 22, 23, 24, 25, 26, 27, 28, 29, 2, 3, 4, 5, 6, 7, 8, 9, 10, 11, 12, 13, 14, 15] (by decide) rfl) hS (lv_sub hl [0, 3, 1, 4, 5, 6, 7] rfl)
set_option maxHeartbeats 4000000 in
set_option maxRecDepth 100000 in
theorem d_cut (l : Launch) (D : va_G) (sz : Nat) (ox : Nat → Nat) (ob3 : Nat → Nat) (og : Nat → Nat) (oq : Nat → Nat) (ow : Nat → Nat) (ob : Nat → Nat) (ob2 : Nat → Nat) (cI : ClassId) (cT : ClassId) (tp : Nat) (ft : Nat → Option Nat) (tb : Int32) (ts : Int32) (tg : Int32) (tl : Int32) (tc : Int32) (tr : Int32) (tu : Int32) (tv : Int32) (tw : Int32) (sd : Int64) (da : Nat) (db : Nat) (pr : Int32) (cn : Nat) (fk : Nat → Int32) (fv : Nat → Int32) (nb : Nat) (ka : Nat) (kb : Nat) (sm : Int32) (ln : Nat) (fh : Nat → Int32) (ff : Nat → Int32) (fa : Nat → Int32) (fs : Nat → Int32) (fj : Nat → Int32) (fr : Nat → Int32) (fo : Nat → Int32) (fx : Nat → Int32) (tb2 : Int32) (ts2 : Int32) (tg2 : Int32) (tl2 : Int32) (tc2 : Int32) (tr2 : Int32) (tu2 : Int32) (tv2 : Int32) (tw2 : Int32) (sd2 : Int64) (da2 : Nat) (db2 : Nat) (pr2 : Int32) (cn2 : Nat) (fk2 : Nat → Int32) (fv2 : Nat → Int32) (nb2 : Nat) (ka2 : Nat) (kb2 : Nat) (sm2 : Int32) (ln2 : Nat) (fh2 : Nat → Int32) (ff2 : Nat → Int32) (fa2 : Nat → Int32) (fs2 : Nat → Int32) (fj2 : Nat → Int32) (fr2 : Nat → Int32) (fo2 : Nat → Int32) (fx2 : Nat → Int32) (k1 : Nat) (k2 : Nat) (z3 : Int32) (L : List (Nat × Int32)) (L2 : List (Nat × Int32)) (hk1 : k1 < 4) (hft1 : ft k1 = some (ob 0)) (hk2 : k2 < 4) (hft2 : ft k2 = some (ob2 0)) (hne : k1 ≠ k2) (hTb : TbI fk fj fh fo cn nb ka kb ln da db) (hTb2 : TbI fk2 fj2 fh2 fo2 cn2 nb2 ka2 kb2 ln2 da2 db2) (hKv : KvT fk fv cn L) (hKv2 : KvT fk2 fv2 cn2 L2) : Met l yX10_cut wp_d_cut ({ frames := 9, cells := 0, slots := 0, locals := 330 }) (PcWC D [.ref (ox 0), .int (nI k1), .int (nI k2), .int z3] sz [(ox 0, .inr (10, [.ref (ox 1), .ref (ox 2), .int (nI tp), .ref (ob3 0), .ref (og 0), .ref (oq 0), .ref (ow 0)])), (ox 1, .inl (cT, 4, .inr (.inr (.inr (.inr ft))))), (ob 0, .inr (9, gT ob tb ts tg tl tc tr tu tv tw)), (ob 1, .inr (0, [.long sd, .int (nI da), .int (nI db), .int pr])), (ob 2, .inr (2, [.int (nI cn), .ref (ob 3), .ref (ob 4)])), (ob 3, .inl (cI, 160, .inl fk)), (ob 4, .inl (cI, 160, .inl fv)), (ob 5, .inr (3, gY ob (nI nb) (nI ka) (nI kb) sm (nI ln))), (ob 6, .inl (cI, 2048, .inl fh)), (ob 7, .inl (cI, 2048, .inl ff)), (ob 8, .inl (cI, 2048, .inl fa)), (ob 9, .inl (cI, 2048, .inl fs)), (ob 10, .inl (cI, 160, .inl fj)), (ob 11, .inl (cI, 160, .inl fr)), (ob 12, .inl (cI, 160, .inl fo)), (ob 13, .inl (cI, 2048, .inl fx)), (ob2 0, .inr (9, gT ob2 tb2 ts2 tg2 tl2 tc2 tr2 tu2 tv2 tw2)), (ob2 1, .inr (0, [.long sd2, .int (nI da2), .int (nI db2), .int pr2])), (ob2 2, .inr (2, [.int (nI cn2), .ref (ob2 3), .ref (ob2 4)])), (ob2 3, .inl (cI, 160, .inl fk2)), (ob2 4, .inl (cI, 160, .inl fv2)), (ob2 5, .inr (3, gY ob2 (nI nb2) (nI ka2) (nI kb2) sm2 (nI ln2))), (ob2 6, .inl (cI, 2048, .inl fh2)), (ob2 7, .inl (cI, 2048, .inl ff2)), (ob2 8, .inl (cI, 2048, .inl fa2)), (ob2 9, .inl (cI, 2048, .inl fs2)), (ob2 10, .inl (cI, 160, .inl fj2)), (ob2 11, .inl (cI, 160, .inl fr2)), (ob2 12, .inl (cI, 160, .inl fo2)), (ob2 13, .inl (cI, 2048, .inl fx2))] [(cI, .int), (cT, .object RX9)]) (va_Qi (fun (r : Int32) (u : (Int32) × (Int32) × (Int32) × (Int32) × (Int32) × (Int64) × (Nat) × (Nat) × (Int32) × (Nat) × (Nat → Int32) × (Nat → Int32) × (Nat) × (Nat) × (Nat) × (Int32) × (Nat) × (Nat → Int32) × (Nat → Int32) × (Nat → Int32) × (Nat → Int32) × (Nat → Int32) × (Nat → Int32) × (Nat → Int32) × (Nat → Int32)) => (TbI u.2.2.2.2.2.2.2.2.2.2.1 u.2.2.2.2.2.2.2.2.2.2.2.2.2.2.2.2.2.2.2.2.2.1 u.2.2.2.2.2.2.2.2.2.2.2.2.2.2.2.2.2.1 u.2.2.2.2.2.2.2.2.2.2.2.2.2.2.2.2.2.2.2.2.2.2.2.1 u.2.2.2.2.2.2.2.2.2.1 u.2.2.2.2.2.2.2.2.2.2.2.2.1 u.2.2.2.2.2.2.2.2.2.2.2.2.2.1 u.2.2.2.2.2.2.2.2.2.2.2.2.2.2.1 u.2.2.2.2.2.2.2.2.2.2.2.2.2.2.2.2.1 u.2.2.2.2.2.2.1 u.2.2.2.2.2.2.2.1) ∧ KvT u.2.2.2.2.2.2.2.2.2.2.1 u.2.2.2.2.2.2.2.2.2.2.2.1 u.2.2.2.2.2.2.2.2.2.1 (ctF L L2 z3) ∧ r = nI (L.length - (ctF L L2 z3).length)) (fun (u : (Int32) × (Int32) × (Int32) × (Int32) × (Int32) × (Int64) × (Nat) × (Nat) × (Int32) × (Nat) × (Nat → Int32) × (Nat → Int32) × (Nat) × (Nat) × (Nat) × (Int32) × (Nat) × (Nat → Int32) × (Nat → Int32) × (Nat → Int32) × (Nat → Int32) × (Nat → Int32) × (Nat → Int32) × (Nat → Int32) × (Nat → Int32)) t => va_P D vwCl [(ox 0, .inr (10, [.ref (ox 1), .ref (ox 2), .int (nI tp), .ref (ob3 0), .ref (og 0), .ref (oq 0), .ref (ow 0)])), (ox 1, .inl (cT, 4, .inr (.inr (.inr (.inr ft))))), (ob 0, .inr (9, gT ob tb ts tg u.1 u.2.1 tr u.2.2.1 u.2.2.2.1 u.2.2.2.2.1)), (ob 1, .inr (0, [.long u.2.2.2.2.2.1, .int (nI u.2.2.2.2.2.2.1), .int (nI u.2.2.2.2.2.2.2.1), .int u.2.2.2.2.2.2.2.2.1])), (ob 2, .inr (2, [.int (nI u.2.2.2.2.2.2.2.2.2.1), .ref (ob 3), .ref (ob 4)])), (ob 3, .inl (cI, 160, .inl u.2.2.2.2.2.2.2.2.2.2.1)), (ob 4, .inl (cI, 160, .inl u.2.2.2.2.2.2.2.2.2.2.2.1)), (ob 5, .inr (3, gY ob (nI u.2.2.2.2.2.2.2.2.2.2.2.2.1) (nI u.2.2.2.2.2.2.2.2.2.2.2.2.2.1) (nI u.2.2.2.2.2.2.2.2.2.2.2.2.2.2.1) u.2.2.2.2.2.2.2.2.2.2.2.2.2.2.2.1 (nI u.2.2.2.2.2.2.2.2.2.2.2.2.2.2.2.2.1))), (ob 6, .inl (cI, 2048, .inl u.2.2.2.2.2.2.2.2.2.2.2.2.2.2.2.2.2.1)), (ob 7, .inl (cI, 2048, .inl u.2.2.2.2.2.2.2.2.2.2.2.2.2.2.2.2.2.2.1)), (ob 8, .inl (cI, 2048, .inl u.2.2.2.2.2.2.2.2.2.2.2.2.2.2.2.2.2.2.2.1)), (ob 9, .inl (cI, 2048, .inl u.2.2.2.2.2.2.2.2.2.2.2.2.2.2.2.2.2.2.2.2.1)), (ob 10, .inl (cI, 160, .inl u.2.2.2.2.2.2.2.2.2.2.2.2.2.2.2.2.2.2.2.2.2.1)), (ob 11, .inl (cI, 160, .inl u.2.2.2.2.2.2.2.2.2.2.2.2.2.2.2.2.2.2.2.2.2.2.1)), (ob 12, .inl (cI, 160, .inl u.2.2.2.2.2.2.2.2.2.2.2.2.2.2.2.2.2.2.2.2.2.2.2.1)), (ob 13, .inl (cI, 2048, .inl u.2.2.2.2.2.2.2.2.2.2.2.2.2.2.2.2.2.2.2.2.2.2.2.2)), (ob2 0, .inr (9, gT ob2 tb2 ts2 tg2 tl2 tc2 tr2 tu2 tv2 tw2)), (ob2 1, .inr (0, [.long sd2, .int (nI da2), .int (nI db2), .int pr2])), (ob2 2, .inr (2, [.int (nI cn2), .ref (ob2 3), .ref (ob2 4)])), (ob2 3, .inl (cI, 160, .inl fk2)), (ob2 4, .inl (cI, 160, .inl fv2)), (ob2 5, .inr (3, gY ob2 (nI nb2) (nI ka2) (nI kb2) sm2 (nI ln2))), (ob2 6, .inl (cI, 2048, .inl fh2)), (ob2 7, .inl (cI, 2048, .inl ff2)), (ob2 8, .inl (cI, 2048, .inl fa2)), (ob2 9, .inl (cI, 2048, .inl fs2)), (ob2 10, .inl (cI, 160, .inl fj2)), (ob2 11, .inl (cI, 160, .inl fr2)), (ob2 12, .inl (cI, 160, .inl fo2)), (ob2 13, .inl (cI, 2048, .inl fx2))] t.heap ∧ va_K D vwCl [(cI, .int), (cT, .object RX9)] t ∧ va_D (va_A [(ox 0, .inr (10, [.ref (ox 1), .ref (ox 2), .int (nI tp), .ref (ob3 0), .ref (og 0), .ref (oq 0), .ref (ow 0)])), (ox 1, .inl (cT, 4, .inr (.inr (.inr (.inr ft))))), (ob 0, .inr (9, gT ob tb ts tg tl tc tr tu tv tw)), (ob 1, .inr (0, [.long sd, .int (nI da), .int (nI db), .int pr])), (ob 2, .inr (2, [.int (nI cn), .ref (ob 3), .ref (ob 4)])), (ob 3, .inl (cI, 160, .inl fk)), (ob 4, .inl (cI, 160, .inl fv)), (ob 5, .inr (3, gY ob (nI nb) (nI ka) (nI kb) sm (nI ln))), (ob 6, .inl (cI, 2048, .inl fh)), (ob 7, .inl (cI, 2048, .inl ff)), (ob 8, .inl (cI, 2048, .inl fa)), (ob 9, .inl (cI, 2048, .inl fs)), (ob 10, .inl (cI, 160, .inl fj)), (ob 11, .inl (cI, 160, .inl fr)), (ob 12, .inl (cI, 160, .inl fo)), (ob 13, .inl (cI, 2048, .inl fx)), (ob2 0, .inr (9, gT ob2 tb2 ts2 tg2 tl2 tc2 tr2 tu2 tv2 tw2)), (ob2 1, .inr (0, [.long sd2, .int (nI da2), .int (nI db2), .int pr2])), (ob2 2, .inr (2, [.int (nI cn2), .ref (ob2 3), .ref (ob2 4)])), (ob2 3, .inl (cI, 160, .inl fk2)), (ob2 4, .inl (cI, 160, .inl fv2)), (ob2 5, .inr (3, gY ob2 (nI nb2) (nI ka2) (nI kb2) sm2 (nI ln2))), (ob2 6, .inl (cI, 2048, .inl fh2)), (ob2 7, .inl (cI, 2048, .inl ff2)), (ob2 8, .inl (cI, 2048, .inl fa2)), (ob2 9, .inl (cI, 2048, .inl fs2)), (ob2 10, .inl (cI, 160, .inl fj2)), (ob2 11, .inl (cI, 160, .inl fr2)), (ob2 12, .inl (cI, 160, .inl fo2)), (ob2 13, .inl (cI, 2048, .inl fx2))] sz) [(ox 0, .inr (10, [.ref (ox 1), .ref (ox 2), .int (nI tp), .ref (ob3 0), .ref (og 0), .ref (oq 0), .ref (ow 0)])), (ox 1, .inl (cT, 4, .inr (.inr (.inr (.inr ft))))), (ob 0, .inr (9, gT ob tb ts tg u.1 u.2.1 tr u.2.2.1 u.2.2.2.1 u.2.2.2.2.1)), (ob 1, .inr (0, [.long u.2.2.2.2.2.1, .int (nI u.2.2.2.2.2.2.1), .int (nI u.2.2.2.2.2.2.2.1), .int u.2.2.2.2.2.2.2.2.1])), (ob 2, .inr (2, [.int (nI u.2.2.2.2.2.2.2.2.2.1), .ref (ob 3), .ref (ob 4)])), (ob 3, .inl (cI, 160, .inl u.2.2.2.2.2.2.2.2.2.2.1)), (ob 4, .inl (cI, 160, .inl u.2.2.2.2.2.2.2.2.2.2.2.1)), (ob 5, .inr (3, gY ob (nI u.2.2.2.2.2.2.2.2.2.2.2.2.1) (nI u.2.2.2.2.2.2.2.2.2.2.2.2.2.1) (nI u.2.2.2.2.2.2.2.2.2.2.2.2.2.2.1) u.2.2.2.2.2.2.2.2.2.2.2.2.2.2.2.1 (nI u.2.2.2.2.2.2.2.2.2.2.2.2.2.2.2.2.1))), (ob 6, .inl (cI, 2048, .inl u.2.2.2.2.2.2.2.2.2.2.2.2.2.2.2.2.2.1)), (ob 7, .inl (cI, 2048, .inl u.2.2.2.2.2.2.2.2.2.2.2.2.2.2.2.2.2.2.1)), (ob 8, .inl (cI, 2048, .inl u.2.2.2.2.2.2.2.2.2.2.2.2.2.2.2.2.2.2.2.1)), (ob 9, .inl (cI, 2048, .inl u.2.2.2.2.2.2.2.2.2.2.2.2.2.2.2.2.2.2.2.2.1)), (ob 10, .inl (cI, 160, .inl u.2.2.2.2.2.2.2.2.2.2.2.2.2.2.2.2.2.2.2.2.2.1)), (ob 11, .inl (cI, 160, .inl u.2.2.2.2.2.2.2.2.2.2.2.2.2.2.2.2.2.2.2.2.2.2.1)), (ob 12, .inl (cI, 160, .inl u.2.2.2.2.2.2.2.2.2.2.2.2.2.2.2.2.2.2.2.2.2.2.2.1)), (ob 13, .inl (cI, 2048, .inl u.2.2.2.2.2.2.2.2.2.2.2.2.2.2.2.2.2.2.2.2.2.2.2.2)), (ob2 0, .inr (9, gT ob2 tb2 ts2 tg2 tl2 tc2 tr2 tu2 tv2 tw2)), (ob2 1, .inr (0, [.long sd2, .int (nI da2), .int (nI db2), .int pr2])), (ob2 2, .inr (2, [.int (nI cn2), .ref (ob2 3), .ref (ob2 4)])), (ob2 3, .inl (cI, 160, .inl fk2)), (ob2 4, .inl (cI, 160, .inl fv2)), (ob2 5, .inr (3, gY ob2 (nI nb2) (nI ka2) (nI kb2) sm2 (nI ln2))), (ob2 6, .inl (cI, 2048, .inl fh2)), (ob2 7, .inl (cI, 2048, .inl ff2)), (ob2 8, .inl (cI, 2048, .inl fa2)), (ob2 9, .inl (cI, 2048, .inl fs2)), (ob2 10, .inl (cI, 160, .inl fj2)), (ob2 11, .inl (cI, 160, .inl fr2)), (ob2 12, .inl (cI, 160, .inl fo2)), (ob2 13, .inl (cI, 2048, .inl fx2))]) (va_A [(ox 0, .inr (10, [.ref (ox 1), .ref (ox 2), .int (nI tp), .ref (ob3 0), .ref (og 0), .ref (oq 0), .ref (ow 0)])), (ox 1, .inl (cT, 4, .inr (.inr (.inr (.inr ft))))), (ob 0, .inr (9, gT ob tb ts tg tl tc tr tu tv tw)), (ob 1, .inr (0, [.long sd, .int (nI da), .int (nI db), .int pr])), (ob 2, .inr (2, [.int (nI cn), .ref (ob 3), .ref (ob 4)])), (ob 3, .inl (cI, 160, .inl fk)), (ob 4, .inl (cI, 160, .inl fv)), (ob 5, .inr (3, gY ob (nI nb) (nI ka) (nI kb) sm (nI ln))), (ob 6, .inl (cI, 2048, .inl fh)), (ob 7, .inl (cI, 2048, .inl ff)), (ob 8, .inl (cI, 2048, .inl fa)), (ob 9, .inl (cI, 2048, .inl fs)), (ob 10, .inl (cI, 160, .inl fj)), (ob 11, .inl (cI, 160, .inl fr)), (ob 12, .inl (cI, 160, .inl fo)), (ob 13, .inl (cI, 2048, .inl fx)), (ob2 0, .inr (9, gT ob2 tb2 ts2 tg2 tl2 tc2 tr2 tu2 tv2 tw2)), (ob2 1, .inr (0, [.long sd2, .int (nI da2), .int (nI db2), .int pr2])), (ob2 2, .inr (2, [.int (nI cn2), .ref (ob2 3), .ref (ob2 4)])), (ob2 3, .inl (cI, 160, .inl fk2)), (ob2 4, .inl (cI, 160, .inl fv2)), (ob2 5, .inr (3, gY ob2 (nI nb2) (nI ka2) (nI kb2) sm2 (nI ln2))), (ob2 6, .inl (cI, 2048, .inl fh2)), (ob2 7, .inl (cI, 2048, .inl ff2)), (ob2 8, .inl (cI, 2048, .inl fa2)), (ob2 9, .inl (cI, 2048, .inl fs2)), (ob2 10, .inl (cI, 160, .inl fj2)), (ob2 11, .inl (cI, 160, .inl fr2)), (ob2 12, .inl (cI, 160, .inl fo2)), (ob2 13, .inl (cI, 2048, .inl fx2))] sz)) 0 0 (va_A [(ox 0, .inr (10, [.ref (ox 1), .ref (ox 2), .int (nI tp), .ref (ob3 0), .ref (og 0), .ref (oq 0), .ref (ow 0)])), (ox 1, .inl (cT, 4, .inr (.inr (.inr (.inr ft))))), (ob 0, .inr (9, gT ob tb ts tg tl tc tr tu tv tw)), (ob 1, .inr (0, [.long sd, .int (nI da), .int (nI db), .int pr])), (ob 2, .inr (2, [.int (nI cn), .ref (ob 3), .ref (ob 4)])), (ob 3, .inl (cI, 160, .inl fk)), (ob 4, .inl (cI, 160, .inl fv)), (ob 5, .inr (3, gY ob (nI nb) (nI ka) (nI kb) sm (nI ln))), (ob 6, .inl (cI, 2048, .inl fh)), (ob 7, .inl (cI, 2048, .inl ff)), (ob 8, .inl (cI, 2048, .inl fa)), (ob 9, .inl (cI, 2048, .inl fs)), (ob 10, .inl (cI, 160, .inl fj)), (ob 11, .inl (cI, 160, .inl fr)), (ob 12, .inl (cI, 160, .inl fo)), (ob 13, .inl (cI, 2048, .inl fx)), (ob2 0, .inr (9, gT ob2 tb2 ts2 tg2 tl2 tc2 tr2 tu2 tv2 tw2)), (ob2 1, .inr (0, [.long sd2, .int (nI da2), .int (nI db2), .int pr2])), (ob2 2, .inr (2, [.int (nI cn2), .ref (ob2 3), .ref (ob2 4)])), (ob2 3, .inl (cI, 160, .inl fk2)), (ob2 4, .inl (cI, 160, .inl fv2)), (ob2 5, .inr (3, gY ob2 (nI nb2) (nI ka2) (nI kb2) sm2 (nI ln2))), (ob2 6, .inl (cI, 2048, .inl fh2)), (ob2 7, .inl (cI, 2048, .inl ff2)), (ob2 8, .inl (cI, 2048, .inl fa2)), (ob2 9, .inl (cI, 2048, .inl fs2)), (ob2 10, .inl (cI, 160, .inl fj2)), (ob2 11, .inl (cI, 160, .inl fr2)), (ob2 12, .inl (cI, 160, .inl fo2)), (ob2 13, .inl (cI, 2048, .inl fx2))] sz) := by
  refine Met.ofW (cc := cX10_cut) (maxL := 10) (ret := (some .int)) (by decide) rfl ?_
  intro p e s m args below meth c s₁ B hml hv
  obtain ⟨rfl, hsz, hP, hK, hD0, hN⟩ := hv
  have hx := B.exec
  have hb := B.bytes
  have hr := B.returns
  have hts := atoms_spec (ws := wp_d_cut) B.pre
  have hin_X9 : ∀ w ∈ wsX90, w ∈ wp_d_cut := fun _ h => (List.mem_cons_of_mem _ (List.mem_append_right _ (List.mem_append_right _ (List.mem_append_right _ (List.mem_append_right _ (List.mem_append_right _ (List.mem_append_left _ h)))))))
  have hin_X2 : ∀ w ∈ wsX20, w ∈ wp_d_cut := fun _ h => (List.mem_cons_of_mem _ (List.mem_append_right _ (List.mem_append_right _ (List.mem_append_right _ (List.mem_append_right _ (List.mem_append_right _ (List.mem_append_right _ (List.mem_append_left _ h))))))))
  have hown : s.vm.findClass RX10 = some m.cls := findClass_of_methodNamed B.named
  have hlocks := B.notSynchronized
  subst hsz
  have hD := hD0.self (sz := s.heap.size)
  generalize hAe : va_A [(ox 0, .inr (10, [.ref (ox 1), .ref (ox 2), .int (nI tp), .ref (ob3 0), .ref (og 0), .ref (oq 0), .ref (ow 0)])), (ox 1, .inl (cT, 4, .inr (.inr (.inr (.inr ft))))), (ob 0, .inr (9, gT ob tb ts tg tl tc tr tu tv tw)), (ob 1, .inr (0, [.long sd, .int (nI da), .int (nI db), .int pr])), (ob 2, .inr (2, [.int (nI cn), .ref (ob 3), .ref (ob 4)])), (ob 3, .inl (cI, 160, .inl fk)), (ob 4, .inl (cI, 160, .inl fv)), (ob 5, .inr (3, gY ob (nI nb) (nI ka) (nI kb) sm (nI ln))), (ob 6, .inl (cI, 2048, .inl fh)), (ob 7, .inl (cI, 2048, .inl ff)), (ob 8, .inl (cI, 2048, .inl fa)), (ob 9, .inl (cI, 2048, .inl fs)), (ob 10, .inl (cI, 160, .inl fj)), (ob 11, .inl (cI, 160, .inl fr)), (ob 12, .inl (cI, 160, .inl fo)), (ob 13, .inl (cI, 2048, .inl fx)), (ob2 0, .inr (9, gT ob2 tb2 ts2 tg2 tl2 tc2 tr2 tu2 tv2 tw2)), (ob2 1, .inr (0, [.long sd2, .int (nI da2), .int (nI db2), .int pr2])), (ob2 2, .inr (2, [.int (nI cn2), .ref (ob2 3), .ref (ob2 4)])), (ob2 3, .inl (cI, 160, .inl fk2)), (ob2 4, .inl (cI, 160, .inl fv2)), (ob2 5, .inr (3, gY ob2 (nI nb2) (nI ka2) (nI kb2) sm2 (nI ln2))), (ob2 6, .inl (cI, 2048, .inl fh2)), (ob2 7, .inl (cI, 2048, .inl ff2)), (ob2 8, .inl (cI, 2048, .inl fa2)), (ob2 9, .inl (cI, 2048, .inl fs2)), (ob2 10, .inl (cI, 160, .inl fj2)), (ob2 11, .inl (cI, 160, .inl fr2)), (ob2 12, .inl (cI, 160, .inl fo2)), (ob2 13, .inl (cI, 2048, .inl fx2))] s.heap.size = A at hD ⊢
  have hA : ∀ q : Nat, s.heap.size ≤ q → A q := fun q h => by rw [← hAe]; exact Or.inr h
  have hS : va_S A s.heap s.heap [] := va_S.rf
  have hP : va_P D vwCl [(ox 0, .inr (10, [.ref (ox 1), .ref (ox 2), .int (nI tp), .ref (ob3 0), .ref (og 0), .ref (oq 0), .ref (ow 0)])), (ox 1, .inl (cT, 4, .inr (.inr (.inr (.inr ft))))), (ob 0, .inr (9, gT ob tb ts tg tl tc tr tu tv tw)), (ob 1, .inr (0, [.long sd, .int (nI da), .int (nI db), .int pr])), (ob 2, .inr (2, [.int (nI cn), .ref (ob 3), .ref (ob 4)])), (ob 3, .inl (cI, 160, .inl fk)), (ob 4, .inl (cI, 160, .inl fv)), (ob 5, .inr (3, gY ob (nI nb) (nI ka) (nI kb) sm (nI ln))), (ob 6, .inl (cI, 2048, .inl fh)), (ob 7, .inl (cI, 2048, .inl ff)), (ob 8, .inl (cI, 2048, .inl fa)), (ob 9, .inl (cI, 2048, .inl fs)), (ob 10, .inl (cI, 160, .inl fj)), (ob 11, .inl (cI, 160, .inl fr)), (ob 12, .inl (cI, 160, .inl fo)), (ob 13, .inl (cI, 2048, .inl fx)), (ob2 0, .inr (9, gT ob2 tb2 ts2 tg2 tl2 tc2 tr2 tu2 tv2 tw2)), (ob2 1, .inr (0, [.long sd2, .int (nI da2), .int (nI db2), .int pr2])), (ob2 2, .inr (2, [.int (nI cn2), .ref (ob2 3), .ref (ob2 4)])), (ob2 3, .inl (cI, 160, .inl fk2)), (ob2 4, .inl (cI, 160, .inl fv2)), (ob2 5, .inr (3, gY ob2 (nI nb2) (nI ka2) (nI kb2) sm2 (nI ln2))), (ob2 6, .inl (cI, 2048, .inl fh2)), (ob2 7, .inl (cI, 2048, .inl ff2)), (ob2 8, .inl (cI, 2048, .inl fa2)), (ob2 9, .inl (cI, 2048, .inl fs2)), (ob2 10, .inl (cI, 160, .inl fj2)), (ob2 11, .inl (cI, 160, .inl fr2)), (ob2 12, .inl (cI, 160, .inl fo2)), (ob2 13, .inl (cI, 2048, .inl fx2))] s.heap := hP
  have hl := lv_entry ([.ref (ox 0), .int (nI k1), .int (nI k2), .int z3]) (n := 10) (Nat.le_of_ble_eq_true rfl)
  rw [lg_entry_eq]
  generalize (lg_sl ([.ref (ox 0), .int (nI k1), .int (nI k2), .int z3]) ++ List.replicate (10 - (lg_sl ([.ref (ox 0), .int (nI k1), .int (nI k2), .int z3])).length) Slot.unset).toArray = ls at hl ⊢
  have hl : lv_has ls 10 [(0, .ref (ox 0)), (1, .int (nI k1)), (2, .int (nI k2)), (3, .int z3)] := hl
  obtain ⟨hky, hL, hO, hn1, hka, hkb, hda, hdb⟩ := id hTb
  have hnb := hL.1
  have hln := hL.2.1
  have hc := hky.1
  have hcz := hky.1
  obtain ⟨hky2, hL2, hO2, hn12, hka2, hkb2, hda2, hdb2⟩ := id hTb2
  have hcz2 := hky2.1
  refine lv_aload_n hx hb dX10_cut_0 rfl (lv_at hl 0 rfl) ?_
  refine lv_iload_n hx hb dX10_cut_1 rfl (lv_at hl 1 rfl) ?_
  have hPc := hP.sub (ws' := [(ox 0, .inr (10, [.ref (ox 1), .ref (ox 2), .int (nI tp), .ref (ob3 0), .ref (og 0), .ref (oq 0), .ref (ow 0)])), (ox 1, .inl (cT, 4, .inr (.inr (.inr (.inr ft)))))]) [0, 1] rfl
  have hKc := hK.sub (tys' := [(cT, .object RX9)]) [1] rfl
  have hFc := va_free0 hS hA
  refine va_callq (va_runV (As := [.int (nI k1)]) (rest := []) ⟨hx, hb, hml, hown, hts⟩ (k_tabS l D _ ox ob3 og oq ow cI cT tp ft k1 (ob 0) hk1 hft1) (cwV 1 hts g_d_cut_k_tabS_74 rfl rfl rfl (by decide +kernel) ⟨(Nat.le_of_ble_eq_true rfl), (Nat.le_of_ble_eq_true rfl)⟩) (PcRC_V (q0 := 0) hPc hKc hN rfl rfl) rfl rfl hl.1 rfl (lv_room (Nat.le_of_ble_eq_true rfl)) dX10_cut_2 ⟨(Nat.le_of_ble_eq_true rfl), (Nat.le_of_ble_eq_true rfl)⟩) hS (fun q _ h => hFc q h) hFc (fun r1 uu tt H locs htt hvm hw hB hz1 hk1 hS => ?_)
  have hP := va_keep hP hk1
  try dsimp only at hw
  clear hB hz1 hk1 hFc hPc hKc
  obtain rfl : r1 = some (ob 0) := hw
  refine W.eq (g2 := F0 m 5 ls [.ref (ob 0)]) rfl ?_
  refine lv_astore (lv' := [(4, .ref (ob 0)), (0, .ref (ox 0)), (1, .int (nI k1)), (2, .int (nI k2)), (3, .int z3)]) hx hb dX10_cut_5 hl (by decide) rfl (fun ls hl => ?_)
  refine lv_aload_n hx hb dX10_cut_7 rfl (lv_at hl 1 rfl) ?_
  refine lv_iload_n hx hb dX10_cut_8 rfl (lv_at hl 3 rfl) ?_
  have hPc := hP.sub (ws' := [(ox 0, .inr (10, [.ref (ox 1), .ref (ox 2), .int (nI tp), .ref (ob3 0), .ref (og 0), .ref (oq 0), .ref (ow 0)])), (ox 1, .inl (cT, 4, .inr (.inr (.inr (.inr ft)))))]) [0, 1] rfl
  have hKc := hK.sub (tys' := [(cT, .object RX9)]) [1] rfl
  have hFc := va_free0 hS hA
  refine va_callq (va_runV (As := [.int (nI k2)]) (rest := []) ⟨hx, hb, hml, hown, hts⟩ (k_tabS l D _ ox ob3 og oq ow cI cT tp ft k2 (ob2 0) hk2 hft2) (cwV 1 hts g_d_cut_k_tabS_74 rfl rfl rfl (by decide +kernel) ⟨(Nat.le_of_ble_eq_true rfl), (Nat.le_of_ble_eq_true rfl)⟩) (PcRC_V (q0 := 0) hPc hKc hN rfl rfl) rfl rfl hl.1 rfl (lv_room (Nat.le_of_ble_eq_true rfl)) dX10_cut_9 ⟨(Nat.le_of_ble_eq_true rfl), (Nat.le_of_ble_eq_true rfl)⟩) hS (fun q _ h => hFc q h) hFc (fun r2 uu tt H locs htt hvm hw hB hz1 hk1 hS => ?_)
  have hP := va_keep hP hk1
  try dsimp only at hw
  clear hB hz1 hk1 hFc hPc hKc
  obtain rfl : r2 = some (ob2 0) := hw
  refine W.eq (g2 := F0 m 12 ls [.ref (ob2 0)]) rfl ?_
  refine lv_astore (lv' := [(5, .ref (ob2 0)), (4, .ref (ob 0)), (0, .ref (ox 0)), (1, .int (nI k1)), (2, .int (nI k2)), (3, .int z3)]) hx hb dX10_cut_12 hl (by decide) rfl (fun ls hl => ?_)
  refine lv_aload hx hb dX10_cut_14 (lv_at hl 1 rfl) ?_
  refine lv_ifnull hx hb dX10_cut_16 ?_
  refine lv_aload hx hb dX10_cut_19 (lv_at hl 0 rfl) ?_
  refine lv_ifnull hx hb dX10_cut_21 ?_
  refine lv_iload_n hx hb dX10_cut_24 rfl (lv_at hl 3 rfl) ?_
  refine lv_iload_n hx hb dX10_cut_25 rfl (lv_at hl 4 rfl) ?_
  refine lv_icmp_ne (tgt := 32) hx hb dX10_cut_26 (by decide) (fun hc => ?_) (fun hc => absurd hc (fun q => hne ((nI_eq (by omega) (by omega)).mp q)))
  refine lv_iconst (v := 0) hx hb dX10_cut_32 (by decide) ?_
  refine lv_istore (lv' := [(6, .int 0), (5, .ref (ob2 0)), (4, .ref (ob 0)), (0, .ref (ox 0)), (1, .int (nI k1)), (2, .int (nI k2)), (3, .int z3)]) hx hb dX10_cut_33 hl (by decide) rfl (fun ls hl => ?_)
  refine lv_iconst (v := 0) hx hb dX10_cut_35 (by decide) ?_
  refine lv_istore (lv' := [(7, .int 0), (6, .int 0), (5, .ref (ob2 0)), (4, .ref (ob 0)), (0, .ref (ox 0)), (1, .int (nI k1)), (2, .int (nI k2)), (3, .int z3)]) hx hb dX10_cut_36 hl (by decide) rfl (fun ls hl => ?_)
  refine lv_aload hx hb dX10_cut_38 (lv_at hl 3 rfl) ?_
  refine va_get (D := D) (ci := 9) (v := .ref (ob 2)) (C := RX9) (T := TX9) (N := 12) hx hb hts hin_X9 hown hK hP 2 rfl rfl 10 (by decide) (hts (.fieldLink RX10 93 "ClashFree$Table" "keys" "LClashFree$Keys;") (List.mem_of_getElem? (i := 1) rfl)) (fun _ h9 => h9) rfl dX10_cut_40 ?_
  refine va_get (D := D) (ci := 2) (v := .int (nI cn)) (C := RX2) (T := TX2) (N := 3) hx hb hts hin_X2 hown hK hP 4 rfl rfl 0 (by decide) (hts (.fieldLink RX10 121 "ClashFree$Keys" "size" "I") (List.mem_of_getElem? (i := 17) rfl)) (fun _ h9 => h9) rfl dX10_cut_43 ?_
  refine lv_istore (lv' := [(8, .int (nI cn)), (7, .int 0), (6, .int 0), (5, .ref (ob2 0)), (4, .ref (ob 0)), (0, .ref (ox 0)), (1, .int (nI k1)), (2, .int (nI k2)), (3, .int z3)]) hx hb dX10_cut_46 hl (by decide) rfl (fun ls hl => ?_)
  refine lk_cut l D ox ob3 og oq ow ob ob2 cI cT tp ft tb ts tg tr tb2 ts2 tg2 tl2 tc2 tr2 tu2 tv2 tw2 sd2 da2 db2 pr2 cn2 fk2 fv2 nb2 ka2 kb2 sm2 ln2 fh2 ff2 fa2 fs2 fj2 fr2 fo2 fx2 z3 L L2 (hky2) (hKv2) hx hb hml hown hts hA (hK.sub [0, 1] rfl) hN ?_ (cn + 1) cn 0 0 L tl tc tu tv tw sd da db pr cn fk fv nb ka kb sm ln fh ff fa fs fj fr fo fx (hcz) (by omega) (hTb) (hKv) (CtI_0 _ _ _) (by omega) _ _ _ (hP.sub [0, 1, 2, 3, 4, 5, 6, 7, 8, 9, 10, 11, 12, 13, 14, 15, 16, 17, 18, 19, 20, 21, 22, 23, 24, 25, 26, 27, 28, 29] rfl) (hD.sub [0, 1, 2, 3, 4, 5, 6, 7, 8, 9, 10, 11, 12, 13, 14, 15, 16, 17, 18, 19, 20, 21, 22, 23, 24, 25, 26, 27, 28, 29] (by decide) rfl) hS (lv_sub hl [0, 1, 2, 4, 3, 5, 8] rfl)
  intro n8_3 y_4 sn_5 Lc_6 xtl_7 xtc_8 xtu_9 xtv_10 xtw_11 xsd_12 xda_13 xdb_14 xpr_15 xcn_16 gfk_17 gfv_18 xnb_19 xka_20 xkb_21 xsm_22 xln_23 gfh_24 gff_25 gfa_26 gfs_27 gfj_28 gfr_29 gfo_30 gfx_31 hn8_32 hny_33 hTb_34 hKl_35 hC_36 hx37 hx38 H locs ls hP hD hS hl
  refine lv_iload hx hb dX10_cut_110 (lv_at hl 0 rfl) ?_
  exact W.iret (v := nI sn_5) hx hb hr (fun t ht hW => ⟨⟨nI sn_5, (xtl_7, xtc_8, xtu_9, xtv_10, xtw_11, xsd_12, xda_13, xdb_14, xpr_15, xcn_16, gfk_17, gfv_18, xnb_19, xka_20, xkb_21, xsm_22, xln_23, gfh_24, gff_25, gfa_26, gfs_27, gfj_28, gfr_29, gfo_30, gfx_31), rfl, (by (try dsimp only); first | done | exact ⟨hTb_34, hx37 ▸ hKl_35, congrArg nI hx38⟩), by rw [ht]; exact hP.sub [0, 1, 2, 3, 4, 5, 6, 7, 8, 9, 10, 11, 12, 13, 14, 15, 16, 17, 18, 19, 20, 21, 22, 23, 24, 25, 26, 27, 28, 29] rfl, va_K.moved hW.alike (hK.sub [0, 1] rfl), hD.sub [0, 1, 2, 3, 4, 5, 6, 7, 8, 9, 10, 11, 12, 13, 14, 15, 16, 17, 18, 19, 20, 21, 22, 23, 24, 25, 26, 27, 28, 29] (by decide) rfl⟩, hS.F ht⟩) hS.2.2 dX10_cut_112

