theorem dX3_buildBucket_0 : decode cX3_buildBucket 0 = .ok (.aload_n 0, 1) := by decide +kernel
theorem dX3_buildBucket_1 : decode cX3_buildBucket 1 = .ok (.iload_n 3, 1) := by decide +kernel
theorem dX3_buildBucket_2 : decode cX3_buildBucket 2 = .ok (.invokevirtual 50, 3) := by decide +kernel
theorem dX3_buildBucket_5 : decode cX3_buildBucket 5 = .ok (.istore 5, 2) := by decide +kernel
theorem dX3_buildBucket_7 : decode cX3_buildBucket 7 = .ok (.iload 5, 2) := by decide +kernel
theorem dX3_buildBucket_9 : decode cX3_buildBucket 9 = .ok (.ifCond .eq 12, 3) := by decide +kernel
theorem dX3_buildBucket_12 : decode cX3_buildBucket 12 = .ok (.iload 4, 2) := by decide +kernel
theorem dX3_buildBucket_14 : decode cX3_buildBucket 14 = .ok (.aload_n 0, 1) := by decide +kernel
theorem dX3_buildBucket_15 : decode cX3_buildBucket 15 = .ok (.getfield 54, 3) := by decide +kernel
theorem dX3_buildBucket_18 : decode cX3_buildBucket 18 = .ok (.if_icmp .le 4, 3) := by decide +kernel
theorem dX3_buildBucket_21 : decode cX3_buildBucket 21 = .ok (.return_, 1) := by decide +kernel
theorem dX3_buildBucket_22 : decode cX3_buildBucket 22 = .ok (.iload 4, 2) := by decide +kernel
theorem dX3_buildBucket_24 : decode cX3_buildBucket 24 = .ok (.aload_n 0, 1) := by decide +kernel
theorem dX3_buildBucket_25 : decode cX3_buildBucket 25 = .ok (.getfield 9, 3) := by decide +kernel
theorem dX3_buildBucket_28 : decode cX3_buildBucket 28 = .ok (.iload_n 3, 1) := by decide +kernel
theorem dX3_buildBucket_29 : decode cX3_buildBucket 29 = .ok (.iaload, 1) := by decide +kernel
theorem dX3_buildBucket_30 : decode cX3_buildBucket 30 = .ok (.isub, 1) := by decide +kernel
theorem dX3_buildBucket_31 : decode cX3_buildBucket 31 = .ok (.istore 6, 2) := by decide +kernel
theorem dX3_buildBucket_33 : decode cX3_buildBucket 33 = .ok (.iload 6, 2) := by decide +kernel
theorem dX3_buildBucket_35 : decode cX3_buildBucket 35 = .ok (.ifCond .lt 7, 3) := by decide +kernel
theorem dX3_buildBucket_38 : decode cX3_buildBucket 38 = .ok (.iconst 1, 1) := by decide +kernel
theorem dX3_buildBucket_39 : decode cX3_buildBucket 39 = .ok (.goto 4, 3) := by decide +kernel
theorem dX3_buildBucket_42 : decode cX3_buildBucket 42 = .ok (.iconst 0, 1) := by decide +kernel
theorem dX3_buildBucket_43 : decode cX3_buildBucket 43 = .ok (.istore 7, 2) := by decide +kernel
theorem dX3_buildBucket_45 : decode cX3_buildBucket 45 = .ok (.iconst 0, 1) := by decide +kernel
theorem dX3_buildBucket_46 : decode cX3_buildBucket 46 = .ok (.istore 8, 2) := by decide +kernel
theorem dX3_buildBucket_48 : decode cX3_buildBucket 48 = .ok (.iload 8, 2) := by decide +kernel
theorem dX3_buildBucket_50 : decode cX3_buildBucket 50 = .ok (.ldc 81, 2) := by decide +kernel
theorem dX3_buildBucket_52 : decode cX3_buildBucket 52 = .ok (.if_icmp .ge 150, 3) := by decide +kernel
theorem dX3_buildBucket_55 : decode cX3_buildBucket 55 = .ok (.iload 7, 2) := by decide +kernel
theorem dX3_buildBucket_57 : decode cX3_buildBucket 57 = .ok (.ifCond .eq 145, 3) := by decide +kernel
theorem dX3_buildBucket_60 : decode cX3_buildBucket 60 = .ok (.aload_n 2, 1) := by decide +kernel
theorem dX3_buildBucket_61 : decode cX3_buildBucket 61 = .ok (.invokevirtual 82, 3) := by decide +kernel
theorem dX3_buildBucket_64 : decode cX3_buildBucket 64 = .ok (.aload_n 0, 1) := by decide +kernel
theorem dX3_buildBucket_65 : decode cX3_buildBucket 65 = .ok (.getfield 18, 3) := by decide +kernel
theorem dX3_buildBucket_68 : decode cX3_buildBucket 68 = .ok (.iload_n 3, 1) := by decide +kernel
theorem dX3_buildBucket_69 : decode cX3_buildBucket 69 = .ok (.aload_n 2, 1) := by decide +kernel
theorem dX3_buildBucket_70 : decode cX3_buildBucket 70 = .ok (.getfield 87, 3) := by decide +kernel
theorem dX3_buildBucket_73 : decode cX3_buildBucket 73 = .ok (.iastore, 1) := by decide +kernel
theorem dX3_buildBucket_74 : decode cX3_buildBucket 74 = .ok (.aload_n 0, 1) := by decide +kernel
theorem dX3_buildBucket_75 : decode cX3_buildBucket 75 = .ok (.getfield 21, 3) := by decide +kernel
theorem dX3_buildBucket_78 : decode cX3_buildBucket 78 = .ok (.iload_n 3, 1) := by decide +kernel
theorem dX3_buildBucket_79 : decode cX3_buildBucket 79 = .ok (.aload_n 2, 1) := by decide +kernel
theorem dX3_buildBucket_80 : decode cX3_buildBucket 80 = .ok (.getfield 88, 3) := by decide +kernel
theorem dX3_buildBucket_83 : decode cX3_buildBucket 83 = .ok (.iastore, 1) := by decide +kernel
theorem dX3_buildBucket_84 : decode cX3_buildBucket 84 = .ok (.iconst 0, 1) := by decide +kernel
theorem dX3_buildBucket_85 : decode cX3_buildBucket 85 = .ok (.istore 7, 2) := by decide +kernel
theorem dX3_buildBucket_87 : decode cX3_buildBucket 87 = .ok (.iload 6, 2) := by decide +kernel
theorem dX3_buildBucket_89 : decode cX3_buildBucket 89 = .ok (.istore 9, 2) := by decide +kernel
theorem dX3_buildBucket_91 : decode cX3_buildBucket 91 = .ok (.iload 9, 2) := by decide +kernel
theorem dX3_buildBucket_93 : decode cX3_buildBucket 93 = .ok (.iload 4, 2) := by decide +kernel
theorem dX3_buildBucket_95 : decode cX3_buildBucket 95 = .ok (.if_icmp .ge 101, 3) := by decide +kernel
theorem dX3_buildBucket_98 : decode cX3_buildBucket 98 = .ok (.iload 7, 2) := by decide +kernel
theorem dX3_buildBucket_100 : decode cX3_buildBucket 100 = .ok (.ifCond .ne 96, 3) := by decide +kernel
theorem dX3_buildBucket_103 : decode cX3_buildBucket 103 = .ok (.aload_n 2, 1) := by decide +kernel
theorem dX3_buildBucket_104 : decode cX3_buildBucket 104 = .ok (.getfield 87, 3) := by decide +kernel
theorem dX3_buildBucket_107 : decode cX3_buildBucket 107 = .ok (.aload_n 2, 1) := by decide +kernel
theorem dX3_buildBucket_108 : decode cX3_buildBucket 108 = .ok (.getfield 88, 3) := by decide +kernel
theorem dX3_buildBucket_111 : decode cX3_buildBucket 111 = .ok (.aload_n 1, 1) := by decide +kernel
theorem dX3_buildBucket_112 : decode cX3_buildBucket 112 = .ok (.getfield 75, 3) := by decide +kernel
theorem dX3_buildBucket_115 : decode cX3_buildBucket 115 = .ok (.aload_n 0, 1) := by decide +kernel
theorem dX3_buildBucket_116 : decode cX3_buildBucket 116 = .ok (.getfield 33, 3) := by decide +kernel
theorem dX3_buildBucket_119 : decode cX3_buildBucket 119 = .ok (.iload 9, 2) := by decide +kernel
theorem dX3_buildBucket_121 : decode cX3_buildBucket 121 = .ok (.iaload, 1) := by decide +kernel
theorem dX3_buildBucket_122 : decode cX3_buildBucket 122 = .ok (.iaload, 1) := by decide +kernel
theorem dX3_buildBucket_123 : decode cX3_buildBucket 123 = .ok (.iload 5, 2) := by decide +kernel
theorem dX3_buildBucket_125 : decode cX3_buildBucket 125 = .ok (.invokestatic 46, 3) := by decide +kernel
theorem dX3_buildBucket_128 : decode cX3_buildBucket 128 = .ok (.istore 10, 2) := by decide +kernel
theorem dX3_buildBucket_130 : decode cX3_buildBucket 130 = .ok (.aload_n 0, 1) := by decide +kernel
theorem dX3_buildBucket_131 : decode cX3_buildBucket 131 = .ok (.getfield 30, 3) := by decide +kernel
theorem dX3_buildBucket_134 : decode cX3_buildBucket 134 = .ok (.aload_n 0, 1) := by decide +kernel
theorem dX3_buildBucket_135 : decode cX3_buildBucket 135 = .ok (.getfield 33, 3) := by decide +kernel
theorem dX3_buildBucket_138 : decode cX3_buildBucket 138 = .ok (.iload 9, 2) := by decide +kernel
theorem dX3_buildBucket_140 : decode cX3_buildBucket 140 = .ok (.iaload, 1) := by decide +kernel
theorem dX3_buildBucket_141 : decode cX3_buildBucket 141 = .ok (.iload 10, 2) := by decide +kernel
theorem dX3_buildBucket_143 : decode cX3_buildBucket 143 = .ok (.iastore, 1) := by decide +kernel
theorem dX3_buildBucket_144 : decode cX3_buildBucket 144 = .ok (.iload 6, 2) := by decide +kernel
theorem dX3_buildBucket_146 : decode cX3_buildBucket 146 = .ok (.istore 11, 2) := by decide +kernel
theorem dX3_buildBucket_148 : decode cX3_buildBucket 148 = .ok (.iload 11, 2) := by decide +kernel
theorem dX3_buildBucket_150 : decode cX3_buildBucket 150 = .ok (.iload 9, 2) := by decide +kernel
theorem dX3_buildBucket_152 : decode cX3_buildBucket 152 = .ok (.if_icmp .ge 38, 3) := by decide +kernel
theorem dX3_buildBucket_155 : decode cX3_buildBucket 155 = .ok (.iload 7, 2) := by decide +kernel
theorem dX3_buildBucket_157 : decode cX3_buildBucket 157 = .ok (.ifCond .ne 20, 3) := by decide +kernel
theorem dX3_buildBucket_160 : decode cX3_buildBucket 160 = .ok (.aload_n 0, 1) := by decide +kernel
theorem dX3_buildBucket_161 : decode cX3_buildBucket 161 = .ok (.getfield 30, 3) := by decide +kernel
theorem dX3_buildBucket_164 : decode cX3_buildBucket 164 = .ok (.aload_n 0, 1) := by decide +kernel
theorem dX3_buildBucket_165 : decode cX3_buildBucket 165 = .ok (.getfield 33, 3) := by decide +kernel
theorem dX3_buildBucket_168 : decode cX3_buildBucket 168 = .ok (.iload 11, 2) := by decide +kernel
theorem dX3_buildBucket_170 : decode cX3_buildBucket 170 = .ok (.iaload, 1) := by decide +kernel
theorem dX3_buildBucket_171 : decode cX3_buildBucket 171 = .ok (.iaload, 1) := by decide +kernel
theorem dX3_buildBucket_172 : decode cX3_buildBucket 172 = .ok (.iload 10, 2) := by decide +kernel
theorem dX3_buildBucket_174 : decode cX3_buildBucket 174 = .ok (.if_icmp .ne 7, 3) := by decide +kernel
theorem dX3_buildBucket_177 : decode cX3_buildBucket 177 = .ok (.iconst 1, 1) := by decide +kernel
theorem dX3_buildBucket_178 : decode cX3_buildBucket 178 = .ok (.goto 4, 3) := by decide +kernel
theorem dX3_buildBucket_181 : decode cX3_buildBucket 181 = .ok (.iconst 0, 1) := by decide +kernel
theorem dX3_buildBucket_182 : decode cX3_buildBucket 182 = .ok (.istore 7, 2) := by decide +kernel
theorem dX3_buildBucket_184 : decode cX3_buildBucket 184 = .ok (.iinc 11 1, 3) := by decide +kernel
theorem dX3_buildBucket_187 : decode cX3_buildBucket 187 = .ok (.goto (-39), 3) := by decide +kernel
theorem dX3_buildBucket_190 : decode cX3_buildBucket 190 = .ok (.iinc 9 1, 3) := by decide +kernel
theorem dX3_buildBucket_193 : decode cX3_buildBucket 193 = .ok (.goto (-102), 3) := by decide +kernel
theorem dX3_buildBucket_196 : decode cX3_buildBucket 196 = .ok (.iinc 8 1, 3) := by decide +kernel
theorem dX3_buildBucket_199 : decode cX3_buildBucket 199 = .ok (.goto (-151), 3) := by decide +kernel
theorem dX3_buildBucket_202 : decode cX3_buildBucket 202 = .ok (.return_, 1) := by decide +kernel
def own_k_bb : List Cond := [.fieldLink RX3 30 "ClashFree$Layout" "lies" "[I", .fieldLink RX3 33 "ClashFree$Layout" "order" "[I", .fieldLink RX3 87 "ClashFree$Draw" "a" "I", .fieldLink RX3 88 "ClashFree$Draw" "b" "I", .fieldLink RX3 75 "ClashFree$Keys" "keys" "[I", .initialized RX10, .static yX10_spot, .constant RX3 81 (1000000), .methodLink RX3 82 yX0_pair, .instanceMethod yX0_pair, .selects RX0 yX0_pair yX0_pair, .initialized RX0, .fieldLink RX3 18 "ClashFree$Layout" "pairA" "[I", .fieldLink RX3 21 "ClashFree$Layout" "pairB" "[I", .methodLink RX3 50 yX3_roomsOf, .instanceMethod yX3_roomsOf, .selects RX3 yX3_roomsOf yX3_roomsOf, .initialized RX3, .fieldLink RX3 54 "ClashFree$Layout" "size" "I", .fieldLink RX3 9 "ClashFree$Layout" "held" "[I"]
def wp_k_bb : List Cond := .code yX3_buildBucket cX3_buildBucket 12 none :: (own_k_bb ++ (wp_k_spot ++ (wp_k_pair ++ (wp_k_roomsOf ++ (wsX30 ++ (wsX00 ++ (wsX20 ++ ([] : List Cond))))))))
set_option maxRecDepth 20000 in
theorem inown_k_bb : ∀ w ∈ own_k_bb, w ∈ lw_tbl := mem_places [203, 206, 153, 157, 479, 106, 584, 604, 605, 564, 565, 108, 198, 200, 600, 601, 602, 109, 189, 191] (by decide +kernel)
set_option maxRecDepth 20000 in
theorem in_k_bb : ∀ w ∈ wp_k_bb, w ∈ lw_tbl := List.forall_mem_cons.mpr ⟨List.mem_of_getElem? (i := 599) (by decide +kernel), List.forall_mem_append.mpr ⟨inown_k_bb, List.forall_mem_append.mpr ⟨in_k_spot, List.forall_mem_append.mpr ⟨in_k_pair, List.forall_mem_append.mpr ⟨in_k_roomsOf, List.forall_mem_append.mpr ⟨lwb_X3, List.forall_mem_append.mpr ⟨lwb_X0, List.forall_mem_append.mpr ⟨lwb_X2, fun _ h => absurd h List.not_mem_nil⟩⟩⟩⟩⟩⟩⟩⟩
set_option maxRecDepth 20000 in
theorem good_k_bb : wp_k_bb.all goodWord = true := by decide +kernel
set_option maxRecDepth 20000 in
theorem g_k_bb_k_spot_46 : GoodIn wp_k_bb (wp_k_spot) := goodIn_sub ((fun _ h => (List.mem_cons_of_mem _ (List.mem_append_right _ (List.mem_append_left _ h))))) (by decide +kernel)
set_option maxRecDepth 20000 in
theorem g_k_bb_k_pair_82 : GoodIn wp_k_bb (wsV RX3 82 RX0 yX0_pair wp_k_pair) := goodIn_sub (List.forall_mem_append.mpr ⟨List.forall_mem_cons.mpr ⟨(List.mem_of_getElem? (i := 9) rfl), List.forall_mem_cons.mpr ⟨(List.mem_of_getElem? (i := 10) rfl), List.forall_mem_cons.mpr ⟨(List.mem_of_getElem? (i := 11) rfl), List.forall_mem_cons.mpr ⟨(List.mem_of_getElem? (i := 12) rfl), fun _ h => absurd h List.not_mem_nil⟩⟩⟩⟩, (fun _ h => (List.mem_cons_of_mem _ (List.mem_append_right _ (List.mem_append_right _ (List.mem_append_left _ h)))))⟩) (by decide +kernel)
set_option maxRecDepth 20000 in
theorem g_k_bb_k_roomsOf_50 : GoodIn wp_k_bb (wsV RX3 50 RX3 yX3_roomsOf wp_k_roomsOf) := goodIn_sub (List.forall_mem_append.mpr ⟨List.forall_mem_cons.mpr ⟨(List.mem_of_getElem? (i := 15) rfl), List.forall_mem_cons.mpr ⟨(List.mem_of_getElem? (i := 16) rfl), List.forall_mem_cons.mpr ⟨(List.mem_of_getElem? (i := 17) rfl), List.forall_mem_cons.mpr ⟨(List.mem_of_getElem? (i := 18) rfl), fun _ h => absurd h List.not_mem_nil⟩⟩⟩⟩, (fun _ h => (List.mem_cons_of_mem _ (List.mem_append_right _ (List.mem_append_right _ (List.mem_append_right _ (List.mem_append_left _ h))))))⟩) (by decide +kernel)
set_option maxHeartbeats 4000000 in
set_option maxRecDepth 100000 in
theorem lk_bb3 (l : Launch) {p : Program} {e : Env} {s : State} {m : MethodId} {args : Array Value} {below : List Frame} {meth : Method} {c : Code} {Q : State → Prop} {A : Nat → Prop} (D : va_G) (ob : Nat → Nat) (oc : Nat → Nat) (cI : ClassId) (nb : Nat) (ka : Nat) (kb : Nat) (sm : Int32) (ln : Nat) (fh : Nat → Int32) (ff : Nat → Int32) (fa : Nat → Int32) (fs : Nat → Int32) (fo : Nat → Int32) (sd : Int64) (da : Nat) (db : Nat) (pr : Int32) (cn : Nat) (fk : Nat → Int32) (z4 : Int32) (rz : Int32) (f0 : Nat) (xj : Nat) (rm : Int32) (mm : Nat) (n8 : Nat) (gr : Nat → Int32) (hln : ln ≤ 160) (hO : OrC fo) (hxj : xj < 2048) (hf0 : f0 < 2147483648) (hz4 : z4 ≤ nI ln) (hmm : mm < ln) (hx : p.tables.exec = Jvm.exec) (hb : c.code = cX3_buildBucket) (hml : c.maxLocals = 12) (hown : s.vm.findClass RX3 = some m.cls) (hts : ∀ w ∈ wp_k_bb, w.before args s = true) (hA : ∀ q, s.heap.size ≤ q → A q) (hK : va_K D vwCl [(cI, .int)] s) (hN : NC s) (kx190 : ∀ (oo : Nat), ∀ (cl : Int32), (oo < 2147483648) → ∀ (H : Heap) (locs : List Loc) (ls : Array Slot), va_P D vwCl [(ob 5, .inr (3, gY ob (nI nb) (nI ka) (nI kb) sm (nI ln))), (ob 6, .inl (cI, 2048, .inl fh)), (ob 7, .inl (cI, 2048, .inl ff)), (ob 8, .inl (cI, 2048, .inl fa)), (ob 9, .inl (cI, 2048, .inl fs)), (ob 11, .inl (cI, 160, .inl gr)), (ob 12, .inl (cI, 160, .inl fo)), (ob 1, .inr (0, [.long sd, .int (nI da), .int (nI db), .int pr])), (oc 2, .inr (2, [.int (nI cn), .ref (oc 3), .ref (oc 4)])), (oc 3, .inl (cI, 160, .inl fk))] H → va_D A [(ob 5, .inr (3, gY ob (nI nb) (nI ka) (nI kb) sm (nI ln))), (ob 6, .inl (cI, 2048, .inl fh)), (ob 7, .inl (cI, 2048, .inl ff)), (ob 8, .inl (cI, 2048, .inl fa)), (ob 9, .inl (cI, 2048, .inl fs)), (ob 11, .inl (cI, 160, .inl gr)), (ob 12, .inl (cI, 160, .inl fo)), (ob 1, .inr (0, [.long sd, .int (nI da), .int (nI db), .int pr])), (oc 2, .inr (2, [.int (nI cn), .ref (oc 3), .ref (oc 4)])), (oc 3, .inl (cI, 160, .inl fk))] → va_S A s.heap H locs → lv_has ls 12 [(9, .int (nI mm)), (8, .int (nI n8)), (7, .int cl), (5, .int rz), (6, .int (nI f0)), (0, .ref (ob 5)), (1, .ref (oc 2)), (2, .ref (ob 1)), (3, .int (nI xj)), (4, .int z4)] → W p l e ({ frames := 1, cells := 0, slots := 0, locals := 60 }) s m args below meth c H locs 0 0 Q (F0 m 190 ls [])) : ∀ (N : Nat), ∀ (oo : Nat), ∀ (cl : Int32), (oo < 2147483648) → mm - oo < N → ∀ (H : Heap) (locs : List Loc) (ls : Array Slot), va_P D vwCl [(ob 5, .inr (3, gY ob (nI nb) (nI ka) (nI kb) sm (nI ln))), (ob 6, .inl (cI, 2048, .inl fh)), (ob 7, .inl (cI, 2048, .inl ff)), (ob 8, .inl (cI, 2048, .inl fa)), (ob 9, .inl (cI, 2048, .inl fs)), (ob 11, .inl (cI, 160, .inl gr)), (ob 12, .inl (cI, 160, .inl fo)), (ob 1, .inr (0, [.long sd, .int (nI da), .int (nI db), .int pr])), (oc 2, .inr (2, [.int (nI cn), .ref (oc 3), .ref (oc 4)])), (oc 3, .inl (cI, 160, .inl fk))] H → va_D A [(ob 5, .inr (3, gY ob (nI nb) (nI ka) (nI kb) sm (nI ln))), (ob 6, .inl (cI, 2048, .inl fh)), (ob 7, .inl (cI, 2048, .inl ff)), (ob 8, .inl (cI, 2048, .inl fa)), (ob 9, .inl (cI, 2048, .inl fs)), (ob 11, .inl (cI, 160, .inl gr)), (ob 12, .inl (cI, 160, .inl fo)), (ob 1, .inr (0, [.long sd, .int (nI da), .int (nI db), .int pr])), (oc 2, .inr (2, [.int (nI cn), .ref (oc 3), .ref (oc 4)])), (oc 3, .inl (cI, 160, .inl fk))] → va_S A s.heap H locs → lv_has ls 12 [(11, .int (nI oo)), (10, .int rm), (9, .int (nI mm)), (8, .int (nI n8)), (7, .int cl), (5, .int rz), (6, .int (nI f0)), (0, .ref (ob 5)), (1, .ref (oc 2)), (2, .ref (ob 1)), (3, .int (nI xj)), (4, .int z4)] → W p l e ({ frames := 1, cells := 0, slots := 0, locals := 60 }) s m args below meth c H locs 0 0 Q (F0 m 148 ls []) := by
  have hin_X3 : ∀ w ∈ wsX30, w ∈ wp_k_bb := fun _ h => (List.mem_cons_of_mem _ (List.mem_append_right _ (List.mem_append_right _ (List.mem_append_right _ (List.mem_append_right _ (List.mem_append_left _ h))))))
  have hin_X0 : ∀ w ∈ wsX00, w ∈ wp_k_bb := fun _ h => (List.mem_cons_of_mem _ (List.mem_append_right _ (List.mem_append_right _ (List.mem_append_right _ (List.mem_append_right _ (List.mem_append_right _ (List.mem_append_left _ h)))))))
  have hin_X2 : ∀ w ∈ wsX20, w ∈ wp_k_bb := fun _ h => (List.mem_cons_of_mem _ (List.mem_append_right _ (List.mem_append_right _ (List.mem_append_right _ (List.mem_append_right _ (List.mem_append_right _ (List.mem_append_right _ (List.mem_append_left _ h))))))))
  intro N
  induction N with
  | zero =>
    intro oo cl hoo hm
    exact absurd hm (Nat.not_lt_zero _)
  | succ N ih =>
    intro oo cl hoo hm H locs ls hP hD hS hl
    refine lv_iload hx hb dX3_buildBucket_148 (lv_at hl 0 rfl) ?_
    refine lv_iload hx hb dX3_buildBucket_150 (lv_at hl 2 rfl) ?_
    refine lv_icmp_ge (tgt := 190) hx hb dX3_buildBucket_152 (by decide) (fun hc1 => ?_) (fun hc1 => ?_)
    ·
      have hlt : mm ≤ oo := (nI_leI (by omega) (by omega)).mp hc1
      exact kx190 oo cl (hoo) H locs ls (hP.sub [0, 1, 2, 3, 4, 5, 6, 7, 8, 9] rfl) (hD.sub [0, 1, 2, 3, 4, 5, 6, 7, 8, 9] (by decide) rfl) hS (lv_sub hl [2, 3, 4, 5, 6, 7, 8, 9, 10, 11] rfl)
    ·
      have hlt : oo < mm := by
        rcases Nat.lt_or_ge oo (mm) with z | z
        · exact z
        · exact absurd (nI_le z (by omega)) hc1
      obtain ⟨xo, eo, ho9⟩ := hO oo (by omega)
      refine lv_iload hx hb dX3_buildBucket_155 (lv_at hl 4 rfl) ?_
      refine lv_if_ne (tgt := 177) hx hb dX3_buildBucket_157 (by decide) (fun hc2 => ?_) (fun hc2 => ?_)
      ·
        refine lv_iconst (v := 1) hx hb dX3_buildBucket_177 (by decide) ?_
        refine lv_goto (tgt := 182) hx hb dX3_buildBucket_178 (by decide) ?_
        refine lv_istore (lv' := [(7, .int 1), (11, .int (nI oo)), (10, .int rm), (9, .int (nI mm)), (8, .int (nI n8)), (5, .int rz), (6, .int (nI f0)), (0, .ref (ob 5)), (1, .ref (oc 2)), (2, .ref (ob 1)), (3, .int (nI xj)), (4, .int z4)]) hx hb dX3_buildBucket_182 hl (by decide) rfl (fun ls hl => ?_)
        refine lv_iinc (v := nI (oo + 1)) (lv' := [(11, .int (nI (oo + 1))), (7, .int 1), (10, .int rm), (9, .int (nI mm)), (8, .int (nI n8)), (5, .int rz), (6, .int (nI f0)), (0, .ref (ob 5)), (1, .ref (oc 2)), (2, .ref (ob 1)), (3, .int (nI xj)), (4, .int z4)]) hx hb dX3_buildBucket_184 hl (k := 1) rfl (nI_1 _) (by decide) rfl (fun ls hl => ?_)
        refine lv_goto (tgt := 148) hx hb dX3_buildBucket_187 (by decide) ?_
        exact ih (oo + 1) 1 (by omega) (by omega) H locs ls (hP.sub [0, 1, 2, 3, 4, 5, 6, 7, 8, 9] rfl) (hD.sub [0, 1, 2, 3, 4, 5, 6, 7, 8, 9] (by decide) rfl) hS (lv_sub hl [0, 2, 3, 4, 1, 5, 6, 7, 8, 9, 10, 11] rfl)
      ·
        refine lv_aload_n hx hb dX3_buildBucket_160 rfl (lv_at hl 7 rfl) ?_
        refine va_get (D := D) (ci := 3) (v := .ref (ob 11)) (C := RX3) (T := TX3) (N := 13) hx hb hts hin_X3 hown hK hP 0 rfl rfl 10 (by decide) (hts (.fieldLink RX3 30 "ClashFree$Layout" "lies" "[I") (List.mem_of_getElem? (i := 1) rfl)) (fun _ h9 => h9) rfl dX3_buildBucket_161 ?_
        refine lv_aload_n hx hb dX3_buildBucket_164 rfl (lv_at hl 7 rfl) ?_
        refine va_get (D := D) (ci := 3) (v := .ref (ob 12)) (C := RX3) (T := TX3) (N := 13) hx hb hts hin_X3 hown hK hP 0 rfl rfl 11 (by decide) (hts (.fieldLink RX3 33 "ClashFree$Layout" "order" "[I") (List.mem_of_getElem? (i := 2) rfl)) (fun _ h9 => h9) rfl dX3_buildBucket_165 ?_
        refine lv_iload hx hb dX3_buildBucket_168 (lv_at hl 0 rfl) ?_
        refine va_iald hx hb hK hP 6 0 rfl rfl (vp_in_nI (by omega) (by decide)) dX3_buildBucket_170 ?_
        refine lv_topi (fun v3 ev3 => ?_)
        obtain rfl : v3 = nI xo := ev3.trans (by rw [nI_clamp (by omega)]; exact eo)
        refine va_iald hx hb hK hP 5 0 rfl rfl (vp_in_nI (by omega) (by decide)) dX3_buildBucket_171 ?_
        refine lv_topi (fun v4 ev4 => ?_)
        refine lv_iload hx hb dX3_buildBucket_172 (lv_at hl 1 rfl) ?_
        refine lv_icmp_ne (tgt := 181) hx hb dX3_buildBucket_174 (by decide) (fun hc5 => ?_) (fun hc5 => ?_)
        ·
          refine lv_iconst (v := 0) hx hb dX3_buildBucket_181 (by decide) ?_
          refine lv_istore (lv' := [(7, .int 0), (11, .int (nI oo)), (10, .int rm), (9, .int (nI mm)), (8, .int (nI n8)), (5, .int rz), (6, .int (nI f0)), (0, .ref (ob 5)), (1, .ref (oc 2)), (2, .ref (ob 1)), (3, .int (nI xj)), (4, .int z4)]) hx hb dX3_buildBucket_182 hl (by decide) rfl (fun ls hl => ?_)
          refine lv_iinc (v := nI (oo + 1)) (lv' := [(11, .int (nI (oo + 1))), (7, .int 0), (10, .int rm), (9, .int (nI mm)), (8, .int (nI n8)), (5, .int rz), (6, .int (nI f0)), (0, .ref (ob 5)), (1, .ref (oc 2)), (2, .ref (ob 1)), (3, .int (nI xj)), (4, .int z4)]) hx hb dX3_buildBucket_184 hl (k := 1) rfl (nI_1 _) (by decide) rfl (fun ls hl => ?_)
          refine lv_goto (tgt := 148) hx hb dX3_buildBucket_187 (by decide) ?_
          exact ih (oo + 1) 0 (by omega) (by omega) H locs ls (hP.sub [0, 1, 2, 3, 4, 5, 6, 7, 8, 9] rfl) (hD.sub [0, 1, 2, 3, 4, 5, 6, 7, 8, 9] (by decide) rfl) hS (lv_sub hl [0, 2, 3, 4, 1, 5, 6, 7, 8, 9, 10, 11] rfl)
        ·
          refine lv_iconst (v := 1) hx hb dX3_buildBucket_177 (by decide) ?_
          refine lv_goto (tgt := 182) hx hb dX3_buildBucket_178 (by decide) ?_
          refine lv_istore (lv' := [(7, .int 1), (11, .int (nI oo)), (10, .int rm), (9, .int (nI mm)), (8, .int (nI n8)), (5, .int rz), (6, .int (nI f0)), (0, .ref (ob 5)), (1, .ref (oc 2)), (2, .ref (ob 1)), (3, .int (nI xj)), (4, .int z4)]) hx hb dX3_buildBucket_182 hl (by decide) rfl (fun ls hl => ?_)
          refine lv_iinc (v := nI (oo + 1)) (lv' := [(11, .int (nI (oo + 1))), (7, .int 1), (10, .int rm), (9, .int (nI mm)), (8, .int (nI n8)), (5, .int rz), (6, .int (nI f0)), (0, .ref (ob 5)), (1, .ref (oc 2)), (2, .ref (ob 1)), (3, .int (nI xj)), (4, .int z4)]) hx hb dX3_buildBucket_184 hl (k := 1) rfl (nI_1 _) (by decide) rfl (fun ls hl => ?_)
          refine lv_goto (tgt := 148) hx hb dX3_buildBucket_187 (by decide) ?_
          exact ih (oo + 1) 1 (by omega) (by omega) H locs ls (hP.sub [0, 1, 2, 3, 4, 5, 6, 7, 8, 9] rfl) (hD.sub [0, 1, 2, 3, 4, 5, 6, 7, 8, 9] (by decide) rfl) hS (lv_sub hl [0, 2, 3, 4, 1, 5, 6, 7, 8, 9, 10, 11] rfl)
set_option maxHeartbeats 4000000 in
set_option maxRecDepth 100000 in
theorem lk_bb2 (l : Launch) {p : Program} {e : Env} {s : State} {m : MethodId} {args : Array Value} {below : List Frame} {meth : Method} {c : Code} {Q : State → Prop} {A : Nat → Prop} (D : va_G) (ob : Nat → Nat) (oc : Nat → Nat) (cI : ClassId) (nb : Nat) (ka : Nat) (kb : Nat) (sm : Int32) (ln : Nat) (fh : Nat → Int32) (ff : Nat → Int32) (fa : Nat → Int32) (fs : Nat → Int32) (fo : Nat → Int32) (sd : Int64) (da : Nat) (db : Nat) (pr : Int32) (cn : Nat) (fk : Nat → Int32) (z4 : Int32) (rz : Int32) (f0 : Nat) (xj : Nat) (n8 : Nat) (hln : ln ≤ 160) (hO : OrC fo) (hxj : xj < 2048) (hf0 : f0 < 2147483648) (hz4 : z4 ≤ nI ln) (hx : p.tables.exec = Jvm.exec) (hb : c.code = cX3_buildBucket) (hml : c.maxLocals = 12) (hown : s.vm.findClass RX3 = some m.cls) (hts : ∀ w ∈ wp_k_bb, w.before args s = true) (hA : ∀ q, s.heap.size ≤ q → A q) (hK : va_K D vwCl [(cI, .int)] s) (hN : NC s) (kx196 : ∀ (mm : Nat), ∀ (cl : Int32), ∀ (gr : Nat → Int32), (mm < 2147483648) → ∀ (H : Heap) (locs : List Loc) (ls : Array Slot), va_P D vwCl [(ob 5, .inr (3, gY ob (nI nb) (nI ka) (nI kb) sm (nI ln))), (ob 6, .inl (cI, 2048, .inl fh)), (ob 7, .inl (cI, 2048, .inl ff)), (ob 8, .inl (cI, 2048, .inl fa)), (ob 9, .inl (cI, 2048, .inl fs)), (ob 11, .inl (cI, 160, .inl gr)), (ob 12, .inl (cI, 160, .inl fo)), (ob 1, .inr (0, [.long sd, .int (nI da), .int (nI db), .int pr])), (oc 2, .inr (2, [.int (nI cn), .ref (oc 3), .ref (oc 4)])), (oc 3, .inl (cI, 160, .inl fk))] H → va_D A [(ob 5, .inr (3, gY ob (nI nb) (nI ka) (nI kb) sm (nI ln))), (ob 6, .inl (cI, 2048, .inl fh)), (ob 7, .inl (cI, 2048, .inl ff)), (ob 8, .inl (cI, 2048, .inl fa)), (ob 9, .inl (cI, 2048, .inl fs)), (ob 11, .inl (cI, 160, .inl gr)), (ob 12, .inl (cI, 160, .inl fo)), (ob 1, .inr (0, [.long sd, .int (nI da), .int (nI db), .int pr])), (oc 2, .inr (2, [.int (nI cn), .ref (oc 3), .ref (oc 4)])), (oc 3, .inl (cI, 160, .inl fk))] → va_S A s.heap H locs → lv_has ls 12 [(8, .int (nI n8)), (7, .int cl), (5, .int rz), (6, .int (nI f0)), (0, .ref (ob 5)), (1, .ref (oc 2)), (2, .ref (ob 1)), (3, .int (nI xj)), (4, .int z4)] → W p l e ({ frames := 1, cells := 0, slots := 0, locals := 60 }) s m args below meth c H locs 0 0 Q (F0 m 196 ls [])) : ∀ (N : Nat), ∀ (mm : Nat), ∀ (cl : Int32), ∀ (gr : Nat → Int32), (mm < 2147483648) → ln - mm < N → ∀ (H : Heap) (locs : List Loc) (ls : Array Slot), va_P D vwCl [(ob 5, .inr (3, gY ob (nI nb) (nI ka) (nI kb) sm (nI ln))), (ob 6, .inl (cI, 2048, .inl fh)), (ob 7, .inl (cI, 2048, .inl ff)), (ob 8, .inl (cI, 2048, .inl fa)), (ob 9, .inl (cI, 2048, .inl fs)), (ob 11, .inl (cI, 160, .inl gr)), (ob 12, .inl (cI, 160, .inl fo)), (ob 1, .inr (0, [.long sd, .int (nI da), .int (nI db), .int pr])), (oc 2, .inr (2, [.int (nI cn), .ref (oc 3), .ref (oc 4)])), (oc 3, .inl (cI, 160, .inl fk))] H → va_D A [(ob 5, .inr (3, gY ob (nI nb) (nI ka) (nI kb) sm (nI ln))), (ob 6, .inl (cI, 2048, .inl fh)), (ob 7, .inl (cI, 2048, .inl ff)), (ob 8, .inl (cI, 2048, .inl fa)), (ob 9, .inl (cI, 2048, .inl fs)), (ob 11, .inl (cI, 160, .inl gr)), (ob 12, .inl (cI, 160, .inl fo)), (ob 1, .inr (0, [.long sd, .int (nI da), .int (nI db), .int pr])), (oc 2, .inr (2, [.int (nI cn), .ref (oc 3), .ref (oc 4)])), (oc 3, .inl (cI, 160, .inl fk))] → va_S A s.heap H locs → lv_has ls 12 [(9, .int (nI mm)), (8, .int (nI n8)), (7, .int cl), (5, .int rz), (6, .int (nI f0)), (0, .ref (ob 5)), (1, .ref (oc 2)), (2, .ref (ob 1)), (3, .int (nI xj)), (4, .int z4)] → W p l e ({ frames := 1, cells := 0, slots := 0, locals := 60 }) s m args below meth c H locs 0 0 Q (F0 m 91 ls []) := by
  have hin_X3 : ∀ w ∈ wsX30, w ∈ wp_k_bb := fun _ h => (List.mem_cons_of_mem _ (List.mem_append_right _ (List.mem_append_right _ (List.mem_append_right _ (List.mem_append_right _ (List.mem_append_left _ h))))))
  have hin_X0 : ∀ w ∈ wsX00, w ∈ wp_k_bb := fun _ h => (List.mem_cons_of_mem _ (List.mem_append_right _ (List.mem_append_right _ (List.mem_append_right _ (List.mem_append_right _ (List.mem_append_right _ (List.mem_append_left _ h)))))))
  have hin_X2 : ∀ w ∈ wsX20, w ∈ wp_k_bb := fun _ h => (List.mem_cons_of_mem _ (List.mem_append_right _ (List.mem_append_right _ (List.mem_append_right _ (List.mem_append_right _ (List.mem_append_right _ (List.mem_append_right _ (List.mem_append_left _ h))))))))
  intro N
  induction N with
  | zero =>
    intro mm cl gr hm9 hm
    exact absurd hm (Nat.not_lt_zero _)
  | succ N ih =>
    intro mm cl gr hm9 hm H locs ls hP hD hS hl
    refine lv_iload hx hb dX3_buildBucket_91 (lv_at hl 0 rfl) ?_
    refine lv_iload hx hb dX3_buildBucket_93 (lv_at hl 9 rfl) ?_
    refine lv_icmp_ge (tgt := 196) hx hb dX3_buildBucket_95 (by decide) (fun hc1 => ?_) (fun hc1 => ?_)
    ·
      exact kx196 mm cl gr (hm9) H locs ls (hP.sub [0, 1, 2, 3, 4, 5, 6, 7, 8, 9] rfl) (hD.sub [0, 1, 2, 3, 4, 5, 6, 7, 8, 9] (by decide) rfl) hS (lv_sub hl [1, 2, 3, 4, 5, 6, 7, 8, 9] rfl)
    ·
      have hmm : mm < ln := lt_via hm9 (by omega) hc1 hz4
      obtain ⟨xo, eo, ho9⟩ := hO mm (by omega)
      refine lv_iload hx hb dX3_buildBucket_98 (lv_at hl 2 rfl) ?_
      refine lv_if_ne (tgt := 196) hx hb dX3_buildBucket_100 (by decide) (fun hc2 => ?_) (fun hc2 => ?_)
      ·
        exact kx196 mm cl gr (hm9) H locs ls (hP.sub [0, 1, 2, 3, 4, 5, 6, 7, 8, 9] rfl) (hD.sub [0, 1, 2, 3, 4, 5, 6, 7, 8, 9] (by decide) rfl) hS (lv_sub hl [1, 2, 3, 4, 5, 6, 7, 8, 9] rfl)
      ·
        refine lv_aload_n hx hb dX3_buildBucket_103 rfl (lv_at hl 7 rfl) ?_
        refine va_get (D := D) (ci := 0) (v := .int (nI da)) (C := RX0) (T := TX0) (N := 4) hx hb hts hin_X0 hown hK hP 7 rfl rfl 1 (by decide) (hts (.fieldLink RX3 87 "ClashFree$Draw" "a" "I") (List.mem_of_getElem? (i := 3) rfl)) (fun _ h9 => h9) rfl dX3_buildBucket_104 ?_
        refine lv_aload_n hx hb dX3_buildBucket_107 rfl (lv_at hl 7 rfl) ?_
        refine va_get (D := D) (ci := 0) (v := .int (nI db)) (C := RX0) (T := TX0) (N := 4) hx hb hts hin_X0 hown hK hP 7 rfl rfl 2 (by decide) (hts (.fieldLink RX3 88 "ClashFree$Draw" "b" "I") (List.mem_of_getElem? (i := 4) rfl)) (fun _ h9 => h9) rfl dX3_buildBucket_108 ?_
        refine lv_aload_n hx hb dX3_buildBucket_111 rfl (lv_at hl 6 rfl) ?_
        refine va_get (D := D) (ci := 2) (v := .ref (oc 3)) (C := RX2) (T := TX2) (N := 3) hx hb hts hin_X2 hown hK hP 8 rfl rfl 1 (by decide) (hts (.fieldLink RX3 75 "ClashFree$Keys" "keys" "[I") (List.mem_of_getElem? (i := 5) rfl)) (fun _ h9 => h9) rfl dX3_buildBucket_112 ?_
        refine lv_aload_n hx hb dX3_buildBucket_115 rfl (lv_at hl 5 rfl) ?_
        refine va_get (D := D) (ci := 3) (v := .ref (ob 12)) (C := RX3) (T := TX3) (N := 13) hx hb hts hin_X3 hown hK hP 0 rfl rfl 11 (by decide) (hts (.fieldLink RX3 33 "ClashFree$Layout" "order" "[I") (List.mem_of_getElem? (i := 2) rfl)) (fun _ h9 => h9) rfl dX3_buildBucket_116 ?_
        refine lv_iload hx hb dX3_buildBucket_119 (lv_at hl 0 rfl) ?_
        refine va_iald hx hb hK hP 6 0 rfl rfl (vp_in_nI (by omega) (by decide)) dX3_buildBucket_121 ?_
        refine lv_topi (fun v3 ev3 => ?_)
        obtain rfl : v3 = nI xo := ev3.trans (by rw [nI_clamp (by omega)]; exact eo)
        refine va_iald hx hb hK hP 9 0 rfl rfl (vp_in_nI (by omega) (by decide)) dX3_buildBucket_122 ?_
        refine lv_topi (fun v4 ev4 => ?_)
        refine lv_iload hx hb dX3_buildBucket_123 (lv_at hl 3 rfl) ?_
        have hPc := hP.sub (ws' := []) [] rfl
        have hKc := hK.sub (tys' := []) [] rfl
        have hFc := va_free0 hS hA
        refine va_calli (va_runSN (As := [.int (nI da), .int (nI db), .int v4, .int rz]) (rest := []) ⟨hx, hb, hml, hown, hts⟩ (k_spot l D _ cI (nI da) (nI db) v4 rz) ⟨va_cnB 4 hts g_k_bb_k_spot_46 rfl rfl rfl hN.2.2.1 (hts (.initialized RX10) (List.mem_of_getElem? (i := 6) rfl)) (by decide +kernel) ⟨(Nat.le_of_ble_eq_true rfl), (Nat.le_of_ble_eq_true rfl)⟩, (hts (.static yX10_spot) (List.mem_of_getElem? (i := 7) rfl)), trivial⟩ (PcRC_S hPc hKc hN) rfl rfl hl.1 rfl (lv_room (Nat.le_of_ble_eq_true rfl)) dX3_buildBucket_125 ⟨(Nat.le_of_ble_eq_true rfl), (Nat.le_of_ble_eq_true rfl)⟩) hS (fun q _ h => hFc q h) hFc (fun r5 uu tt H locs htt hvm hw hB hz1 hk1 hS => ?_)
        have hP := va_keep hP hk1
        try dsimp only at hw
        clear hB hz1 hk1 hFc hPc hKc
        have hsp_r5 := hw
        refine lv_istore (lv' := [(10, .int r5), (9, .int (nI mm)), (8, .int (nI n8)), (7, .int cl), (5, .int rz), (6, .int (nI f0)), (0, .ref (ob 5)), (1, .ref (oc 2)), (2, .ref (ob 1)), (3, .int (nI xj)), (4, .int z4)]) hx hb dX3_buildBucket_128 hl (by decide) rfl (fun ls hl => ?_)
        refine lv_aload_n hx hb dX3_buildBucket_130 rfl (lv_at hl 6 rfl) ?_
        refine va_get (D := D) (ci := 3) (v := .ref (ob 11)) (C := RX3) (T := TX3) (N := 13) hx hb hts hin_X3 hown hK hP 0 rfl rfl 10 (by decide) (hts (.fieldLink RX3 30 "ClashFree$Layout" "lies" "[I") (List.mem_of_getElem? (i := 1) rfl)) (fun _ h9 => h9) rfl dX3_buildBucket_131 ?_
        refine lv_aload_n hx hb dX3_buildBucket_134 rfl (lv_at hl 6 rfl) ?_
        refine va_get (D := D) (ci := 3) (v := .ref (ob 12)) (C := RX3) (T := TX3) (N := 13) hx hb hts hin_X3 hown hK hP 0 rfl rfl 11 (by decide) (hts (.fieldLink RX3 33 "ClashFree$Layout" "order" "[I") (List.mem_of_getElem? (i := 2) rfl)) (fun _ h9 => h9) rfl dX3_buildBucket_135 ?_
        refine lv_iload hx hb dX3_buildBucket_138 (lv_at hl 1 rfl) ?_
        refine va_iald hx hb hK hP 6 0 rfl rfl (vp_in_nI (by omega) (by decide)) dX3_buildBucket_140 ?_
        refine lv_topi (fun v6 ev6 => ?_)
        obtain rfl : v6 = nI xo := ev6.trans (by rw [nI_clamp (by omega)]; exact eo)
        refine lv_iload hx hb dX3_buildBucket_141 (lv_at hl 0 rfl) ?_
        refine va_iast hx hb hK hP hD hS 5 0 rfl rfl (vp_in_nI (by omega) (by decide)) dX3_buildBucket_143 (fun H locs hP hD hS => ?_)
        have hP : va_P D vwCl [(ob 5, .inr (3, gY ob (nI nb) (nI ka) (nI kb) sm (nI ln))), (ob 6, .inl (cI, 2048, .inl fh)), (ob 7, .inl (cI, 2048, .inl ff)), (ob 8, .inl (cI, 2048, .inl fa)), (ob 9, .inl (cI, 2048, .inl fs)), (ob 11, .inl (cI, 160, .inl (upd gr (Int32.toNatClampNeg (nI xo)) r5))), (ob 12, .inl (cI, 160, .inl fo)), (ob 1, .inr (0, [.long sd, .int (nI da), .int (nI db), .int pr])), (oc 2, .inr (2, [.int (nI cn), .ref (oc 3), .ref (oc 4)])), (oc 3, .inl (cI, 160, .inl fk))] H := hP
        have hD : va_D A [(ob 5, .inr (3, gY ob (nI nb) (nI ka) (nI kb) sm (nI ln))), (ob 6, .inl (cI, 2048, .inl fh)), (ob 7, .inl (cI, 2048, .inl ff)), (ob 8, .inl (cI, 2048, .inl fa)), (ob 9, .inl (cI, 2048, .inl fs)), (ob 11, .inl (cI, 160, .inl (upd gr (Int32.toNatClampNeg (nI xo)) r5))), (ob 12, .inl (cI, 160, .inl fo)), (ob 1, .inr (0, [.long sd, .int (nI da), .int (nI db), .int pr])), (oc 2, .inr (2, [.int (nI cn), .ref (oc 3), .ref (oc 4)])), (oc 3, .inl (cI, 160, .inl fk))] := hD
        generalize upd gr (Int32.toNatClampNeg (nI xo)) r5 = g7 at hP hD
        refine lv_iload hx hb dX3_buildBucket_144 (lv_at hl 5 rfl) ?_
        refine lv_istore (lv' := [(11, .int (nI f0)), (10, .int r5), (9, .int (nI mm)), (8, .int (nI n8)), (7, .int cl), (5, .int rz), (6, .int (nI f0)), (0, .ref (ob 5)), (1, .ref (oc 2)), (2, .ref (ob 1)), (3, .int (nI xj)), (4, .int z4)]) hx hb dX3_buildBucket_146 hl (by decide) rfl (fun ls hl => ?_)
        refine lk_bb3 l D ob oc cI nb ka kb sm ln fh ff fa fs fo sd da db pr cn fk z4 rz f0 xj r5 mm n8 g7 (hln) (hO) (hxj) (hf0) (hz4) (hmm) hx hb hml hown hts hA (hK.sub [0] rfl) hN ?_ (mm + 1) f0 cl (hf0) (by omega) _ _ _ (hP.sub [0, 1, 2, 3, 4, 5, 6, 7, 8, 9] rfl) (hD.sub [0, 1, 2, 3, 4, 5, 6, 7, 8, 9] (by decide) rfl) hS (lv_sub hl [0, 1, 2, 3, 4, 5, 6, 7, 8, 9, 10, 11] rfl)
        intro oo_8 cl_9 hoo_10 H locs ls hP hD hS hl
        refine lv_iinc (v := nI (mm + 1)) (lv' := [(9, .int (nI (mm + 1))), (8, .int (nI n8)), (7, .int cl_9), (5, .int rz), (6, .int (nI f0)), (0, .ref (ob 5)), (1, .ref (oc 2)), (2, .ref (ob 1)), (3, .int (nI xj)), (4, .int z4)]) hx hb dX3_buildBucket_190 hl (k := 0) rfl (nI_1 _) (by decide) rfl (fun ls hl => ?_)
        refine lv_goto (tgt := 91) hx hb dX3_buildBucket_193 (by decide) ?_
        exact ih (mm + 1) cl_9 g7 (by omega) (by omega) H locs ls (hP.sub [0, 1, 2, 3, 4, 5, 6, 7, 8, 9] rfl) (hD.sub [0, 1, 2, 3, 4, 5, 6, 7, 8, 9] (by decide) rfl) hS (lv_sub hl [0, 1, 2, 3, 4, 5, 6, 7, 8, 9] rfl)
set_option maxHeartbeats 4000000 in
set_option maxRecDepth 100000 in
theorem lk_bb1 (l : Launch) {p : Program} {e : Env} {s : State} {m : MethodId} {args : Array Value} {below : List Frame} {meth : Method} {c : Code} {Q : State → Prop} {A : Nat → Prop} (D : va_G) (ob : Nat → Nat) (oc : Nat → Nat) (cI : ClassId) (nb : Nat) (ka : Nat) (kb : Nat) (sm : Int32) (ln : Nat) (fh : Nat → Int32) (ff : Nat → Int32) (fo : Nat → Int32) (cn : Nat) (fk : Nat → Int32) (z4 : Int32) (rz : Int32) (f0 : Nat) (xj : Nat) (hln : ln ≤ 160) (hO : OrC fo) (hxj : xj < 2048) (hf0 : f0 < 2147483648) (hz4 : z4 ≤ nI ln) (hx : p.tables.exec = Jvm.exec) (hb : c.code = cX3_buildBucket) (hml : c.maxLocals = 12) (hown : s.vm.findClass RX3 = some m.cls) (hts : ∀ w ∈ wp_k_bb, w.before args s = true) (hA : ∀ q, s.heap.size ≤ q → A q) (hK : va_K D vwCl [(cI, .int)] s) (hN : NC s) (kx202 : ∀ (n8 : Nat), ∀ (cl : Int32), ∀ (gr : Nat → Int32), ∀ (ga : Nat → Int32), ∀ (gs : Nat → Int32), ∀ (sd : Int64), ∀ (ea : Nat), ∀ (eb : Nat), ∀ (pq : Int32), (n8 ≤ 1000000) → (ea < 2147483647) → (eb < 2147483647) → ∀ (H : Heap) (locs : List Loc) (ls : Array Slot), va_P D vwCl [(ob 5, .inr (3, gY ob (nI nb) (nI ka) (nI kb) sm (nI ln))), (ob 6, .inl (cI, 2048, .inl fh)), (ob 7, .inl (cI, 2048, .inl ff)), (ob 8, .inl (cI, 2048, .inl ga)), (ob 9, .inl (cI, 2048, .inl gs)), (ob 11, .inl (cI, 160, .inl gr)), (ob 12, .inl (cI, 160, .inl fo)), (ob 1, .inr (0, [.long sd, .int (nI ea), .int (nI eb), .int pq])), (oc 2, .inr (2, [.int (nI cn), .ref (oc 3), .ref (oc 4)])), (oc 3, .inl (cI, 160, .inl fk))] H → va_D A [(ob 5, .inr (3, gY ob (nI nb) (nI ka) (nI kb) sm (nI ln))), (ob 6, .inl (cI, 2048, .inl fh)), (ob 7, .inl (cI, 2048, .inl ff)), (ob 8, .inl (cI, 2048, .inl ga)), (ob 9, .inl (cI, 2048, .inl gs)), (ob 11, .inl (cI, 160, .inl gr)), (ob 12, .inl (cI, 160, .inl fo)), (ob 1, .inr (0, [.long sd, .int (nI ea), .int (nI eb), .int pq])), (oc 2, .inr (2, [.int (nI cn), .ref (oc 3), .ref (oc 4)])), (oc 3, .inl (cI, 160, .inl fk))] → va_S A s.heap H locs → lv_has ls 12 [(0, .ref (ob 5))] → W p l e ({ frames := 1, cells := 0, slots := 0, locals := 60 }) s m args below meth c H locs 0 0 Q (F0 m 202 ls [])) : ∀ (N : Nat), ∀ (n8 : Nat), ∀ (cl : Int32), ∀ (gr : Nat → Int32), ∀ (ga : Nat → Int32), ∀ (gs : Nat → Int32), ∀ (sd : Int64), ∀ (ea : Nat), ∀ (eb : Nat), ∀ (pq : Int32), (n8 ≤ 1000000) → (ea < 2147483647) → (eb < 2147483647) → 1000000 - n8 < N → ∀ (H : Heap) (locs : List Loc) (ls : Array Slot), va_P D vwCl [(ob 5, .inr (3, gY ob (nI nb) (nI ka) (nI kb) sm (nI ln))), (ob 6, .inl (cI, 2048, .inl fh)), (ob 7, .inl (cI, 2048, .inl ff)), (ob 8, .inl (cI, 2048, .inl ga)), (ob 9, .inl (cI, 2048, .inl gs)), (ob 11, .inl (cI, 160, .inl gr)), (ob 12, .inl (cI, 160, .inl fo)), (ob 1, .inr (0, [.long sd, .int (nI ea), .int (nI eb), .int pq])), (oc 2, .inr (2, [.int (nI cn), .ref (oc 3), .ref (oc 4)])), (oc 3, .inl (cI, 160, .inl fk))] H → va_D A [(ob 5, .inr (3, gY ob (nI nb) (nI ka) (nI kb) sm (nI ln))), (ob 6, .inl (cI, 2048, .inl fh)), (ob 7, .inl (cI, 2048, .inl ff)), (ob 8, .inl (cI, 2048, .inl ga)), (ob 9, .inl (cI, 2048, .inl gs)), (ob 11, .inl (cI, 160, .inl gr)), (ob 12, .inl (cI, 160, .inl fo)), (ob 1, .inr (0, [.long sd, .int (nI ea), .int (nI eb), .int pq])), (oc 2, .inr (2, [.int (nI cn), .ref (oc 3), .ref (oc 4)])), (oc 3, .inl (cI, 160, .inl fk))] → va_S A s.heap H locs → lv_has ls 12 [(8, .int (nI n8)), (7, .int cl), (5, .int rz), (6, .int (nI f0)), (0, .ref (ob 5)), (1, .ref (oc 2)), (2, .ref (ob 1)), (3, .int (nI xj)), (4, .int z4)] → W p l e ({ frames := 1, cells := 0, slots := 0, locals := 60 }) s m args below meth c H locs 0 0 Q (F0 m 48 ls []) := by
  have hin_X3 : ∀ w ∈ wsX30, w ∈ wp_k_bb := fun _ h => (List.mem_cons_of_mem _ (List.mem_append_right _ (List.mem_append_right _ (List.mem_append_right _ (List.mem_append_right _ (List.mem_append_left _ h))))))
  have hin_X0 : ∀ w ∈ wsX00, w ∈ wp_k_bb := fun _ h => (List.mem_cons_of_mem _ (List.mem_append_right _ (List.mem_append_right _ (List.mem_append_right _ (List.mem_append_right _ (List.mem_append_right _ (List.mem_append_left _ h)))))))
  have hin_X2 : ∀ w ∈ wsX20, w ∈ wp_k_bb := fun _ h => (List.mem_cons_of_mem _ (List.mem_append_right _ (List.mem_append_right _ (List.mem_append_right _ (List.mem_append_right _ (List.mem_append_right _ (List.mem_append_right _ (List.mem_append_left _ h))))))))
  intro N
  induction N with
  | zero =>
    intro n8 cl gr ga gs sd ea eb pq h8 hea heb hm
    exact absurd hm (Nat.not_lt_zero _)
  | succ N ih =>
    intro n8 cl gr ga gs sd ea eb pq h8 hea heb hm H locs ls hP hD hS hl
    refine lv_iload hx hb dX3_buildBucket_48 (lv_at hl 0 rfl) ?_
    refine lv_ldc (v := 1000000) hx hb hown (hts (.constant RX3 81 (1000000)) (List.mem_of_getElem? (i := 8) rfl)) dX3_buildBucket_50 ?_
    refine lv_icmp_ge (tgt := 202) hx hb dX3_buildBucket_52 (by decide) (fun hc1 => ?_) (fun hc1 => ?_)
    ·
      have hlt : 1000000 ≤ n8 := (nI_leI (by omega) (by omega)).mp hc1
      exact kx202 n8 cl gr ga gs sd ea eb pq (h8) (hea) (heb) H locs ls (hP.sub [0, 1, 2, 3, 4, 5, 6, 7, 8, 9] rfl) (hD.sub [0, 1, 2, 3, 4, 5, 6, 7, 8, 9] (by decide) rfl) hS (lv_sub hl [4] rfl)
    ·
      have hlt : n8 < 1000000 := by
        rcases Nat.lt_or_ge n8 (1000000) with z | z
        · exact z
        · exact absurd (nI_le z (by omega)) hc1
      refine lv_iload hx hb dX3_buildBucket_55 (lv_at hl 1 rfl) ?_
      refine lv_if_eq (tgt := 202) hx hb dX3_buildBucket_57 (by decide) (fun hc2 => ?_) (fun hc2 => ?_)
      ·
        exact kx202 n8 cl gr ga gs sd ea eb pq (h8) (hea) (heb) H locs ls (hP.sub [0, 1, 2, 3, 4, 5, 6, 7, 8, 9] rfl) (hD.sub [0, 1, 2, 3, 4, 5, 6, 7, 8, 9] (by decide) rfl) hS (lv_sub hl [4] rfl)
      ·
        refine lv_aload_n hx hb dX3_buildBucket_60 rfl (lv_at hl 6 rfl) ?_
        have hPc := hP.sub (ws' := [(ob 1, .inr (0, [.long sd, .int (nI ea), .int (nI eb), .int pq]))]) [7] rfl
        have hKc := hK.sub (tys' := []) [] rfl
        have hDc := hD.sub (ws' := [(ob 1, .inr (0, [.long sd, .int (nI ea), .int (nI eb), .int pq]))]) [7] (by decide) rfl
        have hFc := va_free (wc := [(ob 1, .inr (0, [.long sd, .int (nI ea), .int (nI eb), .int pq]))]) hD hS hA [7] rfl
        refine va_callv (va_runV (As := []) (rest := []) ⟨hx, hb, hml, hown, hts⟩ (k_pair l D _ ob cI sd ea eb pq) (cwV 0 hts g_k_bb_k_pair_82 rfl rfl rfl (by decide +kernel) ⟨(Nat.le_of_ble_eq_true rfl), (Nat.le_of_ble_eq_true rfl)⟩) (PcWC_V (q0 := 0) hPc hKc hDc hN rfl rfl) rfl rfl hl.1 rfl (lv_room (Nat.le_of_ble_eq_true rfl)) dX3_buildBucket_61 ⟨(Nat.le_of_ble_eq_true rfl), (Nat.le_of_ble_eq_true rfl)⟩) hS (fun q _ h => hFc q h) hFc (fun uu tt H locs htt hvm hw hB hz1 hk1 hS => ?_)
        obtain ⟨w4, w5, w6, w7⟩ := uu
        obtain ⟨hP1, hK1, hD1⟩ := hB
        rw [htt] at hP1
        have hK1 := va_K.moved hvm.symm hK1
        have hP1 : va_P D vwCl [(ob 1, .inr (0, [.long w4, .int (nI w5), .int (nI w6), .int w7]))] H := hP1
        obtain ⟨hP, hD⟩ := va_join (wr := [(ob 5, .inr (3, gY ob (nI nb) (nI ka) (nI kb) sm (nI ln))), (ob 6, .inl (cI, 2048, .inl fh)), (ob 7, .inl (cI, 2048, .inl ff)), (ob 8, .inl (cI, 2048, .inl ga)), (ob 9, .inl (cI, 2048, .inl gs)), (ob 11, .inl (cI, 160, .inl gr)), (ob 12, .inl (cI, 160, .inl fo)), (oc 2, .inr (2, [.int (nI cn), .ref (oc 3), .ref (oc 4)])), (oc 3, .inl (cI, 160, .inl fk))]) (w1 := [(ob 1, .inr (0, [.long w4, .int (nI w5), .int (nI w6), .int w7]))]) hP hD [7] [0, 1, 2, 3, 4, 5, 6, 8, 9] rfl rfl (by decide) (by decide) hk1 hFc hP1 hD1
        have hP : va_P D vwCl [(ob 5, .inr (3, gY ob (nI nb) (nI ka) (nI kb) sm (nI ln))), (ob 6, .inl (cI, 2048, .inl fh)), (ob 7, .inl (cI, 2048, .inl ff)), (ob 8, .inl (cI, 2048, .inl ga)), (ob 9, .inl (cI, 2048, .inl gs)), (ob 11, .inl (cI, 160, .inl gr)), (ob 12, .inl (cI, 160, .inl fo)), (oc 2, .inr (2, [.int (nI cn), .ref (oc 3), .ref (oc 4)])), (oc 3, .inl (cI, 160, .inl fk)), (ob 1, .inr (0, [.long w4, .int (nI w5), .int (nI w6), .int w7]))] H := hP
        have hD : va_D A [(ob 5, .inr (3, gY ob (nI nb) (nI ka) (nI kb) sm (nI ln))), (ob 6, .inl (cI, 2048, .inl fh)), (ob 7, .inl (cI, 2048, .inl ff)), (ob 8, .inl (cI, 2048, .inl ga)), (ob 9, .inl (cI, 2048, .inl gs)), (ob 11, .inl (cI, 160, .inl gr)), (ob 12, .inl (cI, 160, .inl fo)), (oc 2, .inr (2, [.int (nI cn), .ref (oc 3), .ref (oc 4)])), (oc 3, .inl (cI, 160, .inl fk)), (ob 1, .inr (0, [.long w4, .int (nI w5), .int (nI w6), .int w7]))] := hD
        try dsimp only at hw
        clear hz1 hk1 hFc hPc hKc hDc
        obtain ⟨hd8_a, hd8_b⟩ := hw
        refine lv_aload_n hx hb dX3_buildBucket_64 rfl (lv_at hl 4 rfl) ?_
        refine va_get (D := D) (ci := 3) (v := .ref (ob 8)) (C := RX3) (T := TX3) (N := 13) hx hb hts hin_X3 hown hK hP 0 rfl rfl 7 (by decide) (hts (.fieldLink RX3 18 "ClashFree$Layout" "pairA" "[I") (List.mem_of_getElem? (i := 13) rfl)) (fun _ h9 => h9) rfl dX3_buildBucket_65 ?_
        refine lv_iload_n hx hb dX3_buildBucket_68 rfl (lv_at hl 7 rfl) ?_
        refine lv_aload_n hx hb dX3_buildBucket_69 rfl (lv_at hl 6 rfl) ?_
        refine va_get (D := D) (ci := 0) (v := .int (nI w5)) (C := RX0) (T := TX0) (N := 4) hx hb hts hin_X0 hown hK hP 9 rfl rfl 1 (by decide) (hts (.fieldLink RX3 87 "ClashFree$Draw" "a" "I") (List.mem_of_getElem? (i := 3) rfl)) (fun _ h9 => h9) rfl dX3_buildBucket_70 ?_
        refine va_iast hx hb hK hP hD hS 3 0 rfl rfl (vp_in_nI (by omega) (by decide)) dX3_buildBucket_73 (fun H locs hP hD hS => ?_)
        have hP : va_P D vwCl [(ob 5, .inr (3, gY ob (nI nb) (nI ka) (nI kb) sm (nI ln))), (ob 6, .inl (cI, 2048, .inl fh)), (ob 7, .inl (cI, 2048, .inl ff)), (ob 8, .inl (cI, 2048, .inl (upd ga (Int32.toNatClampNeg (nI xj)) (nI w5)))), (ob 9, .inl (cI, 2048, .inl gs)), (ob 11, .inl (cI, 160, .inl gr)), (ob 12, .inl (cI, 160, .inl fo)), (oc 2, .inr (2, [.int (nI cn), .ref (oc 3), .ref (oc 4)])), (oc 3, .inl (cI, 160, .inl fk)), (ob 1, .inr (0, [.long w4, .int (nI w5), .int (nI w6), .int w7]))] H := hP
        have hD : va_D A [(ob 5, .inr (3, gY ob (nI nb) (nI ka) (nI kb) sm (nI ln))), (ob 6, .inl (cI, 2048, .inl fh)), (ob 7, .inl (cI, 2048, .inl ff)), (ob 8, .inl (cI, 2048, .inl (upd ga (Int32.toNatClampNeg (nI xj)) (nI w5)))), (ob 9, .inl (cI, 2048, .inl gs)), (ob 11, .inl (cI, 160, .inl gr)), (ob 12, .inl (cI, 160, .inl fo)), (oc 2, .inr (2, [.int (nI cn), .ref (oc 3), .ref (oc 4)])), (oc 3, .inl (cI, 160, .inl fk)), (ob 1, .inr (0, [.long w4, .int (nI w5), .int (nI w6), .int w7]))] := hD
        generalize upd ga (Int32.toNatClampNeg (nI xj)) (nI w5) = g9 at hP hD
        refine lv_aload_n hx hb dX3_buildBucket_74 rfl (lv_at hl 4 rfl) ?_
        refine va_get (D := D) (ci := 3) (v := .ref (ob 9)) (C := RX3) (T := TX3) (N := 13) hx hb hts hin_X3 hown hK hP 0 rfl rfl 8 (by decide) (hts (.fieldLink RX3 21 "ClashFree$Layout" "pairB" "[I") (List.mem_of_getElem? (i := 14) rfl)) (fun _ h9 => h9) rfl dX3_buildBucket_75 ?_
        refine lv_iload_n hx hb dX3_buildBucket_78 rfl (lv_at hl 7 rfl) ?_
        refine lv_aload_n hx hb dX3_buildBucket_79 rfl (lv_at hl 6 rfl) ?_
        refine va_get (D := D) (ci := 0) (v := .int (nI w6)) (C := RX0) (T := TX0) (N := 4) hx hb hts hin_X0 hown hK hP 9 rfl rfl 2 (by decide) (hts (.fieldLink RX3 88 "ClashFree$Draw" "b" "I") (List.mem_of_getElem? (i := 4) rfl)) (fun _ h9 => h9) rfl dX3_buildBucket_80 ?_
        refine va_iast hx hb hK hP hD hS 4 0 rfl rfl (vp_in_nI (by omega) (by decide)) dX3_buildBucket_83 (fun H locs hP hD hS => ?_)
        have hP : va_P D vwCl [(ob 5, .inr (3, gY ob (nI nb) (nI ka) (nI kb) sm (nI ln))), (ob 6, .inl (cI, 2048, .inl fh)), (ob 7, .inl (cI, 2048, .inl ff)), (ob 8, .inl (cI, 2048, .inl g9)), (ob 9, .inl (cI, 2048, .inl (upd gs (Int32.toNatClampNeg (nI xj)) (nI w6)))), (ob 11, .inl (cI, 160, .inl gr)), (ob 12, .inl (cI, 160, .inl fo)), (oc 2, .inr (2, [.int (nI cn), .ref (oc 3), .ref (oc 4)])), (oc 3, .inl (cI, 160, .inl fk)), (ob 1, .inr (0, [.long w4, .int (nI w5), .int (nI w6), .int w7]))] H := hP
        have hD : va_D A [(ob 5, .inr (3, gY ob (nI nb) (nI ka) (nI kb) sm (nI ln))), (ob 6, .inl (cI, 2048, .inl fh)), (ob 7, .inl (cI, 2048, .inl ff)), (ob 8, .inl (cI, 2048, .inl g9)), (ob 9, .inl (cI, 2048, .inl (upd gs (Int32.toNatClampNeg (nI xj)) (nI w6)))), (ob 11, .inl (cI, 160, .inl gr)), (ob 12, .inl (cI, 160, .inl fo)), (oc 2, .inr (2, [.int (nI cn), .ref (oc 3), .ref (oc 4)])), (oc 3, .inl (cI, 160, .inl fk)), (ob 1, .inr (0, [.long w4, .int (nI w5), .int (nI w6), .int w7]))] := hD
        generalize upd gs (Int32.toNatClampNeg (nI xj)) (nI w6) = g10 at hP hD
        refine lv_iconst (v := 0) hx hb dX3_buildBucket_84 (by decide) ?_
        refine lv_istore (lv' := [(7, .int 0), (8, .int (nI n8)), (5, .int rz), (6, .int (nI f0)), (0, .ref (ob 5)), (1, .ref (oc 2)), (2, .ref (ob 1)), (3, .int (nI xj)), (4, .int z4)]) hx hb dX3_buildBucket_85 hl (by decide) rfl (fun ls hl => ?_)
        refine lv_iload hx hb dX3_buildBucket_87 (lv_at hl 3 rfl) ?_
        refine lv_istore (lv' := [(9, .int (nI f0)), (7, .int 0), (8, .int (nI n8)), (5, .int rz), (6, .int (nI f0)), (0, .ref (ob 5)), (1, .ref (oc 2)), (2, .ref (ob 1)), (3, .int (nI xj)), (4, .int z4)]) hx hb dX3_buildBucket_89 hl (by decide) rfl (fun ls hl => ?_)
        refine lk_bb2 l D ob oc cI nb ka kb sm ln fh ff g9 g10 fo w4 w5 w6 w7 cn fk z4 rz f0 xj n8 (hln) (hO) (hxj) (hf0) (hz4) hx hb hml hown hts hA (hK.sub [0] rfl) hN ?_ (ln + 1) f0 0 gr (hf0) (by omega) _ _ _ (hP.sub [0, 1, 2, 3, 4, 5, 6, 9, 7, 8] rfl) (hD.sub [0, 1, 2, 3, 4, 5, 6, 9, 7, 8] (by decide) rfl) hS (lv_sub hl [0, 2, 1, 3, 4, 5, 6, 7, 8, 9] rfl)
        intro mm_11 cl_12 gr_13 hm9_14 H locs ls hP hD hS hl
        refine lv_iinc (v := nI (n8 + 1)) (lv' := [(8, .int (nI (n8 + 1))), (7, .int cl_12), (5, .int rz), (6, .int (nI f0)), (0, .ref (ob 5)), (1, .ref (oc 2)), (2, .ref (ob 1)), (3, .int (nI xj)), (4, .int z4)]) hx hb dX3_buildBucket_196 hl (k := 0) rfl (nI_1 _) (by decide) rfl (fun ls hl => ?_)
        refine lv_goto (tgt := 48) hx hb dX3_buildBucket_199 (by decide) ?_
        exact ih (n8 + 1) cl_12 gr_13 g9 g10 w4 w5 w6 w7 (by omega) (hd8_a) (hd8_b) (by omega) H locs ls (hP.sub [0, 1, 2, 3, 4, 5, 6, 7, 8, 9] rfl) (hD.sub [0, 1, 2, 3, 4, 5, 6, 7, 8, 9] (by decide) rfl) hS (lv_sub hl [0, 1, 2, 3, 4, 5, 6, 7, 8] rfl)
set_option maxHeartbeats 4000000 in
set_option maxRecDepth 100000 in
theorem k_bb (l : Launch) (D : va_G) (sz : Nat) (ob : Nat → Nat) (oc : Nat → Nat) (cI : ClassId) (nb : Nat) (ka : Nat) (kb : Nat) (sm : Int32) (ln : Nat) (fh : Nat → Int32) (ff : Nat → Int32) (fa : Nat → Int32) (fs : Nat → Int32) (fr : Nat → Int32) (fo : Nat → Int32) (sd : Int64) (da : Nat) (db : Nat) (pr : Int32) (cn : Nat) (fk : Nat → Int32) (z3 : Int32) (z4 : Int32) (hnb : nb ≤ 2048) (hln : ln ≤ 160) (hO : OrC fo) (hda : da < 2147483647) (hdb : db < 2147483647) : Met l yX3_buildBucket wp_k_bb ({ frames := 1, cells := 0, slots := 0, locals := 60 }) (PcWC D [.ref (ob 5), .ref (oc 2), .ref (ob 1), .int z3, .int z4] sz [(ob 5, .inr (3, gY ob (nI nb) (nI ka) (nI kb) sm (nI ln))), (ob 6, .inl (cI, 2048, .inl fh)), (ob 7, .inl (cI, 2048, .inl ff)), (ob 8, .inl (cI, 2048, .inl fa)), (ob 9, .inl (cI, 2048, .inl fs)), (ob 11, .inl (cI, 160, .inl fr)), (ob 12, .inl (cI, 160, .inl fo)), (ob 1, .inr (0, [.long sd, .int (nI da), .int (nI db), .int pr])), (oc 2, .inr (2, [.int (nI cn), .ref (oc 3), .ref (oc 4)])), (oc 3, .inl (cI, 160, .inl fk))] [(cI, .int)]) (va_Qv (fun (u : (Nat → Int32) × (Nat → Int32) × (Nat → Int32) × (Int64) × (Nat) × (Nat) × (Int32)) => u.2.2.2.2.1 < 2147483647 ∧ u.2.2.2.2.2.1 < 2147483647) (fun (u : (Nat → Int32) × (Nat → Int32) × (Nat → Int32) × (Int64) × (Nat) × (Nat) × (Int32)) t => va_P D vwCl [(ob 5, .inr (3, gY ob (nI nb) (nI ka) (nI kb) sm (nI ln))), (ob 6, .inl (cI, 2048, .inl fh)), (ob 7, .inl (cI, 2048, .inl ff)), (ob 8, .inl (cI, 2048, .inl u.1)), (ob 9, .inl (cI, 2048, .inl u.2.1)), (ob 11, .inl (cI, 160, .inl u.2.2.1)), (ob 12, .inl (cI, 160, .inl fo)), (ob 1, .inr (0, [.long u.2.2.2.1, .int (nI u.2.2.2.2.1), .int (nI u.2.2.2.2.2.1), .int u.2.2.2.2.2.2])), (oc 2, .inr (2, [.int (nI cn), .ref (oc 3), .ref (oc 4)])), (oc 3, .inl (cI, 160, .inl fk))] t.heap ∧ va_K D vwCl [(cI, .int)] t ∧ va_D (va_A [(ob 5, .inr (3, gY ob (nI nb) (nI ka) (nI kb) sm (nI ln))), (ob 6, .inl (cI, 2048, .inl fh)), (ob 7, .inl (cI, 2048, .inl ff)), (ob 8, .inl (cI, 2048, .inl fa)), (ob 9, .inl (cI, 2048, .inl fs)), (ob 11, .inl (cI, 160, .inl fr)), (ob 12, .inl (cI, 160, .inl fo)), (ob 1, .inr (0, [.long sd, .int (nI da), .int (nI db), .int pr])), (oc 2, .inr (2, [.int (nI cn), .ref (oc 3), .ref (oc 4)])), (oc 3, .inl (cI, 160, .inl fk))] sz) [(ob 5, .inr (3, gY ob (nI nb) (nI ka) (nI kb) sm (nI ln))), (ob 6, .inl (cI, 2048, .inl fh)), (ob 7, .inl (cI, 2048, .inl ff)), (ob 8, .inl (cI, 2048, .inl u.1)), (ob 9, .inl (cI, 2048, .inl u.2.1)), (ob 11, .inl (cI, 160, .inl u.2.2.1)), (ob 12, .inl (cI, 160, .inl fo)), (ob 1, .inr (0, [.long u.2.2.2.1, .int (nI u.2.2.2.2.1), .int (nI u.2.2.2.2.2.1), .int u.2.2.2.2.2.2])), (oc 2, .inr (2, [.int (nI cn), .ref (oc 3), .ref (oc 4)])), (oc 3, .inl (cI, 160, .inl fk))]) (va_A [(ob 5, .inr (3, gY ob (nI nb) (nI ka) (nI kb) sm (nI ln))), (ob 6, .inl (cI, 2048, .inl fh)), (ob 7, .inl (cI, 2048, .inl ff)), (ob 8, .inl (cI, 2048, .inl fa)), (ob 9, .inl (cI, 2048, .inl fs)), (ob 11, .inl (cI, 160, .inl fr)), (ob 12, .inl (cI, 160, .inl fo)), (ob 1, .inr (0, [.long sd, .int (nI da), .int (nI db), .int pr])), (oc 2, .inr (2, [.int (nI cn), .ref (oc 3), .ref (oc 4)])), (oc 3, .inl (cI, 160, .inl fk))] sz)) 0 0 (va_A [(ob 5, .inr (3, gY ob (nI nb) (nI ka) (nI kb) sm (nI ln))), (ob 6, .inl (cI, 2048, .inl fh)), (ob 7, .inl (cI, 2048, .inl ff)), (ob 8, .inl (cI, 2048, .inl fa)), (ob 9, .inl (cI, 2048, .inl fs)), (ob 11, .inl (cI, 160, .inl fr)), (ob 12, .inl (cI, 160, .inl fo)), (ob 1, .inr (0, [.long sd, .int (nI da), .int (nI db), .int pr])), (oc 2, .inr (2, [.int (nI cn), .ref (oc 3), .ref (oc 4)])), (oc 3, .inl (cI, 160, .inl fk))] sz) := by
  refine Met.ofW (cc := cX3_buildBucket) (maxL := 12) (ret := none) (by decide) rfl ?_
  intro p e s m args below meth c s₁ B hml hv
  obtain ⟨rfl, hsz, hP, hK, hD0, hN⟩ := hv
  have hx := B.exec
  have hb := B.bytes
  have hr := B.returns
  have hts := atoms_spec (ws := wp_k_bb) B.pre
  have hin_X3 : ∀ w ∈ wsX30, w ∈ wp_k_bb := fun _ h => (List.mem_cons_of_mem _ (List.mem_append_right _ (List.mem_append_right _ (List.mem_append_right _ (List.mem_append_right _ (List.mem_append_left _ h))))))
  have hin_X0 : ∀ w ∈ wsX00, w ∈ wp_k_bb := fun _ h => (List.mem_cons_of_mem _ (List.mem_append_right _ (List.mem_append_right _ (List.mem_append_right _ (List.mem_append_right _ (List.mem_append_right _ (List.mem_append_left _ h)))))))
  have hin_X2 : ∀ w ∈ wsX20, w ∈ wp_k_bb := fun _ h => (List.mem_cons_of_mem _ (List.mem_append_right _ (List.mem_append_right _ (List.mem_append_right _ (List.mem_append_right _ (List.mem_append_right _ (List.mem_append_right _ (List.mem_append_left _ h))))))))
  have hown : s.vm.findClass RX3 = some m.cls := findClass_of_methodNamed B.named
  have hlocks := B.notSynchronized
  subst hsz
  have hD := hD0.self (sz := s.heap.size)
  generalize hAe : va_A [(ob 5, .inr (3, gY ob (nI nb) (nI ka) (nI kb) sm (nI ln))), (ob 6, .inl (cI, 2048, .inl fh)), (ob 7, .inl (cI, 2048, .inl ff)), (ob 8, .inl (cI, 2048, .inl fa)), (ob 9, .inl (cI, 2048, .inl fs)), (ob 11, .inl (cI, 160, .inl fr)), (ob 12, .inl (cI, 160, .inl fo)), (ob 1, .inr (0, [.long sd, .int (nI da), .int (nI db), .int pr])), (oc 2, .inr (2, [.int (nI cn), .ref (oc 3), .ref (oc 4)])), (oc 3, .inl (cI, 160, .inl fk))] s.heap.size = A at hD ⊢
  have hA : ∀ q : Nat, s.heap.size ≤ q → A q := fun q h => by rw [← hAe]; exact Or.inr h
  have hS : va_S A s.heap s.heap [] := va_S.rf
  have hP : va_P D vwCl [(ob 5, .inr (3, gY ob (nI nb) (nI ka) (nI kb) sm (nI ln))), (ob 6, .inl (cI, 2048, .inl fh)), (ob 7, .inl (cI, 2048, .inl ff)), (ob 8, .inl (cI, 2048, .inl fa)), (ob 9, .inl (cI, 2048, .inl fs)), (ob 11, .inl (cI, 160, .inl fr)), (ob 12, .inl (cI, 160, .inl fo)), (ob 1, .inr (0, [.long sd, .int (nI da), .int (nI db), .int pr])), (oc 2, .inr (2, [.int (nI cn), .ref (oc 3), .ref (oc 4)])), (oc 3, .inl (cI, 160, .inl fk))] s.heap := hP
  have hl := lv_entry ([.ref (ob 5), .ref (oc 2), .ref (ob 1), .int z3, .int z4]) (n := 12) (Nat.le_of_ble_eq_true rfl)
  rw [lg_entry_eq]
  generalize (lg_sl ([.ref (ob 5), .ref (oc 2), .ref (ob 1), .int z3, .int z4]) ++ List.replicate (12 - (lg_sl ([.ref (ob 5), .ref (oc 2), .ref (ob 1), .int z3, .int z4])).length) Slot.unset).toArray = ls at hl ⊢
  have hl : lv_has ls 12 [(0, .ref (ob 5)), (1, .ref (oc 2)), (2, .ref (ob 1)), (3, .int z3), (4, .int z4)] := hl
  refine lv_aload_n hx hb dX3_buildBucket_0 rfl (lv_at hl 0 rfl) ?_
  refine lv_iload_n hx hb dX3_buildBucket_1 rfl (lv_at hl 3 rfl) ?_
  have hPc := hP.sub (ws' := [(ob 5, .inr (3, gY ob (nI nb) (nI ka) (nI kb) sm (nI ln))), (ob 7, .inl (cI, 2048, .inl ff))]) [0, 2] rfl
  have hKc := hK.sub (tys' := [(cI, .int)]) [0] rfl
  have hFc := va_free0 hS hA
  refine va_calli (va_runV (As := [.int z3]) (rest := []) ⟨hx, hb, hml, hown, hts⟩ (k_roomsOf l D _ ob cI nb ka kb sm ln ff z3 (by first | assumption | omega)) (cwV 1 hts g_k_bb_k_roomsOf_50 rfl rfl rfl (by decide +kernel) ⟨(Nat.le_of_ble_eq_true rfl), (Nat.le_of_ble_eq_true rfl)⟩) (PcRC_V (q0 := 0) hPc hKc hN rfl rfl) rfl rfl hl.1 rfl (lv_room (Nat.le_of_ble_eq_true rfl)) dX3_buildBucket_2 ⟨(Nat.le_of_ble_eq_true rfl), (Nat.le_of_ble_eq_true rfl)⟩) hS (fun q _ h => hFc q h) hFc (fun r1 uu tt H locs htt hvm hw hB hz1 hk1 hS => ?_)
  have hP := va_keep hP hk1
  try dsimp only at hw
  clear hB hz1 hk1 hFc hPc hKc
  have hro_r1 := hw
  refine lv_istore (lv' := [(5, .int r1), (0, .ref (ob 5)), (1, .ref (oc 2)), (2, .ref (ob 1)), (3, .int z3), (4, .int z4)]) hx hb dX3_buildBucket_5 hl (by decide) rfl (fun ls hl => ?_)
  refine lv_iload hx hb dX3_buildBucket_7 (lv_at hl 0 rfl) ?_
  refine lv_if_eq (tgt := 21) hx hb dX3_buildBucket_9 (by decide) (fun hc2 => ?_) (fun hc2 => ?_)
  ·
    exact W.vret hx hb hr (fun t ht hW => ⟨⟨(fa, fs, fr, sd, da, db, pr), rfl, (by (try dsimp only); first | done | exact ⟨hda, hdb⟩), by rw [ht]; exact hP.sub [0, 1, 2, 3, 4, 5, 6, 7, 8, 9] rfl, va_K.moved hW.alike (hK.sub [0] rfl), hD.sub [0, 1, 2, 3, 4, 5, 6, 7, 8, 9] (by decide) rfl⟩, hS.F ht⟩) hS.2.2 dX3_buildBucket_21
  ·
    obtain ⟨xj, hxj, rfl⟩ := (hro_r1).resolve_left hc2
    refine lv_iload hx hb dX3_buildBucket_12 (lv_at hl 5 rfl) ?_
    refine lv_aload_n hx hb dX3_buildBucket_14 rfl (lv_at hl 1 rfl) ?_
    refine va_get (D := D) (ci := 3) (v := .int (nI ln)) (C := RX3) (T := TX3) (N := 13) hx hb hts hin_X3 hown hK hP 0 rfl rfl 4 (by decide) (hts (.fieldLink RX3 54 "ClashFree$Layout" "size" "I") (List.mem_of_getElem? (i := 19) rfl)) (fun _ h9 => h9) rfl dX3_buildBucket_15 ?_
    refine lv_icmp_le (tgt := 22) hx hb dX3_buildBucket_18 (by decide) (fun hc3 => ?_) (fun hc3 => ?_)
    ·
      have hz4 := hc3
      refine lv_iload hx hb dX3_buildBucket_22 (lv_at hl 5 rfl) ?_
      refine lv_aload_n hx hb dX3_buildBucket_24 rfl (lv_at hl 1 rfl) ?_
      refine va_get (D := D) (ci := 3) (v := .ref (ob 6)) (C := RX3) (T := TX3) (N := 13) hx hb hts hin_X3 hown hK hP 0 rfl rfl 5 (by decide) (hts (.fieldLink RX3 9 "ClashFree$Layout" "held" "[I") (List.mem_of_getElem? (i := 20) rfl)) (fun _ h9 => h9) rfl dX3_buildBucket_25 ?_
      refine lv_iload_n hx hb dX3_buildBucket_28 rfl (lv_at hl 4 rfl) ?_
      refine va_iald hx hb hK hP 1 0 rfl rfl (vp_in_nI (by omega) (by decide)) dX3_buildBucket_29 ?_
      refine lv_topi (fun v4 ev4 => ?_)
      refine lv_isub hx hb dX3_buildBucket_30 ?_
      refine lv_topi (fun v5 ev5 => ?_)
      refine lv_istore (lv' := [(6, .int v5), (5, .int r1), (0, .ref (ob 5)), (1, .ref (oc 2)), (2, .ref (ob 1)), (3, .int (nI xj)), (4, .int z4)]) hx hb dX3_buildBucket_31 hl (by decide) rfl (fun ls hl => ?_)
      refine lv_iload hx hb dX3_buildBucket_33 (lv_at hl 0 rfl) ?_
      refine lv_if_lt (tgt := 42) hx hb dX3_buildBucket_35 (by decide) (fun hc6 => ?_) (fun hc6 => ?_)
      ·
        refine lv_iconst (v := 0) hx hb dX3_buildBucket_42 (by decide) ?_
        refine lv_istore (lv' := [(7, .int 0), (6, .int v5), (5, .int r1), (0, .ref (ob 5)), (1, .ref (oc 2)), (2, .ref (ob 1)), (3, .int (nI xj)), (4, .int z4)]) hx hb dX3_buildBucket_43 hl (by decide) rfl (fun ls hl => ?_)
        refine lv_iconst (v := 0) hx hb dX3_buildBucket_45 (by decide) ?_
        refine lv_istore (lv' := [(8, .int 0), (7, .int 0), (6, .int v5), (5, .int r1), (0, .ref (ob 5)), (1, .ref (oc 2)), (2, .ref (ob 1)), (3, .int (nI xj)), (4, .int z4)]) hx hb dX3_buildBucket_46 hl (by decide) rfl (fun ls hl => ?_)
        refine lv_iload hx hb dX3_buildBucket_48 (lv_at hl 0 rfl) ?_
        refine lv_ldc (v := 1000000) hx hb hown (hts (.constant RX3 81 (1000000)) (List.mem_of_getElem? (i := 8) rfl)) dX3_buildBucket_50 ?_
        refine lv_icmp_ge (tgt := 202) hx hb dX3_buildBucket_52 (by decide) (fun hc => absurd hc (by decide)) (fun hc => ?_)
        refine lv_iload hx hb dX3_buildBucket_55 (lv_at hl 1 rfl) ?_
        refine lv_if_eq (tgt := 202) hx hb dX3_buildBucket_57 (by decide) (fun hc => ?_) (fun hc => absurd (by decide) hc)
        exact W.vret hx hb hr (fun t ht hW => ⟨⟨(fa, fs, fr, sd, da, db, pr), rfl, (by (try dsimp only); first | done | exact ⟨hda, hdb⟩), by rw [ht]; exact hP.sub [0, 1, 2, 3, 4, 5, 6, 7, 8, 9] rfl, va_K.moved hW.alike (hK.sub [0] rfl), hD.sub [0, 1, 2, 3, 4, 5, 6, 7, 8, 9] (by decide) rfl⟩, hS.F ht⟩) hS.2.2 dX3_buildBucket_202
      ·
        obtain ⟨f0, hf0, rfl⟩ := nneg hc6
        refine lv_iconst (v := 1) hx hb dX3_buildBucket_38 (by decide) ?_
        refine lv_goto (tgt := 43) hx hb dX3_buildBucket_39 (by decide) ?_
        refine lv_istore (lv' := [(7, .int 1), (6, .int (nI f0)), (5, .int r1), (0, .ref (ob 5)), (1, .ref (oc 2)), (2, .ref (ob 1)), (3, .int (nI xj)), (4, .int z4)]) hx hb dX3_buildBucket_43 hl (by decide) rfl (fun ls hl => ?_)
        refine lv_iconst (v := 0) hx hb dX3_buildBucket_45 (by decide) ?_
        refine lv_istore (lv' := [(8, .int 0), (7, .int 1), (6, .int (nI f0)), (5, .int r1), (0, .ref (ob 5)), (1, .ref (oc 2)), (2, .ref (ob 1)), (3, .int (nI xj)), (4, .int z4)]) hx hb dX3_buildBucket_46 hl (by decide) rfl (fun ls hl => ?_)
        refine lk_bb1 l D ob oc cI nb ka kb sm ln fh ff fo cn fk z4 r1 f0 xj (hln) (hO) (by omega) (hf0) (hz4) hx hb hml hown hts hA (hK.sub [0] rfl) hN ?_ (1000001) 0 1 fr fa fs sd da db pr (by omega) (hda) (hdb) (by omega) _ _ _ (hP.sub [0, 1, 2, 3, 4, 5, 6, 7, 8, 9] rfl) (hD.sub [0, 1, 2, 3, 4, 5, 6, 7, 8, 9] (by decide) rfl) hS (lv_sub hl [0, 1, 3, 2, 4, 5, 6, 7, 8] rfl)
        intro n8_7 cl_8 gr_9 ga_10 gs_11 sd_12 ea_13 eb_14 pq_15 h8_16 hea_17 heb_18 H locs ls hP hD hS hl
        exact W.vret hx hb hr (fun t ht hW => ⟨⟨(ga_10, gs_11, gr_9, sd_12, ea_13, eb_14, pq_15), rfl, (by (try dsimp only); first | done | exact ⟨hea_17, heb_18⟩), by rw [ht]; exact hP.sub [0, 1, 2, 3, 4, 5, 6, 7, 8, 9] rfl, va_K.moved hW.alike (hK.sub [0] rfl), hD.sub [0, 1, 2, 3, 4, 5, 6, 7, 8, 9] (by decide) rfl⟩, hS.F ht⟩) hS.2.2 dX3_buildBucket_202
    ·
      exact W.vret hx hb hr (fun t ht hW => ⟨⟨(fa, fs, fr, sd, da, db, pr), rfl, (by (try dsimp only); first | done | exact ⟨hda, hdb⟩), by rw [ht]; exact hP.sub [0, 1, 2, 3, 4, 5, 6, 7, 8, 9] rfl, va_K.moved hW.alike (hK.sub [0] rfl), hD.sub [0, 1, 2, 3, 4, 5, 6, 7, 8, 9] (by decide) rfl⟩, hS.F ht⟩) hS.2.2 dX3_buildBucket_21

