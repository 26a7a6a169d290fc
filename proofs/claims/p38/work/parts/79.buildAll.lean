theorem dX9_begin_0 : decode cX9_begin 0 = .ok (.aload_n 0, 1) := by decide +kernel
theorem dX9_begin_1 : decode cX9_begin 1 = .ok (.iload_n 1, 1) := by decide +kernel
theorem dX9_begin_2 : decode cX9_begin 2 = .ok (.putfield 32, 3) := by decide +kernel
theorem dX9_begin_5 : decode cX9_begin 5 = .ok (.aload_n 0, 1) := by decide +kernel
theorem dX9_begin_6 : decode cX9_begin 6 = .ok (.iload_n 2, 1) := by decide +kernel
theorem dX9_begin_7 : decode cX9_begin 7 = .ok (.putfield 36, 3) := by decide +kernel
theorem dX9_begin_10 : decode cX9_begin 10 = .ok (.aload_n 0, 1) := by decide +kernel
theorem dX9_begin_11 : decode cX9_begin 11 = .ok (.iload_n 3, 1) := by decide +kernel
theorem dX9_begin_12 : decode cX9_begin 12 = .ok (.putfield 39, 3) := by decide +kernel
theorem dX9_begin_15 : decode cX9_begin 15 = .ok (.aload_n 0, 1) := by decide +kernel
theorem dX9_begin_16 : decode cX9_begin 16 = .ok (.iconst 0, 1) := by decide +kernel
theorem dX9_begin_17 : decode cX9_begin 17 = .ok (.putfield 42, 3) := by decide +kernel
theorem dX9_begin_20 : decode cX9_begin 20 = .ok (.aload_n 0, 1) := by decide +kernel
theorem dX9_begin_21 : decode cX9_begin 21 = .ok (.iconst 0, 1) := by decide +kernel
theorem dX9_begin_22 : decode cX9_begin 22 = .ok (.putfield 45, 3) := by decide +kernel
theorem dX9_begin_25 : decode cX9_begin 25 = .ok (.aload_n 0, 1) := by decide +kernel
theorem dX9_begin_26 : decode cX9_begin 26 = .ok (.iconst 0, 1) := by decide +kernel
theorem dX9_begin_27 : decode cX9_begin 27 = .ok (.putfield 48, 3) := by decide +kernel
theorem dX9_begin_30 : decode cX9_begin 30 = .ok (.aload_n 0, 1) := by decide +kernel
theorem dX9_begin_31 : decode cX9_begin 31 = .ok (.iconst 0, 1) := by decide +kernel
theorem dX9_begin_32 : decode cX9_begin 32 = .ok (.putfield 51, 3) := by decide +kernel
theorem dX9_begin_35 : decode cX9_begin 35 = .ok (.aload_n 0, 1) := by decide +kernel
theorem dX9_begin_36 : decode cX9_begin 36 = .ok (.getfield 12, 3) := by decide +kernel
theorem dX9_begin_39 : decode cX9_begin 39 = .ok (.lload 4, 2) := by decide +kernel
theorem dX9_begin_41 : decode cX9_begin 41 = .ok (.invokevirtual 54, 3) := by decide +kernel
theorem dX9_begin_44 : decode cX9_begin 44 = .ok (.aload_n 0, 1) := by decide +kernel
theorem dX9_begin_45 : decode cX9_begin 45 = .ok (.getfield 21, 3) := by decide +kernel
theorem dX9_begin_48 : decode cX9_begin 48 = .ok (.iconst 0, 1) := by decide +kernel
theorem dX9_begin_49 : decode cX9_begin 49 = .ok (.putfield 58, 3) := by decide +kernel
theorem dX9_begin_52 : decode cX9_begin 52 = .ok (.return_, 1) := by decide +kernel
theorem dX9_mostRooms_0 : decode cX9_mostRooms 0 = .ok (.aload_n 0, 1) := by decide +kernel
theorem dX9_mostRooms_1 : decode cX9_mostRooms 1 = .ok (.getfield 32, 3) := by decide +kernel
theorem dX9_mostRooms_4 : decode cX9_mostRooms 4 = .ok (.aload_n 0, 1) := by decide +kernel
theorem dX9_mostRooms_5 : decode cX9_mostRooms 5 = .ok (.getfield 61, 3) := by decide +kernel
theorem dX9_mostRooms_8 : decode cX9_mostRooms 8 = .ok (.imul, 1) := by decide +kernel
theorem dX9_mostRooms_9 : decode cX9_mostRooms 9 = .ok (.ireturn, 1) := by decide +kernel
theorem dX9_buildAll_0 : decode cX9_buildAll 0 = .ok (.aload_n 0, 1) := by decide +kernel
theorem dX9_buildAll_1 : decode cX9_buildAll 1 = .ok (.aload_n 0, 1) := by decide +kernel
theorem dX9_buildAll_2 : decode cX9_buildAll 2 = .ok (.getfield 21, 3) := by decide +kernel
theorem dX9_buildAll_5 : decode cX9_buildAll 5 = .ok (.getfield 58, 3) := by decide +kernel
theorem dX9_buildAll_8 : decode cX9_buildAll 8 = .ok (.aload_n 0, 1) := by decide +kernel
theorem dX9_buildAll_9 : decode cX9_buildAll 9 = .ok (.getfield 21, 3) := by decide +kernel
theorem dX9_buildAll_12 : decode cX9_buildAll 12 = .ok (.getfield 58, 3) := by decide +kernel
theorem dX9_buildAll_15 : decode cX9_buildAll 15 = .ok (.aload_n 0, 1) := by decide +kernel
theorem dX9_buildAll_16 : decode cX9_buildAll 16 = .ok (.getfield 39, 3) := by decide +kernel
theorem dX9_buildAll_19 : decode cX9_buildAll 19 = .ok (.imul, 1) := by decide +kernel
theorem dX9_buildAll_20 : decode cX9_buildAll 20 = .ok (.bipush 100, 2) := by decide +kernel
theorem dX9_buildAll_22 : decode cX9_buildAll 22 = .ok (.idiv, 1) := by decide +kernel
theorem dX9_buildAll_23 : decode cX9_buildAll 23 = .ok (.iadd, 1) := by decide +kernel
theorem dX9_buildAll_24 : decode cX9_buildAll 24 = .ok (.iconst 4, 1) := by decide +kernel
theorem dX9_buildAll_25 : decode cX9_buildAll 25 = .ok (.iadd, 1) := by decide +kernel
theorem dX9_buildAll_26 : decode cX9_buildAll 26 = .ok (.putfield 61, 3) := by decide +kernel
theorem dX9_buildAll_29 : decode cX9_buildAll 29 = .ok (.aload_n 0, 1) := by decide +kernel
theorem dX9_buildAll_30 : decode cX9_buildAll 30 = .ok (.aload_n 0, 1) := by decide +kernel
theorem dX9_buildAll_31 : decode cX9_buildAll 31 = .ok (.getfield 21, 3) := by decide +kernel
theorem dX9_buildAll_34 : decode cX9_buildAll 34 = .ok (.getfield 58, 3) := by decide +kernel
theorem dX9_buildAll_37 : decode cX9_buildAll 37 = .ok (.putfield 64, 3) := by decide +kernel
theorem dX9_buildAll_40 : decode cX9_buildAll 40 = .ok (.aload_n 0, 1) := by decide +kernel
theorem dX9_buildAll_41 : decode cX9_buildAll 41 = .ok (.dup, 1) := by decide +kernel
theorem dX9_buildAll_42 : decode cX9_buildAll 42 = .ok (.getfield 51, 3) := by decide +kernel
theorem dX9_buildAll_45 : decode cX9_buildAll 45 = .ok (.aload_n 0, 1) := by decide +kernel
theorem dX9_buildAll_46 : decode cX9_buildAll 46 = .ok (.getfield 21, 3) := by decide +kernel
theorem dX9_buildAll_49 : decode cX9_buildAll 49 = .ok (.getfield 58, 3) := by decide +kernel
theorem dX9_buildAll_52 : decode cX9_buildAll 52 = .ok (.iadd, 1) := by decide +kernel
theorem dX9_buildAll_53 : decode cX9_buildAll 53 = .ok (.putfield 51, 3) := by decide +kernel
theorem dX9_buildAll_56 : decode cX9_buildAll 56 = .ok (.iconst 1, 1) := by decide +kernel
theorem dX9_buildAll_57 : decode cX9_buildAll 57 = .ok (.aload_n 0, 1) := by decide +kernel
theorem dX9_buildAll_58 : decode cX9_buildAll 58 = .ok (.getfield 36, 3) := by decide +kernel
theorem dX9_buildAll_61 : decode cX9_buildAll 61 = .ok (.aload_n 0, 1) := by decide +kernel
theorem dX9_buildAll_62 : decode cX9_buildAll 62 = .ok (.getfield 61, 3) := by decide +kernel
theorem dX9_buildAll_65 : decode cX9_buildAll 65 = .ok (.imul, 1) := by decide +kernel
theorem dX9_buildAll_66 : decode cX9_buildAll 66 = .ok (.bipush 100, 2) := by decide +kernel
theorem dX9_buildAll_68 : decode cX9_buildAll 68 = .ok (.idiv, 1) := by decide +kernel
theorem dX9_buildAll_69 : decode cX9_buildAll 69 = .ok (.invokestatic 67, 3) := by decide +kernel
theorem dX9_buildAll_72 : decode cX9_buildAll 72 = .ok (.istore_n 1, 1) := by decide +kernel
theorem dX9_buildAll_73 : decode cX9_buildAll 73 = .ok (.iconst 1, 1) := by decide +kernel
theorem dX9_buildAll_74 : decode cX9_buildAll 74 = .ok (.istore_n 2, 1) := by decide +kernel
theorem dX9_buildAll_75 : decode cX9_buildAll 75 = .ok (.iload_n 2, 1) := by decide +kernel
theorem dX9_buildAll_76 : decode cX9_buildAll 76 = .ok (.sipush 400, 3) := by decide +kernel
theorem dX9_buildAll_79 : decode cX9_buildAll 79 = .ok (.if_icmp .gt 73, 3) := by decide +kernel
theorem dX9_buildAll_82 : decode cX9_buildAll 82 = .ok (.aload_n 0, 1) := by decide +kernel
theorem dX9_buildAll_83 : decode cX9_buildAll 83 = .ok (.getfield 12, 3) := by decide +kernel
theorem dX9_buildAll_86 : decode cX9_buildAll 86 = .ok (.invokevirtual 73, 3) := by decide +kernel
theorem dX9_buildAll_89 : decode cX9_buildAll 89 = .ok (.aload_n 0, 1) := by decide +kernel
theorem dX9_buildAll_90 : decode cX9_buildAll 90 = .ok (.getfield 28, 3) := by decide +kernel
theorem dX9_buildAll_93 : decode cX9_buildAll 93 = .ok (.aload_n 0, 1) := by decide +kernel
theorem dX9_buildAll_94 : decode cX9_buildAll 94 = .ok (.getfield 21, 3) := by decide +kernel
theorem dX9_buildAll_97 : decode cX9_buildAll 97 = .ok (.aload_n 0, 1) := by decide +kernel
theorem dX9_buildAll_98 : decode cX9_buildAll 98 = .ok (.getfield 12, 3) := by decide +kernel
theorem dX9_buildAll_101 : decode cX9_buildAll 101 = .ok (.getfield 76, 3) := by decide +kernel
theorem dX9_buildAll_104 : decode cX9_buildAll 104 = .ok (.aload_n 0, 1) := by decide +kernel
theorem dX9_buildAll_105 : decode cX9_buildAll 105 = .ok (.getfield 12, 3) := by decide +kernel
theorem dX9_buildAll_108 : decode cX9_buildAll 108 = .ok (.getfield 79, 3) := by decide +kernel
theorem dX9_buildAll_111 : decode cX9_buildAll 111 = .ok (.iload_n 1, 1) := by decide +kernel
theorem dX9_buildAll_112 : decode cX9_buildAll 112 = .ok (.invokevirtual 82, 3) := by decide +kernel
theorem dX9_buildAll_115 : decode cX9_buildAll 115 = .ok (.istore_n 3, 1) := by decide +kernel
theorem dX9_buildAll_116 : decode cX9_buildAll 116 = .ok (.iconst 4, 1) := by decide +kernel
theorem dX9_buildAll_117 : decode cX9_buildAll 117 = .ok (.iload_n 3, 1) := by decide +kernel
theorem dX9_buildAll_118 : decode cX9_buildAll 118 = .ok (.imul, 1) := by decide +kernel
theorem dX9_buildAll_119 : decode cX9_buildAll 119 = .ok (.aload_n 0, 1) := by decide +kernel
theorem dX9_buildAll_120 : decode cX9_buildAll 120 = .ok (.invokevirtual 86, 3) := by decide +kernel
theorem dX9_buildAll_123 : decode cX9_buildAll 123 = .ok (.if_icmp .gt 6, 3) := by decide +kernel
theorem dX9_buildAll_126 : decode cX9_buildAll 126 = .ok (.goto 26, 3) := by decide +kernel
theorem dX9_buildAll_129 : decode cX9_buildAll 129 = .ok (.iload_n 2, 1) := by decide +kernel
theorem dX9_buildAll_130 : decode cX9_buildAll 130 = .ok (.bipush 20, 2) := by decide +kernel
theorem dX9_buildAll_132 : decode cX9_buildAll 132 = .ok (.irem, 1) := by decide +kernel
theorem dX9_buildAll_133 : decode cX9_buildAll 133 = .ok (.ifCond .ne 13, 3) := by decide +kernel
theorem dX9_buildAll_136 : decode cX9_buildAll 136 = .ok (.sipush 2048, 3) := by decide +kernel
theorem dX9_buildAll_139 : decode cX9_buildAll 139 = .ok (.iconst 2, 1) := by decide +kernel
theorem dX9_buildAll_140 : decode cX9_buildAll 140 = .ok (.iload_n 1, 1) := by decide +kernel
theorem dX9_buildAll_141 : decode cX9_buildAll 141 = .ok (.imul, 1) := by decide +kernel
theorem dX9_buildAll_142 : decode cX9_buildAll 142 = .ok (.invokestatic 90, 3) := by decide +kernel
theorem dX9_buildAll_145 : decode cX9_buildAll 145 = .ok (.istore_n 1, 1) := by decide +kernel
theorem dX9_buildAll_146 : decode cX9_buildAll 146 = .ok (.iinc 2 1, 3) := by decide +kernel
theorem dX9_buildAll_149 : decode cX9_buildAll 149 = .ok (.goto (-74), 3) := by decide +kernel
theorem dX9_buildAll_152 : decode cX9_buildAll 152 = .ok (.aload_n 0, 1) := by decide +kernel
theorem dX9_buildAll_153 : decode cX9_buildAll 153 = .ok (.getfield 28, 3) := by decide +kernel
theorem dX9_buildAll_156 : decode cX9_buildAll 156 = .ok (.iconst 2, 1) := by decide +kernel
theorem dX9_buildAll_157 : decode cX9_buildAll 157 = .ok (.invokevirtual 93, 3) := by decide +kernel
theorem dX9_buildAll_160 : decode cX9_buildAll 160 = .ok (.iconst 0, 1) := by decide +kernel
theorem dX9_buildAll_161 : decode cX9_buildAll 161 = .ok (.istore_n 2, 1) := by decide +kernel
theorem dX9_buildAll_162 : decode cX9_buildAll 162 = .ok (.iload_n 2, 1) := by decide +kernel
theorem dX9_buildAll_163 : decode cX9_buildAll 163 = .ok (.aload_n 0, 1) := by decide +kernel
theorem dX9_buildAll_164 : decode cX9_buildAll 164 = .ok (.getfield 28, 3) := by decide +kernel
theorem dX9_buildAll_167 : decode cX9_buildAll 167 = .ok (.getfield 97, 3) := by decide +kernel
theorem dX9_buildAll_170 : decode cX9_buildAll 170 = .ok (.if_icmp .ge 34, 3) := by decide +kernel
theorem dX9_buildAll_173 : decode cX9_buildAll 173 = .ok (.aload_n 0, 1) := by decide +kernel
theorem dX9_buildAll_174 : decode cX9_buildAll 174 = .ok (.getfield 28, 3) := by decide +kernel
theorem dX9_buildAll_177 : decode cX9_buildAll 177 = .ok (.aload_n 0, 1) := by decide +kernel
theorem dX9_buildAll_178 : decode cX9_buildAll 178 = .ok (.getfield 21, 3) := by decide +kernel
theorem dX9_buildAll_181 : decode cX9_buildAll 181 = .ok (.aload_n 0, 1) := by decide +kernel
theorem dX9_buildAll_182 : decode cX9_buildAll 182 = .ok (.getfield 12, 3) := by decide +kernel
theorem dX9_buildAll_185 : decode cX9_buildAll 185 = .ok (.iload_n 2, 1) := by decide +kernel
theorem dX9_buildAll_186 : decode cX9_buildAll 186 = .ok (.aload_n 0, 1) := by decide +kernel
theorem dX9_buildAll_187 : decode cX9_buildAll 187 = .ok (.getfield 28, 3) := by decide +kernel
theorem dX9_buildAll_190 : decode cX9_buildAll 190 = .ok (.getfield 100, 3) := by decide +kernel
theorem dX9_buildAll_193 : decode cX9_buildAll 193 = .ok (.iload_n 2, 1) := by decide +kernel
theorem dX9_buildAll_194 : decode cX9_buildAll 194 = .ok (.iaload, 1) := by decide +kernel
theorem dX9_buildAll_195 : decode cX9_buildAll 195 = .ok (.invokevirtual 104, 3) := by decide +kernel
theorem dX9_buildAll_198 : decode cX9_buildAll 198 = .ok (.iinc 2 1, 3) := by decide +kernel
theorem dX9_buildAll_201 : decode cX9_buildAll 201 = .ok (.goto (-39), 3) := by decide +kernel
theorem dX9_buildAll_204 : decode cX9_buildAll 204 = .ok (.return_, 1) := by decide +kernel
def TbI (fk fj fh fo : Nat → Int32) (cn nb ka kb ln da db : Nat) : Prop := KyC fk cn ∧ LyH fj fh nb ln ∧ OrC fo ∧ 1 ≤ nb ∧ ka < 2147483647 ∧ kb < 2147483647 ∧ da < 2147483647 ∧ db < 2147483647
theorem KyC_0 (fk : Nat → Int32) : KyC fk 0 := ⟨by omega, fun j hj => absurd hj (Nat.not_lt_zero _)⟩
def own_k_tbegin : List Cond := [.fieldLink RX9 32 "ClashFree$Table" "bound" "I", .fieldLink RX9 36 "ClashFree$Table" "spread" "I", .fieldLink RX9 39 "ClashFree$Table" "growth" "I", .fieldLink RX9 42 "ClashFree$Table" "reads" "I", .fieldLink RX9 45 "ClashFree$Table" "bucketsBuilt" "I", .fieldLink RX9 48 "ClashFree$Table" "allBuilt" "I", .fieldLink RX9 51 "ClashFree$Table" "laid" "I", .fieldLink RX9 12 "ClashFree$Table" "draw" "LClashFree$Draw;", .methodLink RX9 54 yX0_begin, .instanceMethod yX0_begin, .selects RX0 yX0_begin yX0_begin, .initialized RX0, .fieldLink RX9 21 "ClashFree$Table" "keys" "LClashFree$Keys;", .fieldLink RX9 58 "ClashFree$Keys" "size" "I"]
def wp_k_tbegin : List Cond := .code yX9_begin cX9_begin 6 none :: (own_k_tbegin ++ (wp_k_dbegin ++ (wsX90 ++ (wsX20 ++ ([] : List Cond)))))
set_option maxRecDepth 20000 in
theorem inown_k_tbegin : ∀ w ∈ own_k_tbegin, w ∈ lw_tbl := mem_places [491, 494, 497, 504, 506, 508, 510, 512, 552, 553, 554, 108, 515, 473] (by decide +kernel)
set_option maxRecDepth 20000 in
theorem in_k_tbegin : ∀ w ∈ wp_k_tbegin, w ∈ lw_tbl := List.forall_mem_cons.mpr ⟨List.mem_of_getElem? (i := 551) (by decide +kernel), List.forall_mem_append.mpr ⟨inown_k_tbegin, List.forall_mem_append.mpr ⟨in_k_dbegin, List.forall_mem_append.mpr ⟨lwb_X9, List.forall_mem_append.mpr ⟨lwb_X2, fun _ h => absurd h List.not_mem_nil⟩⟩⟩⟩⟩
set_option maxRecDepth 20000 in
theorem good_k_tbegin : wp_k_tbegin.all goodWord = true := by decide +kernel
set_option maxRecDepth 20000 in
theorem g_k_tbegin_k_dbegin_54 : GoodIn wp_k_tbegin (wsV RX9 54 RX0 yX0_begin wp_k_dbegin) := goodIn_sub (List.forall_mem_append.mpr ⟨List.forall_mem_cons.mpr ⟨(List.mem_of_getElem? (i := 9) rfl), List.forall_mem_cons.mpr ⟨(List.mem_of_getElem? (i := 10) rfl), List.forall_mem_cons.mpr ⟨(List.mem_of_getElem? (i := 11) rfl), List.forall_mem_cons.mpr ⟨(List.mem_of_getElem? (i := 12) rfl), fun _ h => absurd h List.not_mem_nil⟩⟩⟩⟩, (fun _ h => (List.mem_cons_of_mem _ (List.mem_append_right _ (List.mem_append_left _ h))))⟩) (by decide +kernel)
set_option maxHeartbeats 4000000 in
set_option maxRecDepth 100000 in
theorem k_tbegin (l : Launch) (D : va_G) (sz : Nat) (ob : Nat → Nat) (cI : ClassId) (tb : Int32) (ts : Int32) (tg : Int32) (tl : Int32) (tc : Int32) (tr : Int32) (tu : Int32) (tv : Int32) (tw : Int32) (sd : Int64) (da : Nat) (db : Nat) (pr : Int32) (cn : Nat) (z1 : Int32) (z2 : Int32) (z3 : Int32) (y4 : Int64)  : Met l yX9_begin wp_k_tbegin ({ frames := 1, cells := 0, slots := 0, locals := 22 }) (PcWC D [.ref (ob 0), .int z1, .int z2, .int z3, .long y4] sz [(ob 0, .inr (9, gT ob tb ts tg tl tc tr tu tv tw)), (ob 1, .inr (0, [.long sd, .int (nI da), .int (nI db), .int pr])), (ob 2, .inr (2, [.int (nI cn), .ref (ob 3), .ref (ob 4)]))] []) (va_Qv (fun (u : (Int32) × (Int32) × (Int32) × (Int32) × (Int32) × (Int32) × (Int32) × (Int64) × (Int32) × (Nat)) => u.2.2.2.2.2.2.2.2.2 = 0) (fun (u : (Int32) × (Int32) × (Int32) × (Int32) × (Int32) × (Int32) × (Int32) × (Int64) × (Int32) × (Nat)) t => va_P D vwCl [(ob 0, .inr (9, gT ob u.1 u.2.1 u.2.2.1 tl tc u.2.2.2.1 u.2.2.2.2.1 u.2.2.2.2.2.1 u.2.2.2.2.2.2.1)), (ob 1, .inr (0, [.long u.2.2.2.2.2.2.2.1, .int (nI da), .int (nI db), .int u.2.2.2.2.2.2.2.2.1])), (ob 2, .inr (2, [.int (nI u.2.2.2.2.2.2.2.2.2), .ref (ob 3), .ref (ob 4)]))] t.heap ∧ va_K D vwCl [] t ∧ va_D (va_A [(ob 0, .inr (9, gT ob tb ts tg tl tc tr tu tv tw)), (ob 1, .inr (0, [.long sd, .int (nI da), .int (nI db), .int pr])), (ob 2, .inr (2, [.int (nI cn), .ref (ob 3), .ref (ob 4)]))] sz) [(ob 0, .inr (9, gT ob u.1 u.2.1 u.2.2.1 tl tc u.2.2.2.1 u.2.2.2.2.1 u.2.2.2.2.2.1 u.2.2.2.2.2.2.1)), (ob 1, .inr (0, [.long u.2.2.2.2.2.2.2.1, .int (nI da), .int (nI db), .int u.2.2.2.2.2.2.2.2.1])), (ob 2, .inr (2, [.int (nI u.2.2.2.2.2.2.2.2.2), .ref (ob 3), .ref (ob 4)]))]) (va_A [(ob 0, .inr (9, gT ob tb ts tg tl tc tr tu tv tw)), (ob 1, .inr (0, [.long sd, .int (nI da), .int (nI db), .int pr])), (ob 2, .inr (2, [.int (nI cn), .ref (ob 3), .ref (ob 4)]))] sz)) 0 0 (va_A [(ob 0, .inr (9, gT ob tb ts tg tl tc tr tu tv tw)), (ob 1, .inr (0, [.long sd, .int (nI da), .int (nI db), .int pr])), (ob 2, .inr (2, [.int (nI cn), .ref (ob 3), .ref (ob 4)]))] sz) := by
  refine Met.ofW (cc := cX9_begin) (maxL := 6) (ret := none) (by decide) rfl ?_
  intro p e s m args below meth c s₁ B hml hv
  obtain ⟨rfl, hsz, hP, hK, hD0, hN⟩ := hv
  have hx := B.exec
  have hb := B.bytes
  have hr := B.returns
  have hts := atoms_spec (ws := wp_k_tbegin) B.pre
  have hin_X9 : ∀ w ∈ wsX90, w ∈ wp_k_tbegin := fun _ h => (List.mem_cons_of_mem _ (List.mem_append_right _ (List.mem_append_right _ (List.mem_append_left _ h))))
  have hin_X2 : ∀ w ∈ wsX20, w ∈ wp_k_tbegin := fun _ h => (List.mem_cons_of_mem _ (List.mem_append_right _ (List.mem_append_right _ (List.mem_append_right _ (List.mem_append_left _ h)))))
  have hown : s.vm.findClass RX9 = some m.cls := findClass_of_methodNamed B.named
  have hlocks := B.notSynchronized
  subst hsz
  have hD := hD0.self (sz := s.heap.size)
  generalize hAe : va_A [(ob 0, .inr (9, gT ob tb ts tg tl tc tr tu tv tw)), (ob 1, .inr (0, [.long sd, .int (nI da), .int (nI db), .int pr])), (ob 2, .inr (2, [.int (nI cn), .ref (ob 3), .ref (ob 4)]))] s.heap.size = A at hD ⊢
  have hA : ∀ q : Nat, s.heap.size ≤ q → A q := fun q h => by rw [← hAe]; exact Or.inr h
  have hS : va_S A s.heap s.heap [] := va_S.rf
  have hP : va_P D vwCl [(ob 0, .inr (9, gT ob tb ts tg tl tc tr tu tv tw)), (ob 1, .inr (0, [.long sd, .int (nI da), .int (nI db), .int pr])), (ob 2, .inr (2, [.int (nI cn), .ref (ob 3), .ref (ob 4)]))] s.heap := hP
  have hl := lv_entry ([.ref (ob 0), .int z1, .int z2, .int z3, .long y4]) (n := 6) (Nat.le_of_ble_eq_true rfl)
  rw [lg_entry_eq]
  generalize (lg_sl ([.ref (ob 0), .int z1, .int z2, .int z3, .long y4]) ++ List.replicate (6 - (lg_sl ([.ref (ob 0), .int z1, .int z2, .int z3, .long y4])).length) Slot.unset).toArray = ls at hl ⊢
  have hl : lv_has ls 6 [(0, .ref (ob 0)), (1, .int z1), (2, .int z2), (3, .int z3), (4, .long y4)] := hl
  refine lv_aload_n hx hb dX9_begin_0 rfl (lv_at hl 0 rfl) ?_
  refine lv_iload_n hx hb dX9_begin_1 rfl (lv_at hl 1 rfl) ?_
  refine va_put (D := D) (ci := 9) (v := .int z1) (ty := .int) (C := RX9) (T := TX9) (N := 12) hx hb hts hin_X9 tyX9 tyX9_ok nmX9 hown hK hP hD hS 0 rfl rfl 0 (by decide) (hts (.fieldLink RX9 32 "ClashFree$Table" "bound" "I") (List.mem_of_getElem? (i := 1) rfl)) (fun _ h9 => h9) rfl (by decide +kernel) rfl rfl (Nat.le_of_ble_eq_true rfl) dX9_begin_2 (fun H locs hP hD hS => ?_)
  have hP : va_P D vwCl [(ob 0, .inr (9, gT ob z1 ts tg tl tc tr tu tv tw)), (ob 1, .inr (0, [.long sd, .int (nI da), .int (nI db), .int pr])), (ob 2, .inr (2, [.int (nI cn), .ref (ob 3), .ref (ob 4)]))] H := hP
  have hD : va_D A [(ob 0, .inr (9, gT ob z1 ts tg tl tc tr tu tv tw)), (ob 1, .inr (0, [.long sd, .int (nI da), .int (nI db), .int pr])), (ob 2, .inr (2, [.int (nI cn), .ref (ob 3), .ref (ob 4)]))] := hD
  refine lv_aload_n hx hb dX9_begin_5 rfl (lv_at hl 0 rfl) ?_
  refine lv_iload_n hx hb dX9_begin_6 rfl (lv_at hl 2 rfl) ?_
  refine va_put (D := D) (ci := 9) (v := .int z2) (ty := .int) (C := RX9) (T := TX9) (N := 12) hx hb hts hin_X9 tyX9 tyX9_ok nmX9 hown hK hP hD hS 0 rfl rfl 1 (by decide) (hts (.fieldLink RX9 36 "ClashFree$Table" "spread" "I") (List.mem_of_getElem? (i := 2) rfl)) (fun _ h9 => h9) rfl (by decide +kernel) rfl rfl (Nat.le_of_ble_eq_true rfl) dX9_begin_7 (fun H locs hP hD hS => ?_)
  have hP : va_P D vwCl [(ob 0, .inr (9, gT ob z1 z2 tg tl tc tr tu tv tw)), (ob 1, .inr (0, [.long sd, .int (nI da), .int (nI db), .int pr])), (ob 2, .inr (2, [.int (nI cn), .ref (ob 3), .ref (ob 4)]))] H := hP
  have hD : va_D A [(ob 0, .inr (9, gT ob z1 z2 tg tl tc tr tu tv tw)), (ob 1, .inr (0, [.long sd, .int (nI da), .int (nI db), .int pr])), (ob 2, .inr (2, [.int (nI cn), .ref (ob 3), .ref (ob 4)]))] := hD
  refine lv_aload_n hx hb dX9_begin_10 rfl (lv_at hl 0 rfl) ?_
  refine lv_iload_n hx hb dX9_begin_11 rfl (lv_at hl 3 rfl) ?_
  refine va_put (D := D) (ci := 9) (v := .int z3) (ty := .int) (C := RX9) (T := TX9) (N := 12) hx hb hts hin_X9 tyX9 tyX9_ok nmX9 hown hK hP hD hS 0 rfl rfl 2 (by decide) (hts (.fieldLink RX9 39 "ClashFree$Table" "growth" "I") (List.mem_of_getElem? (i := 3) rfl)) (fun _ h9 => h9) rfl (by decide +kernel) rfl rfl (Nat.le_of_ble_eq_true rfl) dX9_begin_12 (fun H locs hP hD hS => ?_)
  have hP : va_P D vwCl [(ob 0, .inr (9, gT ob z1 z2 z3 tl tc tr tu tv tw)), (ob 1, .inr (0, [.long sd, .int (nI da), .int (nI db), .int pr])), (ob 2, .inr (2, [.int (nI cn), .ref (ob 3), .ref (ob 4)]))] H := hP
  have hD : va_D A [(ob 0, .inr (9, gT ob z1 z2 z3 tl tc tr tu tv tw)), (ob 1, .inr (0, [.long sd, .int (nI da), .int (nI db), .int pr])), (ob 2, .inr (2, [.int (nI cn), .ref (ob 3), .ref (ob 4)]))] := hD
  refine lv_aload_n hx hb dX9_begin_15 rfl (lv_at hl 0 rfl) ?_
  refine lv_iconst (v := 0) hx hb dX9_begin_16 (by decide) ?_
  refine va_put (D := D) (ci := 9) (v := .int 0) (ty := .int) (C := RX9) (T := TX9) (N := 12) hx hb hts hin_X9 tyX9 tyX9_ok nmX9 hown hK hP hD hS 0 rfl rfl 5 (by decide) (hts (.fieldLink RX9 42 "ClashFree$Table" "reads" "I") (List.mem_of_getElem? (i := 4) rfl)) (fun _ h9 => h9) rfl (by decide +kernel) rfl rfl (Nat.le_of_ble_eq_true rfl) dX9_begin_17 (fun H locs hP hD hS => ?_)
  have hP : va_P D vwCl [(ob 0, .inr (9, gT ob z1 z2 z3 tl tc 0 tu tv tw)), (ob 1, .inr (0, [.long sd, .int (nI da), .int (nI db), .int pr])), (ob 2, .inr (2, [.int (nI cn), .ref (ob 3), .ref (ob 4)]))] H := hP
  have hD : va_D A [(ob 0, .inr (9, gT ob z1 z2 z3 tl tc 0 tu tv tw)), (ob 1, .inr (0, [.long sd, .int (nI da), .int (nI db), .int pr])), (ob 2, .inr (2, [.int (nI cn), .ref (ob 3), .ref (ob 4)]))] := hD
  refine lv_aload_n hx hb dX9_begin_20 rfl (lv_at hl 0 rfl) ?_
  refine lv_iconst (v := 0) hx hb dX9_begin_21 (by decide) ?_
  refine va_put (D := D) (ci := 9) (v := .int 0) (ty := .int) (C := RX9) (T := TX9) (N := 12) hx hb hts hin_X9 tyX9 tyX9_ok nmX9 hown hK hP hD hS 0 rfl rfl 6 (by decide) (hts (.fieldLink RX9 45 "ClashFree$Table" "bucketsBuilt" "I") (List.mem_of_getElem? (i := 5) rfl)) (fun _ h9 => h9) rfl (by decide +kernel) rfl rfl (Nat.le_of_ble_eq_true rfl) dX9_begin_22 (fun H locs hP hD hS => ?_)
  have hP : va_P D vwCl [(ob 0, .inr (9, gT ob z1 z2 z3 tl tc 0 0 tv tw)), (ob 1, .inr (0, [.long sd, .int (nI da), .int (nI db), .int pr])), (ob 2, .inr (2, [.int (nI cn), .ref (ob 3), .ref (ob 4)]))] H := hP
  have hD : va_D A [(ob 0, .inr (9, gT ob z1 z2 z3 tl tc 0 0 tv tw)), (ob 1, .inr (0, [.long sd, .int (nI da), .int (nI db), .int pr])), (ob 2, .inr (2, [.int (nI cn), .ref (ob 3), .ref (ob 4)]))] := hD
  refine lv_aload_n hx hb dX9_begin_25 rfl (lv_at hl 0 rfl) ?_
  refine lv_iconst (v := 0) hx hb dX9_begin_26 (by decide) ?_
  refine va_put (D := D) (ci := 9) (v := .int 0) (ty := .int) (C := RX9) (T := TX9) (N := 12) hx hb hts hin_X9 tyX9 tyX9_ok nmX9 hown hK hP hD hS 0 rfl rfl 7 (by decide) (hts (.fieldLink RX9 48 "ClashFree$Table" "allBuilt" "I") (List.mem_of_getElem? (i := 6) rfl)) (fun _ h9 => h9) rfl (by decide +kernel) rfl rfl (Nat.le_of_ble_eq_true rfl) dX9_begin_27 (fun H locs hP hD hS => ?_)
  have hP : va_P D vwCl [(ob 0, .inr (9, gT ob z1 z2 z3 tl tc 0 0 0 tw)), (ob 1, .inr (0, [.long sd, .int (nI da), .int (nI db), .int pr])), (ob 2, .inr (2, [.int (nI cn), .ref (ob 3), .ref (ob 4)]))] H := hP
  have hD : va_D A [(ob 0, .inr (9, gT ob z1 z2 z3 tl tc 0 0 0 tw)), (ob 1, .inr (0, [.long sd, .int (nI da), .int (nI db), .int pr])), (ob 2, .inr (2, [.int (nI cn), .ref (ob 3), .ref (ob 4)]))] := hD
  refine lv_aload_n hx hb dX9_begin_30 rfl (lv_at hl 0 rfl) ?_
  refine lv_iconst (v := 0) hx hb dX9_begin_31 (by decide) ?_
  refine va_put (D := D) (ci := 9) (v := .int 0) (ty := .int) (C := RX9) (T := TX9) (N := 12) hx hb hts hin_X9 tyX9 tyX9_ok nmX9 hown hK hP hD hS 0 rfl rfl 8 (by decide) (hts (.fieldLink RX9 51 "ClashFree$Table" "laid" "I") (List.mem_of_getElem? (i := 7) rfl)) (fun _ h9 => h9) rfl (by decide +kernel) rfl rfl (Nat.le_of_ble_eq_true rfl) dX9_begin_32 (fun H locs hP hD hS => ?_)
  have hP : va_P D vwCl [(ob 0, .inr (9, gT ob z1 z2 z3 tl tc 0 0 0 0)), (ob 1, .inr (0, [.long sd, .int (nI da), .int (nI db), .int pr])), (ob 2, .inr (2, [.int (nI cn), .ref (ob 3), .ref (ob 4)]))] H := hP
  have hD : va_D A [(ob 0, .inr (9, gT ob z1 z2 z3 tl tc 0 0 0 0)), (ob 1, .inr (0, [.long sd, .int (nI da), .int (nI db), .int pr])), (ob 2, .inr (2, [.int (nI cn), .ref (ob 3), .ref (ob 4)]))] := hD
  refine lv_aload_n hx hb dX9_begin_35 rfl (lv_at hl 0 rfl) ?_
  refine va_get (D := D) (ci := 9) (v := .ref (ob 1)) (C := RX9) (T := TX9) (N := 12) hx hb hts hin_X9 hown hK hP 0 rfl rfl 9 (by decide) (hts (.fieldLink RX9 12 "ClashFree$Table" "draw" "LClashFree$Draw;") (List.mem_of_getElem? (i := 8) rfl)) (fun _ h9 => h9) rfl dX9_begin_36 ?_
  refine lv_lload hx hb dX9_begin_39 (lv_at hl 4 rfl) ?_
  have hPc := hP.sub (ws' := [(ob 1, .inr (0, [.long sd, .int (nI da), .int (nI db), .int pr]))]) [1] rfl
  have hKc := hK.sub (tys' := []) [] rfl
  have hDc := hD.sub (ws' := [(ob 1, .inr (0, [.long sd, .int (nI da), .int (nI db), .int pr]))]) [1] (by decide) rfl
  have hFc := va_free (wc := [(ob 1, .inr (0, [.long sd, .int (nI da), .int (nI db), .int pr]))]) hD hS hA [1] rfl
  refine va_callv (va_runV (As := [.long y4]) (rest := []) ⟨hx, hb, hml, hown, hts⟩ (k_dbegin l D _ ob cI sd da db pr y4) (cwV 1 hts g_k_tbegin_k_dbegin_54 rfl rfl rfl (by decide +kernel) ⟨(Nat.le_of_ble_eq_true rfl), (Nat.le_of_ble_eq_true rfl)⟩) (PcWC_V (q0 := 0) hPc hKc hDc hN rfl rfl) rfl rfl hl.1 rfl (lv_room (Nat.le_of_ble_eq_true rfl)) dX9_begin_41 ⟨(Nat.le_of_ble_eq_true rfl), (Nat.le_of_ble_eq_true rfl)⟩) hS (fun q _ h => hFc q h) hFc (fun uu tt H locs htt hvm hw hB hz1 hk1 hS => ?_)
  obtain ⟨w2, w3⟩ := uu
  obtain ⟨hP1, hK1, hD1⟩ := hB
  rw [htt] at hP1
  have hK1 := va_K.moved hvm.symm hK1
  have hP1 : va_P D vwCl [(ob 1, .inr (0, [.long w2, .int (nI da), .int (nI db), .int w3]))] H := hP1
  obtain ⟨hP, hD⟩ := va_join (wr := [(ob 0, .inr (9, gT ob z1 z2 z3 tl tc 0 0 0 0)), (ob 2, .inr (2, [.int (nI cn), .ref (ob 3), .ref (ob 4)]))]) (w1 := [(ob 1, .inr (0, [.long w2, .int (nI da), .int (nI db), .int w3]))]) hP hD [1] [0, 2] rfl rfl (by decide) (by decide) hk1 hFc hP1 hD1
  have hP : va_P D vwCl [(ob 0, .inr (9, gT ob z1 z2 z3 tl tc 0 0 0 0)), (ob 2, .inr (2, [.int (nI cn), .ref (ob 3), .ref (ob 4)])), (ob 1, .inr (0, [.long w2, .int (nI da), .int (nI db), .int w3]))] H := hP
  have hD : va_D A [(ob 0, .inr (9, gT ob z1 z2 z3 tl tc 0 0 0 0)), (ob 2, .inr (2, [.int (nI cn), .ref (ob 3), .ref (ob 4)])), (ob 1, .inr (0, [.long w2, .int (nI da), .int (nI db), .int w3]))] := hD
  try dsimp only at hw
  clear hz1 hk1 hFc hPc hKc hDc
  clear hw
  refine lv_aload_n hx hb dX9_begin_44 rfl (lv_at hl 0 rfl) ?_
  refine va_get (D := D) (ci := 9) (v := .ref (ob 2)) (C := RX9) (T := TX9) (N := 12) hx hb hts hin_X9 hown hK hP 0 rfl rfl 10 (by decide) (hts (.fieldLink RX9 21 "ClashFree$Table" "keys" "LClashFree$Keys;") (List.mem_of_getElem? (i := 13) rfl)) (fun _ h9 => h9) rfl dX9_begin_45 ?_
  refine lv_iconst (v := 0) hx hb dX9_begin_48 (by decide) ?_
  refine va_put (D := D) (ci := 2) (v := .int 0) (ty := .int) (C := RX2) (T := TX2) (N := 3) hx hb hts hin_X2 tyX2 tyX2_ok nmX2 hown hK hP hD hS 1 rfl rfl 0 (by decide) (hts (.fieldLink RX9 58 "ClashFree$Keys" "size" "I") (List.mem_of_getElem? (i := 14) rfl)) (fun _ h9 => h9) rfl (by decide +kernel) rfl rfl (Nat.le_of_ble_eq_true rfl) dX9_begin_49 (fun H locs hP hD hS => ?_)
  have hP : va_P D vwCl [(ob 0, .inr (9, gT ob z1 z2 z3 tl tc 0 0 0 0)), (ob 2, .inr (2, [.int 0, .ref (ob 3), .ref (ob 4)])), (ob 1, .inr (0, [.long w2, .int (nI da), .int (nI db), .int w3]))] H := hP
  have hD : va_D A [(ob 0, .inr (9, gT ob z1 z2 z3 tl tc 0 0 0 0)), (ob 2, .inr (2, [.int 0, .ref (ob 3), .ref (ob 4)])), (ob 1, .inr (0, [.long w2, .int (nI da), .int (nI db), .int w3]))] := hD
  exact W.vret hx hb hr (fun t ht hW => ⟨⟨(z1, z2, z3, 0, 0, 0, 0, w2, w3, 0), rfl, (by (try dsimp only); first | done | exact rfl), by rw [ht]; exact hP.sub [0, 2, 1] rfl, va_K.moved hW.alike (hK.sub [] rfl), hD.sub [0, 2, 1] (by decide) rfl⟩, hS.F ht⟩) hS.2.2 dX9_begin_52

def own_k_mostRooms : List Cond := [.fieldLink RX9 32 "ClashFree$Table" "bound" "I", .fieldLink RX9 61 "ClashFree$Table" "limit" "I"]
def wp_k_mostRooms : List Cond := .code yX9_mostRooms cX9_mostRooms 1 (some .int) :: (own_k_mostRooms ++ (wsX90 ++ ([] : List Cond)))
set_option maxRecDepth 20000 in
theorem inown_k_mostRooms : ∀ w ∈ own_k_mostRooms, w ∈ lw_tbl := mem_places [491, 500] (by decide +kernel)
set_option maxRecDepth 20000 in
theorem in_k_mostRooms : ∀ w ∈ wp_k_mostRooms, w ∈ lw_tbl := List.forall_mem_cons.mpr ⟨List.mem_of_getElem? (i := 590) (by decide +kernel), List.forall_mem_append.mpr ⟨inown_k_mostRooms, List.forall_mem_append.mpr ⟨lwb_X9, fun _ h => absurd h List.not_mem_nil⟩⟩⟩
set_option maxRecDepth 20000 in
theorem good_k_mostRooms : wp_k_mostRooms.all goodWord = true := by decide +kernel
set_option maxHeartbeats 4000000 in
set_option maxRecDepth 100000 in
theorem k_mostRooms (l : Launch) (D : va_G) (sz : Nat) (ob : Nat → Nat) (cI : ClassId) (tb : Int32) (ts : Int32) (tg : Int32) (tl : Int32) (tc : Int32) (tr : Int32) (tu : Int32) (tv : Int32) (tw : Int32)  : Met l yX9_mostRooms wp_k_mostRooms ({ frames := 0, cells := 0, slots := 0, locals := 0 }) (PcRC D [.ref (ob 0)] sz [(ob 0, .inr (9, gT ob tb ts tg tl tc tr tu tv tw))] []) (va_Qi (fun (r : Int32) (u : Unit) => True) (fun (_ : Unit) _ => True) (va_A [] sz)) 0 0 (va_A [] sz) := by
  refine Met.ofW (cc := cX9_mostRooms) (maxL := 1) (ret := (some .int)) (by decide) rfl ?_
  intro p e s m args below meth c s₁ B hml hv
  obtain ⟨rfl, hsz, hP, hK, hN⟩ := hv
  have hx := B.exec
  have hb := B.bytes
  have hr := B.returns
  have hts := atoms_spec (ws := wp_k_mostRooms) B.pre
  have hin_X9 : ∀ w ∈ wsX90, w ∈ wp_k_mostRooms := fun _ h => (List.mem_cons_of_mem _ (List.mem_append_right _ (List.mem_append_left _ h)))
  have hown : s.vm.findClass RX9 = some m.cls := findClass_of_methodNamed B.named
  have hlocks := B.notSynchronized
  subst hsz
  generalize hAe : va_A [] s.heap.size = A at ⊢
  have hA : ∀ q : Nat, s.heap.size ≤ q → A q := fun q h => by rw [← hAe]; exact Or.inr h
  have hS : va_S A s.heap s.heap [] := va_S.rf
  have hP : va_P D vwCl [(ob 0, .inr (9, gT ob tb ts tg tl tc tr tu tv tw))] s.heap := hP
  have hl := lv_entry ([.ref (ob 0)]) (n := 1) (Nat.le_of_ble_eq_true rfl)
  rw [lg_entry_eq]
  generalize (lg_sl ([.ref (ob 0)]) ++ List.replicate (1 - (lg_sl ([.ref (ob 0)])).length) Slot.unset).toArray = ls at hl ⊢
  have hl : lv_has ls 1 [(0, .ref (ob 0))] := hl
  refine lv_aload_n hx hb dX9_mostRooms_0 rfl (lv_at hl 0 rfl) ?_
  refine va_get (D := D) (ci := 9) (v := .int tb) (C := RX9) (T := TX9) (N := 12) hx hb hts hin_X9 hown hK hP 0 rfl rfl 0 (by decide) (hts (.fieldLink RX9 32 "ClashFree$Table" "bound" "I") (List.mem_of_getElem? (i := 1) rfl)) (fun _ h9 => h9) rfl dX9_mostRooms_1 ?_
  refine lv_aload_n hx hb dX9_mostRooms_4 rfl (lv_at hl 0 rfl) ?_
  refine va_get (D := D) (ci := 9) (v := .int tl) (C := RX9) (T := TX9) (N := 12) hx hb hts hin_X9 hown hK hP 0 rfl rfl 3 (by decide) (hts (.fieldLink RX9 61 "ClashFree$Table" "limit" "I") (List.mem_of_getElem? (i := 2) rfl)) (fun _ h9 => h9) rfl dX9_mostRooms_5 ?_
  refine lv_imul hx hb dX9_mostRooms_8 ?_
  refine lv_topi (fun v1 ev1 => ?_)
  exact W.iret (v := v1) hx hb hr (fun t ht hW => ⟨⟨v1, (), rfl, trivial, trivial⟩, hS.F ht⟩) hS.2.2 dX9_mostRooms_9

def own_k_buildAll : List Cond := [.fieldLink RX9 12 "ClashFree$Table" "draw" "LClashFree$Draw;", .methodLink RX9 73 yX0_pair, .instanceMethod yX0_pair, .selects RX0 yX0_pair yX0_pair, .initialized RX0, .fieldLink RX9 28 "ClashFree$Table" "layout" "LClashFree$Layout;", .fieldLink RX9 21 "ClashFree$Table" "keys" "LClashFree$Keys;", .fieldLink RX9 76 "ClashFree$Draw" "a" "I", .fieldLink RX9 79 "ClashFree$Draw" "b" "I", .methodLink RX9 82 yX3_deal, .instanceMethod yX3_deal, .selects RX3 yX3_deal yX3_deal, .initialized RX3, .methodLink RX9 86 yX9_mostRooms, .instanceMethod yX9_mostRooms, .selects RX9 yX9_mostRooms yX9_mostRooms, .initialized RX9, .methodLink RX9 90 Lib.Math.min.name, .static Lib.Math.min.name, .initialized "java/lang/Math", .code Lib.Math.min.name Lib.Math.min.code 2 (some .int), .fieldLink RX9 97 "ClashFree$Layout" "buckets" "I", .fieldLink RX9 100 "ClashFree$Layout" "next" "[I", .methodLink RX9 104 yX3_buildBucket, .instanceMethod yX3_buildBucket, .selects RX3 yX3_buildBucket yX3_buildBucket, .fieldLink RX9 58 "ClashFree$Keys" "size" "I", .fieldLink RX9 39 "ClashFree$Table" "growth" "I", .fieldLink RX9 61 "ClashFree$Table" "limit" "I", .fieldLink RX9 64 "ClashFree$Table" "count" "I", .fieldLink RX9 51 "ClashFree$Table" "laid" "I", .fieldLink RX9 36 "ClashFree$Table" "spread" "I", .methodLink RX9 67 Lib.Math.max.name, .static Lib.Math.max.name, .code Lib.Math.max.name Lib.Math.max.code 2 (some .int), .methodLink RX9 93 yX3_settle, .instanceMethod yX3_settle, .selects RX3 yX3_settle yX3_settle]
def wp_k_buildAll : List Cond := .code yX9_buildAll cX9_buildAll 4 none :: (own_k_buildAll ++ (wp_k_pair ++ (wp_k_deal ++ (wp_k_mostRooms ++ (wp_k_bb ++ (wp_k_settle ++ (wsX90 ++ (wsX00 ++ (wsX30 ++ (wsX20 ++ ([] : List Cond)))))))))))
set_option maxRecDepth 20000 in
theorem inown_k_buildAll : ∀ w ∈ own_k_buildAll, w ∈ lw_tbl := mem_places [512, 563, 564, 565, 108, 520, 515, 152, 156, 571, 572, 573, 109, 587, 588, 589, 116, 591, 580, 118, 581, 180, 209, 596, 597, 598, 473, 497, 500, 502, 510, 494, 560, 561, 562, 592, 593, 594] (by decide +kernel)
set_option maxRecDepth 20000 in
theorem in_k_buildAll : ∀ w ∈ wp_k_buildAll, w ∈ lw_tbl := List.forall_mem_cons.mpr ⟨List.mem_of_getElem? (i := 559) (by decide +kernel), List.forall_mem_append.mpr ⟨inown_k_buildAll, List.forall_mem_append.mpr ⟨in_k_pair, List.forall_mem_append.mpr ⟨in_k_deal, List.forall_mem_append.mpr ⟨in_k_mostRooms, List.forall_mem_append.mpr ⟨in_k_bb, List.forall_mem_append.mpr ⟨in_k_settle, List.forall_mem_append.mpr ⟨lwb_X9, List.forall_mem_append.mpr ⟨lwb_X0, List.forall_mem_append.mpr ⟨lwb_X3, List.forall_mem_append.mpr ⟨lwb_X2, fun _ h => absurd h List.not_mem_nil⟩⟩⟩⟩⟩⟩⟩⟩⟩⟩⟩
set_option maxRecDepth 20000 in
theorem good_k_buildAll : wp_k_buildAll.all goodWord = true := by decide +kernel
set_option maxRecDepth 20000 in
theorem g_k_buildAll_k_pair_73 : GoodIn wp_k_buildAll (wsV RX9 73 RX0 yX0_pair wp_k_pair) := goodIn_sub (List.forall_mem_append.mpr ⟨List.forall_mem_cons.mpr ⟨(List.mem_of_getElem? (i := 2) rfl), List.forall_mem_cons.mpr ⟨(List.mem_of_getElem? (i := 3) rfl), List.forall_mem_cons.mpr ⟨(List.mem_of_getElem? (i := 4) rfl), List.forall_mem_cons.mpr ⟨(List.mem_of_getElem? (i := 5) rfl), fun _ h => absurd h List.not_mem_nil⟩⟩⟩⟩, (fun _ h => (List.mem_cons_of_mem _ (List.mem_append_right _ (List.mem_append_left _ h))))⟩) (by decide +kernel)
set_option maxRecDepth 20000 in
theorem g_k_buildAll_k_deal_82 : GoodIn wp_k_buildAll (wsV RX9 82 RX3 yX3_deal wp_k_deal) := goodIn_sub (List.forall_mem_append.mpr ⟨List.forall_mem_cons.mpr ⟨(List.mem_of_getElem? (i := 10) rfl), List.forall_mem_cons.mpr ⟨(List.mem_of_getElem? (i := 11) rfl), List.forall_mem_cons.mpr ⟨(List.mem_of_getElem? (i := 12) rfl), List.forall_mem_cons.mpr ⟨(List.mem_of_getElem? (i := 13) rfl), fun _ h => absurd h List.not_mem_nil⟩⟩⟩⟩, (fun _ h => (List.mem_cons_of_mem _ (List.mem_append_right _ (List.mem_append_right _ (List.mem_append_left _ h)))))⟩) (by decide +kernel)
set_option maxRecDepth 20000 in
theorem g_k_buildAll_k_mostRooms_86 : GoodIn wp_k_buildAll (wsV RX9 86 RX9 yX9_mostRooms wp_k_mostRooms) := goodIn_sub (List.forall_mem_append.mpr ⟨List.forall_mem_cons.mpr ⟨(List.mem_of_getElem? (i := 14) rfl), List.forall_mem_cons.mpr ⟨(List.mem_of_getElem? (i := 15) rfl), List.forall_mem_cons.mpr ⟨(List.mem_of_getElem? (i := 16) rfl), List.forall_mem_cons.mpr ⟨(List.mem_of_getElem? (i := 17) rfl), fun _ h => absurd h List.not_mem_nil⟩⟩⟩⟩, (fun _ h => (List.mem_cons_of_mem _ (List.mem_append_right _ (List.mem_append_right _ (List.mem_append_right _ (List.mem_append_left _ h))))))⟩) (by decide +kernel)
set_option maxRecDepth 20000 in
theorem g_k_buildAll_k_bb_104 : GoodIn wp_k_buildAll (wsV RX9 104 RX3 yX3_buildBucket wp_k_bb) := goodIn_sub (List.forall_mem_append.mpr ⟨List.forall_mem_cons.mpr ⟨(List.mem_of_getElem? (i := 24) rfl), List.forall_mem_cons.mpr ⟨(List.mem_of_getElem? (i := 25) rfl), List.forall_mem_cons.mpr ⟨(List.mem_of_getElem? (i := 26) rfl), List.forall_mem_cons.mpr ⟨(List.mem_of_getElem? (i := 13) rfl), fun _ h => absurd h List.not_mem_nil⟩⟩⟩⟩, (fun _ h => (List.mem_cons_of_mem _ (List.mem_append_right _ (List.mem_append_right _ (List.mem_append_right _ (List.mem_append_right _ (List.mem_append_left _ h)))))))⟩) (by decide +kernel)
set_option maxRecDepth 20000 in
theorem g_k_buildAll_k_settle_93 : GoodIn wp_k_buildAll (wsV RX9 93 RX3 yX3_settle wp_k_settle) := goodIn_sub (List.forall_mem_append.mpr ⟨List.forall_mem_cons.mpr ⟨(List.mem_of_getElem? (i := 36) rfl), List.forall_mem_cons.mpr ⟨(List.mem_of_getElem? (i := 37) rfl), List.forall_mem_cons.mpr ⟨(List.mem_of_getElem? (i := 38) rfl), List.forall_mem_cons.mpr ⟨(List.mem_of_getElem? (i := 13) rfl), fun _ h => absurd h List.not_mem_nil⟩⟩⟩⟩, (fun _ h => (List.mem_cons_of_mem _ (List.mem_append_right _ (List.mem_append_right _ (List.mem_append_right _ (List.mem_append_right _ (List.mem_append_right _ (List.mem_append_left _ h))))))))⟩) (by decide +kernel)
set_option maxHeartbeats 4000000 in
set_option maxRecDepth 100000 in
theorem lk_ba1 (l : Launch) {p : Program} {e : Env} {s : State} {m : MethodId} {args : Array Value} {below : List Frame} {meth : Method} {c : Code} {Q : State → Prop} {A : Nat → Prop} (D : va_G) (ob : Nat → Nat) (cI : ClassId) (tb : Int32) (ts : Int32) (tg : Int32) (tl : Int32) (tc : Int32) (tr : Int32) (tu : Int32) (tv : Int32) (tw : Int32) (cn : Nat) (fk : Nat → Int32) (sm : Int32) (ff : Nat → Int32) (fa : Nat → Int32) (fs : Nat → Int32) (fr : Nat → Int32) (fo : Nat → Int32) (fx : Nat → Int32) (hKc : KyC fk cn) (hx : p.tables.exec = Jvm.exec) (hb : c.code = cX9_buildAll) (hml : c.maxLocals = 4) (hown : s.vm.findClass RX9 = some m.cls) (hts : ∀ w ∈ wp_k_buildAll, w.before args s = true) (hA : ∀ q, s.heap.size ≤ q → A q) (hK : va_K D vwCl [(cI, .int)] s) (hN : NC s) (kx152 : ∀ (y : Nat), ∀ (nz : Int32), ∀ (n1 : Nat), ∀ (xa : Nat), ∀ (xb : Nat), ∀ (xl : Nat), ∀ (gh : Nat → Int32), ∀ (gj : Nat → Int32), ∀ (sd : Int64), ∀ (ea : Nat), ∀ (eb : Nat), ∀ (pq : Int32), (1 ≤ y) → (y ≤ 401) → (LyH gj gh n1 xl) → (y = 1 ∨ (1 ≤ n1 ∧ xa < 2147483647 ∧ xb < 2147483647 ∧ ea < 2147483647 ∧ eb < 2147483647)) → (1 ≤ n1 ∧ xa < 2147483647 ∧ xb < 2147483647 ∧ ea < 2147483647 ∧ eb < 2147483647) → ∀ (H : Heap) (locs : List Loc) (ls : Array Slot), va_P D vwCl [(ob 0, .inr (9, gT ob tb ts tg tl tc tr tu tv tw)), (ob 1, .inr (0, [.long sd, .int (nI ea), .int (nI eb), .int pq])), (ob 2, .inr (2, [.int (nI cn), .ref (ob 3), .ref (ob 4)])), (ob 3, .inl (cI, 160, .inl fk)), (ob 5, .inr (3, gY ob (nI n1) (nI xa) (nI xb) sm (nI xl))), (ob 6, .inl (cI, 2048, .inl gh)), (ob 7, .inl (cI, 2048, .inl ff)), (ob 8, .inl (cI, 2048, .inl fa)), (ob 9, .inl (cI, 2048, .inl fs)), (ob 10, .inl (cI, 160, .inl gj)), (ob 11, .inl (cI, 160, .inl fr)), (ob 12, .inl (cI, 160, .inl fo)), (ob 13, .inl (cI, 2048, .inl fx))] H → va_D A [(ob 0, .inr (9, gT ob tb ts tg tl tc tr tu tv tw)), (ob 1, .inr (0, [.long sd, .int (nI ea), .int (nI eb), .int pq])), (ob 2, .inr (2, [.int (nI cn), .ref (ob 3), .ref (ob 4)])), (ob 3, .inl (cI, 160, .inl fk)), (ob 5, .inr (3, gY ob (nI n1) (nI xa) (nI xb) sm (nI xl))), (ob 6, .inl (cI, 2048, .inl gh)), (ob 7, .inl (cI, 2048, .inl ff)), (ob 8, .inl (cI, 2048, .inl fa)), (ob 9, .inl (cI, 2048, .inl fs)), (ob 10, .inl (cI, 160, .inl gj)), (ob 11, .inl (cI, 160, .inl fr)), (ob 12, .inl (cI, 160, .inl fo)), (ob 13, .inl (cI, 2048, .inl fx))] → va_S A s.heap H locs → lv_has ls 4 [(0, .ref (ob 0))] → W p l e ({ frames := 4, cells := 0, slots := 0, locals := 160 }) s m args below meth c H locs 0 0 Q (F0 m 152 ls [])) : ∀ (N : Nat), ∀ (y : Nat), ∀ (nz : Int32), ∀ (n1 : Nat), ∀ (xa : Nat), ∀ (xb : Nat), ∀ (xl : Nat), ∀ (gh : Nat → Int32), ∀ (gj : Nat → Int32), ∀ (sd : Int64), ∀ (ea : Nat), ∀ (eb : Nat), ∀ (pq : Int32), (1 ≤ y) → (y ≤ 401) → (LyH gj gh n1 xl) → (y = 1 ∨ (1 ≤ n1 ∧ xa < 2147483647 ∧ xb < 2147483647 ∧ ea < 2147483647 ∧ eb < 2147483647)) → 402 - y < N → ∀ (H : Heap) (locs : List Loc) (ls : Array Slot), va_P D vwCl [(ob 0, .inr (9, gT ob tb ts tg tl tc tr tu tv tw)), (ob 1, .inr (0, [.long sd, .int (nI ea), .int (nI eb), .int pq])), (ob 2, .inr (2, [.int (nI cn), .ref (ob 3), .ref (ob 4)])), (ob 3, .inl (cI, 160, .inl fk)), (ob 5, .inr (3, gY ob (nI n1) (nI xa) (nI xb) sm (nI xl))), (ob 6, .inl (cI, 2048, .inl gh)), (ob 7, .inl (cI, 2048, .inl ff)), (ob 8, .inl (cI, 2048, .inl fa)), (ob 9, .inl (cI, 2048, .inl fs)), (ob 10, .inl (cI, 160, .inl gj)), (ob 11, .inl (cI, 160, .inl fr)), (ob 12, .inl (cI, 160, .inl fo)), (ob 13, .inl (cI, 2048, .inl fx))] H → va_D A [(ob 0, .inr (9, gT ob tb ts tg tl tc tr tu tv tw)), (ob 1, .inr (0, [.long sd, .int (nI ea), .int (nI eb), .int pq])), (ob 2, .inr (2, [.int (nI cn), .ref (ob 3), .ref (ob 4)])), (ob 3, .inl (cI, 160, .inl fk)), (ob 5, .inr (3, gY ob (nI n1) (nI xa) (nI xb) sm (nI xl))), (ob 6, .inl (cI, 2048, .inl gh)), (ob 7, .inl (cI, 2048, .inl ff)), (ob 8, .inl (cI, 2048, .inl fa)), (ob 9, .inl (cI, 2048, .inl fs)), (ob 10, .inl (cI, 160, .inl gj)), (ob 11, .inl (cI, 160, .inl fr)), (ob 12, .inl (cI, 160, .inl fo)), (ob 13, .inl (cI, 2048, .inl fx))] → va_S A s.heap H locs → lv_has ls 4 [(2, .int (nI y)), (1, .int nz), (0, .ref (ob 0))] → W p l e ({ frames := 4, cells := 0, slots := 0, locals := 160 }) s m args below meth c H locs 0 0 Q (F0 m 75 ls []) := by
  have hin_X9 : ∀ w ∈ wsX90, w ∈ wp_k_buildAll := fun _ h => (List.mem_cons_of_mem _ (List.mem_append_right _ (List.mem_append_right _ (List.mem_append_right _ (List.mem_append_right _ (List.mem_append_right _ (List.mem_append_right _ (List.mem_append_left _ h))))))))
  have hin_X0 : ∀ w ∈ wsX00, w ∈ wp_k_buildAll := fun _ h => (List.mem_cons_of_mem _ (List.mem_append_right _ (List.mem_append_right _ (List.mem_append_right _ (List.mem_append_right _ (List.mem_append_right _ (List.mem_append_right _ (List.mem_append_right _ (List.mem_append_left _ h)))))))))
  have hin_X3 : ∀ w ∈ wsX30, w ∈ wp_k_buildAll := fun _ h => (List.mem_cons_of_mem _ (List.mem_append_right _ (List.mem_append_right _ (List.mem_append_right _ (List.mem_append_right _ (List.mem_append_right _ (List.mem_append_right _ (List.mem_append_right _ (List.mem_append_right _ (List.mem_append_left _ h))))))))))
  have hin_X2 : ∀ w ∈ wsX20, w ∈ wp_k_buildAll := fun _ h => (List.mem_cons_of_mem _ (List.mem_append_right _ (List.mem_append_right _ (List.mem_append_right _ (List.mem_append_right _ (List.mem_append_right _ (List.mem_append_right _ (List.mem_append_right _ (List.mem_append_right _ (List.mem_append_right _ (List.mem_append_left _ h)))))))))))
  intro N
  induction N with
  | zero =>
    intro y nz n1 xa xb xl gh gj sd ea eb pq hy1 hy2 hLl hdl hm
    exact absurd hm (Nat.not_lt_zero _)
  | succ N ih =>
    intro y nz n1 xa xb xl gh gj sd ea eb pq hy1 hy2 hLl hdl hm H locs ls hP hD hS hl
    have hky := hKc
    refine lv_iload_n hx hb dX9_buildAll_75 rfl (lv_at hl 0 rfl) ?_
    refine lv_sipush (v := 400) hx hb dX9_buildAll_76 (by decide) ?_
    refine lv_icmp_gt (tgt := 152) hx hb dX9_buildAll_79 (by decide) (fun hc1 => ?_) (fun hc1 => ?_)
    ·
      have hgt : 400 < y := by
        rcases Nat.lt_or_ge 400 y with z | z
        · exact z
        · exact absurd hc1 (Int32.not_lt.mpr (nI_le (b := 400) z (by decide)))
      exact kx152 y nz n1 xa xb xl gh gj sd ea eb pq (by omega) (by omega) (hLl) (hdl) (hdl.resolve_left (by omega)) H locs ls (hP.sub [0, 1, 2, 3, 4, 5, 6, 7, 8, 9, 10, 11, 12] rfl) (hD.sub [0, 1, 2, 3, 4, 5, 6, 7, 8, 9, 10, 11, 12] (by decide) rfl) hS (lv_sub hl [2] rfl)
    ·
      have hlt : y ≤ 400 := by
        rcases Nat.lt_or_ge 400 y with z | z
        · exact absurd (nI_lt (a := 400) z (by omega)) hc1
        · exact z
      refine lv_aload_n hx hb dX9_buildAll_82 rfl (lv_at hl 2 rfl) ?_
      refine va_get (D := D) (ci := 9) (v := .ref (ob 1)) (C := RX9) (T := TX9) (N := 12) hx hb hts hin_X9 hown hK hP 0 rfl rfl 9 (by decide) (hts (.fieldLink RX9 12 "ClashFree$Table" "draw" "LClashFree$Draw;") (List.mem_of_getElem? (i := 1) rfl)) (fun _ h9 => h9) rfl dX9_buildAll_83 ?_
      have hPc := hP.sub (ws' := [(ob 1, .inr (0, [.long sd, .int (nI ea), .int (nI eb), .int pq]))]) [1] rfl
      have hKc := hK.sub (tys' := []) [] rfl
      have hDc := hD.sub (ws' := [(ob 1, .inr (0, [.long sd, .int (nI ea), .int (nI eb), .int pq]))]) [1] (by decide) rfl
      have hFc := va_free (wc := [(ob 1, .inr (0, [.long sd, .int (nI ea), .int (nI eb), .int pq]))]) hD hS hA [1] rfl
      refine va_callv (va_runV (As := []) (rest := []) ⟨hx, hb, hml, hown, hts⟩ (k_pair l D _ ob cI sd ea eb pq) (cwV 0 hts g_k_buildAll_k_pair_73 rfl rfl rfl (by decide +kernel) ⟨(Nat.le_of_ble_eq_true rfl), (Nat.le_of_ble_eq_true rfl)⟩) (PcWC_V (q0 := 0) hPc hKc hDc hN rfl rfl) rfl rfl hl.1 rfl (lv_room (Nat.le_of_ble_eq_true rfl)) dX9_buildAll_86 ⟨(Nat.le_of_ble_eq_true rfl), (Nat.le_of_ble_eq_true rfl)⟩) hS (fun q _ h => hFc q h) hFc (fun uu tt H locs htt hvm hw hB hz1 hk1 hS => ?_)
      obtain ⟨w3, w4, w5, w6⟩ := uu
      obtain ⟨hP1, hK1, hD1⟩ := hB
      rw [htt] at hP1
      have hK1 := va_K.moved hvm.symm hK1
      have hP1 : va_P D vwCl [(ob 1, .inr (0, [.long w3, .int (nI w4), .int (nI w5), .int w6]))] H := hP1
      obtain ⟨hP, hD⟩ := va_join (wr := [(ob 0, .inr (9, gT ob tb ts tg tl tc tr tu tv tw)), (ob 2, .inr (2, [.int (nI cn), .ref (ob 3), .ref (ob 4)])), (ob 3, .inl (cI, 160, .inl fk)), (ob 5, .inr (3, gY ob (nI n1) (nI xa) (nI xb) sm (nI xl))), (ob 6, .inl (cI, 2048, .inl gh)), (ob 7, .inl (cI, 2048, .inl ff)), (ob 8, .inl (cI, 2048, .inl fa)), (ob 9, .inl (cI, 2048, .inl fs)), (ob 10, .inl (cI, 160, .inl gj)), (ob 11, .inl (cI, 160, .inl fr)), (ob 12, .inl (cI, 160, .inl fo)), (ob 13, .inl (cI, 2048, .inl fx))]) (w1 := [(ob 1, .inr (0, [.long w3, .int (nI w4), .int (nI w5), .int w6]))]) hP hD [1] [0, 2, 3, 4, 5, 6, 7, 8, 9, 10, 11, 12] rfl rfl (by decide) (by decide) hk1 hFc hP1 hD1
      have hP : va_P D vwCl [(ob 0, .inr (9, gT ob tb ts tg tl tc tr tu tv tw)), (ob 2, .inr (2, [.int (nI cn), .ref (ob 3), .ref (ob 4)])), (ob 3, .inl (cI, 160, .inl fk)), (ob 5, .inr (3, gY ob (nI n1) (nI xa) (nI xb) sm (nI xl))), (ob 6, .inl (cI, 2048, .inl gh)), (ob 7, .inl (cI, 2048, .inl ff)), (ob 8, .inl (cI, 2048, .inl fa)), (ob 9, .inl (cI, 2048, .inl fs)), (ob 10, .inl (cI, 160, .inl gj)), (ob 11, .inl (cI, 160, .inl fr)), (ob 12, .inl (cI, 160, .inl fo)), (ob 13, .inl (cI, 2048, .inl fx)), (ob 1, .inr (0, [.long w3, .int (nI w4), .int (nI w5), .int w6]))] H := hP
      have hD : va_D A [(ob 0, .inr (9, gT ob tb ts tg tl tc tr tu tv tw)), (ob 2, .inr (2, [.int (nI cn), .ref (ob 3), .ref (ob 4)])), (ob 3, .inl (cI, 160, .inl fk)), (ob 5, .inr (3, gY ob (nI n1) (nI xa) (nI xb) sm (nI xl))), (ob 6, .inl (cI, 2048, .inl gh)), (ob 7, .inl (cI, 2048, .inl ff)), (ob 8, .inl (cI, 2048, .inl fa)), (ob 9, .inl (cI, 2048, .inl fs)), (ob 10, .inl (cI, 160, .inl gj)), (ob 11, .inl (cI, 160, .inl fr)), (ob 12, .inl (cI, 160, .inl fo)), (ob 13, .inl (cI, 2048, .inl fx)), (ob 1, .inr (0, [.long w3, .int (nI w4), .int (nI w5), .int w6]))] := hD
      try dsimp only at hw
      clear hz1 hk1 hFc hPc hKc hDc
      obtain ⟨hd7_a, hd7_b⟩ := hw
      refine lv_aload_n hx hb dX9_buildAll_89 rfl (lv_at hl 2 rfl) ?_
      refine va_get (D := D) (ci := 9) (v := .ref (ob 5)) (C := RX9) (T := TX9) (N := 12) hx hb hts hin_X9 hown hK hP 0 rfl rfl 11 (by decide) (hts (.fieldLink RX9 28 "ClashFree$Table" "layout" "LClashFree$Layout;") (List.mem_of_getElem? (i := 6) rfl)) (fun _ h9 => h9) rfl dX9_buildAll_90 ?_
      refine lv_aload_n hx hb dX9_buildAll_93 rfl (lv_at hl 2 rfl) ?_
      refine va_get (D := D) (ci := 9) (v := .ref (ob 2)) (C := RX9) (T := TX9) (N := 12) hx hb hts hin_X9 hown hK hP 0 rfl rfl 10 (by decide) (hts (.fieldLink RX9 21 "ClashFree$Table" "keys" "LClashFree$Keys;") (List.mem_of_getElem? (i := 7) rfl)) (fun _ h9 => h9) rfl dX9_buildAll_94 ?_
      refine lv_aload_n hx hb dX9_buildAll_97 rfl (lv_at hl 2 rfl) ?_
      refine va_get (D := D) (ci := 9) (v := .ref (ob 1)) (C := RX9) (T := TX9) (N := 12) hx hb hts hin_X9 hown hK hP 0 rfl rfl 9 (by decide) (hts (.fieldLink RX9 12 "ClashFree$Table" "draw" "LClashFree$Draw;") (List.mem_of_getElem? (i := 1) rfl)) (fun _ h9 => h9) rfl dX9_buildAll_98 ?_
      refine va_get (D := D) (ci := 0) (v := .int (nI w4)) (C := RX0) (T := TX0) (N := 4) hx hb hts hin_X0 hown hK hP 12 rfl rfl 1 (by decide) (hts (.fieldLink RX9 76 "ClashFree$Draw" "a" "I") (List.mem_of_getElem? (i := 8) rfl)) (fun _ h9 => h9) rfl dX9_buildAll_101 ?_
      refine lv_aload_n hx hb dX9_buildAll_104 rfl (lv_at hl 2 rfl) ?_
      refine va_get (D := D) (ci := 9) (v := .ref (ob 1)) (C := RX9) (T := TX9) (N := 12) hx hb hts hin_X9 hown hK hP 0 rfl rfl 9 (by decide) (hts (.fieldLink RX9 12 "ClashFree$Table" "draw" "LClashFree$Draw;") (List.mem_of_getElem? (i := 1) rfl)) (fun _ h9 => h9) rfl dX9_buildAll_105 ?_
      refine va_get (D := D) (ci := 0) (v := .int (nI w5)) (C := RX0) (T := TX0) (N := 4) hx hb hts hin_X0 hown hK hP 12 rfl rfl 2 (by decide) (hts (.fieldLink RX9 79 "ClashFree$Draw" "b" "I") (List.mem_of_getElem? (i := 9) rfl)) (fun _ h9 => h9) rfl dX9_buildAll_108 ?_
      refine lv_iload_n hx hb dX9_buildAll_111 rfl (lv_at hl 1 rfl) ?_
      have hPc := hP.sub (ws' := [(ob 5, .inr (3, gY ob (nI n1) (nI xa) (nI xb) sm (nI xl))), (ob 6, .inl (cI, 2048, .inl gh)), (ob 10, .inl (cI, 160, .inl gj)), (ob 2, .inr (2, [.int (nI cn), .ref (ob 3), .ref (ob 4)])), (ob 3, .inl (cI, 160, .inl fk))]) [3, 4, 8, 1, 2] rfl
      have hKc := hK.sub (tys' := [(cI, .int)]) [0] rfl
      have hDc := hD.sub (ws' := [(ob 5, .inr (3, gY ob (nI n1) (nI xa) (nI xb) sm (nI xl))), (ob 6, .inl (cI, 2048, .inl gh)), (ob 10, .inl (cI, 160, .inl gj)), (ob 2, .inr (2, [.int (nI cn), .ref (ob 3), .ref (ob 4)])), (ob 3, .inl (cI, 160, .inl fk))]) [3, 4, 8, 1, 2] (by decide) rfl
      have hFc := va_free (wc := [(ob 5, .inr (3, gY ob (nI n1) (nI xa) (nI xb) sm (nI xl))), (ob 6, .inl (cI, 2048, .inl gh)), (ob 10, .inl (cI, 160, .inl gj)), (ob 2, .inr (2, [.int (nI cn), .ref (ob 3), .ref (ob 4)])), (ob 3, .inl (cI, 160, .inl fk))]) hD hS hA [3, 4, 8, 1, 2] rfl
      refine va_calli (va_runV (As := [.ref (ob 2), .int (nI w4), .int (nI w5), .int nz]) (rest := []) ⟨hx, hb, hml, hown, hts⟩ (k_deal l D _ ob ob cI n1 xa xb sm xl gh gj cn fk w4 w5 nz hLl hky hd7_a hd7_b) (cwV 4 hts g_k_buildAll_k_deal_82 rfl rfl rfl (by decide +kernel) ⟨(Nat.le_of_ble_eq_true rfl), (Nat.le_of_ble_eq_true rfl)⟩) (PcWC_V (q0 := 0) hPc hKc hDc hN rfl rfl) rfl rfl hl.1 rfl (lv_room (Nat.le_of_ble_eq_true rfl)) dX9_buildAll_112 ⟨(Nat.le_of_ble_eq_true rfl), (Nat.le_of_ble_eq_true rfl)⟩) hS (fun q _ h => hFc q h) hFc (fun r8 uu tt H locs htt hvm hw hB hz1 hk1 hS => ?_)
      obtain ⟨w9, w10, w11, w12, w13, w14⟩ := uu
      obtain ⟨hP1, hK1, hD1⟩ := hB
      rw [htt] at hP1
      have hK1 := va_K.moved hvm.symm hK1
      have hP1 : va_P D vwCl [(ob 5, .inr (3, gY ob (nI w9) (nI w10) (nI w11) sm (nI w12))), (ob 6, .inl (cI, 2048, .inl w13)), (ob 10, .inl (cI, 160, .inl w14)), (ob 2, .inr (2, [.int (nI cn), .ref (ob 3), .ref (ob 4)])), (ob 3, .inl (cI, 160, .inl fk))] H := hP1
      obtain ⟨hP, hD⟩ := va_join (wr := [(ob 0, .inr (9, gT ob tb ts tg tl tc tr tu tv tw)), (ob 7, .inl (cI, 2048, .inl ff)), (ob 8, .inl (cI, 2048, .inl fa)), (ob 9, .inl (cI, 2048, .inl fs)), (ob 11, .inl (cI, 160, .inl fr)), (ob 12, .inl (cI, 160, .inl fo)), (ob 13, .inl (cI, 2048, .inl fx)), (ob 1, .inr (0, [.long w3, .int (nI w4), .int (nI w5), .int w6]))]) (w1 := [(ob 5, .inr (3, gY ob (nI w9) (nI w10) (nI w11) sm (nI w12))), (ob 6, .inl (cI, 2048, .inl w13)), (ob 10, .inl (cI, 160, .inl w14)), (ob 2, .inr (2, [.int (nI cn), .ref (ob 3), .ref (ob 4)])), (ob 3, .inl (cI, 160, .inl fk))]) hP hD [3, 4, 8, 1, 2] [0, 5, 6, 7, 9, 10, 11, 12] rfl rfl (by decide) (by decide) hk1 hFc hP1 hD1
      have hP : va_P D vwCl [(ob 0, .inr (9, gT ob tb ts tg tl tc tr tu tv tw)), (ob 7, .inl (cI, 2048, .inl ff)), (ob 8, .inl (cI, 2048, .inl fa)), (ob 9, .inl (cI, 2048, .inl fs)), (ob 11, .inl (cI, 160, .inl fr)), (ob 12, .inl (cI, 160, .inl fo)), (ob 13, .inl (cI, 2048, .inl fx)), (ob 1, .inr (0, [.long w3, .int (nI w4), .int (nI w5), .int w6])), (ob 5, .inr (3, gY ob (nI w9) (nI w10) (nI w11) sm (nI w12))), (ob 6, .inl (cI, 2048, .inl w13)), (ob 10, .inl (cI, 160, .inl w14)), (ob 2, .inr (2, [.int (nI cn), .ref (ob 3), .ref (ob 4)])), (ob 3, .inl (cI, 160, .inl fk))] H := hP
      have hD : va_D A [(ob 0, .inr (9, gT ob tb ts tg tl tc tr tu tv tw)), (ob 7, .inl (cI, 2048, .inl ff)), (ob 8, .inl (cI, 2048, .inl fa)), (ob 9, .inl (cI, 2048, .inl fs)), (ob 11, .inl (cI, 160, .inl fr)), (ob 12, .inl (cI, 160, .inl fo)), (ob 13, .inl (cI, 2048, .inl fx)), (ob 1, .inr (0, [.long w3, .int (nI w4), .int (nI w5), .int w6])), (ob 5, .inr (3, gY ob (nI w9) (nI w10) (nI w11) sm (nI w12))), (ob 6, .inl (cI, 2048, .inl w13)), (ob 10, .inl (cI, 160, .inl w14)), (ob 2, .inr (2, [.int (nI cn), .ref (ob 3), .ref (ob 4)])), (ob 3, .inl (cI, 160, .inl fk))] := hD
      try dsimp only at hw
      clear hz1 hk1 hFc hPc hKc hDc
      obtain ⟨hL15, hL15_1, hL15_a, hL15_b, hL15_c⟩ := hw
      have hL15_n := hL15.1
      have hL15_l := hL15.2.1
      refine lv_istore_n (lv' := [(3, .int r8), (2, .int (nI y)), (1, .int nz), (0, .ref (ob 0))]) hx hb dX9_buildAll_115 rfl hl (by decide) rfl (fun ls hl => ?_)
      refine lv_iconst (v := 4) hx hb dX9_buildAll_116 (by decide) ?_
      refine lv_iload_n hx hb dX9_buildAll_117 rfl (lv_at hl 0 rfl) ?_
      refine lv_imul hx hb dX9_buildAll_118 ?_
      refine lv_topi (fun v16 ev16 => ?_)
      refine lv_aload_n hx hb dX9_buildAll_119 rfl (lv_at hl 3 rfl) ?_
      have hPc := hP.sub (ws' := [(ob 0, .inr (9, gT ob tb ts tg tl tc tr tu tv tw))]) [0] rfl
      have hKc := hK.sub (tys' := []) [] rfl
      have hFc := va_free0 hS hA
      refine va_calli (va_runV (As := []) (rest := [.int v16]) ⟨hx, hb, hml, hown, hts⟩ (k_mostRooms l D _ ob cI tb ts tg tl tc tr tu tv tw) (cwV 0 hts g_k_buildAll_k_mostRooms_86 rfl rfl rfl (by decide +kernel) ⟨(Nat.le_of_ble_eq_true rfl), (Nat.le_of_ble_eq_true rfl)⟩) (PcRC_V (q0 := 0) hPc hKc hN rfl rfl) rfl rfl hl.1 rfl (lv_room (Nat.le_of_ble_eq_true rfl)) dX9_buildAll_120 ⟨(Nat.le_of_ble_eq_true rfl), (Nat.le_of_ble_eq_true rfl)⟩) hS (fun q _ h => hFc q h) hFc (fun r17 uu tt H locs htt hvm hw hB hz1 hk1 hS => ?_)
      have hP := va_keep hP hk1
      try dsimp only at hw
      clear hB hz1 hk1 hFc hPc hKc
      refine lv_icmp_gt (tgt := 129) hx hb dX9_buildAll_123 (by decide) (fun hc18 => ?_) (fun hc18 => ?_)
      ·
        refine lv_iload_n hx hb dX9_buildAll_129 rfl (lv_at hl 1 rfl) ?_
        refine lv_bipush (v := 20) hx hb dX9_buildAll_130 (by decide) ?_
        refine lv_irem hx hb dX9_buildAll_132 (by decide) ?_
        refine lv_topi (fun v19 ev19 => ?_)
        refine lv_if_ne (tgt := 146) hx hb dX9_buildAll_133 (by decide) (fun hc20 => ?_) (fun hc20 => ?_)
        ·
          refine lv_iinc (v := nI (y + 1)) (lv' := [(2, .int (nI (y + 1))), (3, .int r8), (1, .int nz), (0, .ref (ob 0))]) hx hb dX9_buildAll_146 hl (k := 1) rfl (nI_1 _) (by decide) rfl (fun ls hl => ?_)
          refine lv_goto (tgt := 75) hx hb dX9_buildAll_149 (by decide) ?_
          exact ih (y + 1) nz w9 w10 w11 w12 w13 w14 w3 w4 w5 w6 (by omega) (by omega) (hL15) (Or.inr ⟨hL15_1, hL15_a, hL15_b, hd7_a, hd7_b⟩) (by omega) H locs ls (hP.sub [0, 7, 11, 12, 8, 9, 1, 2, 3, 10, 4, 5, 6] rfl) (hD.sub [0, 7, 11, 12, 8, 9, 1, 2, 3, 10, 4, 5, 6] (by decide) rfl) hS (lv_sub hl [0, 2, 3] rfl)
        ·
          refine lv_sipush (v := 2048) hx hb dX9_buildAll_136 (by decide) ?_
          refine lv_iconst (v := 2) hx hb dX9_buildAll_139 (by decide) ?_
          refine lv_iload_n hx hb dX9_buildAll_140 rfl (lv_at hl 2 rfl) ?_
          refine lv_imul hx hb dX9_buildAll_141 ?_
          refine lv_topi (fun v21 ev21 => ?_)
          refine va_mmin hx hb (hml.trans hl.1.symm) hown (hts (.methodLink RX9 90 Lib.Math.min.name) (List.mem_of_getElem? (i := 18) rfl)) (hts (.static Lib.Math.min.name) (List.mem_of_getElem? (i := 19) rfl)) (hts (.initialized "java/lang/Math") (List.mem_of_getElem? (i := 20) rfl)) (hts (.code Lib.Math.min.name Lib.Math.min.code 2 (some .int)) (List.mem_of_getElem? (i := 21) rfl)) (Nat.le_of_ble_eq_true rfl) (Nat.le_of_ble_eq_true rfl) (Nat.le_of_ble_eq_true rfl) (Nat.le_of_ble_eq_true rfl) dX9_buildAll_142 ?_
          refine lv_topi (fun v22 ev22 => ?_)
          refine lv_istore_n (lv' := [(1, .int v22), (3, .int r8), (2, .int (nI y)), (0, .ref (ob 0))]) hx hb dX9_buildAll_145 rfl hl (by decide) rfl (fun ls hl => ?_)
          refine lv_iinc (v := nI (y + 1)) (lv' := [(2, .int (nI (y + 1))), (1, .int v22), (3, .int r8), (0, .ref (ob 0))]) hx hb dX9_buildAll_146 hl (k := 2) rfl (nI_1 _) (by decide) rfl (fun ls hl => ?_)
          refine lv_goto (tgt := 75) hx hb dX9_buildAll_149 (by decide) ?_
          exact ih (y + 1) v22 w9 w10 w11 w12 w13 w14 w3 w4 w5 w6 (by omega) (by omega) (hL15) (Or.inr ⟨hL15_1, hL15_a, hL15_b, hd7_a, hd7_b⟩) (by omega) H locs ls (hP.sub [0, 7, 11, 12, 8, 9, 1, 2, 3, 10, 4, 5, 6] rfl) (hD.sub [0, 7, 11, 12, 8, 9, 1, 2, 3, 10, 4, 5, 6] (by decide) rfl) hS (lv_sub hl [0, 1, 3] rfl)
      ·
        refine lv_goto (tgt := 152) hx hb dX9_buildAll_126 (by decide) ?_
        exact kx152 y nz w9 w10 w11 w12 w13 w14 w3 w4 w5 w6 (by omega) (by omega) (hL15) (Or.inr ⟨hL15_1, hL15_a, hL15_b, hd7_a, hd7_b⟩) (⟨hL15_1, hL15_a, hL15_b, hd7_a, hd7_b⟩) H locs ls (hP.sub [0, 7, 11, 12, 8, 9, 1, 2, 3, 10, 4, 5, 6] rfl) (hD.sub [0, 7, 11, 12, 8, 9, 1, 2, 3, 10, 4, 5, 6] (by decide) rfl) hS (lv_sub hl [3] rfl)
set_option maxHeartbeats 4000000 in
set_option maxRecDepth 100000 in
theorem lk_ba2 (l : Launch) {p : Program} {e : Env} {s : State} {m : MethodId} {args : Array Value} {below : List Frame} {meth : Method} {c : Code} {Q : State → Prop} {A : Nat → Prop} (D : va_G) (ob : Nat → Nat) (cI : ClassId) (tb : Int32) (ts : Int32) (tg : Int32) (tl : Int32) (tc : Int32) (tr : Int32) (tu : Int32) (tv : Int32) (tw : Int32) (cn : Nat) (fk : Nat → Int32) (nb : Nat) (ka : Nat) (kb : Nat) (sm : Int32) (ln : Nat) (fh : Nat → Int32) (ff : Nat → Int32) (fj : Nat → Int32) (fo : Nat → Int32) (fx : Nat → Int32) (hln : ln ≤ 160) (hO : OrC fo) (hnb : nb ≤ 2048) (hx : p.tables.exec = Jvm.exec) (hb : c.code = cX9_buildAll) (hml : c.maxLocals = 4) (hown : s.vm.findClass RX9 = some m.cls) (hts : ∀ w ∈ wp_k_buildAll, w.before args s = true) (hA : ∀ q, s.heap.size ≤ q → A q) (hK : va_K D vwCl [(cI, .int)] s) (hN : NC s) (kx204 : ∀ (y : Nat), ∀ (ga : Nat → Int32), ∀ (gs : Nat → Int32), ∀ (gr : Nat → Int32), ∀ (sd : Int64), ∀ (ea : Nat), ∀ (eb : Nat), ∀ (pq : Int32), (y ≤ nb) → (ea < 2147483647) → (eb < 2147483647) → ∀ (H : Heap) (locs : List Loc) (ls : Array Slot), va_P D vwCl [(ob 0, .inr (9, gT ob tb ts tg tl tc tr tu tv tw)), (ob 1, .inr (0, [.long sd, .int (nI ea), .int (nI eb), .int pq])), (ob 2, .inr (2, [.int (nI cn), .ref (ob 3), .ref (ob 4)])), (ob 3, .inl (cI, 160, .inl fk)), (ob 5, .inr (3, gY ob (nI nb) (nI ka) (nI kb) sm (nI ln))), (ob 6, .inl (cI, 2048, .inl fh)), (ob 7, .inl (cI, 2048, .inl ff)), (ob 8, .inl (cI, 2048, .inl ga)), (ob 9, .inl (cI, 2048, .inl gs)), (ob 10, .inl (cI, 160, .inl fj)), (ob 11, .inl (cI, 160, .inl gr)), (ob 12, .inl (cI, 160, .inl fo)), (ob 13, .inl (cI, 2048, .inl fx))] H → va_D A [(ob 0, .inr (9, gT ob tb ts tg tl tc tr tu tv tw)), (ob 1, .inr (0, [.long sd, .int (nI ea), .int (nI eb), .int pq])), (ob 2, .inr (2, [.int (nI cn), .ref (ob 3), .ref (ob 4)])), (ob 3, .inl (cI, 160, .inl fk)), (ob 5, .inr (3, gY ob (nI nb) (nI ka) (nI kb) sm (nI ln))), (ob 6, .inl (cI, 2048, .inl fh)), (ob 7, .inl (cI, 2048, .inl ff)), (ob 8, .inl (cI, 2048, .inl ga)), (ob 9, .inl (cI, 2048, .inl gs)), (ob 10, .inl (cI, 160, .inl fj)), (ob 11, .inl (cI, 160, .inl gr)), (ob 12, .inl (cI, 160, .inl fo)), (ob 13, .inl (cI, 2048, .inl fx))] → va_S A s.heap H locs → lv_has ls 4 [(0, .ref (ob 0))] → W p l e ({ frames := 4, cells := 0, slots := 0, locals := 160 }) s m args below meth c H locs 0 0 Q (F0 m 204 ls [])) : ∀ (N : Nat), ∀ (y : Nat), ∀ (ga : Nat → Int32), ∀ (gs : Nat → Int32), ∀ (gr : Nat → Int32), ∀ (sd : Int64), ∀ (ea : Nat), ∀ (eb : Nat), ∀ (pq : Int32), (y ≤ nb) → (ea < 2147483647) → (eb < 2147483647) → nb - y < N → ∀ (H : Heap) (locs : List Loc) (ls : Array Slot), va_P D vwCl [(ob 0, .inr (9, gT ob tb ts tg tl tc tr tu tv tw)), (ob 1, .inr (0, [.long sd, .int (nI ea), .int (nI eb), .int pq])), (ob 2, .inr (2, [.int (nI cn), .ref (ob 3), .ref (ob 4)])), (ob 3, .inl (cI, 160, .inl fk)), (ob 5, .inr (3, gY ob (nI nb) (nI ka) (nI kb) sm (nI ln))), (ob 6, .inl (cI, 2048, .inl fh)), (ob 7, .inl (cI, 2048, .inl ff)), (ob 8, .inl (cI, 2048, .inl ga)), (ob 9, .inl (cI, 2048, .inl gs)), (ob 10, .inl (cI, 160, .inl fj)), (ob 11, .inl (cI, 160, .inl gr)), (ob 12, .inl (cI, 160, .inl fo)), (ob 13, .inl (cI, 2048, .inl fx))] H → va_D A [(ob 0, .inr (9, gT ob tb ts tg tl tc tr tu tv tw)), (ob 1, .inr (0, [.long sd, .int (nI ea), .int (nI eb), .int pq])), (ob 2, .inr (2, [.int (nI cn), .ref (ob 3), .ref (ob 4)])), (ob 3, .inl (cI, 160, .inl fk)), (ob 5, .inr (3, gY ob (nI nb) (nI ka) (nI kb) sm (nI ln))), (ob 6, .inl (cI, 2048, .inl fh)), (ob 7, .inl (cI, 2048, .inl ff)), (ob 8, .inl (cI, 2048, .inl ga)), (ob 9, .inl (cI, 2048, .inl gs)), (ob 10, .inl (cI, 160, .inl fj)), (ob 11, .inl (cI, 160, .inl gr)), (ob 12, .inl (cI, 160, .inl fo)), (ob 13, .inl (cI, 2048, .inl fx))] → va_S A s.heap H locs → lv_has ls 4 [(2, .int (nI y)), (0, .ref (ob 0))] → W p l e ({ frames := 4, cells := 0, slots := 0, locals := 160 }) s m args below meth c H locs 0 0 Q (F0 m 162 ls []) := by
  have hin_X9 : ∀ w ∈ wsX90, w ∈ wp_k_buildAll := fun _ h => (List.mem_cons_of_mem _ (List.mem_append_right _ (List.mem_append_right _ (List.mem_append_right _ (List.mem_append_right _ (List.mem_append_right _ (List.mem_append_right _ (List.mem_append_left _ h))))))))
  have hin_X0 : ∀ w ∈ wsX00, w ∈ wp_k_buildAll := fun _ h => (List.mem_cons_of_mem _ (List.mem_append_right _ (List.mem_append_right _ (List.mem_append_right _ (List.mem_append_right _ (List.mem_append_right _ (List.mem_append_right _ (List.mem_append_right _ (List.mem_append_left _ h)))))))))
  have hin_X3 : ∀ w ∈ wsX30, w ∈ wp_k_buildAll := fun _ h => (List.mem_cons_of_mem _ (List.mem_append_right _ (List.mem_append_right _ (List.mem_append_right _ (List.mem_append_right _ (List.mem_append_right _ (List.mem_append_right _ (List.mem_append_right _ (List.mem_append_right _ (List.mem_append_left _ h))))))))))
  have hin_X2 : ∀ w ∈ wsX20, w ∈ wp_k_buildAll := fun _ h => (List.mem_cons_of_mem _ (List.mem_append_right _ (List.mem_append_right _ (List.mem_append_right _ (List.mem_append_right _ (List.mem_append_right _ (List.mem_append_right _ (List.mem_append_right _ (List.mem_append_right _ (List.mem_append_right _ (List.mem_append_left _ h)))))))))))
  intro N
  induction N with
  | zero =>
    intro y ga gs gr sd ea eb pq hy1 hea heb hm
    exact absurd hm (Nat.not_lt_zero _)
  | succ N ih =>
    intro y ga gs gr sd ea eb pq hy1 hea heb hm H locs ls hP hD hS hl
    refine lv_iload_n hx hb dX9_buildAll_162 rfl (lv_at hl 0 rfl) ?_
    refine lv_aload_n hx hb dX9_buildAll_163 rfl (lv_at hl 1 rfl) ?_
    refine va_get (D := D) (ci := 9) (v := .ref (ob 5)) (C := RX9) (T := TX9) (N := 12) hx hb hts hin_X9 hown hK hP 0 rfl rfl 11 (by decide) (hts (.fieldLink RX9 28 "ClashFree$Table" "layout" "LClashFree$Layout;") (List.mem_of_getElem? (i := 6) rfl)) (fun _ h9 => h9) rfl dX9_buildAll_164 ?_
    refine va_get (D := D) (ci := 3) (v := .int (nI nb)) (C := RX3) (T := TX3) (N := 13) hx hb hts hin_X3 hown hK hP 4 rfl rfl 0 (by decide) (hts (.fieldLink RX9 97 "ClashFree$Layout" "buckets" "I") (List.mem_of_getElem? (i := 22) rfl)) (fun _ h9 => h9) rfl dX9_buildAll_167 ?_
    refine lv_icmp_ge (tgt := 204) hx hb dX9_buildAll_170 (by decide) (fun hc1 => ?_) (fun hc1 => ?_)
    ·
      have hlt : nb ≤ y := (nI_leI (by omega) (by omega)).mp hc1
      exact kx204 y ga gs gr sd ea eb pq (hy1) (hea) (heb) H locs ls (hP.sub [0, 1, 2, 3, 4, 5, 6, 7, 8, 9, 10, 11, 12] rfl) (hD.sub [0, 1, 2, 3, 4, 5, 6, 7, 8, 9, 10, 11, 12] (by decide) rfl) hS (lv_sub hl [1] rfl)
    ·
      have hlt : y < nb := by
        rcases Nat.lt_or_ge y (nb) with z | z
        · exact z
        · exact absurd (nI_le z (by omega)) hc1
      refine lv_aload_n hx hb dX9_buildAll_173 rfl (lv_at hl 1 rfl) ?_
      refine va_get (D := D) (ci := 9) (v := .ref (ob 5)) (C := RX9) (T := TX9) (N := 12) hx hb hts hin_X9 hown hK hP 0 rfl rfl 11 (by decide) (hts (.fieldLink RX9 28 "ClashFree$Table" "layout" "LClashFree$Layout;") (List.mem_of_getElem? (i := 6) rfl)) (fun _ h9 => h9) rfl dX9_buildAll_174 ?_
      refine lv_aload_n hx hb dX9_buildAll_177 rfl (lv_at hl 1 rfl) ?_
      refine va_get (D := D) (ci := 9) (v := .ref (ob 2)) (C := RX9) (T := TX9) (N := 12) hx hb hts hin_X9 hown hK hP 0 rfl rfl 10 (by decide) (hts (.fieldLink RX9 21 "ClashFree$Table" "keys" "LClashFree$Keys;") (List.mem_of_getElem? (i := 7) rfl)) (fun _ h9 => h9) rfl dX9_buildAll_178 ?_
      refine lv_aload_n hx hb dX9_buildAll_181 rfl (lv_at hl 1 rfl) ?_
      refine va_get (D := D) (ci := 9) (v := .ref (ob 1)) (C := RX9) (T := TX9) (N := 12) hx hb hts hin_X9 hown hK hP 0 rfl rfl 9 (by decide) (hts (.fieldLink RX9 12 "ClashFree$Table" "draw" "LClashFree$Draw;") (List.mem_of_getElem? (i := 1) rfl)) (fun _ h9 => h9) rfl dX9_buildAll_182 ?_
      refine lv_iload_n hx hb dX9_buildAll_185 rfl (lv_at hl 0 rfl) ?_
      refine lv_aload_n hx hb dX9_buildAll_186 rfl (lv_at hl 1 rfl) ?_
      refine va_get (D := D) (ci := 9) (v := .ref (ob 5)) (C := RX9) (T := TX9) (N := 12) hx hb hts hin_X9 hown hK hP 0 rfl rfl 11 (by decide) (hts (.fieldLink RX9 28 "ClashFree$Table" "layout" "LClashFree$Layout;") (List.mem_of_getElem? (i := 6) rfl)) (fun _ h9 => h9) rfl dX9_buildAll_187 ?_
      refine va_get (D := D) (ci := 3) (v := .ref (ob 13)) (C := RX3) (T := TX3) (N := 13) hx hb hts hin_X3 hown hK hP 4 rfl rfl 12 (by decide) (hts (.fieldLink RX9 100 "ClashFree$Layout" "next" "[I") (List.mem_of_getElem? (i := 23) rfl)) (fun _ h9 => h9) rfl dX9_buildAll_190 ?_
      refine lv_iload_n hx hb dX9_buildAll_193 rfl (lv_at hl 0 rfl) ?_
      refine va_iald hx hb hK hP 12 0 rfl rfl (vp_in_nI (by omega) (by decide)) dX9_buildAll_194 ?_
      refine lv_topi (fun v2 ev2 => ?_)
      have hPc := hP.sub (ws' := [(ob 5, .inr (3, gY ob (nI nb) (nI ka) (nI kb) sm (nI ln))), (ob 6, .inl (cI, 2048, .inl fh)), (ob 7, .inl (cI, 2048, .inl ff)), (ob 8, .inl (cI, 2048, .inl ga)), (ob 9, .inl (cI, 2048, .inl gs)), (ob 11, .inl (cI, 160, .inl gr)), (ob 12, .inl (cI, 160, .inl fo)), (ob 1, .inr (0, [.long sd, .int (nI ea), .int (nI eb), .int pq])), (ob 2, .inr (2, [.int (nI cn), .ref (ob 3), .ref (ob 4)])), (ob 3, .inl (cI, 160, .inl fk))]) [4, 5, 6, 7, 8, 10, 11, 1, 2, 3] rfl
      have hKc := hK.sub (tys' := [(cI, .int)]) [0] rfl
      have hDc := hD.sub (ws' := [(ob 5, .inr (3, gY ob (nI nb) (nI ka) (nI kb) sm (nI ln))), (ob 6, .inl (cI, 2048, .inl fh)), (ob 7, .inl (cI, 2048, .inl ff)), (ob 8, .inl (cI, 2048, .inl ga)), (ob 9, .inl (cI, 2048, .inl gs)), (ob 11, .inl (cI, 160, .inl gr)), (ob 12, .inl (cI, 160, .inl fo)), (ob 1, .inr (0, [.long sd, .int (nI ea), .int (nI eb), .int pq])), (ob 2, .inr (2, [.int (nI cn), .ref (ob 3), .ref (ob 4)])), (ob 3, .inl (cI, 160, .inl fk))]) [4, 5, 6, 7, 8, 10, 11, 1, 2, 3] (by decide) rfl
      have hFc := va_free (wc := [(ob 5, .inr (3, gY ob (nI nb) (nI ka) (nI kb) sm (nI ln))), (ob 6, .inl (cI, 2048, .inl fh)), (ob 7, .inl (cI, 2048, .inl ff)), (ob 8, .inl (cI, 2048, .inl ga)), (ob 9, .inl (cI, 2048, .inl gs)), (ob 11, .inl (cI, 160, .inl gr)), (ob 12, .inl (cI, 160, .inl fo)), (ob 1, .inr (0, [.long sd, .int (nI ea), .int (nI eb), .int pq])), (ob 2, .inr (2, [.int (nI cn), .ref (ob 3), .ref (ob 4)])), (ob 3, .inl (cI, 160, .inl fk))]) hD hS hA [4, 5, 6, 7, 8, 10, 11, 1, 2, 3] rfl
      refine va_callv (va_runV (As := [.ref (ob 2), .ref (ob 1), .int (nI y), .int v2]) (rest := []) ⟨hx, hb, hml, hown, hts⟩ (k_bb l D _ ob ob cI nb ka kb sm ln fh ff ga gs gr fo sd ea eb pq cn fk (nI y) v2 hnb hln hO hea heb) (cwV 4 hts g_k_buildAll_k_bb_104 rfl rfl rfl (by decide +kernel) ⟨(Nat.le_of_ble_eq_true rfl), (Nat.le_of_ble_eq_true rfl)⟩) (PcWC_V (q0 := 0) hPc hKc hDc hN rfl rfl) rfl rfl hl.1 rfl (lv_room (Nat.le_of_ble_eq_true rfl)) dX9_buildAll_195 ⟨(Nat.le_of_ble_eq_true rfl), (Nat.le_of_ble_eq_true rfl)⟩) hS (fun q _ h => hFc q h) hFc (fun uu tt H locs htt hvm hw hB hz1 hk1 hS => ?_)
      obtain ⟨w4, w5, w6, w7, w8, w9, w10⟩ := uu
      obtain ⟨hP1, hK1, hD1⟩ := hB
      rw [htt] at hP1
      have hK1 := va_K.moved hvm.symm hK1
      have hP1 : va_P D vwCl [(ob 5, .inr (3, gY ob (nI nb) (nI ka) (nI kb) sm (nI ln))), (ob 6, .inl (cI, 2048, .inl fh)), (ob 7, .inl (cI, 2048, .inl ff)), (ob 8, .inl (cI, 2048, .inl w4)), (ob 9, .inl (cI, 2048, .inl w5)), (ob 11, .inl (cI, 160, .inl w6)), (ob 12, .inl (cI, 160, .inl fo)), (ob 1, .inr (0, [.long w7, .int (nI w8), .int (nI w9), .int w10])), (ob 2, .inr (2, [.int (nI cn), .ref (ob 3), .ref (ob 4)])), (ob 3, .inl (cI, 160, .inl fk))] H := hP1
      obtain ⟨hP, hD⟩ := va_join (wr := [(ob 0, .inr (9, gT ob tb ts tg tl tc tr tu tv tw)), (ob 10, .inl (cI, 160, .inl fj)), (ob 13, .inl (cI, 2048, .inl fx))]) (w1 := [(ob 5, .inr (3, gY ob (nI nb) (nI ka) (nI kb) sm (nI ln))), (ob 6, .inl (cI, 2048, .inl fh)), (ob 7, .inl (cI, 2048, .inl ff)), (ob 8, .inl (cI, 2048, .inl w4)), (ob 9, .inl (cI, 2048, .inl w5)), (ob 11, .inl (cI, 160, .inl w6)), (ob 12, .inl (cI, 160, .inl fo)), (ob 1, .inr (0, [.long w7, .int (nI w8), .int (nI w9), .int w10])), (ob 2, .inr (2, [.int (nI cn), .ref (ob 3), .ref (ob 4)])), (ob 3, .inl (cI, 160, .inl fk))]) hP hD [4, 5, 6, 7, 8, 10, 11, 1, 2, 3] [0, 9, 12] rfl rfl (by decide) (by decide) hk1 hFc hP1 hD1
      have hP : va_P D vwCl [(ob 0, .inr (9, gT ob tb ts tg tl tc tr tu tv tw)), (ob 10, .inl (cI, 160, .inl fj)), (ob 13, .inl (cI, 2048, .inl fx)), (ob 5, .inr (3, gY ob (nI nb) (nI ka) (nI kb) sm (nI ln))), (ob 6, .inl (cI, 2048, .inl fh)), (ob 7, .inl (cI, 2048, .inl ff)), (ob 8, .inl (cI, 2048, .inl w4)), (ob 9, .inl (cI, 2048, .inl w5)), (ob 11, .inl (cI, 160, .inl w6)), (ob 12, .inl (cI, 160, .inl fo)), (ob 1, .inr (0, [.long w7, .int (nI w8), .int (nI w9), .int w10])), (ob 2, .inr (2, [.int (nI cn), .ref (ob 3), .ref (ob 4)])), (ob 3, .inl (cI, 160, .inl fk))] H := hP
      have hD : va_D A [(ob 0, .inr (9, gT ob tb ts tg tl tc tr tu tv tw)), (ob 10, .inl (cI, 160, .inl fj)), (ob 13, .inl (cI, 2048, .inl fx)), (ob 5, .inr (3, gY ob (nI nb) (nI ka) (nI kb) sm (nI ln))), (ob 6, .inl (cI, 2048, .inl fh)), (ob 7, .inl (cI, 2048, .inl ff)), (ob 8, .inl (cI, 2048, .inl w4)), (ob 9, .inl (cI, 2048, .inl w5)), (ob 11, .inl (cI, 160, .inl w6)), (ob 12, .inl (cI, 160, .inl fo)), (ob 1, .inr (0, [.long w7, .int (nI w8), .int (nI w9), .int w10])), (ob 2, .inr (2, [.int (nI cn), .ref (ob 3), .ref (ob 4)])), (ob 3, .inl (cI, 160, .inl fk))] := hD
      try dsimp only at hw
      clear hz1 hk1 hFc hPc hKc hDc
      obtain ⟨hd11_a, hd11_b⟩ := hw
      refine lv_iinc (v := nI (y + 1)) (lv' := [(2, .int (nI (y + 1))), (0, .ref (ob 0))]) hx hb dX9_buildAll_198 hl (k := 0) rfl (nI_1 _) (by decide) rfl (fun ls hl => ?_)
      refine lv_goto (tgt := 162) hx hb dX9_buildAll_201 (by decide) ?_
      exact ih (y + 1) w4 w5 w6 w7 w8 w9 w10 (by omega) (hd11_a) (hd11_b) (by omega) H locs ls (hP.sub [0, 10, 11, 12, 3, 4, 5, 6, 7, 1, 8, 9, 2] rfl) (hD.sub [0, 10, 11, 12, 3, 4, 5, 6, 7, 1, 8, 9, 2] (by decide) rfl) hS (lv_sub hl [0, 1] rfl)
set_option maxHeartbeats 4000000 in
set_option maxRecDepth 100000 in
theorem k_buildAll (l : Launch) (D : va_G) (sz : Nat) (ob : Nat → Nat) (cI : ClassId) (tb : Int32) (ts : Int32) (tg : Int32) (tl : Int32) (tc : Int32) (tr : Int32) (tu : Int32) (tv : Int32) (tw : Int32) (sd : Int64) (da : Nat) (db : Nat) (pr : Int32) (cn : Nat) (fk : Nat → Int32) (nb : Nat) (ka : Nat) (kb : Nat) (sm : Int32) (ln : Nat) (fh : Nat → Int32) (ff : Nat → Int32) (fa : Nat → Int32) (fs : Nat → Int32) (fj : Nat → Int32) (fr : Nat → Int32) (fo : Nat → Int32) (fx : Nat → Int32) (hKc : KyC fk cn) (hL : LyH fj fh nb ln) (hO : OrC fo) : Met l yX9_buildAll wp_k_buildAll ({ frames := 4, cells := 0, slots := 0, locals := 160 }) (PcWC D [.ref (ob 0)] sz [(ob 0, .inr (9, gT ob tb ts tg tl tc tr tu tv tw)), (ob 1, .inr (0, [.long sd, .int (nI da), .int (nI db), .int pr])), (ob 2, .inr (2, [.int (nI cn), .ref (ob 3), .ref (ob 4)])), (ob 3, .inl (cI, 160, .inl fk)), (ob 5, .inr (3, gY ob (nI nb) (nI ka) (nI kb) sm (nI ln))), (ob 6, .inl (cI, 2048, .inl fh)), (ob 7, .inl (cI, 2048, .inl ff)), (ob 8, .inl (cI, 2048, .inl fa)), (ob 9, .inl (cI, 2048, .inl fs)), (ob 10, .inl (cI, 160, .inl fj)), (ob 11, .inl (cI, 160, .inl fr)), (ob 12, .inl (cI, 160, .inl fo)), (ob 13, .inl (cI, 2048, .inl fx))] [(cI, .int)]) (va_Qv (fun (u : (Int32) × (Int32) × (Int32) × (Int64) × (Nat) × (Nat) × (Int32) × (Nat) × (Nat) × (Nat) × (Int32) × (Nat) × (Nat → Int32) × (Nat → Int32) × (Nat → Int32) × (Nat → Int32) × (Nat → Int32) × (Nat → Int32) × (Nat → Int32) × (Nat → Int32)) => TbI fk u.2.2.2.2.2.2.2.2.2.2.2.2.2.2.2.2.1 u.2.2.2.2.2.2.2.2.2.2.2.2.1 u.2.2.2.2.2.2.2.2.2.2.2.2.2.2.2.2.2.2.1 cn u.2.2.2.2.2.2.2.1 u.2.2.2.2.2.2.2.2.1 u.2.2.2.2.2.2.2.2.2.1 u.2.2.2.2.2.2.2.2.2.2.2.1 u.2.2.2.2.1 u.2.2.2.2.2.1) (fun (u : (Int32) × (Int32) × (Int32) × (Int64) × (Nat) × (Nat) × (Int32) × (Nat) × (Nat) × (Nat) × (Int32) × (Nat) × (Nat → Int32) × (Nat → Int32) × (Nat → Int32) × (Nat → Int32) × (Nat → Int32) × (Nat → Int32) × (Nat → Int32) × (Nat → Int32)) t => va_P D vwCl [(ob 0, .inr (9, gT ob tb ts tg u.1 u.2.1 tr tu tv u.2.2.1)), (ob 1, .inr (0, [.long u.2.2.2.1, .int (nI u.2.2.2.2.1), .int (nI u.2.2.2.2.2.1), .int u.2.2.2.2.2.2.1])), (ob 2, .inr (2, [.int (nI cn), .ref (ob 3), .ref (ob 4)])), (ob 3, .inl (cI, 160, .inl fk)), (ob 5, .inr (3, gY ob (nI u.2.2.2.2.2.2.2.1) (nI u.2.2.2.2.2.2.2.2.1) (nI u.2.2.2.2.2.2.2.2.2.1) u.2.2.2.2.2.2.2.2.2.2.1 (nI u.2.2.2.2.2.2.2.2.2.2.2.1))), (ob 6, .inl (cI, 2048, .inl u.2.2.2.2.2.2.2.2.2.2.2.2.1)), (ob 7, .inl (cI, 2048, .inl u.2.2.2.2.2.2.2.2.2.2.2.2.2.1)), (ob 8, .inl (cI, 2048, .inl u.2.2.2.2.2.2.2.2.2.2.2.2.2.2.1)), (ob 9, .inl (cI, 2048, .inl u.2.2.2.2.2.2.2.2.2.2.2.2.2.2.2.1)), (ob 10, .inl (cI, 160, .inl u.2.2.2.2.2.2.2.2.2.2.2.2.2.2.2.2.1)), (ob 11, .inl (cI, 160, .inl u.2.2.2.2.2.2.2.2.2.2.2.2.2.2.2.2.2.1)), (ob 12, .inl (cI, 160, .inl u.2.2.2.2.2.2.2.2.2.2.2.2.2.2.2.2.2.2.1)), (ob 13, .inl (cI, 2048, .inl u.2.2.2.2.2.2.2.2.2.2.2.2.2.2.2.2.2.2.2))] t.heap ∧ va_K D vwCl [(cI, .int)] t ∧ va_D (va_A [(ob 0, .inr (9, gT ob tb ts tg tl tc tr tu tv tw)), (ob 1, .inr (0, [.long sd, .int (nI da), .int (nI db), .int pr])), (ob 2, .inr (2, [.int (nI cn), .ref (ob 3), .ref (ob 4)])), (ob 3, .inl (cI, 160, .inl fk)), (ob 5, .inr (3, gY ob (nI nb) (nI ka) (nI kb) sm (nI ln))), (ob 6, .inl (cI, 2048, .inl fh)), (ob 7, .inl (cI, 2048, .inl ff)), (ob 8, .inl (cI, 2048, .inl fa)), (ob 9, .inl (cI, 2048, .inl fs)), (ob 10, .inl (cI, 160, .inl fj)), (ob 11, .inl (cI, 160, .inl fr)), (ob 12, .inl (cI, 160, .inl fo)), (ob 13, .inl (cI, 2048, .inl fx))] sz) [(ob 0, .inr (9, gT ob tb ts tg u.1 u.2.1 tr tu tv u.2.2.1)), (ob 1, .inr (0, [.long u.2.2.2.1, .int (nI u.2.2.2.2.1), .int (nI u.2.2.2.2.2.1), .int u.2.2.2.2.2.2.1])), (ob 2, .inr (2, [.int (nI cn), .ref (ob 3), .ref (ob 4)])), (ob 3, .inl (cI, 160, .inl fk)), (ob 5, .inr (3, gY ob (nI u.2.2.2.2.2.2.2.1) (nI u.2.2.2.2.2.2.2.2.1) (nI u.2.2.2.2.2.2.2.2.2.1) u.2.2.2.2.2.2.2.2.2.2.1 (nI u.2.2.2.2.2.2.2.2.2.2.2.1))), (ob 6, .inl (cI, 2048, .inl u.2.2.2.2.2.2.2.2.2.2.2.2.1)), (ob 7, .inl (cI, 2048, .inl u.2.2.2.2.2.2.2.2.2.2.2.2.2.1)), (ob 8, .inl (cI, 2048, .inl u.2.2.2.2.2.2.2.2.2.2.2.2.2.2.1)), (ob 9, .inl (cI, 2048, .inl u.2.2.2.2.2.2.2.2.2.2.2.2.2.2.2.1)), (ob 10, .inl (cI, 160, .inl u.2.2.2.2.2.2.2.2.2.2.2.2.2.2.2.2.1)), (ob 11, .inl (cI, 160, .inl u.2.2.2.2.2.2.2.2.2.2.2.2.2.2.2.2.2.1)), (ob 12, .inl (cI, 160, .inl u.2.2.2.2.2.2.2.2.2.2.2.2.2.2.2.2.2.2.1)), (ob 13, .inl (cI, 2048, .inl u.2.2.2.2.2.2.2.2.2.2.2.2.2.2.2.2.2.2.2))]) (va_A [(ob 0, .inr (9, gT ob tb ts tg tl tc tr tu tv tw)), (ob 1, .inr (0, [.long sd, .int (nI da), .int (nI db), .int pr])), (ob 2, .inr (2, [.int (nI cn), .ref (ob 3), .ref (ob 4)])), (ob 3, .inl (cI, 160, .inl fk)), (ob 5, .inr (3, gY ob (nI nb) (nI ka) (nI kb) sm (nI ln))), (ob 6, .inl (cI, 2048, .inl fh)), (ob 7, .inl (cI, 2048, .inl ff)), (ob 8, .inl (cI, 2048, .inl fa)), (ob 9, .inl (cI, 2048, .inl fs)), (ob 10, .inl (cI, 160, .inl fj)), (ob 11, .inl (cI, 160, .inl fr)), (ob 12, .inl (cI, 160, .inl fo)), (ob 13, .inl (cI, 2048, .inl fx))] sz)) 0 0 (va_A [(ob 0, .inr (9, gT ob tb ts tg tl tc tr tu tv tw)), (ob 1, .inr (0, [.long sd, .int (nI da), .int (nI db), .int pr])), (ob 2, .inr (2, [.int (nI cn), .ref (ob 3), .ref (ob 4)])), (ob 3, .inl (cI, 160, .inl fk)), (ob 5, .inr (3, gY ob (nI nb) (nI ka) (nI kb) sm (nI ln))), (ob 6, .inl (cI, 2048, .inl fh)), (ob 7, .inl (cI, 2048, .inl ff)), (ob 8, .inl (cI, 2048, .inl fa)), (ob 9, .inl (cI, 2048, .inl fs)), (ob 10, .inl (cI, 160, .inl fj)), (ob 11, .inl (cI, 160, .inl fr)), (ob 12, .inl (cI, 160, .inl fo)), (ob 13, .inl (cI, 2048, .inl fx))] sz) := by
  refine Met.ofW (cc := cX9_buildAll) (maxL := 4) (ret := none) (by decide) rfl ?_
  intro p e s m args below meth c s₁ B hml hv
  obtain ⟨rfl, hsz, hP, hK, hD0, hN⟩ := hv
  have hx := B.exec
  have hb := B.bytes
  have hr := B.returns
  have hts := atoms_spec (ws := wp_k_buildAll) B.pre
  have hin_X9 : ∀ w ∈ wsX90, w ∈ wp_k_buildAll := fun _ h => (List.mem_cons_of_mem _ (List.mem_append_right _ (List.mem_append_right _ (List.mem_append_right _ (List.mem_append_right _ (List.mem_append_right _ (List.mem_append_right _ (List.mem_append_left _ h))))))))
  have hin_X0 : ∀ w ∈ wsX00, w ∈ wp_k_buildAll := fun _ h => (List.mem_cons_of_mem _ (List.mem_append_right _ (List.mem_append_right _ (List.mem_append_right _ (List.mem_append_right _ (List.mem_append_right _ (List.mem_append_right _ (List.mem_append_right _ (List.mem_append_left _ h)))))))))
  have hin_X3 : ∀ w ∈ wsX30, w ∈ wp_k_buildAll := fun _ h => (List.mem_cons_of_mem _ (List.mem_append_right _ (List.mem_append_right _ (List.mem_append_right _ (List.mem_append_right _ (List.mem_append_right _ (List.mem_append_right _ (List.mem_append_right _ (List.mem_append_right _ (List.mem_append_left _ h))))))))))
  have hin_X2 : ∀ w ∈ wsX20, w ∈ wp_k_buildAll := fun _ h => (List.mem_cons_of_mem _ (List.mem_append_right _ (List.mem_append_right _ (List.mem_append_right _ (List.mem_append_right _ (List.mem_append_right _ (List.mem_append_right _ (List.mem_append_right _ (List.mem_append_right _ (List.mem_append_right _ (List.mem_append_left _ h)))))))))))
  have hown : s.vm.findClass RX9 = some m.cls := findClass_of_methodNamed B.named
  have hlocks := B.notSynchronized
  subst hsz
  have hD := hD0.self (sz := s.heap.size)
  generalize hAe : va_A [(ob 0, .inr (9, gT ob tb ts tg tl tc tr tu tv tw)), (ob 1, .inr (0, [.long sd, .int (nI da), .int (nI db), .int pr])), (ob 2, .inr (2, [.int (nI cn), .ref (ob 3), .ref (ob 4)])), (ob 3, .inl (cI, 160, .inl fk)), (ob 5, .inr (3, gY ob (nI nb) (nI ka) (nI kb) sm (nI ln))), (ob 6, .inl (cI, 2048, .inl fh)), (ob 7, .inl (cI, 2048, .inl ff)), (ob 8, .inl (cI, 2048, .inl fa)), (ob 9, .inl (cI, 2048, .inl fs)), (ob 10, .inl (cI, 160, .inl fj)), (ob 11, .inl (cI, 160, .inl fr)), (ob 12, .inl (cI, 160, .inl fo)), (ob 13, .inl (cI, 2048, .inl fx))] s.heap.size = A at hD ⊢
  have hA : ∀ q : Nat, s.heap.size ≤ q → A q := fun q h => by rw [← hAe]; exact Or.inr h
  have hS : va_S A s.heap s.heap [] := va_S.rf
  have hP : va_P D vwCl [(ob 0, .inr (9, gT ob tb ts tg tl tc tr tu tv tw)), (ob 1, .inr (0, [.long sd, .int (nI da), .int (nI db), .int pr])), (ob 2, .inr (2, [.int (nI cn), .ref (ob 3), .ref (ob 4)])), (ob 3, .inl (cI, 160, .inl fk)), (ob 5, .inr (3, gY ob (nI nb) (nI ka) (nI kb) sm (nI ln))), (ob 6, .inl (cI, 2048, .inl fh)), (ob 7, .inl (cI, 2048, .inl ff)), (ob 8, .inl (cI, 2048, .inl fa)), (ob 9, .inl (cI, 2048, .inl fs)), (ob 10, .inl (cI, 160, .inl fj)), (ob 11, .inl (cI, 160, .inl fr)), (ob 12, .inl (cI, 160, .inl fo)), (ob 13, .inl (cI, 2048, .inl fx))] s.heap := hP
  have hl := lv_entry ([.ref (ob 0)]) (n := 4) (Nat.le_of_ble_eq_true rfl)
  rw [lg_entry_eq]
  generalize (lg_sl ([.ref (ob 0)]) ++ List.replicate (4 - (lg_sl ([.ref (ob 0)])).length) Slot.unset).toArray = ls at hl ⊢
  have hl : lv_has ls 4 [(0, .ref (ob 0))] := hl
  refine lv_aload_n hx hb dX9_buildAll_0 rfl (lv_at hl 0 rfl) ?_
  refine lv_aload_n hx hb dX9_buildAll_1 rfl (lv_at hl 0 rfl) ?_
  refine va_get (D := D) (ci := 9) (v := .ref (ob 2)) (C := RX9) (T := TX9) (N := 12) hx hb hts hin_X9 hown hK hP 0 rfl rfl 10 (by decide) (hts (.fieldLink RX9 21 "ClashFree$Table" "keys" "LClashFree$Keys;") (List.mem_of_getElem? (i := 7) rfl)) (fun _ h9 => h9) rfl dX9_buildAll_2 ?_
  refine va_get (D := D) (ci := 2) (v := .int (nI cn)) (C := RX2) (T := TX2) (N := 3) hx hb hts hin_X2 hown hK hP 2 rfl rfl 0 (by decide) (hts (.fieldLink RX9 58 "ClashFree$Keys" "size" "I") (List.mem_of_getElem? (i := 27) rfl)) (fun _ h9 => h9) rfl dX9_buildAll_5 ?_
  refine lv_aload_n hx hb dX9_buildAll_8 rfl (lv_at hl 0 rfl) ?_
  refine va_get (D := D) (ci := 9) (v := .ref (ob 2)) (C := RX9) (T := TX9) (N := 12) hx hb hts hin_X9 hown hK hP 0 rfl rfl 10 (by decide) (hts (.fieldLink RX9 21 "ClashFree$Table" "keys" "LClashFree$Keys;") (List.mem_of_getElem? (i := 7) rfl)) (fun _ h9 => h9) rfl dX9_buildAll_9 ?_
  refine va_get (D := D) (ci := 2) (v := .int (nI cn)) (C := RX2) (T := TX2) (N := 3) hx hb hts hin_X2 hown hK hP 2 rfl rfl 0 (by decide) (hts (.fieldLink RX9 58 "ClashFree$Keys" "size" "I") (List.mem_of_getElem? (i := 27) rfl)) (fun _ h9 => h9) rfl dX9_buildAll_12 ?_
  refine lv_aload_n hx hb dX9_buildAll_15 rfl (lv_at hl 0 rfl) ?_
  refine va_get (D := D) (ci := 9) (v := .int tg) (C := RX9) (T := TX9) (N := 12) hx hb hts hin_X9 hown hK hP 0 rfl rfl 2 (by decide) (hts (.fieldLink RX9 39 "ClashFree$Table" "growth" "I") (List.mem_of_getElem? (i := 28) rfl)) (fun _ h9 => h9) rfl dX9_buildAll_16 ?_
  refine lv_imul hx hb dX9_buildAll_19 ?_
  refine lv_topi (fun v1 ev1 => ?_)
  refine lv_bipush (v := 100) hx hb dX9_buildAll_20 (by decide) ?_
  refine lv_idiv hx hb dX9_buildAll_22 (by decide) ?_
  refine lv_topi (fun v2 ev2 => ?_)
  refine lv_iadd hx hb dX9_buildAll_23 ?_
  refine lv_topi (fun v3 ev3 => ?_)
  refine lv_iconst (v := 4) hx hb dX9_buildAll_24 (by decide) ?_
  refine lv_iadd hx hb dX9_buildAll_25 ?_
  refine lv_topi (fun v4 ev4 => ?_)
  refine va_put (D := D) (ci := 9) (v := .int v4) (ty := .int) (C := RX9) (T := TX9) (N := 12) hx hb hts hin_X9 tyX9 tyX9_ok nmX9 hown hK hP hD hS 0 rfl rfl 3 (by decide) (hts (.fieldLink RX9 61 "ClashFree$Table" "limit" "I") (List.mem_of_getElem? (i := 29) rfl)) (fun _ h9 => h9) rfl (by decide +kernel) rfl rfl (Nat.le_of_ble_eq_true rfl) dX9_buildAll_26 (fun H locs hP hD hS => ?_)
  have hP : va_P D vwCl [(ob 0, .inr (9, gT ob tb ts tg v4 tc tr tu tv tw)), (ob 1, .inr (0, [.long sd, .int (nI da), .int (nI db), .int pr])), (ob 2, .inr (2, [.int (nI cn), .ref (ob 3), .ref (ob 4)])), (ob 3, .inl (cI, 160, .inl fk)), (ob 5, .inr (3, gY ob (nI nb) (nI ka) (nI kb) sm (nI ln))), (ob 6, .inl (cI, 2048, .inl fh)), (ob 7, .inl (cI, 2048, .inl ff)), (ob 8, .inl (cI, 2048, .inl fa)), (ob 9, .inl (cI, 2048, .inl fs)), (ob 10, .inl (cI, 160, .inl fj)), (ob 11, .inl (cI, 160, .inl fr)), (ob 12, .inl (cI, 160, .inl fo)), (ob 13, .inl (cI, 2048, .inl fx))] H := hP
  have hD : va_D A [(ob 0, .inr (9, gT ob tb ts tg v4 tc tr tu tv tw)), (ob 1, .inr (0, [.long sd, .int (nI da), .int (nI db), .int pr])), (ob 2, .inr (2, [.int (nI cn), .ref (ob 3), .ref (ob 4)])), (ob 3, .inl (cI, 160, .inl fk)), (ob 5, .inr (3, gY ob (nI nb) (nI ka) (nI kb) sm (nI ln))), (ob 6, .inl (cI, 2048, .inl fh)), (ob 7, .inl (cI, 2048, .inl ff)), (ob 8, .inl (cI, 2048, .inl fa)), (ob 9, .inl (cI, 2048, .inl fs)), (ob 10, .inl (cI, 160, .inl fj)), (ob 11, .inl (cI, 160, .inl fr)), (ob 12, .inl (cI, 160, .inl fo)), (ob 13, .inl (cI, 2048, .inl fx))] := hD
  refine lv_aload_n hx hb dX9_buildAll_29 rfl (lv_at hl 0 rfl) ?_
  refine lv_aload_n hx hb dX9_buildAll_30 rfl (lv_at hl 0 rfl) ?_
  refine va_get (D := D) (ci := 9) (v := .ref (ob 2)) (C := RX9) (T := TX9) (N := 12) hx hb hts hin_X9 hown hK hP 0 rfl rfl 10 (by decide) (hts (.fieldLink RX9 21 "ClashFree$Table" "keys" "LClashFree$Keys;") (List.mem_of_getElem? (i := 7) rfl)) (fun _ h9 => h9) rfl dX9_buildAll_31 ?_
  refine va_get (D := D) (ci := 2) (v := .int (nI cn)) (C := RX2) (T := TX2) (N := 3) hx hb hts hin_X2 hown hK hP 2 rfl rfl 0 (by decide) (hts (.fieldLink RX9 58 "ClashFree$Keys" "size" "I") (List.mem_of_getElem? (i := 27) rfl)) (fun _ h9 => h9) rfl dX9_buildAll_34 ?_
  refine va_put (D := D) (ci := 9) (v := .int (nI cn)) (ty := .int) (C := RX9) (T := TX9) (N := 12) hx hb hts hin_X9 tyX9 tyX9_ok nmX9 hown hK hP hD hS 0 rfl rfl 4 (by decide) (hts (.fieldLink RX9 64 "ClashFree$Table" "count" "I") (List.mem_of_getElem? (i := 30) rfl)) (fun _ h9 => h9) rfl (by decide +kernel) rfl rfl (Nat.le_of_ble_eq_true rfl) dX9_buildAll_37 (fun H locs hP hD hS => ?_)
  have hP : va_P D vwCl [(ob 0, .inr (9, gT ob tb ts tg v4 (nI cn) tr tu tv tw)), (ob 1, .inr (0, [.long sd, .int (nI da), .int (nI db), .int pr])), (ob 2, .inr (2, [.int (nI cn), .ref (ob 3), .ref (ob 4)])), (ob 3, .inl (cI, 160, .inl fk)), (ob 5, .inr (3, gY ob (nI nb) (nI ka) (nI kb) sm (nI ln))), (ob 6, .inl (cI, 2048, .inl fh)), (ob 7, .inl (cI, 2048, .inl ff)), (ob 8, .inl (cI, 2048, .inl fa)), (ob 9, .inl (cI, 2048, .inl fs)), (ob 10, .inl (cI, 160, .inl fj)), (ob 11, .inl (cI, 160, .inl fr)), (ob 12, .inl (cI, 160, .inl fo)), (ob 13, .inl (cI, 2048, .inl fx))] H := hP
  have hD : va_D A [(ob 0, .inr (9, gT ob tb ts tg v4 (nI cn) tr tu tv tw)), (ob 1, .inr (0, [.long sd, .int (nI da), .int (nI db), .int pr])), (ob 2, .inr (2, [.int (nI cn), .ref (ob 3), .ref (ob 4)])), (ob 3, .inl (cI, 160, .inl fk)), (ob 5, .inr (3, gY ob (nI nb) (nI ka) (nI kb) sm (nI ln))), (ob 6, .inl (cI, 2048, .inl fh)), (ob 7, .inl (cI, 2048, .inl ff)), (ob 8, .inl (cI, 2048, .inl fa)), (ob 9, .inl (cI, 2048, .inl fs)), (ob 10, .inl (cI, 160, .inl fj)), (ob 11, .inl (cI, 160, .inl fr)), (ob 12, .inl (cI, 160, .inl fo)), (ob 13, .inl (cI, 2048, .inl fx))] := hD
  refine lv_aload_n hx hb dX9_buildAll_40 rfl (lv_at hl 0 rfl) ?_
  refine lv_dup hx hb dX9_buildAll_41 rfl ?_
  refine va_get (D := D) (ci := 9) (v := .int tw) (C := RX9) (T := TX9) (N := 12) hx hb hts hin_X9 hown hK hP 0 rfl rfl 8 (by decide) (hts (.fieldLink RX9 51 "ClashFree$Table" "laid" "I") (List.mem_of_getElem? (i := 31) rfl)) (fun _ h9 => h9) rfl dX9_buildAll_42 ?_
  refine lv_aload_n hx hb dX9_buildAll_45 rfl (lv_at hl 0 rfl) ?_
  refine va_get (D := D) (ci := 9) (v := .ref (ob 2)) (C := RX9) (T := TX9) (N := 12) hx hb hts hin_X9 hown hK hP 0 rfl rfl 10 (by decide) (hts (.fieldLink RX9 21 "ClashFree$Table" "keys" "LClashFree$Keys;") (List.mem_of_getElem? (i := 7) rfl)) (fun _ h9 => h9) rfl dX9_buildAll_46 ?_
  refine va_get (D := D) (ci := 2) (v := .int (nI cn)) (C := RX2) (T := TX2) (N := 3) hx hb hts hin_X2 hown hK hP 2 rfl rfl 0 (by decide) (hts (.fieldLink RX9 58 "ClashFree$Keys" "size" "I") (List.mem_of_getElem? (i := 27) rfl)) (fun _ h9 => h9) rfl dX9_buildAll_49 ?_
  refine lv_iadd hx hb dX9_buildAll_52 ?_
  refine lv_topi (fun v5 ev5 => ?_)
  refine va_put (D := D) (ci := 9) (v := .int v5) (ty := .int) (C := RX9) (T := TX9) (N := 12) hx hb hts hin_X9 tyX9 tyX9_ok nmX9 hown hK hP hD hS 0 rfl rfl 8 (by decide) (hts (.fieldLink RX9 51 "ClashFree$Table" "laid" "I") (List.mem_of_getElem? (i := 31) rfl)) (fun _ h9 => h9) rfl (by decide +kernel) rfl rfl (Nat.le_of_ble_eq_true rfl) dX9_buildAll_53 (fun H locs hP hD hS => ?_)
  have hP : va_P D vwCl [(ob 0, .inr (9, gT ob tb ts tg v4 (nI cn) tr tu tv v5)), (ob 1, .inr (0, [.long sd, .int (nI da), .int (nI db), .int pr])), (ob 2, .inr (2, [.int (nI cn), .ref (ob 3), .ref (ob 4)])), (ob 3, .inl (cI, 160, .inl fk)), (ob 5, .inr (3, gY ob (nI nb) (nI ka) (nI kb) sm (nI ln))), (ob 6, .inl (cI, 2048, .inl fh)), (ob 7, .inl (cI, 2048, .inl ff)), (ob 8, .inl (cI, 2048, .inl fa)), (ob 9, .inl (cI, 2048, .inl fs)), (ob 10, .inl (cI, 160, .inl fj)), (ob 11, .inl (cI, 160, .inl fr)), (ob 12, .inl (cI, 160, .inl fo)), (ob 13, .inl (cI, 2048, .inl fx))] H := hP
  have hD : va_D A [(ob 0, .inr (9, gT ob tb ts tg v4 (nI cn) tr tu tv v5)), (ob 1, .inr (0, [.long sd, .int (nI da), .int (nI db), .int pr])), (ob 2, .inr (2, [.int (nI cn), .ref (ob 3), .ref (ob 4)])), (ob 3, .inl (cI, 160, .inl fk)), (ob 5, .inr (3, gY ob (nI nb) (nI ka) (nI kb) sm (nI ln))), (ob 6, .inl (cI, 2048, .inl fh)), (ob 7, .inl (cI, 2048, .inl ff)), (ob 8, .inl (cI, 2048, .inl fa)), (ob 9, .inl (cI, 2048, .inl fs)), (ob 10, .inl (cI, 160, .inl fj)), (ob 11, .inl (cI, 160, .inl fr)), (ob 12, .inl (cI, 160, .inl fo)), (ob 13, .inl (cI, 2048, .inl fx))] := hD
  refine lv_iconst (v := 1) hx hb dX9_buildAll_56 (by decide) ?_
  refine lv_aload_n hx hb dX9_buildAll_57 rfl (lv_at hl 0 rfl) ?_
  refine va_get (D := D) (ci := 9) (v := .int ts) (C := RX9) (T := TX9) (N := 12) hx hb hts hin_X9 hown hK hP 0 rfl rfl 1 (by decide) (hts (.fieldLink RX9 36 "ClashFree$Table" "spread" "I") (List.mem_of_getElem? (i := 32) rfl)) (fun _ h9 => h9) rfl dX9_buildAll_58 ?_
  refine lv_aload_n hx hb dX9_buildAll_61 rfl (lv_at hl 0 rfl) ?_
  refine va_get (D := D) (ci := 9) (v := .int v4) (C := RX9) (T := TX9) (N := 12) hx hb hts hin_X9 hown hK hP 0 rfl rfl 3 (by decide) (hts (.fieldLink RX9 61 "ClashFree$Table" "limit" "I") (List.mem_of_getElem? (i := 29) rfl)) (fun _ h9 => h9) rfl dX9_buildAll_62 ?_
  refine lv_imul hx hb dX9_buildAll_65 ?_
  refine lv_topi (fun v6 ev6 => ?_)
  refine lv_bipush (v := 100) hx hb dX9_buildAll_66 (by decide) ?_
  refine lv_idiv hx hb dX9_buildAll_68 (by decide) ?_
  refine lv_topi (fun v7 ev7 => ?_)
  refine va_mmax hx hb (hml.trans hl.1.symm) hown (hts (.methodLink RX9 67 Lib.Math.max.name) (List.mem_of_getElem? (i := 33) rfl)) (hts (.static Lib.Math.max.name) (List.mem_of_getElem? (i := 34) rfl)) (hts (.initialized "java/lang/Math") (List.mem_of_getElem? (i := 20) rfl)) (hts (.code Lib.Math.max.name Lib.Math.max.code 2 (some .int)) (List.mem_of_getElem? (i := 35) rfl)) (Nat.le_of_ble_eq_true rfl) (Nat.le_of_ble_eq_true rfl) (Nat.le_of_ble_eq_true rfl) (Nat.le_of_ble_eq_true rfl) dX9_buildAll_69 ?_
  refine lv_topi (fun v8 ev8 => ?_)
  refine lv_istore_n (lv' := [(1, .int v8), (0, .ref (ob 0))]) hx hb dX9_buildAll_72 rfl hl (by decide) rfl (fun ls hl => ?_)
  refine lv_iconst (v := 1) hx hb dX9_buildAll_73 (by decide) ?_
  refine lv_istore_n (lv' := [(2, .int 1), (1, .int v8), (0, .ref (ob 0))]) hx hb dX9_buildAll_74 rfl hl (by decide) rfl (fun ls hl => ?_)
  refine lk_ba1 l D ob cI tb ts tg v4 (nI cn) tr tu tv v5 cn fk sm ff fa fs fr fo fx (hKc) hx hb hml hown hts hA (hK.sub [0] rfl) hN ?_ (402) 1 v8 nb ka kb ln fh fj sd da db pr (by omega) (by omega) (hL) (Or.inl rfl) (by omega) _ _ _ (hP.sub [0, 1, 2, 3, 4, 5, 6, 7, 8, 9, 10, 11, 12] rfl) (hD.sub [0, 1, 2, 3, 4, 5, 6, 7, 8, 9, 10, 11, 12] (by decide) rfl) hS (lv_sub hl [0, 1, 2] rfl)
  intro y_9 nz_10 n1_11 xa_12 xb_13 xl_14 gh_15 gj_16 sd_17 ea_18 eb_19 pq_20 hy1_21 hy2_22 hLl_23 hdl_24 hx25 H locs ls hP hD hS hl
  obtain ⟨hx_1, hx_a, hx_b, hx_c, hx_d⟩ := hx25
  have hLn := hLl_23.1
  have hLl := hLl_23.2.1
  refine lv_aload_n hx hb dX9_buildAll_152 rfl (lv_at hl 0 rfl) ?_
  refine va_get (D := D) (ci := 9) (v := .ref (ob 5)) (C := RX9) (T := TX9) (N := 12) hx hb hts hin_X9 hown hK hP 0 rfl rfl 11 (by decide) (hts (.fieldLink RX9 28 "ClashFree$Table" "layout" "LClashFree$Layout;") (List.mem_of_getElem? (i := 6) rfl)) (fun _ h9 => h9) rfl dX9_buildAll_153 ?_
  refine lv_iconst (v := 2) hx hb dX9_buildAll_156 (by decide) ?_
  have hPc := hP.sub (ws' := [(ob 5, .inr (3, gY ob (nI n1_11) (nI xa_12) (nI xb_13) sm (nI xl_14))), (ob 6, .inl (cI, 2048, .inl gh_15)), (ob 7, .inl (cI, 2048, .inl ff)), (ob 10, .inl (cI, 160, .inl gj_16)), (ob 12, .inl (cI, 160, .inl fo)), (ob 13, .inl (cI, 2048, .inl fx))]) [4, 5, 6, 9, 11, 12] rfl
  have hKc := hK.sub (tys' := [(cI, .int)]) [0] rfl
  have hDc := hD.sub (ws' := [(ob 5, .inr (3, gY ob (nI n1_11) (nI xa_12) (nI xb_13) sm (nI xl_14))), (ob 6, .inl (cI, 2048, .inl gh_15)), (ob 7, .inl (cI, 2048, .inl ff)), (ob 10, .inl (cI, 160, .inl gj_16)), (ob 12, .inl (cI, 160, .inl fo)), (ob 13, .inl (cI, 2048, .inl fx))]) [4, 5, 6, 9, 11, 12] (by decide) rfl
  have hFc := va_free (wc := [(ob 5, .inr (3, gY ob (nI n1_11) (nI xa_12) (nI xb_13) sm (nI xl_14))), (ob 6, .inl (cI, 2048, .inl gh_15)), (ob 7, .inl (cI, 2048, .inl ff)), (ob 10, .inl (cI, 160, .inl gj_16)), (ob 12, .inl (cI, 160, .inl fo)), (ob 13, .inl (cI, 2048, .inl fx))]) hD hS hA [4, 5, 6, 9, 11, 12] rfl
  refine va_callv (va_runV (As := [.int 2]) (rest := []) ⟨hx, hb, hml, hown, hts⟩ (k_settle l D _ ob cI n1_11 xa_12 xb_13 sm xl_14 gh_15 ff gj_16 fo fx 2 hLl_23 hO) (cwV 1 hts g_k_buildAll_k_settle_93 rfl rfl rfl (by decide +kernel) ⟨(Nat.le_of_ble_eq_true rfl), (Nat.le_of_ble_eq_true rfl)⟩) (PcWC_V (q0 := 0) hPc hKc hDc hN rfl rfl) rfl rfl hl.1 rfl (lv_room (Nat.le_of_ble_eq_true rfl)) dX9_buildAll_157 ⟨(Nat.le_of_ble_eq_true rfl), (Nat.le_of_ble_eq_true rfl)⟩) hS (fun q _ h => hFc q h) hFc (fun uu tt H locs htt hvm hw hB hz1 hk1 hS => ?_)
  obtain ⟨w27, w28, w29, w30⟩ := uu
  obtain ⟨hP1, hK1, hD1⟩ := hB
  rw [htt] at hP1
  have hK1 := va_K.moved hvm.symm hK1
  have hP1 : va_P D vwCl [(ob 5, .inr (3, gY ob (nI n1_11) (nI xa_12) (nI xb_13) w27 (nI xl_14))), (ob 6, .inl (cI, 2048, .inl gh_15)), (ob 7, .inl (cI, 2048, .inl w28)), (ob 10, .inl (cI, 160, .inl gj_16)), (ob 12, .inl (cI, 160, .inl w29)), (ob 13, .inl (cI, 2048, .inl w30))] H := hP1
  obtain ⟨hP, hD⟩ := va_join (wr := [(ob 0, .inr (9, gT ob tb ts tg v4 (nI cn) tr tu tv v5)), (ob 1, .inr (0, [.long sd_17, .int (nI ea_18), .int (nI eb_19), .int pq_20])), (ob 2, .inr (2, [.int (nI cn), .ref (ob 3), .ref (ob 4)])), (ob 3, .inl (cI, 160, .inl fk)), (ob 8, .inl (cI, 2048, .inl fa)), (ob 9, .inl (cI, 2048, .inl fs)), (ob 11, .inl (cI, 160, .inl fr))]) (w1 := [(ob 5, .inr (3, gY ob (nI n1_11) (nI xa_12) (nI xb_13) w27 (nI xl_14))), (ob 6, .inl (cI, 2048, .inl gh_15)), (ob 7, .inl (cI, 2048, .inl w28)), (ob 10, .inl (cI, 160, .inl gj_16)), (ob 12, .inl (cI, 160, .inl w29)), (ob 13, .inl (cI, 2048, .inl w30))]) hP hD [4, 5, 6, 9, 11, 12] [0, 1, 2, 3, 7, 8, 10] rfl rfl (by decide) (by decide) hk1 hFc hP1 hD1
  have hP : va_P D vwCl [(ob 0, .inr (9, gT ob tb ts tg v4 (nI cn) tr tu tv v5)), (ob 1, .inr (0, [.long sd_17, .int (nI ea_18), .int (nI eb_19), .int pq_20])), (ob 2, .inr (2, [.int (nI cn), .ref (ob 3), .ref (ob 4)])), (ob 3, .inl (cI, 160, .inl fk)), (ob 8, .inl (cI, 2048, .inl fa)), (ob 9, .inl (cI, 2048, .inl fs)), (ob 11, .inl (cI, 160, .inl fr)), (ob 5, .inr (3, gY ob (nI n1_11) (nI xa_12) (nI xb_13) w27 (nI xl_14))), (ob 6, .inl (cI, 2048, .inl gh_15)), (ob 7, .inl (cI, 2048, .inl w28)), (ob 10, .inl (cI, 160, .inl gj_16)), (ob 12, .inl (cI, 160, .inl w29)), (ob 13, .inl (cI, 2048, .inl w30))] H := hP
  have hD : va_D A [(ob 0, .inr (9, gT ob tb ts tg v4 (nI cn) tr tu tv v5)), (ob 1, .inr (0, [.long sd_17, .int (nI ea_18), .int (nI eb_19), .int pq_20])), (ob 2, .inr (2, [.int (nI cn), .ref (ob 3), .ref (ob 4)])), (ob 3, .inl (cI, 160, .inl fk)), (ob 8, .inl (cI, 2048, .inl fa)), (ob 9, .inl (cI, 2048, .inl fs)), (ob 11, .inl (cI, 160, .inl fr)), (ob 5, .inr (3, gY ob (nI n1_11) (nI xa_12) (nI xb_13) w27 (nI xl_14))), (ob 6, .inl (cI, 2048, .inl gh_15)), (ob 7, .inl (cI, 2048, .inl w28)), (ob 10, .inl (cI, 160, .inl gj_16)), (ob 12, .inl (cI, 160, .inl w29)), (ob 13, .inl (cI, 2048, .inl w30))] := hD
  try dsimp only at hw
  clear hz1 hk1 hFc hPc hKc hDc
  have hO31 := hw
  refine lv_iconst (v := 0) hx hb dX9_buildAll_160 (by decide) ?_
  refine lv_istore_n (lv' := [(2, .int 0), (0, .ref (ob 0))]) hx hb dX9_buildAll_161 rfl hl (by decide) rfl (fun ls hl => ?_)
  refine lk_ba2 l D ob cI tb ts tg v4 (nI cn) tr tu tv v5 cn fk n1_11 xa_12 xb_13 w27 xl_14 gh_15 w28 gj_16 w29 w30 (hLl) (hO31) (hLn) hx hb hml hown hts hA (hK.sub [0] rfl) hN ?_ (n1_11 + 1) 0 fa fs fr sd_17 ea_18 eb_19 pq_20 (Nat.zero_le _) (hx_c) (hx_d) (by omega) _ _ _ (hP.sub [0, 1, 2, 3, 7, 8, 9, 4, 5, 10, 6, 11, 12] rfl) (hD.sub [0, 1, 2, 3, 7, 8, 9, 4, 5, 10, 6, 11, 12] (by decide) rfl) hS (lv_sub hl [0, 1] rfl)
  intro y_32 ga_33 gs_34 gr_35 sd_36 ea_37 eb_38 pq_39 hy1_40 hea_41 heb_42 H locs ls hP hD hS hl
  exact W.vret hx hb hr (fun t ht hW => ⟨⟨(v4, (nI cn), v5, sd_36, ea_37, eb_38, pq_39, n1_11, xa_12, xb_13, w27, xl_14, gh_15, w28, ga_33, gs_34, gj_16, gr_35, w29, w30), rfl, (by (try dsimp only); first | done | exact ⟨hKc, hLl_23, hO31, hx_1, hx_a, hx_b, hea_41, heb_42⟩), by rw [ht]; exact hP.sub [0, 1, 2, 3, 4, 5, 6, 7, 8, 9, 10, 11, 12] rfl, va_K.moved hW.alike (hK.sub [0] rfl), hD.sub [0, 1, 2, 3, 4, 5, 6, 7, 8, 9, 10, 11, 12] (by decide) rfl⟩, hS.F ht⟩) hS.2.2 dX9_buildAll_204

