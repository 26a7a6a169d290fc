theorem dX11_begins_0 : decode cX11_begins 0 = .ok (.aload_n 0, 1) := by decide +kernel
theorem dX11_begins_1 : decode cX11_begins 1 = .ok (.getfield 45, 3) := by decide +kernel
theorem dX11_begins_4 : decode cX11_begins 4 = .ok (.iconst 2, 1) := by decide +kernel
theorem dX11_begins_5 : decode cX11_begins 5 = .ok (.iload_n 1, 1) := by decide +kernel
theorem dX11_begins_6 : decode cX11_begins 6 = .ok (.imul, 1) := by decide +kernel
theorem dX11_begins_7 : decode cX11_begins 7 = .ok (.iconst 3, 1) := by decide +kernel
theorem dX11_begins_8 : decode cX11_begins 8 = .ok (.iadd, 1) := by decide +kernel
theorem dX11_begins_9 : decode cX11_begins 9 = .ok (.iaload, 1) := by decide +kernel
theorem dX11_begins_10 : decode cX11_begins 10 = .ok (.istore_n 2, 1) := by decide +kernel
theorem dX11_begins_11 : decode cX11_begins 11 = .ok (.aload_n 0, 1) := by decide +kernel
theorem dX11_begins_12 : decode cX11_begins 12 = .ok (.getfield 45, 3) := by decide +kernel
theorem dX11_begins_15 : decode cX11_begins 15 = .ok (.iconst 2, 1) := by decide +kernel
theorem dX11_begins_16 : decode cX11_begins 16 = .ok (.iload_n 1, 1) := by decide +kernel
theorem dX11_begins_17 : decode cX11_begins 17 = .ok (.imul, 1) := by decide +kernel
theorem dX11_begins_18 : decode cX11_begins 18 = .ok (.iaload, 1) := by decide +kernel
theorem dX11_begins_19 : decode cX11_begins 19 = .ok (.iconst 4, 1) := by decide +kernel
theorem dX11_begins_20 : decode cX11_begins 20 = .ok (.if_icmp .ne 24, 3) := by decide +kernel
theorem dX11_begins_23 : decode cX11_begins 23 = .ok (.aload_n 0, 1) := by decide +kernel
theorem dX11_begins_24 : decode cX11_begins 24 = .ok (.getfield 45, 3) := by decide +kernel
theorem dX11_begins_27 : decode cX11_begins 27 = .ok (.iconst 2, 1) := by decide +kernel
theorem dX11_begins_28 : decode cX11_begins 28 = .ok (.iload_n 1, 1) := by decide +kernel
theorem dX11_begins_29 : decode cX11_begins 29 = .ok (.imul, 1) := by decide +kernel
theorem dX11_begins_30 : decode cX11_begins 30 = .ok (.iconst 1, 1) := by decide +kernel
theorem dX11_begins_31 : decode cX11_begins 31 = .ok (.iadd, 1) := by decide +kernel
theorem dX11_begins_32 : decode cX11_begins 32 = .ok (.iaload, 1) := by decide +kernel
theorem dX11_begins_33 : decode cX11_begins 33 = .ok (.ifCond .le 7, 3) := by decide +kernel
theorem dX11_begins_36 : decode cX11_begins 36 = .ok (.iconst 1, 1) := by decide +kernel
theorem dX11_begins_37 : decode cX11_begins 37 = .ok (.goto 11, 3) := by decide +kernel
theorem dX11_begins_40 : decode cX11_begins 40 = .ok (.iconst 0, 1) := by decide +kernel
theorem dX11_begins_41 : decode cX11_begins 41 = .ok (.goto 7, 3) := by decide +kernel
theorem dX11_begins_44 : decode cX11_begins 44 = .ok (.aload_n 0, 1) := by decide +kernel
theorem dX11_begins_45 : decode cX11_begins 45 = .ok (.invokevirtual 410, 3) := by decide +kernel
theorem dX11_begins_48 : decode cX11_begins 48 = .ok (.istore_n 3, 1) := by decide +kernel
theorem dX11_begins_49 : decode cX11_begins 49 = .ok (.aload_n 0, 1) := by decide +kernel
theorem dX11_begins_50 : decode cX11_begins 50 = .ok (.iload_n 3, 1) := by decide +kernel
theorem dX11_begins_51 : decode cX11_begins 51 = .ok (.ifCond .eq 9, 3) := by decide +kernel
theorem dX11_begins_54 : decode cX11_begins 54 = .ok (.iload_n 1, 1) := by decide +kernel
theorem dX11_begins_55 : decode cX11_begins 55 = .ok (.iconst 2, 1) := by decide +kernel
theorem dX11_begins_56 : decode cX11_begins 56 = .ok (.iadd, 1) := by decide +kernel
theorem dX11_begins_57 : decode cX11_begins 57 = .ok (.goto 4, 3) := by decide +kernel
theorem dX11_begins_60 : decode cX11_begins 60 = .ok (.iload_n 2, 1) := by decide +kernel
theorem dX11_begins_61 : decode cX11_begins 61 = .ok (.putfield 413, 3) := by decide +kernel
theorem dX11_begins_64 : decode cX11_begins 64 = .ok (.iload_n 3, 1) := by decide +kernel
theorem dX11_begins_65 : decode cX11_begins 65 = .ok (.ifCond .ne 4, 3) := by decide +kernel
theorem dX11_begins_68 : decode cX11_begins 68 = .ok (.return_, 1) := by decide +kernel
theorem dX11_begins_69 : decode cX11_begins 69 = .ok (.aload_n 0, 1) := by decide +kernel
theorem dX11_begins_70 : decode cX11_begins 70 = .ok (.getfield 67, 3) := by decide +kernel
theorem dX11_begins_73 : decode cX11_begins 73 = .ok (.aload_n 0, 1) := by decide +kernel
theorem dX11_begins_74 : decode cX11_begins 74 = .ok (.getfield 385, 3) := by decide +kernel
theorem dX11_begins_77 : decode cX11_begins 77 = .ok (.iload_n 1, 1) := by decide +kernel
theorem dX11_begins_78 : decode cX11_begins 78 = .ok (.iastore, 1) := by decide +kernel
theorem dX11_begins_79 : decode cX11_begins 79 = .ok (.aload_n 0, 1) := by decide +kernel
theorem dX11_begins_80 : decode cX11_begins 80 = .ok (.getfield 64, 3) := by decide +kernel
theorem dX11_begins_83 : decode cX11_begins 83 = .ok (.aload_n 0, 1) := by decide +kernel
theorem dX11_begins_84 : decode cX11_begins 84 = .ok (.getfield 385, 3) := by decide +kernel
theorem dX11_begins_87 : decode cX11_begins 87 = .ok (.iconst 0, 1) := by decide +kernel
theorem dX11_begins_88 : decode cX11_begins 88 = .ok (.iastore, 1) := by decide +kernel
theorem dX11_begins_89 : decode cX11_begins 89 = .ok (.aload_n 0, 1) := by decide +kernel
theorem dX11_begins_90 : decode cX11_begins 90 = .ok (.dup, 1) := by decide +kernel
theorem dX11_begins_91 : decode cX11_begins 91 = .ok (.getfield 385, 3) := by decide +kernel
theorem dX11_begins_94 : decode cX11_begins 94 = .ok (.iconst 1, 1) := by decide +kernel
theorem dX11_begins_95 : decode cX11_begins 95 = .ok (.iadd, 1) := by decide +kernel
theorem dX11_begins_96 : decode cX11_begins 96 = .ok (.putfield 385, 3) := by decide +kernel
theorem dX11_begins_99 : decode cX11_begins 99 = .ok (.aload_n 0, 1) := by decide +kernel
theorem dX11_begins_100 : decode cX11_begins 100 = .ok (.getfield 45, 3) := by decide +kernel
theorem dX11_begins_103 : decode cX11_begins 103 = .ok (.iconst 2, 1) := by decide +kernel
theorem dX11_begins_104 : decode cX11_begins 104 = .ok (.iload_n 1, 1) := by decide +kernel
theorem dX11_begins_105 : decode cX11_begins 105 = .ok (.imul, 1) := by decide +kernel
theorem dX11_begins_106 : decode cX11_begins 106 = .ok (.iaload, 1) := by decide +kernel
theorem dX11_begins_107 : decode cX11_begins 107 = .ok (.iconst 4, 1) := by decide +kernel
theorem dX11_begins_108 : decode cX11_begins 108 = .ok (.if_icmp .ne 8, 3) := by decide +kernel
theorem dX11_begins_111 : decode cX11_begins 111 = .ok (.aload_n 0, 1) := by decide +kernel
theorem dX11_begins_112 : decode cX11_begins 112 = .ok (.invokevirtual 416, 3) := by decide +kernel
theorem dX11_begins_115 : decode cX11_begins 115 = .ok (.pop, 1) := by decide +kernel
theorem dX11_begins_116 : decode cX11_begins 116 = .ok (.return_, 1) := by decide +kernel
theorem dX11_closes_0 : decode cX11_closes 0 = .ok (.aload_n 0, 1) := by decide +kernel
theorem dX11_closes_1 : decode cX11_closes 1 = .ok (.getfield 45, 3) := by decide +kernel
theorem dX11_closes_4 : decode cX11_closes 4 = .ok (.iconst 2, 1) := by decide +kernel
theorem dX11_closes_5 : decode cX11_closes 5 = .ok (.iload_n 1, 1) := by decide +kernel
theorem dX11_closes_6 : decode cX11_closes 6 = .ok (.imul, 1) := by decide +kernel
theorem dX11_closes_7 : decode cX11_closes 7 = .ok (.iconst 1, 1) := by decide +kernel
theorem dX11_closes_8 : decode cX11_closes 8 = .ok (.iadd, 1) := by decide +kernel
theorem dX11_closes_9 : decode cX11_closes 9 = .ok (.iaload, 1) := by decide +kernel
theorem dX11_closes_10 : decode cX11_closes 10 = .ok (.istore_n 2, 1) := by decide +kernel
theorem dX11_closes_11 : decode cX11_closes 11 = .ok (.aload_n 0, 1) := by decide +kernel
theorem dX11_closes_12 : decode cX11_closes 12 = .ok (.getfield 385, 3) := by decide +kernel
theorem dX11_closes_15 : decode cX11_closes 15 = .ok (.iconst 1, 1) := by decide +kernel
theorem dX11_closes_16 : decode cX11_closes 16 = .ok (.isub, 1) := by decide +kernel
theorem dX11_closes_17 : decode cX11_closes 17 = .ok (.istore_n 3, 1) := by decide +kernel
theorem dX11_closes_18 : decode cX11_closes 18 = .ok (.aload_n 0, 1) := by decide +kernel
theorem dX11_closes_19 : decode cX11_closes 19 = .ok (.iload_n 1, 1) := by decide +kernel
theorem dX11_closes_20 : decode cX11_closes 20 = .ok (.iconst 1, 1) := by decide +kernel
theorem dX11_closes_21 : decode cX11_closes 21 = .ok (.iadd, 1) := by decide +kernel
theorem dX11_closes_22 : decode cX11_closes 22 = .ok (.putfield 413, 3) := by decide +kernel
theorem dX11_closes_25 : decode cX11_closes 25 = .ok (.aload_n 0, 1) := by decide +kernel
theorem dX11_closes_26 : decode cX11_closes 26 = .ok (.getfield 45, 3) := by decide +kernel
theorem dX11_closes_29 : decode cX11_closes 29 = .ok (.iconst 2, 1) := by decide +kernel
theorem dX11_closes_30 : decode cX11_closes 30 = .ok (.iload_n 2, 1) := by decide +kernel
theorem dX11_closes_31 : decode cX11_closes 31 = .ok (.imul, 1) := by decide +kernel
theorem dX11_closes_32 : decode cX11_closes 32 = .ok (.iaload, 1) := by decide +kernel
theorem dX11_closes_33 : decode cX11_closes 33 = .ok (.iconst 4, 1) := by decide +kernel
theorem dX11_closes_34 : decode cX11_closes 34 = .ok (.if_icmp .ne 49, 3) := by decide +kernel
theorem dX11_closes_37 : decode cX11_closes 37 = .ok (.aload_n 0, 1) := by decide +kernel
theorem dX11_closes_38 : decode cX11_closes 38 = .ok (.getfield 64, 3) := by decide +kernel
theorem dX11_closes_41 : decode cX11_closes 41 = .ok (.iload_n 3, 1) := by decide +kernel
theorem dX11_closes_42 : decode cX11_closes 42 = .ok (.iaload, 1) := by decide +kernel
theorem dX11_closes_43 : decode cX11_closes 43 = .ok (.iconst 1, 1) := by decide +kernel
theorem dX11_closes_44 : decode cX11_closes 44 = .ok (.iadd, 1) := by decide +kernel
theorem dX11_closes_45 : decode cX11_closes 45 = .ok (.aload_n 0, 1) := by decide +kernel
theorem dX11_closes_46 : decode cX11_closes 46 = .ok (.getfield 45, 3) := by decide +kernel
theorem dX11_closes_49 : decode cX11_closes 49 = .ok (.iconst 2, 1) := by decide +kernel
theorem dX11_closes_50 : decode cX11_closes 50 = .ok (.iload_n 2, 1) := by decide +kernel
theorem dX11_closes_51 : decode cX11_closes 51 = .ok (.imul, 1) := by decide +kernel
theorem dX11_closes_52 : decode cX11_closes 52 = .ok (.iconst 1, 1) := by decide +kernel
theorem dX11_closes_53 : decode cX11_closes 53 = .ok (.iadd, 1) := by decide +kernel
theorem dX11_closes_54 : decode cX11_closes 54 = .ok (.iaload, 1) := by decide +kernel
theorem dX11_closes_55 : decode cX11_closes 55 = .ok (.if_icmp .ge 28, 3) := by decide +kernel
theorem dX11_closes_58 : decode cX11_closes 58 = .ok (.aload_n 0, 1) := by decide +kernel
theorem dX11_closes_59 : decode cX11_closes 59 = .ok (.getfield 64, 3) := by decide +kernel
theorem dX11_closes_62 : decode cX11_closes 62 = .ok (.iload_n 3, 1) := by decide +kernel
theorem dX11_closes_63 : decode cX11_closes 63 = .ok (.dup2, 1) := by decide +kernel
theorem dX11_closes_64 : decode cX11_closes 64 = .ok (.iaload, 1) := by decide +kernel
theorem dX11_closes_65 : decode cX11_closes 65 = .ok (.iconst 1, 1) := by decide +kernel
theorem dX11_closes_66 : decode cX11_closes 66 = .ok (.iadd, 1) := by decide +kernel
theorem dX11_closes_67 : decode cX11_closes 67 = .ok (.iastore, 1) := by decide +kernel
theorem dX11_closes_68 : decode cX11_closes 68 = .ok (.aload_n 0, 1) := by decide +kernel
theorem dX11_closes_69 : decode cX11_closes 69 = .ok (.iload_n 2, 1) := by decide +kernel
theorem dX11_closes_70 : decode cX11_closes 70 = .ok (.iconst 2, 1) := by decide +kernel
theorem dX11_closes_71 : decode cX11_closes 71 = .ok (.iadd, 1) := by decide +kernel
theorem dX11_closes_72 : decode cX11_closes 72 = .ok (.putfield 413, 3) := by decide +kernel
theorem dX11_closes_75 : decode cX11_closes 75 = .ok (.aload_n 0, 1) := by decide +kernel
theorem dX11_closes_76 : decode cX11_closes 76 = .ok (.invokevirtual 416, 3) := by decide +kernel
theorem dX11_closes_79 : decode cX11_closes 79 = .ok (.pop, 1) := by decide +kernel
theorem dX11_closes_80 : decode cX11_closes 80 = .ok (.goto 13, 3) := by decide +kernel
theorem dX11_closes_83 : decode cX11_closes 83 = .ok (.aload_n 0, 1) := by decide +kernel
theorem dX11_closes_84 : decode cX11_closes 84 = .ok (.dup, 1) := by decide +kernel
theorem dX11_closes_85 : decode cX11_closes 85 = .ok (.getfield 385, 3) := by decide +kernel
theorem dX11_closes_88 : decode cX11_closes 88 = .ok (.iconst 1, 1) := by decide +kernel
theorem dX11_closes_89 : decode cX11_closes 89 = .ok (.isub, 1) := by decide +kernel
theorem dX11_closes_90 : decode cX11_closes 90 = .ok (.putfield 385, 3) := by decide +kernel
theorem dX11_closes_93 : decode cX11_closes 93 = .ok (.return_, 1) := by decide +kernel
def own_c_begins : List Cond := [.fieldLink RX11 45 "ClashFreeModel" "code" "[I", .fieldLink RX11 413 "ClashFreeModel" "goesOn" "I", .fieldLink RX11 67 "ClashFreeModel" "blockOf" "[I", .fieldLink RX11 385 "ClashFreeModel" "inside" "I", .fieldLink RX11 64 "ClashFreeModel" "roundOf" "[I", .methodLink RX11 416 yX11_isStep, .instanceMethod yX11_isStep, .selects RX11 yX11_isStep yX11_isStep, .initialized RX11, .methodLink RX11 410 yX11_isAbove, .instanceMethod yX11_isAbove, .selects RX11 yX11_isAbove yX11_isAbove]
def wp_c_begins : List Cond := .code yX11_begins cX11_begins 4 none :: (own_c_begins ++ (wp_c_isStep ++ (wp_c_isAbove ++ (wsX110 ++ ([] : List Cond)))))
set_option maxRecDepth 20000 in
theorem inown_c_begins : ∀ w ∈ own_c_begins, w ∈ lw_tbl := mem_places [1235, 1260, 1257, 1258, 1256, 1774, 1776, 98, 115, 1770, 1772, 97] (by decide +kernel)
set_option maxRecDepth 20000 in
theorem in_c_begins : ∀ w ∈ wp_c_begins, w ∈ lw_tbl := List.forall_mem_cons.mpr ⟨List.mem_of_getElem? (i := 1769) (by decide +kernel), List.forall_mem_append.mpr ⟨inown_c_begins, List.forall_mem_append.mpr ⟨in_c_isStep, List.forall_mem_append.mpr ⟨in_c_isAbove, List.forall_mem_append.mpr ⟨lwb_X11, fun _ h => absurd h List.not_mem_nil⟩⟩⟩⟩⟩
set_option maxRecDepth 20000 in
theorem good_c_begins : wp_c_begins.all goodWord = true := by decide +kernel
set_option maxRecDepth 20000 in
theorem g_c_begins_c_isStep_416 : GoodIn wp_c_begins (wsV RX11 416 RX11 yX11_isStep wp_c_isStep) := goodIn_sub (List.forall_mem_append.mpr ⟨List.forall_mem_cons.mpr ⟨(List.mem_of_getElem? (i := 6) rfl), List.forall_mem_cons.mpr ⟨(List.mem_of_getElem? (i := 7) rfl), List.forall_mem_cons.mpr ⟨(List.mem_of_getElem? (i := 8) rfl), List.forall_mem_cons.mpr ⟨(List.mem_of_getElem? (i := 9) rfl), fun _ h => absurd h List.not_mem_nil⟩⟩⟩⟩, (fun _ h => (List.mem_cons_of_mem _ (List.mem_append_right _ (List.mem_append_left _ h))))⟩) (by decide +kernel)
set_option maxRecDepth 20000 in
theorem g_c_begins_c_isAbove_410 : GoodIn wp_c_begins (wsV RX11 410 RX11 yX11_isAbove wp_c_isAbove) := goodIn_sub (List.forall_mem_append.mpr ⟨List.forall_mem_cons.mpr ⟨(List.mem_of_getElem? (i := 10) rfl), List.forall_mem_cons.mpr ⟨(List.mem_of_getElem? (i := 11) rfl), List.forall_mem_cons.mpr ⟨(List.mem_of_getElem? (i := 12) rfl), List.forall_mem_cons.mpr ⟨(List.mem_of_getElem? (i := 9) rfl), fun _ h => absurd h List.not_mem_nil⟩⟩⟩⟩, (fun _ h => (List.mem_cons_of_mem _ (List.mem_append_right _ (List.mem_append_right _ (List.mem_append_left _ h)))))⟩) (by decide +kernel)
set_option maxHeartbeats 4000000 in
set_option maxRecDepth 100000 in
theorem c_begins (l : Launch) (D : va_G) (sz : Nat) (h0 : Nat) (a : Nat → Nat) (cm : Nat → ClassId) (i : Nat → Int32) (g : Nat → Int64) (fc : Nat → Int32) (fw : Nat → Int32) (fq : Nat → Int32) (fx : Nat → Int32) (cd : Nat) (rf : Int32) (la : Int32) (ic : Int32) (wm : Nat) (ns : Nat) (sp : Nat) (go : Nat) (kk : Nat) (x : Nat) (bh : Nat) (hkk : kk ≤ 990) (hfc : fc (2 * kk) = nI x) (hx4 : x = 4 ∨ x = 5) (hbh : fc (2 * kk + 3) = nI bh) (hwx : wm + 4 = x) (hn4 : ns ≤ 4) (hBo : BoS fx ns) (hsp : sp ≤ 300) : Met l yX11_begins wp_c_begins ({ frames := 1, cells := 0, slots := 0, locals := 20 }) (PcW D [.ref h0, .int (nI kk)] sz [(h0, .inr (11, gR a i g (nI cd) rf la ic (nI wm) (nI ns) (nI sp) (nI go))), (a 19, .inl (cm 19, 2000, .inl fc)), (a 38, .inl (cm 38, 700, .inl fw)), (a 40, .inl (cm 40, 6, .inl fq)), (a 41, .inl (cm 41, 6, .inl fx))] [(cm 19, .int), (cm 38, .int), (cm 40, .int), (cm 41, .int)]) (va_Qv (fun (u : (Nat → Int32) × (Nat → Int32) × (Int32) × (Nat) × (Nat) × (Nat) × (Nat)) => (u.2.2.2.1 = 0 ∧ u.2.2.2.2.2.2 = bh ∧ u.2.2.2.2.1 = ns ∧ u.2.2.2.2.2.1 = sp ∧ u.2.2.1 = ic ∧ BoS u.2.1 ns ∧ u.1 = fq ∧ u.2.1 = fx ∧ ((x = 4 ∧ ¬ 0 < fc (2 * kk + 1)) ∨ (x = 5 ∧ ¬ 0 < fw (wm - 1)))) ∨ (u.2.2.2.1 = 0 ∧ u.2.2.2.2.2.2 = kk + 2 ∧ u.2.2.2.2.1 = ns + 1 ∧ sp ≤ u.2.2.2.2.2.1 ∧ u.2.2.2.2.2.1 ≤ 300 ∧ BoS u.2.1 (ns + 1) ∧ u.1 = upd fq ns 0 ∧ u.2.1 = upd fx ns (nI kk) ∧ ((x = 4 ∧ 0 < fc (2 * kk + 1) ∧ ((sp < 300 ∧ u.2.2.2.2.2.1 = sp + 1 ∧ u.2.2.1 = 0) ∨ (300 ≤ sp ∧ u.2.2.2.2.2.1 = sp ∧ u.2.2.1 = 1))) ∨ (x = 5 ∧ 0 < fw (wm - 1) ∧ u.2.2.2.2.2.1 = sp ∧ u.2.2.1 = ic)))) (fun (u : (Nat → Int32) × (Nat → Int32) × (Int32) × (Nat) × (Nat) × (Nat) × (Nat)) t => va_P D vwCl [(h0, .inr (11, gR a i g (nI cd) rf la u.2.2.1 (nI u.2.2.2.1) (nI u.2.2.2.2.1) (nI u.2.2.2.2.2.1) (nI u.2.2.2.2.2.2))), (a 19, .inl (cm 19, 2000, .inl fc)), (a 38, .inl (cm 38, 700, .inl fw)), (a 40, .inl (cm 40, 6, .inl u.1)), (a 41, .inl (cm 41, 6, .inl u.2.1))] t.heap ∧ va_K D vwCl [(cm 19, .int), (cm 38, .int), (cm 40, .int), (cm 41, .int)] t ∧ va_D (va_A [(h0, .inr (11, gR a i g (nI cd) rf la ic (nI wm) (nI ns) (nI sp) (nI go))), (a 19, .inl (cm 19, 2000, .inl fc)), (a 38, .inl (cm 38, 700, .inl fw)), (a 40, .inl (cm 40, 6, .inl fq)), (a 41, .inl (cm 41, 6, .inl fx))] sz) [(h0, .inr (11, gR a i g (nI cd) rf la u.2.2.1 (nI u.2.2.2.1) (nI u.2.2.2.2.1) (nI u.2.2.2.2.2.1) (nI u.2.2.2.2.2.2))), (a 19, .inl (cm 19, 2000, .inl fc)), (a 38, .inl (cm 38, 700, .inl fw)), (a 40, .inl (cm 40, 6, .inl u.1)), (a 41, .inl (cm 41, 6, .inl u.2.1))]) (va_A [(h0, .inr (11, gR a i g (nI cd) rf la ic (nI wm) (nI ns) (nI sp) (nI go))), (a 19, .inl (cm 19, 2000, .inl fc)), (a 38, .inl (cm 38, 700, .inl fw)), (a 40, .inl (cm 40, 6, .inl fq)), (a 41, .inl (cm 41, 6, .inl fx))] sz)) 0 0 (va_A [(h0, .inr (11, gR a i g (nI cd) rf la ic (nI wm) (nI ns) (nI sp) (nI go))), (a 19, .inl (cm 19, 2000, .inl fc)), (a 38, .inl (cm 38, 700, .inl fw)), (a 40, .inl (cm 40, 6, .inl fq)), (a 41, .inl (cm 41, 6, .inl fx))] sz) := by
  refine Met.ofW (cc := cX11_begins) (maxL := 4) (ret := none) (by decide) rfl ?_
  intro p e s m args below meth c s₁ B hml hv
  obtain ⟨rfl, hsz, hP, hK, hD0⟩ := hv
  have hx := B.exec
  have hb := B.bytes
  have hr := B.returns
  have hts := atoms_spec (ws := wp_c_begins) B.pre
  have hin_X11 : ∀ w ∈ wsX110, w ∈ wp_c_begins := fun _ h => (List.mem_cons_of_mem _ (List.mem_append_right _ (List.mem_append_right _ (List.mem_append_right _ (List.mem_append_left _ h)))))
  have hown : s.vm.findClass RX11 = some m.cls := findClass_of_methodNamed B.named
  have hlocks := B.notSynchronized
  subst hsz
  have hD := hD0.self (sz := s.heap.size)
  generalize hAe : va_A [(h0, .inr (11, gR a i g (nI cd) rf la ic (nI wm) (nI ns) (nI sp) (nI go))), (a 19, .inl (cm 19, 2000, .inl fc)), (a 38, .inl (cm 38, 700, .inl fw)), (a 40, .inl (cm 40, 6, .inl fq)), (a 41, .inl (cm 41, 6, .inl fx))] s.heap.size = A at hD ⊢
  have hA : ∀ q : Nat, s.heap.size ≤ q → A q := fun q h => by rw [← hAe]; exact Or.inr h
  have hS : va_S A s.heap s.heap [] := va_S.rf
  have hP : va_P D vwCl [(h0, .inr (11, gR a i g (nI cd) rf la ic (nI wm) (nI ns) (nI sp) (nI go))), (a 19, .inl (cm 19, 2000, .inl fc)), (a 38, .inl (cm 38, 700, .inl fw)), (a 40, .inl (cm 40, 6, .inl fq)), (a 41, .inl (cm 41, 6, .inl fx))] s.heap := hP
  have hl := lv_entry ([.ref h0, .int (nI kk)]) (n := 4) (Nat.le_of_ble_eq_true rfl)
  rw [lg_entry_eq]
  generalize (lg_sl ([.ref h0, .int (nI kk)]) ++ List.replicate (4 - (lg_sl ([.ref h0, .int (nI kk)])).length) Slot.unset).toArray = ls at hl ⊢
  have hl : lv_has ls 4 [(0, .ref h0), (1, .int (nI kk))] := hl
  rcases hx4 with rfl | rfl
  ·
    refine lv_aload_n hx hb dX11_begins_0 rfl (lv_at hl 0 rfl) ?_
    refine va_get (D := D) (ci := 11) (v := .ref (a 19)) (C := RX11) (T := TX11) (N := 47) hx hb hts hin_X11 hown hK hP 0 rfl rfl 19 (by decide) (hts (.fieldLink RX11 45 "ClashFreeModel" "code" "[I") (List.mem_of_getElem? (i := 1) rfl)) (fun _ h9 => h9) rfl dX11_begins_1 ?_
    refine lv_iconst (v := 2) hx hb dX11_begins_4 (by decide) ?_
    refine lv_iload_n hx hb dX11_begins_5 rfl (lv_at hl 1 rfl) ?_
    refine lv_imul hx hb dX11_begins_6 ?_
    refine lv_topi (fun v1 ev1 => ?_)
    obtain rfl : v1 = nI (2 * kk) := ev1.trans (pk_mul 2 kk)
    refine lv_iconst (v := 3) hx hb dX11_begins_7 (by decide) ?_
    refine lv_iadd hx hb dX11_begins_8 ?_
    refine lv_topi (fun v2 ev2 => ?_)
    obtain rfl : v2 = nI (2 * kk + 3) := ev2.trans (nI_add _ 3)
    refine va_iald hx hb hK hP 1 0 rfl rfl (vp_in_nI (by omega) (by decide)) dX11_begins_9 ?_
    refine lv_topi (fun v3 ev3 => ?_)
    obtain rfl : v3 = nI bh := ev3.trans (by rw [nI_clamp (by omega)]; exact hbh)
    refine lv_istore_n (lv' := [(2, .int (nI bh)), (0, .ref h0), (1, .int (nI kk))]) hx hb dX11_begins_10 rfl hl (by decide) rfl (fun ls hl => ?_)
    refine lv_aload_n hx hb dX11_begins_11 rfl (lv_at hl 1 rfl) ?_
    refine va_get (D := D) (ci := 11) (v := .ref (a 19)) (C := RX11) (T := TX11) (N := 47) hx hb hts hin_X11 hown hK hP 0 rfl rfl 19 (by decide) (hts (.fieldLink RX11 45 "ClashFreeModel" "code" "[I") (List.mem_of_getElem? (i := 1) rfl)) (fun _ h9 => h9) rfl dX11_begins_12 ?_
    refine lv_iconst (v := 2) hx hb dX11_begins_15 (by decide) ?_
    refine lv_iload_n hx hb dX11_begins_16 rfl (lv_at hl 2 rfl) ?_
    refine lv_imul hx hb dX11_begins_17 ?_
    refine lv_topi (fun v4 ev4 => ?_)
    obtain rfl : v4 = nI (2 * kk) := ev4.trans (pk_mul 2 kk)
    refine va_iald hx hb hK hP 1 0 rfl rfl (vp_in_nI (by omega) (by decide)) dX11_begins_18 ?_
    refine lv_topi (fun v5 ev5 => ?_)
    obtain rfl : v5 = 4 := ev5.trans (by rw [nI_clamp (by omega)]; exact hfc)
    refine lv_iconst (v := 4) hx hb dX11_begins_19 (by decide) ?_
    refine lv_icmp_ne (tgt := 44) hx hb dX11_begins_20 (by decide) (fun hc => absurd (by decide) hc) (fun hc => ?_)
    refine lv_aload_n hx hb dX11_begins_23 rfl (lv_at hl 1 rfl) ?_
    refine va_get (D := D) (ci := 11) (v := .ref (a 19)) (C := RX11) (T := TX11) (N := 47) hx hb hts hin_X11 hown hK hP 0 rfl rfl 19 (by decide) (hts (.fieldLink RX11 45 "ClashFreeModel" "code" "[I") (List.mem_of_getElem? (i := 1) rfl)) (fun _ h9 => h9) rfl dX11_begins_24 ?_
    refine lv_iconst (v := 2) hx hb dX11_begins_27 (by decide) ?_
    refine lv_iload_n hx hb dX11_begins_28 rfl (lv_at hl 2 rfl) ?_
    refine lv_imul hx hb dX11_begins_29 ?_
    refine lv_topi (fun v6 ev6 => ?_)
    obtain rfl : v6 = nI (2 * kk) := ev6.trans (pk_mul 2 kk)
    refine lv_iconst (v := 1) hx hb dX11_begins_30 (by decide) ?_
    refine lv_iadd hx hb dX11_begins_31 ?_
    refine lv_topi (fun v7 ev7 => ?_)
    obtain rfl : v7 = nI (2 * kk + 1) := ev7.trans (nI_1 _)
    refine va_iald hx hb hK hP 1 0 rfl rfl (vp_in_nI (by omega) (by decide)) dX11_begins_32 ?_
    refine lv_topi (fun v8 ev8 => ?_)
    obtain rfl : v8 = fc (2 * kk + 1) := ev8.trans (by rw [nI_clamp (by omega)])
    refine lv_if_le (tgt := 40) hx hb dX11_begins_33 (by decide) (fun hc9 => ?_) (fun hc9 => ?_)
    ·
      refine lv_iconst (v := 0) hx hb dX11_begins_40 (by decide) ?_
      refine lv_goto (tgt := 48) hx hb dX11_begins_41 (by decide) ?_
      refine lv_istore_n (lv' := [(3, .int 0), (2, .int (nI bh)), (0, .ref h0), (1, .int (nI kk))]) hx hb dX11_begins_48 rfl hl (by decide) rfl (fun ls hl => ?_)
      refine lv_aload_n hx hb dX11_begins_49 rfl (lv_at hl 2 rfl) ?_
      refine lv_iload_n hx hb dX11_begins_50 rfl (lv_at hl 0 rfl) ?_
      refine lv_if_eq (tgt := 60) hx hb dX11_begins_51 (by decide) (fun hc => ?_) (fun hc => absurd (by decide) hc)
      refine lv_iload_n hx hb dX11_begins_60 rfl (lv_at hl 1 rfl) ?_
      refine va_put (D := D) (ci := 11) (v := .int (nI bh)) (ty := .int) (C := RX11) (T := TX11) (N := 47) hx hb hts hin_X11 tyX11 tyX11_ok nmX11 hown hK hP hD hS 0 rfl rfl 44 (by decide) (hts (.fieldLink RX11 413 "ClashFreeModel" "goesOn" "I") (List.mem_of_getElem? (i := 2) rfl)) (fun _ h9 => h9) rfl (by decide +kernel) rfl rfl (Nat.le_of_ble_eq_true rfl) dX11_begins_61 (fun H locs hP hD hS => ?_)
      have hP : va_P D vwCl [(h0, .inr (11, gR a i g (nI cd) rf la ic (nI wm) (nI ns) (nI sp) (nI bh))), (a 19, .inl (cm 19, 2000, .inl fc)), (a 38, .inl (cm 38, 700, .inl fw)), (a 40, .inl (cm 40, 6, .inl fq)), (a 41, .inl (cm 41, 6, .inl fx))] H := hP
      have hD : va_D A [(h0, .inr (11, gR a i g (nI cd) rf la ic (nI wm) (nI ns) (nI sp) (nI bh))), (a 19, .inl (cm 19, 2000, .inl fc)), (a 38, .inl (cm 38, 700, .inl fw)), (a 40, .inl (cm 40, 6, .inl fq)), (a 41, .inl (cm 41, 6, .inl fx))] := hD
      refine lv_iload_n hx hb dX11_begins_64 rfl (lv_at hl 0 rfl) ?_
      refine lv_if_ne (tgt := 69) hx hb dX11_begins_65 (by decide) (fun hc => absurd (by decide) hc) (fun hc => ?_)
      exact W.vret hx hb hr (fun t ht hW => ⟨⟨(fq, fx, ic, wm, ns, sp, bh), rfl, (by (try dsimp only); exact Or.inl ⟨by omega, rfl, rfl, rfl, rfl, hBo, rfl, rfl, Or.inl ⟨rfl, Int32.not_lt.mpr hc9⟩⟩), by rw [ht]; exact hP.sub [0, 1, 2, 3, 4] rfl, va_K.moved hW.alike (hK.sub [0, 1, 2, 3] rfl), hD.sub [0, 1, 2, 3, 4] (by decide) rfl⟩, hS.F ht⟩) hS.2.2 dX11_begins_68
    ·
      refine lv_iconst (v := 1) hx hb dX11_begins_36 (by decide) ?_
      refine lv_goto (tgt := 48) hx hb dX11_begins_37 (by decide) ?_
      refine lv_istore_n (lv' := [(3, .int 1), (2, .int (nI bh)), (0, .ref h0), (1, .int (nI kk))]) hx hb dX11_begins_48 rfl hl (by decide) rfl (fun ls hl => ?_)
      refine lv_aload_n hx hb dX11_begins_49 rfl (lv_at hl 2 rfl) ?_
      refine lv_iload_n hx hb dX11_begins_50 rfl (lv_at hl 0 rfl) ?_
      refine lv_if_eq (tgt := 60) hx hb dX11_begins_51 (by decide) (fun hc => absurd hc (by decide)) (fun hc => ?_)
      refine lv_iload_n hx hb dX11_begins_54 rfl (lv_at hl 3 rfl) ?_
      refine lv_iconst (v := 2) hx hb dX11_begins_55 (by decide) ?_
      refine lv_iadd hx hb dX11_begins_56 ?_
      refine lv_topi (fun v10 ev10 => ?_)
      obtain rfl : v10 = nI (kk + 2) := ev10.trans (nI_add _ 2)
      refine lv_goto (tgt := 61) hx hb dX11_begins_57 (by decide) ?_
      refine va_put (D := D) (ci := 11) (v := .int (nI (kk + 2))) (ty := .int) (C := RX11) (T := TX11) (N := 47) hx hb hts hin_X11 tyX11 tyX11_ok nmX11 hown hK hP hD hS 0 rfl rfl 44 (by decide) (hts (.fieldLink RX11 413 "ClashFreeModel" "goesOn" "I") (List.mem_of_getElem? (i := 2) rfl)) (fun _ h9 => h9) rfl (by decide +kernel) rfl rfl (Nat.le_of_ble_eq_true rfl) dX11_begins_61 (fun H locs hP hD hS => ?_)
      have hP : va_P D vwCl [(h0, .inr (11, gR a i g (nI cd) rf la ic (nI wm) (nI ns) (nI sp) (nI (kk + 2)))), (a 19, .inl (cm 19, 2000, .inl fc)), (a 38, .inl (cm 38, 700, .inl fw)), (a 40, .inl (cm 40, 6, .inl fq)), (a 41, .inl (cm 41, 6, .inl fx))] H := hP
      have hD : va_D A [(h0, .inr (11, gR a i g (nI cd) rf la ic (nI wm) (nI ns) (nI sp) (nI (kk + 2)))), (a 19, .inl (cm 19, 2000, .inl fc)), (a 38, .inl (cm 38, 700, .inl fw)), (a 40, .inl (cm 40, 6, .inl fq)), (a 41, .inl (cm 41, 6, .inl fx))] := hD
      refine lv_iload_n hx hb dX11_begins_64 rfl (lv_at hl 0 rfl) ?_
      refine lv_if_ne (tgt := 69) hx hb dX11_begins_65 (by decide) (fun hc => ?_) (fun hc => absurd hc (by decide))
      refine lv_aload_n hx hb dX11_begins_69 rfl (lv_at hl 2 rfl) ?_
      refine va_get (D := D) (ci := 11) (v := .ref (a 41)) (C := RX11) (T := TX11) (N := 47) hx hb hts hin_X11 hown hK hP 0 rfl rfl 41 (by decide) (hts (.fieldLink RX11 67 "ClashFreeModel" "blockOf" "[I") (List.mem_of_getElem? (i := 3) rfl)) (fun _ h9 => h9) rfl dX11_begins_70 ?_
      refine lv_aload_n hx hb dX11_begins_73 rfl (lv_at hl 2 rfl) ?_
      refine va_get (D := D) (ci := 11) (v := .int (nI ns)) (C := RX11) (T := TX11) (N := 47) hx hb hts hin_X11 hown hK hP 0 rfl rfl 42 (by decide) (hts (.fieldLink RX11 385 "ClashFreeModel" "inside" "I") (List.mem_of_getElem? (i := 4) rfl)) (fun _ h9 => h9) rfl dX11_begins_74 ?_
      refine lv_iload_n hx hb dX11_begins_77 rfl (lv_at hl 3 rfl) ?_
      refine va_iast hx hb hK hP hD hS 4 3 rfl rfl (vp_in_nI (by omega) (by decide)) dX11_begins_78 (fun H locs hP hD hS => ?_)
      have hP : va_P D vwCl [(h0, .inr (11, gR a i g (nI cd) rf la ic (nI wm) (nI ns) (nI sp) (nI (kk + 2)))), (a 19, .inl (cm 19, 2000, .inl fc)), (a 38, .inl (cm 38, 700, .inl fw)), (a 40, .inl (cm 40, 6, .inl fq)), (a 41, .inl (cm 41, 6, .inl (upd fx (Int32.toNatClampNeg (nI ns)) (nI kk))))] H := hP
      have hD : va_D A [(h0, .inr (11, gR a i g (nI cd) rf la ic (nI wm) (nI ns) (nI sp) (nI (kk + 2)))), (a 19, .inl (cm 19, 2000, .inl fc)), (a 38, .inl (cm 38, 700, .inl fw)), (a 40, .inl (cm 40, 6, .inl fq)), (a 41, .inl (cm 41, 6, .inl (upd fx (Int32.toNatClampNeg (nI ns)) (nI kk))))] := hD
      rw [show (upd fx (Int32.toNatClampNeg (nI ns)) (nI kk)) = (upd fx ns (nI kk)) from by rw [nI_clamp (by omega)]] at hP hD
      refine lv_aload_n hx hb dX11_begins_79 rfl (lv_at hl 2 rfl) ?_
      refine va_get (D := D) (ci := 11) (v := .ref (a 40)) (C := RX11) (T := TX11) (N := 47) hx hb hts hin_X11 hown hK hP 0 rfl rfl 40 (by decide) (hts (.fieldLink RX11 64 "ClashFreeModel" "roundOf" "[I") (List.mem_of_getElem? (i := 5) rfl)) (fun _ h9 => h9) rfl dX11_begins_80 ?_
      refine lv_aload_n hx hb dX11_begins_83 rfl (lv_at hl 2 rfl) ?_
      refine va_get (D := D) (ci := 11) (v := .int (nI ns)) (C := RX11) (T := TX11) (N := 47) hx hb hts hin_X11 hown hK hP 0 rfl rfl 42 (by decide) (hts (.fieldLink RX11 385 "ClashFreeModel" "inside" "I") (List.mem_of_getElem? (i := 4) rfl)) (fun _ h9 => h9) rfl dX11_begins_84 ?_
      refine lv_iconst (v := 0) hx hb dX11_begins_87 (by decide) ?_
      refine va_iast hx hb hK hP hD hS 3 2 rfl rfl (vp_in_nI (by omega) (by decide)) dX11_begins_88 (fun H locs hP hD hS => ?_)
      have hP : va_P D vwCl [(h0, .inr (11, gR a i g (nI cd) rf la ic (nI wm) (nI ns) (nI sp) (nI (kk + 2)))), (a 19, .inl (cm 19, 2000, .inl fc)), (a 38, .inl (cm 38, 700, .inl fw)), (a 40, .inl (cm 40, 6, .inl (upd fq (Int32.toNatClampNeg (nI ns)) 0))), (a 41, .inl (cm 41, 6, .inl (upd fx ns (nI kk))))] H := hP
      have hD : va_D A [(h0, .inr (11, gR a i g (nI cd) rf la ic (nI wm) (nI ns) (nI sp) (nI (kk + 2)))), (a 19, .inl (cm 19, 2000, .inl fc)), (a 38, .inl (cm 38, 700, .inl fw)), (a 40, .inl (cm 40, 6, .inl (upd fq (Int32.toNatClampNeg (nI ns)) 0))), (a 41, .inl (cm 41, 6, .inl (upd fx ns (nI kk))))] := hD
      rw [show (upd fq (Int32.toNatClampNeg (nI ns)) 0) = (upd fq ns 0) from by rw [nI_clamp (by omega)]] at hP hD
      refine lv_aload_n hx hb dX11_begins_89 rfl (lv_at hl 2 rfl) ?_
      refine lv_dup hx hb dX11_begins_90 rfl ?_
      refine va_get (D := D) (ci := 11) (v := .int (nI ns)) (C := RX11) (T := TX11) (N := 47) hx hb hts hin_X11 hown hK hP 0 rfl rfl 42 (by decide) (hts (.fieldLink RX11 385 "ClashFreeModel" "inside" "I") (List.mem_of_getElem? (i := 4) rfl)) (fun _ h9 => h9) rfl dX11_begins_91 ?_
      refine lv_iconst (v := 1) hx hb dX11_begins_94 (by decide) ?_
      refine lv_iadd hx hb dX11_begins_95 ?_
      refine lv_topi (fun v11 ev11 => ?_)
      obtain rfl : v11 = nI (ns + 1) := ev11.trans (nI_1 _)
      refine va_put (D := D) (ci := 11) (v := .int (nI (ns + 1))) (ty := .int) (C := RX11) (T := TX11) (N := 47) hx hb hts hin_X11 tyX11 tyX11_ok nmX11 hown hK hP hD hS 0 rfl rfl 42 (by decide) (hts (.fieldLink RX11 385 "ClashFreeModel" "inside" "I") (List.mem_of_getElem? (i := 4) rfl)) (fun _ h9 => h9) rfl (by decide +kernel) rfl rfl (Nat.le_of_ble_eq_true rfl) dX11_begins_96 (fun H locs hP hD hS => ?_)
      have hP : va_P D vwCl [(h0, .inr (11, gR a i g (nI cd) rf la ic (nI wm) (nI (ns + 1)) (nI sp) (nI (kk + 2)))), (a 19, .inl (cm 19, 2000, .inl fc)), (a 38, .inl (cm 38, 700, .inl fw)), (a 40, .inl (cm 40, 6, .inl (upd fq ns 0))), (a 41, .inl (cm 41, 6, .inl (upd fx ns (nI kk))))] H := hP
      have hD : va_D A [(h0, .inr (11, gR a i g (nI cd) rf la ic (nI wm) (nI (ns + 1)) (nI sp) (nI (kk + 2)))), (a 19, .inl (cm 19, 2000, .inl fc)), (a 38, .inl (cm 38, 700, .inl fw)), (a 40, .inl (cm 40, 6, .inl (upd fq ns 0))), (a 41, .inl (cm 41, 6, .inl (upd fx ns (nI kk))))] := hD
      refine lv_aload_n hx hb dX11_begins_99 rfl (lv_at hl 2 rfl) ?_
      refine va_get (D := D) (ci := 11) (v := .ref (a 19)) (C := RX11) (T := TX11) (N := 47) hx hb hts hin_X11 hown hK hP 0 rfl rfl 19 (by decide) (hts (.fieldLink RX11 45 "ClashFreeModel" "code" "[I") (List.mem_of_getElem? (i := 1) rfl)) (fun _ h9 => h9) rfl dX11_begins_100 ?_
      refine lv_iconst (v := 2) hx hb dX11_begins_103 (by decide) ?_
      refine lv_iload_n hx hb dX11_begins_104 rfl (lv_at hl 3 rfl) ?_
      refine lv_imul hx hb dX11_begins_105 ?_
      refine lv_topi (fun v12 ev12 => ?_)
      obtain rfl : v12 = nI (2 * kk) := ev12.trans (pk_mul 2 kk)
      refine va_iald hx hb hK hP 1 0 rfl rfl (vp_in_nI (by omega) (by decide)) dX11_begins_106 ?_
      refine lv_topi (fun v13 ev13 => ?_)
      obtain rfl : v13 = 4 := ev13.trans (by rw [nI_clamp (by omega)]; exact hfc)
      refine lv_iconst (v := 4) hx hb dX11_begins_107 (by decide) ?_
      refine lv_icmp_ne (tgt := 116) hx hb dX11_begins_108 (by decide) (fun hc => absurd (by decide) hc) (fun hc => ?_)
      refine lv_aload_n hx hb dX11_begins_111 rfl (lv_at hl 2 rfl) ?_
      have hPc := hP.sub (ws' := [(h0, .inr (11, gR a i g (nI cd) rf la ic (nI wm) (nI (ns + 1)) (nI sp) (nI (kk + 2))))]) [0] rfl
      have hKc := hK.sub (tys' := []) [] rfl
      have hDc := hD.sub (ws' := [(h0, .inr (11, gR a i g (nI cd) rf la ic (nI wm) (nI (ns + 1)) (nI sp) (nI (kk + 2))))]) [0] (by decide) rfl
      have hFc := va_free (wc := [(h0, .inr (11, gR a i g (nI cd) rf la ic (nI wm) (nI (ns + 1)) (nI sp) (nI (kk + 2))))]) hD hS hA [0] rfl
      refine va_calli (va_runV (As := []) (rest := []) ⟨hx, hb, hml, hown, hts⟩ (c_isStep l D _ h0 a cm i g cd rf la ic wm (ns + 1) sp (kk + 2) (by first | assumption | omega)) (cwV 0 hts g_c_begins_c_isStep_416 rfl rfl rfl (by decide +kernel) ⟨(Nat.le_of_ble_eq_true rfl), (Nat.le_of_ble_eq_true rfl)⟩) (PcW_V (q0 := 0) hPc hKc hDc rfl rfl) rfl rfl hl.1 rfl (lv_room (Nat.le_of_ble_eq_true rfl)) dX11_begins_112 ⟨(Nat.le_of_ble_eq_true rfl), (Nat.le_of_ble_eq_true rfl)⟩) hS (fun q _ h => hFc q h) hFc (fun r14 uu tt H locs htt hvm hw hB hz1 hk1 hS => ?_)
      obtain ⟨w15, w16⟩ := uu
      obtain ⟨hP1, hK1, hD1⟩ := hB
      rw [htt] at hP1
      have hK1 := va_K.moved hvm.symm hK1
      have hP1 : va_P D vwCl [(h0, .inr (11, gR a i g (nI cd) rf la w15 (nI wm) (nI (ns + 1)) (nI w16) (nI (kk + 2))))] H := hP1
      obtain ⟨hP, hD⟩ := va_join (wr := [(a 19, .inl (cm 19, 2000, .inl fc)), (a 38, .inl (cm 38, 700, .inl fw)), (a 40, .inl (cm 40, 6, .inl (upd fq ns 0))), (a 41, .inl (cm 41, 6, .inl (upd fx ns (nI kk))))]) (w1 := [(h0, .inr (11, gR a i g (nI cd) rf la w15 (nI wm) (nI (ns + 1)) (nI w16) (nI (kk + 2))))]) hP hD [0] [1, 2, 3, 4] rfl rfl (by decide) (by decide) hk1 hFc hP1 hD1
      have hP : va_P D vwCl [(a 19, .inl (cm 19, 2000, .inl fc)), (a 38, .inl (cm 38, 700, .inl fw)), (a 40, .inl (cm 40, 6, .inl (upd fq ns 0))), (a 41, .inl (cm 41, 6, .inl (upd fx ns (nI kk)))), (h0, .inr (11, gR a i g (nI cd) rf la w15 (nI wm) (nI (ns + 1)) (nI w16) (nI (kk + 2))))] H := hP
      have hD : va_D A [(a 19, .inl (cm 19, 2000, .inl fc)), (a 38, .inl (cm 38, 700, .inl fw)), (a 40, .inl (cm 40, 6, .inl (upd fq ns 0))), (a 41, .inl (cm 41, 6, .inl (upd fx ns (nI kk)))), (h0, .inr (11, gR a i g (nI cd) rf la w15 (nI wm) (nI (ns + 1)) (nI w16) (nI (kk + 2))))] := hD
      try dsimp only at hw
      clear hz1 hk1 hFc hPc hKc hDc
      rcases hw with ⟨rfl, hA_r14⟩ | ⟨rfl, hA_r14⟩
      ·
        obtain ⟨rfl, rfl, hA_r14_s⟩ := hA_r14
        have hP : va_P D vwCl [(a 19, .inl (cm 19, 2000, .inl fc)), (a 38, .inl (cm 38, 700, .inl fw)), (a 40, .inl (cm 40, 6, .inl (upd fq ns 0))), (a 41, .inl (cm 41, 6, .inl (upd fx ns (nI kk)))), (h0, .inr (11, gR a i g (nI cd) rf la 0 (nI wm) (nI (ns + 1)) (nI (sp + 1)) (nI (kk + 2))))] H := hP
        have hD : va_D A [(a 19, .inl (cm 19, 2000, .inl fc)), (a 38, .inl (cm 38, 700, .inl fw)), (a 40, .inl (cm 40, 6, .inl (upd fq ns 0))), (a 41, .inl (cm 41, 6, .inl (upd fx ns (nI kk)))), (h0, .inr (11, gR a i g (nI cd) rf la 0 (nI wm) (nI (ns + 1)) (nI (sp + 1)) (nI (kk + 2))))] := hD
        refine lv_pop hx hb dX11_begins_115 rfl ?_
        exact W.vret hx hb hr (fun t ht hW => ⟨⟨((upd fq ns 0), (upd fx ns (nI kk)), 0, wm, (ns + 1), (sp + 1), (kk + 2)), rfl, (by (try dsimp only); exact Or.inr ⟨by omega, rfl, rfl, by omega, by omega, BoS_up hBo hkk, rfl, rfl, Or.inl ⟨rfl, Int32.not_le.mp hc9, Or.inl ⟨hA_r14_s, rfl, rfl⟩⟩⟩), by rw [ht]; exact hP.sub [4, 0, 1, 2, 3] rfl, va_K.moved hW.alike (hK.sub [0, 1, 2, 3] rfl), hD.sub [4, 0, 1, 2, 3] (by decide) rfl⟩, hS.F ht⟩) hS.2.2 dX11_begins_116
      ·
        obtain ⟨rfl, hA_r14_e, hA_r14_g⟩ := hA_r14
        obtain rfl := hA_r14_e.symm
        have hP : va_P D vwCl [(a 19, .inl (cm 19, 2000, .inl fc)), (a 38, .inl (cm 38, 700, .inl fw)), (a 40, .inl (cm 40, 6, .inl (upd fq ns 0))), (a 41, .inl (cm 41, 6, .inl (upd fx ns (nI kk)))), (h0, .inr (11, gR a i g (nI cd) rf la 1 (nI wm) (nI (ns + 1)) (nI sp) (nI (kk + 2))))] H := hP
        have hD : va_D A [(a 19, .inl (cm 19, 2000, .inl fc)), (a 38, .inl (cm 38, 700, .inl fw)), (a 40, .inl (cm 40, 6, .inl (upd fq ns 0))), (a 41, .inl (cm 41, 6, .inl (upd fx ns (nI kk)))), (h0, .inr (11, gR a i g (nI cd) rf la 1 (nI wm) (nI (ns + 1)) (nI sp) (nI (kk + 2))))] := hD
        refine lv_pop hx hb dX11_begins_115 rfl ?_
        exact W.vret hx hb hr (fun t ht hW => ⟨⟨((upd fq ns 0), (upd fx ns (nI kk)), 1, wm, (ns + 1), sp, (kk + 2)), rfl, (by (try dsimp only); exact Or.inr ⟨by omega, rfl, rfl, by omega, by omega, BoS_up hBo hkk, rfl, rfl, Or.inl ⟨rfl, Int32.not_le.mp hc9, Or.inr ⟨hA_r14_g, rfl, rfl⟩⟩⟩), by rw [ht]; exact hP.sub [4, 0, 1, 2, 3] rfl, va_K.moved hW.alike (hK.sub [0, 1, 2, 3] rfl), hD.sub [4, 0, 1, 2, 3] (by decide) rfl⟩, hS.F ht⟩) hS.2.2 dX11_begins_116
  ·
    refine lv_aload_n hx hb dX11_begins_0 rfl (lv_at hl 0 rfl) ?_
    refine va_get (D := D) (ci := 11) (v := .ref (a 19)) (C := RX11) (T := TX11) (N := 47) hx hb hts hin_X11 hown hK hP 0 rfl rfl 19 (by decide) (hts (.fieldLink RX11 45 "ClashFreeModel" "code" "[I") (List.mem_of_getElem? (i := 1) rfl)) (fun _ h9 => h9) rfl dX11_begins_1 ?_
    refine lv_iconst (v := 2) hx hb dX11_begins_4 (by decide) ?_
    refine lv_iload_n hx hb dX11_begins_5 rfl (lv_at hl 1 rfl) ?_
    refine lv_imul hx hb dX11_begins_6 ?_
    refine lv_topi (fun v17 ev17 => ?_)
    obtain rfl : v17 = nI (2 * kk) := ev17.trans (pk_mul 2 kk)
    refine lv_iconst (v := 3) hx hb dX11_begins_7 (by decide) ?_
    refine lv_iadd hx hb dX11_begins_8 ?_
    refine lv_topi (fun v18 ev18 => ?_)
    obtain rfl : v18 = nI (2 * kk + 3) := ev18.trans (nI_add _ 3)
    refine va_iald hx hb hK hP 1 0 rfl rfl (vp_in_nI (by omega) (by decide)) dX11_begins_9 ?_
    refine lv_topi (fun v19 ev19 => ?_)
    obtain rfl : v19 = nI bh := ev19.trans (by rw [nI_clamp (by omega)]; exact hbh)
    refine lv_istore_n (lv' := [(2, .int (nI bh)), (0, .ref h0), (1, .int (nI kk))]) hx hb dX11_begins_10 rfl hl (by decide) rfl (fun ls hl => ?_)
    refine lv_aload_n hx hb dX11_begins_11 rfl (lv_at hl 1 rfl) ?_
    refine va_get (D := D) (ci := 11) (v := .ref (a 19)) (C := RX11) (T := TX11) (N := 47) hx hb hts hin_X11 hown hK hP 0 rfl rfl 19 (by decide) (hts (.fieldLink RX11 45 "ClashFreeModel" "code" "[I") (List.mem_of_getElem? (i := 1) rfl)) (fun _ h9 => h9) rfl dX11_begins_12 ?_
    refine lv_iconst (v := 2) hx hb dX11_begins_15 (by decide) ?_
    refine lv_iload_n hx hb dX11_begins_16 rfl (lv_at hl 2 rfl) ?_
    refine lv_imul hx hb dX11_begins_17 ?_
    refine lv_topi (fun v20 ev20 => ?_)
    obtain rfl : v20 = nI (2 * kk) := ev20.trans (pk_mul 2 kk)
    refine va_iald hx hb hK hP 1 0 rfl rfl (vp_in_nI (by omega) (by decide)) dX11_begins_18 ?_
    refine lv_topi (fun v21 ev21 => ?_)
    obtain rfl : v21 = 5 := ev21.trans (by rw [nI_clamp (by omega)]; exact hfc)
    refine lv_iconst (v := 4) hx hb dX11_begins_19 (by decide) ?_
    refine lv_icmp_ne (tgt := 44) hx hb dX11_begins_20 (by decide) (fun hc => ?_) (fun hc => absurd hc (by decide))
    refine lv_aload_n hx hb dX11_begins_44 rfl (lv_at hl 1 rfl) ?_
    have hPc := hP.sub (ws' := [(h0, .inr (11, gR a i g (nI cd) rf la ic (nI wm) (nI ns) (nI sp) (nI go))), (a 38, .inl (cm 38, 700, .inl fw))]) [0, 2] rfl
    have hKc := hK.sub (tys' := [(cm 38, .int)]) [1] rfl
    have hDc := hD.sub (ws' := [(h0, .inr (11, gR a i g (nI cd) rf la ic (nI wm) (nI ns) (nI sp) (nI go))), (a 38, .inl (cm 38, 700, .inl fw))]) [0, 2] (by decide) rfl
    have hFc := va_free (wc := [(h0, .inr (11, gR a i g (nI cd) rf la ic (nI wm) (nI ns) (nI sp) (nI go))), (a 38, .inl (cm 38, 700, .inl fw))]) hD hS hA [0, 2] rfl
    refine va_calli (va_runV (As := []) (rest := []) ⟨hx, hb, hml, hown, hts⟩ (c_isAbove l D _ h0 a cm i g fw cd rf la ic wm ns sp go (by first | assumption | omega) (by first | assumption | omega)) (cwV 0 hts g_c_begins_c_isAbove_410 rfl rfl rfl (by decide +kernel) ⟨(Nat.le_of_ble_eq_true rfl), (Nat.le_of_ble_eq_true rfl)⟩) (PcW_V (q0 := 0) hPc hKc hDc rfl rfl) rfl rfl hl.1 rfl (lv_room (Nat.le_of_ble_eq_true rfl)) dX11_begins_45 ⟨(Nat.le_of_ble_eq_true rfl), (Nat.le_of_ble_eq_true rfl)⟩) hS (fun q _ h => hFc q h) hFc (fun r22 uu tt H locs htt hvm hw hB hz1 hk1 hS => ?_)
    obtain ⟨w23, rfl⟩ : ∃ z, z = uu := ⟨_, rfl⟩
    obtain ⟨hP1, hK1, hD1⟩ := hB
    rw [htt] at hP1
    have hK1 := va_K.moved hvm.symm hK1
    have hP1 : va_P D vwCl [(h0, .inr (11, gR a i g (nI cd) rf la ic (nI w23) (nI ns) (nI sp) (nI go))), (a 38, .inl (cm 38, 700, .inl fw))] H := hP1
    obtain ⟨hP, hD⟩ := va_join (wr := [(a 19, .inl (cm 19, 2000, .inl fc)), (a 40, .inl (cm 40, 6, .inl fq)), (a 41, .inl (cm 41, 6, .inl fx))]) (w1 := [(h0, .inr (11, gR a i g (nI cd) rf la ic (nI w23) (nI ns) (nI sp) (nI go))), (a 38, .inl (cm 38, 700, .inl fw))]) hP hD [0, 2] [1, 3, 4] rfl rfl (by decide) (by decide) hk1 hFc hP1 hD1
    have hP : va_P D vwCl [(a 19, .inl (cm 19, 2000, .inl fc)), (a 40, .inl (cm 40, 6, .inl fq)), (a 41, .inl (cm 41, 6, .inl fx)), (h0, .inr (11, gR a i g (nI cd) rf la ic (nI w23) (nI ns) (nI sp) (nI go))), (a 38, .inl (cm 38, 700, .inl fw))] H := hP
    have hD : va_D A [(a 19, .inl (cm 19, 2000, .inl fc)), (a 40, .inl (cm 40, 6, .inl fq)), (a 41, .inl (cm 41, 6, .inl fx)), (h0, .inr (11, gR a i g (nI cd) rf la ic (nI w23) (nI ns) (nI sp) (nI go))), (a 38, .inl (cm 38, 700, .inl fw))] := hD
    try dsimp only at hw
    clear hz1 hk1 hFc hPc hKc hDc
    rcases hw with ⟨rfl, hA_r22⟩ | ⟨rfl, hA_r22⟩
    ·
      refine lv_istore_n (lv' := [(3, .int 1), (2, .int (nI bh)), (0, .ref h0), (1, .int (nI kk))]) hx hb dX11_begins_48 rfl hl (by decide) rfl (fun ls hl => ?_)
      refine lv_aload_n hx hb dX11_begins_49 rfl (lv_at hl 2 rfl) ?_
      refine lv_iload_n hx hb dX11_begins_50 rfl (lv_at hl 0 rfl) ?_
      refine lv_if_eq (tgt := 60) hx hb dX11_begins_51 (by decide) (fun hc => absurd hc (by decide)) (fun hc => ?_)
      refine lv_iload_n hx hb dX11_begins_54 rfl (lv_at hl 3 rfl) ?_
      refine lv_iconst (v := 2) hx hb dX11_begins_55 (by decide) ?_
      refine lv_iadd hx hb dX11_begins_56 ?_
      refine lv_topi (fun v24 ev24 => ?_)
      obtain rfl : v24 = nI (kk + 2) := ev24.trans (nI_add _ 2)
      refine lv_goto (tgt := 61) hx hb dX11_begins_57 (by decide) ?_
      refine va_put (D := D) (ci := 11) (v := .int (nI (kk + 2))) (ty := .int) (C := RX11) (T := TX11) (N := 47) hx hb hts hin_X11 tyX11 tyX11_ok nmX11 hown hK hP hD hS 3 rfl rfl 44 (by decide) (hts (.fieldLink RX11 413 "ClashFreeModel" "goesOn" "I") (List.mem_of_getElem? (i := 2) rfl)) (fun _ h9 => h9) rfl (by decide +kernel) rfl rfl (Nat.le_of_ble_eq_true rfl) dX11_begins_61 (fun H locs hP hD hS => ?_)
      have hP : va_P D vwCl [(a 19, .inl (cm 19, 2000, .inl fc)), (a 40, .inl (cm 40, 6, .inl fq)), (a 41, .inl (cm 41, 6, .inl fx)), (h0, .inr (11, gR a i g (nI cd) rf la ic (nI w23) (nI ns) (nI sp) (nI (kk + 2)))), (a 38, .inl (cm 38, 700, .inl fw))] H := hP
      have hD : va_D A [(a 19, .inl (cm 19, 2000, .inl fc)), (a 40, .inl (cm 40, 6, .inl fq)), (a 41, .inl (cm 41, 6, .inl fx)), (h0, .inr (11, gR a i g (nI cd) rf la ic (nI w23) (nI ns) (nI sp) (nI (kk + 2)))), (a 38, .inl (cm 38, 700, .inl fw))] := hD
      refine lv_iload_n hx hb dX11_begins_64 rfl (lv_at hl 0 rfl) ?_
      refine lv_if_ne (tgt := 69) hx hb dX11_begins_65 (by decide) (fun hc => ?_) (fun hc => absurd hc (by decide))
      refine lv_aload_n hx hb dX11_begins_69 rfl (lv_at hl 2 rfl) ?_
      refine va_get (D := D) (ci := 11) (v := .ref (a 41)) (C := RX11) (T := TX11) (N := 47) hx hb hts hin_X11 hown hK hP 3 rfl rfl 41 (by decide) (hts (.fieldLink RX11 67 "ClashFreeModel" "blockOf" "[I") (List.mem_of_getElem? (i := 3) rfl)) (fun _ h9 => h9) rfl dX11_begins_70 ?_
      refine lv_aload_n hx hb dX11_begins_73 rfl (lv_at hl 2 rfl) ?_
      refine va_get (D := D) (ci := 11) (v := .int (nI ns)) (C := RX11) (T := TX11) (N := 47) hx hb hts hin_X11 hown hK hP 3 rfl rfl 42 (by decide) (hts (.fieldLink RX11 385 "ClashFreeModel" "inside" "I") (List.mem_of_getElem? (i := 4) rfl)) (fun _ h9 => h9) rfl dX11_begins_74 ?_
      refine lv_iload_n hx hb dX11_begins_77 rfl (lv_at hl 3 rfl) ?_
      refine va_iast hx hb hK hP hD hS 2 3 rfl rfl (vp_in_nI (by omega) (by decide)) dX11_begins_78 (fun H locs hP hD hS => ?_)
      have hP : va_P D vwCl [(a 19, .inl (cm 19, 2000, .inl fc)), (a 40, .inl (cm 40, 6, .inl fq)), (a 41, .inl (cm 41, 6, .inl (upd fx (Int32.toNatClampNeg (nI ns)) (nI kk)))), (h0, .inr (11, gR a i g (nI cd) rf la ic (nI w23) (nI ns) (nI sp) (nI (kk + 2)))), (a 38, .inl (cm 38, 700, .inl fw))] H := hP
      have hD : va_D A [(a 19, .inl (cm 19, 2000, .inl fc)), (a 40, .inl (cm 40, 6, .inl fq)), (a 41, .inl (cm 41, 6, .inl (upd fx (Int32.toNatClampNeg (nI ns)) (nI kk)))), (h0, .inr (11, gR a i g (nI cd) rf la ic (nI w23) (nI ns) (nI sp) (nI (kk + 2)))), (a 38, .inl (cm 38, 700, .inl fw))] := hD
      rw [show (upd fx (Int32.toNatClampNeg (nI ns)) (nI kk)) = (upd fx ns (nI kk)) from by rw [nI_clamp (by omega)]] at hP hD
      refine lv_aload_n hx hb dX11_begins_79 rfl (lv_at hl 2 rfl) ?_
      refine va_get (D := D) (ci := 11) (v := .ref (a 40)) (C := RX11) (T := TX11) (N := 47) hx hb hts hin_X11 hown hK hP 3 rfl rfl 40 (by decide) (hts (.fieldLink RX11 64 "ClashFreeModel" "roundOf" "[I") (List.mem_of_getElem? (i := 5) rfl)) (fun _ h9 => h9) rfl dX11_begins_80 ?_
      refine lv_aload_n hx hb dX11_begins_83 rfl (lv_at hl 2 rfl) ?_
      refine va_get (D := D) (ci := 11) (v := .int (nI ns)) (C := RX11) (T := TX11) (N := 47) hx hb hts hin_X11 hown hK hP 3 rfl rfl 42 (by decide) (hts (.fieldLink RX11 385 "ClashFreeModel" "inside" "I") (List.mem_of_getElem? (i := 4) rfl)) (fun _ h9 => h9) rfl dX11_begins_84 ?_
      refine lv_iconst (v := 0) hx hb dX11_begins_87 (by decide) ?_
      refine va_iast hx hb hK hP hD hS 1 2 rfl rfl (vp_in_nI (by omega) (by decide)) dX11_begins_88 (fun H locs hP hD hS => ?_)
      have hP : va_P D vwCl [(a 19, .inl (cm 19, 2000, .inl fc)), (a 40, .inl (cm 40, 6, .inl (upd fq (Int32.toNatClampNeg (nI ns)) 0))), (a 41, .inl (cm 41, 6, .inl (upd fx ns (nI kk)))), (h0, .inr (11, gR a i g (nI cd) rf la ic (nI w23) (nI ns) (nI sp) (nI (kk + 2)))), (a 38, .inl (cm 38, 700, .inl fw))] H := hP
      have hD : va_D A [(a 19, .inl (cm 19, 2000, .inl fc)), (a 40, .inl (cm 40, 6, .inl (upd fq (Int32.toNatClampNeg (nI ns)) 0))), (a 41, .inl (cm 41, 6, .inl (upd fx ns (nI kk)))), (h0, .inr (11, gR a i g (nI cd) rf la ic (nI w23) (nI ns) (nI sp) (nI (kk + 2)))), (a 38, .inl (cm 38, 700, .inl fw))] := hD
      rw [show (upd fq (Int32.toNatClampNeg (nI ns)) 0) = (upd fq ns 0) from by rw [nI_clamp (by omega)]] at hP hD
      refine lv_aload_n hx hb dX11_begins_89 rfl (lv_at hl 2 rfl) ?_
      refine lv_dup hx hb dX11_begins_90 rfl ?_
      refine va_get (D := D) (ci := 11) (v := .int (nI ns)) (C := RX11) (T := TX11) (N := 47) hx hb hts hin_X11 hown hK hP 3 rfl rfl 42 (by decide) (hts (.fieldLink RX11 385 "ClashFreeModel" "inside" "I") (List.mem_of_getElem? (i := 4) rfl)) (fun _ h9 => h9) rfl dX11_begins_91 ?_
      refine lv_iconst (v := 1) hx hb dX11_begins_94 (by decide) ?_
      refine lv_iadd hx hb dX11_begins_95 ?_
      refine lv_topi (fun v25 ev25 => ?_)
      obtain rfl : v25 = nI (ns + 1) := ev25.trans (nI_1 _)
      refine va_put (D := D) (ci := 11) (v := .int (nI (ns + 1))) (ty := .int) (C := RX11) (T := TX11) (N := 47) hx hb hts hin_X11 tyX11 tyX11_ok nmX11 hown hK hP hD hS 3 rfl rfl 42 (by decide) (hts (.fieldLink RX11 385 "ClashFreeModel" "inside" "I") (List.mem_of_getElem? (i := 4) rfl)) (fun _ h9 => h9) rfl (by decide +kernel) rfl rfl (Nat.le_of_ble_eq_true rfl) dX11_begins_96 (fun H locs hP hD hS => ?_)
      have hP : va_P D vwCl [(a 19, .inl (cm 19, 2000, .inl fc)), (a 40, .inl (cm 40, 6, .inl (upd fq ns 0))), (a 41, .inl (cm 41, 6, .inl (upd fx ns (nI kk)))), (h0, .inr (11, gR a i g (nI cd) rf la ic (nI w23) (nI (ns + 1)) (nI sp) (nI (kk + 2)))), (a 38, .inl (cm 38, 700, .inl fw))] H := hP
      have hD : va_D A [(a 19, .inl (cm 19, 2000, .inl fc)), (a 40, .inl (cm 40, 6, .inl (upd fq ns 0))), (a 41, .inl (cm 41, 6, .inl (upd fx ns (nI kk)))), (h0, .inr (11, gR a i g (nI cd) rf la ic (nI w23) (nI (ns + 1)) (nI sp) (nI (kk + 2)))), (a 38, .inl (cm 38, 700, .inl fw))] := hD
      refine lv_aload_n hx hb dX11_begins_99 rfl (lv_at hl 2 rfl) ?_
      refine va_get (D := D) (ci := 11) (v := .ref (a 19)) (C := RX11) (T := TX11) (N := 47) hx hb hts hin_X11 hown hK hP 3 rfl rfl 19 (by decide) (hts (.fieldLink RX11 45 "ClashFreeModel" "code" "[I") (List.mem_of_getElem? (i := 1) rfl)) (fun _ h9 => h9) rfl dX11_begins_100 ?_
      refine lv_iconst (v := 2) hx hb dX11_begins_103 (by decide) ?_
      refine lv_iload_n hx hb dX11_begins_104 rfl (lv_at hl 3 rfl) ?_
      refine lv_imul hx hb dX11_begins_105 ?_
      refine lv_topi (fun v26 ev26 => ?_)
      obtain rfl : v26 = nI (2 * kk) := ev26.trans (pk_mul 2 kk)
      refine va_iald hx hb hK hP 0 0 rfl rfl (vp_in_nI (by omega) (by decide)) dX11_begins_106 ?_
      refine lv_topi (fun v27 ev27 => ?_)
      obtain rfl : v27 = 5 := ev27.trans (by rw [nI_clamp (by omega)]; exact hfc)
      refine lv_iconst (v := 4) hx hb dX11_begins_107 (by decide) ?_
      refine lv_icmp_ne (tgt := 116) hx hb dX11_begins_108 (by decide) (fun hc => ?_) (fun hc => absurd hc (by decide))
      exact W.vret hx hb hr (fun t ht hW => ⟨⟨((upd fq ns 0), (upd fx ns (nI kk)), ic, w23, (ns + 1), sp, (kk + 2)), rfl, (by (try dsimp only); exact Or.inr ⟨by omega, rfl, rfl, by omega, by omega, BoS_up hBo hkk, rfl, rfl, Or.inr ⟨rfl, hA_r22.2, rfl, rfl⟩⟩), by rw [ht]; exact hP.sub [3, 0, 4, 1, 2] rfl, va_K.moved hW.alike (hK.sub [0, 1, 2, 3] rfl), hD.sub [3, 0, 4, 1, 2] (by decide) rfl⟩, hS.F ht⟩) hS.2.2 dX11_begins_116
    ·
      refine lv_istore_n (lv' := [(3, .int 0), (2, .int (nI bh)), (0, .ref h0), (1, .int (nI kk))]) hx hb dX11_begins_48 rfl hl (by decide) rfl (fun ls hl => ?_)
      refine lv_aload_n hx hb dX11_begins_49 rfl (lv_at hl 2 rfl) ?_
      refine lv_iload_n hx hb dX11_begins_50 rfl (lv_at hl 0 rfl) ?_
      refine lv_if_eq (tgt := 60) hx hb dX11_begins_51 (by decide) (fun hc => ?_) (fun hc => absurd (by decide) hc)
      refine lv_iload_n hx hb dX11_begins_60 rfl (lv_at hl 1 rfl) ?_
      refine va_put (D := D) (ci := 11) (v := .int (nI bh)) (ty := .int) (C := RX11) (T := TX11) (N := 47) hx hb hts hin_X11 tyX11 tyX11_ok nmX11 hown hK hP hD hS 3 rfl rfl 44 (by decide) (hts (.fieldLink RX11 413 "ClashFreeModel" "goesOn" "I") (List.mem_of_getElem? (i := 2) rfl)) (fun _ h9 => h9) rfl (by decide +kernel) rfl rfl (Nat.le_of_ble_eq_true rfl) dX11_begins_61 (fun H locs hP hD hS => ?_)
      have hP : va_P D vwCl [(a 19, .inl (cm 19, 2000, .inl fc)), (a 40, .inl (cm 40, 6, .inl fq)), (a 41, .inl (cm 41, 6, .inl fx)), (h0, .inr (11, gR a i g (nI cd) rf la ic (nI w23) (nI ns) (nI sp) (nI bh))), (a 38, .inl (cm 38, 700, .inl fw))] H := hP
      have hD : va_D A [(a 19, .inl (cm 19, 2000, .inl fc)), (a 40, .inl (cm 40, 6, .inl fq)), (a 41, .inl (cm 41, 6, .inl fx)), (h0, .inr (11, gR a i g (nI cd) rf la ic (nI w23) (nI ns) (nI sp) (nI bh))), (a 38, .inl (cm 38, 700, .inl fw))] := hD
      refine lv_iload_n hx hb dX11_begins_64 rfl (lv_at hl 0 rfl) ?_
      refine lv_if_ne (tgt := 69) hx hb dX11_begins_65 (by decide) (fun hc => absurd (by decide) hc) (fun hc => ?_)
      exact W.vret hx hb hr (fun t ht hW => ⟨⟨(fq, fx, ic, w23, ns, sp, bh), rfl, (by (try dsimp only); exact Or.inl ⟨by omega, rfl, rfl, rfl, rfl, hBo, rfl, rfl, Or.inr ⟨rfl, hA_r22.2⟩⟩), by rw [ht]; exact hP.sub [3, 0, 4, 1, 2] rfl, va_K.moved hW.alike (hK.sub [0, 1, 2, 3] rfl), hD.sub [3, 0, 4, 1, 2] (by decide) rfl⟩, hS.F ht⟩) hS.2.2 dX11_begins_68

def own_c_closes : List Cond := [.fieldLink RX11 45 "ClashFreeModel" "code" "[I", .fieldLink RX11 385 "ClashFreeModel" "inside" "I", .fieldLink RX11 413 "ClashFreeModel" "goesOn" "I", .fieldLink RX11 64 "ClashFreeModel" "roundOf" "[I", .methodLink RX11 416 yX11_isStep, .instanceMethod yX11_isStep, .selects RX11 yX11_isStep yX11_isStep, .initialized RX11]
def wp_c_closes : List Cond := .code yX11_closes cX11_closes 4 none :: (own_c_closes ++ (wp_c_isStep ++ (wsX110 ++ ([] : List Cond))))
set_option maxRecDepth 20000 in
theorem inown_c_closes : ∀ w ∈ own_c_closes, w ∈ lw_tbl := mem_places [1235, 1258, 1260, 1256, 1774, 1776, 98, 115] (by decide +kernel)
set_option maxRecDepth 20000 in
theorem in_c_closes : ∀ w ∈ wp_c_closes, w ∈ lw_tbl := List.forall_mem_cons.mpr ⟨List.mem_of_getElem? (i := 1781) (by decide +kernel), List.forall_mem_append.mpr ⟨inown_c_closes, List.forall_mem_append.mpr ⟨in_c_isStep, List.forall_mem_append.mpr ⟨lwb_X11, fun _ h => absurd h List.not_mem_nil⟩⟩⟩⟩
set_option maxRecDepth 20000 in
theorem good_c_closes : wp_c_closes.all goodWord = true := by decide +kernel
set_option maxRecDepth 20000 in
theorem g_c_closes_c_isStep_416 : GoodIn wp_c_closes (wsV RX11 416 RX11 yX11_isStep wp_c_isStep) := goodIn_sub (List.forall_mem_append.mpr ⟨List.forall_mem_cons.mpr ⟨(List.mem_of_getElem? (i := 5) rfl), List.forall_mem_cons.mpr ⟨(List.mem_of_getElem? (i := 6) rfl), List.forall_mem_cons.mpr ⟨(List.mem_of_getElem? (i := 7) rfl), List.forall_mem_cons.mpr ⟨(List.mem_of_getElem? (i := 8) rfl), fun _ h => absurd h List.not_mem_nil⟩⟩⟩⟩, (fun _ h => (List.mem_cons_of_mem _ (List.mem_append_right _ (List.mem_append_left _ h))))⟩) (by decide +kernel)
set_option maxHeartbeats 4000000 in
set_option maxRecDepth 100000 in
theorem c_closes (l : Launch) (D : va_G) (sz : Nat) (h0 : Nat) (a : Nat → Nat) (cm : Nat → ClassId) (i : Nat → Int32) (g : Nat → Int64) (fc : Nat → Int32) (fq : Nat → Int32) (cd : Nat) (rf : Int32) (la : Int32) (ic : Int32) (wm : Nat) (ns : Nat) (sp : Nat) (go : Nat) (kk : Nat) (fm : Nat) (hkk : kk ≤ 990) (hfc : fc (2 * kk + 1) = nI fm) (hfm : fm ≤ 990) (hn1 : 1 ≤ ns) (hn5 : ns ≤ 6) (hsp : sp ≤ 300) : Met l yX11_closes wp_c_closes ({ frames := 1, cells := 0, slots := 0, locals := 20 }) (PcW D [.ref h0, .int (nI kk)] sz [(h0, .inr (11, gR a i g (nI cd) rf la ic (nI wm) (nI ns) (nI sp) (nI go))), (a 19, .inl (cm 19, 2000, .inl fc)), (a 40, .inl (cm 40, 6, .inl fq))] [(cm 19, .int), (cm 40, .int)]) (va_Qv (fun (u : (Nat → Int32) × (Int32) × (Nat) × (Nat) × (Nat)) => (u.2.2.2.2 = kk + 1 ∧ u.2.2.1 + 1 = ns ∧ u.2.2.2.1 = sp ∧ u.2.1 = ic ∧ u.1 = fq ∧ ¬ (fc (2 * fm) = 4 ∧ fq (ns - 1) + 1 < fc (2 * fm + 1))) ∨ (u.2.2.2.2 = fm + 2 ∧ u.2.2.1 = ns ∧ ((u.2.1 = 0 ∧ u.2.2.2.1 = sp + 1 ∧ sp < 300) ∨ (u.2.1 = 1 ∧ u.2.2.2.1 = sp ∧ 300 ≤ sp)) ∧ u.1 = upd fq (ns - 1) (fq (ns - 1) + 1) ∧ (fc (2 * fm) = 4 ∧ fq (ns - 1) + 1 < fc (2 * fm + 1)))) (fun (u : (Nat → Int32) × (Int32) × (Nat) × (Nat) × (Nat)) t => va_P D vwCl [(h0, .inr (11, gR a i g (nI cd) rf la u.2.1 (nI wm) (nI u.2.2.1) (nI u.2.2.2.1) (nI u.2.2.2.2))), (a 19, .inl (cm 19, 2000, .inl fc)), (a 40, .inl (cm 40, 6, .inl u.1))] t.heap ∧ va_K D vwCl [(cm 19, .int), (cm 40, .int)] t ∧ va_D (va_A [(h0, .inr (11, gR a i g (nI cd) rf la ic (nI wm) (nI ns) (nI sp) (nI go))), (a 19, .inl (cm 19, 2000, .inl fc)), (a 40, .inl (cm 40, 6, .inl fq))] sz) [(h0, .inr (11, gR a i g (nI cd) rf la u.2.1 (nI wm) (nI u.2.2.1) (nI u.2.2.2.1) (nI u.2.2.2.2))), (a 19, .inl (cm 19, 2000, .inl fc)), (a 40, .inl (cm 40, 6, .inl u.1))]) (va_A [(h0, .inr (11, gR a i g (nI cd) rf la ic (nI wm) (nI ns) (nI sp) (nI go))), (a 19, .inl (cm 19, 2000, .inl fc)), (a 40, .inl (cm 40, 6, .inl fq))] sz)) 0 0 (va_A [(h0, .inr (11, gR a i g (nI cd) rf la ic (nI wm) (nI ns) (nI sp) (nI go))), (a 19, .inl (cm 19, 2000, .inl fc)), (a 40, .inl (cm 40, 6, .inl fq))] sz) := by
  refine Met.ofW (cc := cX11_closes) (maxL := 4) (ret := none) (by decide) rfl ?_
  intro p e s m args below meth c s₁ B hml hv
  obtain ⟨rfl, hsz, hP, hK, hD0⟩ := hv
  have hx := B.exec
  have hb := B.bytes
  have hr := B.returns
  have hts := atoms_spec (ws := wp_c_closes) B.pre
  have hin_X11 : ∀ w ∈ wsX110, w ∈ wp_c_closes := fun _ h => (List.mem_cons_of_mem _ (List.mem_append_right _ (List.mem_append_right _ (List.mem_append_left _ h))))
  have hown : s.vm.findClass RX11 = some m.cls := findClass_of_methodNamed B.named
  have hlocks := B.notSynchronized
  subst hsz
  have hD := hD0.self (sz := s.heap.size)
  generalize hAe : va_A [(h0, .inr (11, gR a i g (nI cd) rf la ic (nI wm) (nI ns) (nI sp) (nI go))), (a 19, .inl (cm 19, 2000, .inl fc)), (a 40, .inl (cm 40, 6, .inl fq))] s.heap.size = A at hD ⊢
  have hA : ∀ q : Nat, s.heap.size ≤ q → A q := fun q h => by rw [← hAe]; exact Or.inr h
  have hS : va_S A s.heap s.heap [] := va_S.rf
  have hP : va_P D vwCl [(h0, .inr (11, gR a i g (nI cd) rf la ic (nI wm) (nI ns) (nI sp) (nI go))), (a 19, .inl (cm 19, 2000, .inl fc)), (a 40, .inl (cm 40, 6, .inl fq))] s.heap := hP
  have hl := lv_entry ([.ref h0, .int (nI kk)]) (n := 4) (Nat.le_of_ble_eq_true rfl)
  rw [lg_entry_eq]
  generalize (lg_sl ([.ref h0, .int (nI kk)]) ++ List.replicate (4 - (lg_sl ([.ref h0, .int (nI kk)])).length) Slot.unset).toArray = ls at hl ⊢
  have hl : lv_has ls 4 [(0, .ref h0), (1, .int (nI kk))] := hl
  refine lv_aload_n hx hb dX11_closes_0 rfl (lv_at hl 0 rfl) ?_
  refine va_get (D := D) (ci := 11) (v := .ref (a 19)) (C := RX11) (T := TX11) (N := 47) hx hb hts hin_X11 hown hK hP 0 rfl rfl 19 (by decide) (hts (.fieldLink RX11 45 "ClashFreeModel" "code" "[I") (List.mem_of_getElem? (i := 1) rfl)) (fun _ h9 => h9) rfl dX11_closes_1 ?_
  refine lv_iconst (v := 2) hx hb dX11_closes_4 (by decide) ?_
  refine lv_iload_n hx hb dX11_closes_5 rfl (lv_at hl 1 rfl) ?_
  refine lv_imul hx hb dX11_closes_6 ?_
  refine lv_topi (fun v1 ev1 => ?_)
  obtain rfl : v1 = nI (2 * kk) := ev1.trans (pk_mul 2 kk)
  refine lv_iconst (v := 1) hx hb dX11_closes_7 (by decide) ?_
  refine lv_iadd hx hb dX11_closes_8 ?_
  refine lv_topi (fun v2 ev2 => ?_)
  obtain rfl : v2 = nI (2 * kk + 1) := ev2.trans (nI_1 _)
  refine va_iald hx hb hK hP 1 0 rfl rfl (vp_in_nI (by omega) (by decide)) dX11_closes_9 ?_
  refine lv_topi (fun v3 ev3 => ?_)
  obtain rfl : v3 = nI fm := ev3.trans (by rw [nI_clamp (by omega)]; exact hfc)
  refine lv_istore_n (lv' := [(2, .int (nI fm)), (0, .ref h0), (1, .int (nI kk))]) hx hb dX11_closes_10 rfl hl (by decide) rfl (fun ls hl => ?_)
  refine lv_aload_n hx hb dX11_closes_11 rfl (lv_at hl 1 rfl) ?_
  refine va_get (D := D) (ci := 11) (v := .int (nI ns)) (C := RX11) (T := TX11) (N := 47) hx hb hts hin_X11 hown hK hP 0 rfl rfl 42 (by decide) (hts (.fieldLink RX11 385 "ClashFreeModel" "inside" "I") (List.mem_of_getElem? (i := 2) rfl)) (fun _ h9 => h9) rfl dX11_closes_12 ?_
  refine lv_iconst (v := 1) hx hb dX11_closes_15 (by decide) ?_
  refine lv_isub hx hb dX11_closes_16 ?_
  refine lv_topi (fun v4 ev4 => ?_)
  obtain rfl : v4 = nI (ns - 1) := ev4.trans (pk_sub (b := 1) (by omega))
  refine lv_istore_n (lv' := [(3, .int (nI (ns - 1))), (2, .int (nI fm)), (0, .ref h0), (1, .int (nI kk))]) hx hb dX11_closes_17 rfl hl (by decide) rfl (fun ls hl => ?_)
  refine lv_aload_n hx hb dX11_closes_18 rfl (lv_at hl 2 rfl) ?_
  refine lv_iload_n hx hb dX11_closes_19 rfl (lv_at hl 3 rfl) ?_
  refine lv_iconst (v := 1) hx hb dX11_closes_20 (by decide) ?_
  refine lv_iadd hx hb dX11_closes_21 ?_
  refine lv_topi (fun v5 ev5 => ?_)
  obtain rfl : v5 = nI (kk + 1) := ev5.trans (nI_1 _)
  refine va_put (D := D) (ci := 11) (v := .int (nI (kk + 1))) (ty := .int) (C := RX11) (T := TX11) (N := 47) hx hb hts hin_X11 tyX11 tyX11_ok nmX11 hown hK hP hD hS 0 rfl rfl 44 (by decide) (hts (.fieldLink RX11 413 "ClashFreeModel" "goesOn" "I") (List.mem_of_getElem? (i := 3) rfl)) (fun _ h9 => h9) rfl (by decide +kernel) rfl rfl (Nat.le_of_ble_eq_true rfl) dX11_closes_22 (fun H locs hP hD hS => ?_)
  have hP : va_P D vwCl [(h0, .inr (11, gR a i g (nI cd) rf la ic (nI wm) (nI ns) (nI sp) (nI (kk + 1)))), (a 19, .inl (cm 19, 2000, .inl fc)), (a 40, .inl (cm 40, 6, .inl fq))] H := hP
  have hD : va_D A [(h0, .inr (11, gR a i g (nI cd) rf la ic (nI wm) (nI ns) (nI sp) (nI (kk + 1)))), (a 19, .inl (cm 19, 2000, .inl fc)), (a 40, .inl (cm 40, 6, .inl fq))] := hD
  refine lv_aload_n hx hb dX11_closes_25 rfl (lv_at hl 2 rfl) ?_
  refine va_get (D := D) (ci := 11) (v := .ref (a 19)) (C := RX11) (T := TX11) (N := 47) hx hb hts hin_X11 hown hK hP 0 rfl rfl 19 (by decide) (hts (.fieldLink RX11 45 "ClashFreeModel" "code" "[I") (List.mem_of_getElem? (i := 1) rfl)) (fun _ h9 => h9) rfl dX11_closes_26 ?_
  refine lv_iconst (v := 2) hx hb dX11_closes_29 (by decide) ?_
  refine lv_iload_n hx hb dX11_closes_30 rfl (lv_at hl 1 rfl) ?_
  refine lv_imul hx hb dX11_closes_31 ?_
  refine lv_topi (fun v6 ev6 => ?_)
  obtain rfl : v6 = nI (2 * fm) := ev6.trans (pk_mul 2 fm)
  refine va_iald hx hb hK hP 1 0 rfl rfl (vp_in_nI (by omega) (by decide)) dX11_closes_32 ?_
  refine lv_topi (fun v7 ev7 => ?_)
  obtain rfl : v7 = fc (2 * fm) := ev7.trans (by rw [nI_clamp (by omega)])
  refine lv_iconst (v := 4) hx hb dX11_closes_33 (by decide) ?_
  refine lv_icmp_ne (tgt := 83) hx hb dX11_closes_34 (by decide) (fun hc8 => ?_) (fun hc8 => ?_)
  ·
    refine lv_aload_n hx hb dX11_closes_83 rfl (lv_at hl 2 rfl) ?_
    refine lv_dup hx hb dX11_closes_84 rfl ?_
    refine va_get (D := D) (ci := 11) (v := .int (nI ns)) (C := RX11) (T := TX11) (N := 47) hx hb hts hin_X11 hown hK hP 0 rfl rfl 42 (by decide) (hts (.fieldLink RX11 385 "ClashFreeModel" "inside" "I") (List.mem_of_getElem? (i := 2) rfl)) (fun _ h9 => h9) rfl dX11_closes_85 ?_
    refine lv_iconst (v := 1) hx hb dX11_closes_88 (by decide) ?_
    refine lv_isub hx hb dX11_closes_89 ?_
    refine lv_topi (fun v9 ev9 => ?_)
    obtain rfl : v9 = nI (ns - 1) := ev9.trans (pk_sub (b := 1) (by omega))
    refine va_put (D := D) (ci := 11) (v := .int (nI (ns - 1))) (ty := .int) (C := RX11) (T := TX11) (N := 47) hx hb hts hin_X11 tyX11 tyX11_ok nmX11 hown hK hP hD hS 0 rfl rfl 42 (by decide) (hts (.fieldLink RX11 385 "ClashFreeModel" "inside" "I") (List.mem_of_getElem? (i := 2) rfl)) (fun _ h9 => h9) rfl (by decide +kernel) rfl rfl (Nat.le_of_ble_eq_true rfl) dX11_closes_90 (fun H locs hP hD hS => ?_)
    have hP : va_P D vwCl [(h0, .inr (11, gR a i g (nI cd) rf la ic (nI wm) (nI (ns - 1)) (nI sp) (nI (kk + 1)))), (a 19, .inl (cm 19, 2000, .inl fc)), (a 40, .inl (cm 40, 6, .inl fq))] H := hP
    have hD : va_D A [(h0, .inr (11, gR a i g (nI cd) rf la ic (nI wm) (nI (ns - 1)) (nI sp) (nI (kk + 1)))), (a 19, .inl (cm 19, 2000, .inl fc)), (a 40, .inl (cm 40, 6, .inl fq))] := hD
    exact W.vret hx hb hr (fun t ht hW => ⟨⟨(fq, ic, (ns - 1), sp, (kk + 1)), rfl, (by (try dsimp only); exact Or.inl ⟨rfl, by omega, rfl, rfl, rfl, fun q => hc8 q.1⟩), by rw [ht]; exact hP.sub [0, 1, 2] rfl, va_K.moved hW.alike (hK.sub [0, 1] rfl), hD.sub [0, 1, 2] (by decide) rfl⟩, hS.F ht⟩) hS.2.2 dX11_closes_93
  ·
    refine lv_aload_n hx hb dX11_closes_37 rfl (lv_at hl 2 rfl) ?_
    refine va_get (D := D) (ci := 11) (v := .ref (a 40)) (C := RX11) (T := TX11) (N := 47) hx hb hts hin_X11 hown hK hP 0 rfl rfl 40 (by decide) (hts (.fieldLink RX11 64 "ClashFreeModel" "roundOf" "[I") (List.mem_of_getElem? (i := 4) rfl)) (fun _ h9 => h9) rfl dX11_closes_38 ?_
    refine lv_iload_n hx hb dX11_closes_41 rfl (lv_at hl 0 rfl) ?_
    refine va_iald hx hb hK hP 2 1 rfl rfl (vp_in_nI (by omega) (by decide)) dX11_closes_42 ?_
    refine lv_topi (fun v10 ev10 => ?_)
    obtain rfl : v10 = fq (ns - 1) := ev10.trans (by rw [nI_clamp (by omega)])
    refine lv_iconst (v := 1) hx hb dX11_closes_43 (by decide) ?_
    refine lv_iadd hx hb dX11_closes_44 ?_
    refine lv_topi (fun v11 ev11 => ?_)
    obtain rfl : v11 = fq (ns - 1) + 1 := ev11.trans (rfl)
    refine lv_aload_n hx hb dX11_closes_45 rfl (lv_at hl 2 rfl) ?_
    refine va_get (D := D) (ci := 11) (v := .ref (a 19)) (C := RX11) (T := TX11) (N := 47) hx hb hts hin_X11 hown hK hP 0 rfl rfl 19 (by decide) (hts (.fieldLink RX11 45 "ClashFreeModel" "code" "[I") (List.mem_of_getElem? (i := 1) rfl)) (fun _ h9 => h9) rfl dX11_closes_46 ?_
    refine lv_iconst (v := 2) hx hb dX11_closes_49 (by decide) ?_
    refine lv_iload_n hx hb dX11_closes_50 rfl (lv_at hl 1 rfl) ?_
    refine lv_imul hx hb dX11_closes_51 ?_
    refine lv_topi (fun v12 ev12 => ?_)
    obtain rfl : v12 = nI (2 * fm) := ev12.trans (pk_mul 2 fm)
    refine lv_iconst (v := 1) hx hb dX11_closes_52 (by decide) ?_
    refine lv_iadd hx hb dX11_closes_53 ?_
    refine lv_topi (fun v13 ev13 => ?_)
    obtain rfl : v13 = nI (2 * fm + 1) := ev13.trans (nI_1 _)
    refine va_iald hx hb hK hP 1 0 rfl rfl (vp_in_nI (by omega) (by decide)) dX11_closes_54 ?_
    refine lv_topi (fun v14 ev14 => ?_)
    obtain rfl : v14 = fc (2 * fm + 1) := ev14.trans (by rw [nI_clamp (by omega)])
    refine lv_icmp_ge (tgt := 83) hx hb dX11_closes_55 (by decide) (fun hc15 => ?_) (fun hc15 => ?_)
    ·
      refine lv_aload_n hx hb dX11_closes_83 rfl (lv_at hl 2 rfl) ?_
      refine lv_dup hx hb dX11_closes_84 rfl ?_
      refine va_get (D := D) (ci := 11) (v := .int (nI ns)) (C := RX11) (T := TX11) (N := 47) hx hb hts hin_X11 hown hK hP 0 rfl rfl 42 (by decide) (hts (.fieldLink RX11 385 "ClashFreeModel" "inside" "I") (List.mem_of_getElem? (i := 2) rfl)) (fun _ h9 => h9) rfl dX11_closes_85 ?_
      refine lv_iconst (v := 1) hx hb dX11_closes_88 (by decide) ?_
      refine lv_isub hx hb dX11_closes_89 ?_
      refine lv_topi (fun v16 ev16 => ?_)
      obtain rfl : v16 = nI (ns - 1) := ev16.trans (pk_sub (b := 1) (by omega))
      refine va_put (D := D) (ci := 11) (v := .int (nI (ns - 1))) (ty := .int) (C := RX11) (T := TX11) (N := 47) hx hb hts hin_X11 tyX11 tyX11_ok nmX11 hown hK hP hD hS 0 rfl rfl 42 (by decide) (hts (.fieldLink RX11 385 "ClashFreeModel" "inside" "I") (List.mem_of_getElem? (i := 2) rfl)) (fun _ h9 => h9) rfl (by decide +kernel) rfl rfl (Nat.le_of_ble_eq_true rfl) dX11_closes_90 (fun H locs hP hD hS => ?_)
      have hP : va_P D vwCl [(h0, .inr (11, gR a i g (nI cd) rf la ic (nI wm) (nI (ns - 1)) (nI sp) (nI (kk + 1)))), (a 19, .inl (cm 19, 2000, .inl fc)), (a 40, .inl (cm 40, 6, .inl fq))] H := hP
      have hD : va_D A [(h0, .inr (11, gR a i g (nI cd) rf la ic (nI wm) (nI (ns - 1)) (nI sp) (nI (kk + 1)))), (a 19, .inl (cm 19, 2000, .inl fc)), (a 40, .inl (cm 40, 6, .inl fq))] := hD
      exact W.vret hx hb hr (fun t ht hW => ⟨⟨(fq, ic, (ns - 1), sp, (kk + 1)), rfl, (by (try dsimp only); exact Or.inl ⟨rfl, by omega, rfl, rfl, rfl, fun q => absurd q.2 (Int32.not_lt.mpr hc15)⟩), by rw [ht]; exact hP.sub [0, 1, 2] rfl, va_K.moved hW.alike (hK.sub [0, 1] rfl), hD.sub [0, 1, 2] (by decide) rfl⟩, hS.F ht⟩) hS.2.2 dX11_closes_93
    ·
      refine lv_aload_n hx hb dX11_closes_58 rfl (lv_at hl 2 rfl) ?_
      refine va_get (D := D) (ci := 11) (v := .ref (a 40)) (C := RX11) (T := TX11) (N := 47) hx hb hts hin_X11 hown hK hP 0 rfl rfl 40 (by decide) (hts (.fieldLink RX11 64 "ClashFreeModel" "roundOf" "[I") (List.mem_of_getElem? (i := 4) rfl)) (fun _ h9 => h9) rfl dX11_closes_59 ?_
      refine lv_iload_n hx hb dX11_closes_62 rfl (lv_at hl 0 rfl) ?_
      refine lv_dup2_11 hx hb dX11_closes_63 rfl rfl ?_
      refine va_iald hx hb hK hP 2 1 rfl rfl (vp_in_nI (by omega) (by decide)) dX11_closes_64 ?_
      refine lv_topi (fun v17 ev17 => ?_)
      obtain rfl : v17 = fq (ns - 1) := ev17.trans (by rw [nI_clamp (by omega)])
      refine lv_iconst (v := 1) hx hb dX11_closes_65 (by decide) ?_
      refine lv_iadd hx hb dX11_closes_66 ?_
      refine lv_topi (fun v18 ev18 => ?_)
      obtain rfl : v18 = fq (ns - 1) + 1 := ev18.trans (rfl)
      refine va_iast hx hb hK hP hD hS 2 1 rfl rfl (vp_in_nI (by omega) (by decide)) dX11_closes_67 (fun H locs hP hD hS => ?_)
      have hP : va_P D vwCl [(h0, .inr (11, gR a i g (nI cd) rf la ic (nI wm) (nI ns) (nI sp) (nI (kk + 1)))), (a 19, .inl (cm 19, 2000, .inl fc)), (a 40, .inl (cm 40, 6, .inl (upd fq (Int32.toNatClampNeg (nI (ns - 1))) (fq (ns - 1) + 1))))] H := hP
      have hD : va_D A [(h0, .inr (11, gR a i g (nI cd) rf la ic (nI wm) (nI ns) (nI sp) (nI (kk + 1)))), (a 19, .inl (cm 19, 2000, .inl fc)), (a 40, .inl (cm 40, 6, .inl (upd fq (Int32.toNatClampNeg (nI (ns - 1))) (fq (ns - 1) + 1))))] := hD
      rw [show (upd fq (Int32.toNatClampNeg (nI (ns - 1))) (fq (ns - 1) + 1)) = (upd fq (ns - 1) (fq (ns - 1) + 1)) from by rw [nI_clamp (by omega)]] at hP hD
      refine lv_aload_n hx hb dX11_closes_68 rfl (lv_at hl 2 rfl) ?_
      refine lv_iload_n hx hb dX11_closes_69 rfl (lv_at hl 1 rfl) ?_
      refine lv_iconst (v := 2) hx hb dX11_closes_70 (by decide) ?_
      refine lv_iadd hx hb dX11_closes_71 ?_
      refine lv_topi (fun v19 ev19 => ?_)
      obtain rfl : v19 = nI (fm + 2) := ev19.trans (nI_add _ 2)
      refine va_put (D := D) (ci := 11) (v := .int (nI (fm + 2))) (ty := .int) (C := RX11) (T := TX11) (N := 47) hx hb hts hin_X11 tyX11 tyX11_ok nmX11 hown hK hP hD hS 0 rfl rfl 44 (by decide) (hts (.fieldLink RX11 413 "ClashFreeModel" "goesOn" "I") (List.mem_of_getElem? (i := 3) rfl)) (fun _ h9 => h9) rfl (by decide +kernel) rfl rfl (Nat.le_of_ble_eq_true rfl) dX11_closes_72 (fun H locs hP hD hS => ?_)
      have hP : va_P D vwCl [(h0, .inr (11, gR a i g (nI cd) rf la ic (nI wm) (nI ns) (nI sp) (nI (fm + 2)))), (a 19, .inl (cm 19, 2000, .inl fc)), (a 40, .inl (cm 40, 6, .inl (upd fq (ns - 1) (fq (ns - 1) + 1))))] H := hP
      have hD : va_D A [(h0, .inr (11, gR a i g (nI cd) rf la ic (nI wm) (nI ns) (nI sp) (nI (fm + 2)))), (a 19, .inl (cm 19, 2000, .inl fc)), (a 40, .inl (cm 40, 6, .inl (upd fq (ns - 1) (fq (ns - 1) + 1))))] := hD
      refine lv_aload_n hx hb dX11_closes_75 rfl (lv_at hl 2 rfl) ?_
      have hPc := hP.sub (ws' := [(h0, .inr (11, gR a i g (nI cd) rf la ic (nI wm) (nI ns) (nI sp) (nI (fm + 2))))]) [0] rfl
      have hKc := hK.sub (tys' := []) [] rfl
      have hDc := hD.sub (ws' := [(h0, .inr (11, gR a i g (nI cd) rf la ic (nI wm) (nI ns) (nI sp) (nI (fm + 2))))]) [0] (by decide) rfl
      have hFc := va_free (wc := [(h0, .inr (11, gR a i g (nI cd) rf la ic (nI wm) (nI ns) (nI sp) (nI (fm + 2))))]) hD hS hA [0] rfl
      refine va_calli (va_runV (As := []) (rest := []) ⟨hx, hb, hml, hown, hts⟩ (c_isStep l D _ h0 a cm i g cd rf la ic wm ns sp (fm + 2) (by first | assumption | omega)) (cwV 0 hts g_c_closes_c_isStep_416 rfl rfl rfl (by decide +kernel) ⟨(Nat.le_of_ble_eq_true rfl), (Nat.le_of_ble_eq_true rfl)⟩) (PcW_V (q0 := 0) hPc hKc hDc rfl rfl) rfl rfl hl.1 rfl (lv_room (Nat.le_of_ble_eq_true rfl)) dX11_closes_76 ⟨(Nat.le_of_ble_eq_true rfl), (Nat.le_of_ble_eq_true rfl)⟩) hS (fun q _ h => hFc q h) hFc (fun r20 uu tt H locs htt hvm hw hB hz1 hk1 hS => ?_)
      obtain ⟨w21, w22⟩ := uu
      obtain ⟨hP1, hK1, hD1⟩ := hB
      rw [htt] at hP1
      have hK1 := va_K.moved hvm.symm hK1
      have hP1 : va_P D vwCl [(h0, .inr (11, gR a i g (nI cd) rf la w21 (nI wm) (nI ns) (nI w22) (nI (fm + 2))))] H := hP1
      obtain ⟨hP, hD⟩ := va_join (wr := [(a 19, .inl (cm 19, 2000, .inl fc)), (a 40, .inl (cm 40, 6, .inl (upd fq (ns - 1) (fq (ns - 1) + 1))))]) (w1 := [(h0, .inr (11, gR a i g (nI cd) rf la w21 (nI wm) (nI ns) (nI w22) (nI (fm + 2))))]) hP hD [0] [1, 2] rfl rfl (by decide) (by decide) hk1 hFc hP1 hD1
      have hP : va_P D vwCl [(a 19, .inl (cm 19, 2000, .inl fc)), (a 40, .inl (cm 40, 6, .inl (upd fq (ns - 1) (fq (ns - 1) + 1)))), (h0, .inr (11, gR a i g (nI cd) rf la w21 (nI wm) (nI ns) (nI w22) (nI (fm + 2))))] H := hP
      have hD : va_D A [(a 19, .inl (cm 19, 2000, .inl fc)), (a 40, .inl (cm 40, 6, .inl (upd fq (ns - 1) (fq (ns - 1) + 1)))), (h0, .inr (11, gR a i g (nI cd) rf la w21 (nI wm) (nI ns) (nI w22) (nI (fm + 2))))] := hD
      try dsimp only at hw
      clear hz1 hk1 hFc hPc hKc hDc
      rcases hw with ⟨rfl, hA_r20⟩ | ⟨rfl, hA_r20⟩
      ·
        obtain ⟨rfl, rfl, hA_r20_s⟩ := hA_r20
        have hP : va_P D vwCl [(a 19, .inl (cm 19, 2000, .inl fc)), (a 40, .inl (cm 40, 6, .inl (upd fq (ns - 1) (fq (ns - 1) + 1)))), (h0, .inr (11, gR a i g (nI cd) rf la 0 (nI wm) (nI ns) (nI (sp + 1)) (nI (fm + 2))))] H := hP
        have hD : va_D A [(a 19, .inl (cm 19, 2000, .inl fc)), (a 40, .inl (cm 40, 6, .inl (upd fq (ns - 1) (fq (ns - 1) + 1)))), (h0, .inr (11, gR a i g (nI cd) rf la 0 (nI wm) (nI ns) (nI (sp + 1)) (nI (fm + 2))))] := hD
        refine lv_pop hx hb dX11_closes_79 rfl ?_
        refine lv_goto (tgt := 93) hx hb dX11_closes_80 (by decide) ?_
        exact W.vret hx hb hr (fun t ht hW => ⟨⟨((upd fq (ns - 1) (fq (ns - 1) + 1)), 0, ns, (sp + 1), (fm + 2)), rfl, (by (try dsimp only); exact Or.inr ⟨rfl, rfl, Or.inl ⟨rfl, rfl, hA_r20_s⟩, rfl, hc8, Int32.not_le.mp hc15⟩), by rw [ht]; exact hP.sub [2, 0, 1] rfl, va_K.moved hW.alike (hK.sub [0, 1] rfl), hD.sub [2, 0, 1] (by decide) rfl⟩, hS.F ht⟩) hS.2.2 dX11_closes_93
      ·
        obtain ⟨rfl, hA_r20_e, hA_r20_g⟩ := hA_r20
        obtain rfl := hA_r20_e.symm
        have hP : va_P D vwCl [(a 19, .inl (cm 19, 2000, .inl fc)), (a 40, .inl (cm 40, 6, .inl (upd fq (ns - 1) (fq (ns - 1) + 1)))), (h0, .inr (11, gR a i g (nI cd) rf la 1 (nI wm) (nI ns) (nI sp) (nI (fm + 2))))] H := hP
        have hD : va_D A [(a 19, .inl (cm 19, 2000, .inl fc)), (a 40, .inl (cm 40, 6, .inl (upd fq (ns - 1) (fq (ns - 1) + 1)))), (h0, .inr (11, gR a i g (nI cd) rf la 1 (nI wm) (nI ns) (nI sp) (nI (fm + 2))))] := hD
        refine lv_pop hx hb dX11_closes_79 rfl ?_
        refine lv_goto (tgt := 93) hx hb dX11_closes_80 (by decide) ?_
        exact W.vret hx hb hr (fun t ht hW => ⟨⟨((upd fq (ns - 1) (fq (ns - 1) + 1)), 1, ns, sp, (fm + 2)), rfl, (by (try dsimp only); exact Or.inr ⟨rfl, rfl, Or.inr ⟨rfl, rfl, hA_r20_g⟩, rfl, hc8, Int32.not_le.mp hc15⟩), by rw [ht]; exact hP.sub [2, 0, 1] rfl, va_K.moved hW.alike (hK.sub [0, 1] rfl), hD.sub [2, 0, 1] (by decide) rfl⟩, hS.F ht⟩) hS.2.2 dX11_closes_93

