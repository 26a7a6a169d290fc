theorem dX11_roundNow_0 : decode cX11_roundNow 0 = .ok (.aload_n 0, 1) := by decide +kernel
theorem dX11_roundNow_1 : decode cX11_roundNow 1 = .ok (.getfield 385, 3) := by decide +kernel
theorem dX11_roundNow_4 : decode cX11_roundNow 4 = .ok (.iconst 1, 1) := by decide +kernel
theorem dX11_roundNow_5 : decode cX11_roundNow 5 = .ok (.isub, 1) := by decide +kernel
theorem dX11_roundNow_6 : decode cX11_roundNow 6 = .ok (.istore_n 1, 1) := by decide +kernel
theorem dX11_roundNow_7 : decode cX11_roundNow 7 = .ok (.iload_n 1, 1) := by decide +kernel
theorem dX11_roundNow_8 : decode cX11_roundNow 8 = .ok (.ifCond .lt 33, 3) := by decide +kernel
theorem dX11_roundNow_11 : decode cX11_roundNow 11 = .ok (.aload_n 0, 1) := by decide +kernel
theorem dX11_roundNow_12 : decode cX11_roundNow 12 = .ok (.getfield 45, 3) := by decide +kernel
theorem dX11_roundNow_15 : decode cX11_roundNow 15 = .ok (.iconst 2, 1) := by decide +kernel
theorem dX11_roundNow_16 : decode cX11_roundNow 16 = .ok (.aload_n 0, 1) := by decide +kernel
theorem dX11_roundNow_17 : decode cX11_roundNow 17 = .ok (.getfield 67, 3) := by decide +kernel
theorem dX11_roundNow_20 : decode cX11_roundNow 20 = .ok (.iload_n 1, 1) := by decide +kernel
theorem dX11_roundNow_21 : decode cX11_roundNow 21 = .ok (.iaload, 1) := by decide +kernel
theorem dX11_roundNow_22 : decode cX11_roundNow 22 = .ok (.imul, 1) := by decide +kernel
theorem dX11_roundNow_23 : decode cX11_roundNow 23 = .ok (.iaload, 1) := by decide +kernel
theorem dX11_roundNow_24 : decode cX11_roundNow 24 = .ok (.iconst 4, 1) := by decide +kernel
theorem dX11_roundNow_25 : decode cX11_roundNow 25 = .ok (.if_icmp .ne 10, 3) := by decide +kernel
theorem dX11_roundNow_28 : decode cX11_roundNow 28 = .ok (.aload_n 0, 1) := by decide +kernel
theorem dX11_roundNow_29 : decode cX11_roundNow 29 = .ok (.getfield 64, 3) := by decide +kernel
theorem dX11_roundNow_32 : decode cX11_roundNow 32 = .ok (.iload_n 1, 1) := by decide +kernel
theorem dX11_roundNow_33 : decode cX11_roundNow 33 = .ok (.iaload, 1) := by decide +kernel
theorem dX11_roundNow_34 : decode cX11_roundNow 34 = .ok (.ireturn, 1) := by decide +kernel
theorem dX11_roundNow_35 : decode cX11_roundNow 35 = .ok (.iinc 1 (-1), 3) := by decide +kernel
theorem dX11_roundNow_38 : decode cX11_roundNow 38 = .ok (.goto (-31), 3) := by decide +kernel
theorem dX11_roundNow_41 : decode cX11_roundNow 41 = .ok (.iconst 0, 1) := by decide +kernel
theorem dX11_roundNow_42 : decode cX11_roundNow 42 = .ok (.ireturn, 1) := by decide +kernel
theorem dX11_joined_0 : decode cX11_joined 0 = .ok (.iload_n 0, 1) := by decide +kernel
theorem dX11_joined_1 : decode cX11_joined 1 = .ok (.tableswitch 55 13 16 #[31, 35, 39, 43], 31) := by decide +kernel
theorem dX11_joined_32 : decode cX11_joined 32 = .ok (.iload_n 1, 1) := by decide +kernel
theorem dX11_joined_33 : decode cX11_joined 33 = .ok (.iload_n 2, 1) := by decide +kernel
theorem dX11_joined_34 : decode cX11_joined 34 = .ok (.iadd, 1) := by decide +kernel
theorem dX11_joined_35 : decode cX11_joined 35 = .ok (.ireturn, 1) := by decide +kernel
theorem dX11_joined_36 : decode cX11_joined 36 = .ok (.iload_n 1, 1) := by decide +kernel
theorem dX11_joined_37 : decode cX11_joined 37 = .ok (.iload_n 2, 1) := by decide +kernel
theorem dX11_joined_38 : decode cX11_joined 38 = .ok (.isub, 1) := by decide +kernel
theorem dX11_joined_39 : decode cX11_joined 39 = .ok (.ireturn, 1) := by decide +kernel
theorem dX11_joined_40 : decode cX11_joined 40 = .ok (.iload_n 1, 1) := by decide +kernel
theorem dX11_joined_41 : decode cX11_joined 41 = .ok (.iload_n 2, 1) := by decide +kernel
theorem dX11_joined_42 : decode cX11_joined 42 = .ok (.imul, 1) := by decide +kernel
theorem dX11_joined_43 : decode cX11_joined 43 = .ok (.ireturn, 1) := by decide +kernel
theorem dX11_joined_44 : decode cX11_joined 44 = .ok (.iload_n 2, 1) := by decide +kernel
theorem dX11_joined_45 : decode cX11_joined 45 = .ok (.ifCond .ne 7, 3) := by decide +kernel
theorem dX11_joined_48 : decode cX11_joined 48 = .ok (.iconst 0, 1) := by decide +kernel
theorem dX11_joined_49 : decode cX11_joined 49 = .ok (.goto 6, 3) := by decide +kernel
theorem dX11_joined_52 : decode cX11_joined 52 = .ok (.iload_n 1, 1) := by decide +kernel
theorem dX11_joined_53 : decode cX11_joined 53 = .ok (.iload_n 2, 1) := by decide +kernel
theorem dX11_joined_54 : decode cX11_joined 54 = .ok (.idiv, 1) := by decide +kernel
theorem dX11_joined_55 : decode cX11_joined 55 = .ok (.ireturn, 1) := by decide +kernel
theorem dX11_joined_56 : decode cX11_joined 56 = .ok (.iload_n 2, 1) := by decide +kernel
theorem dX11_joined_57 : decode cX11_joined 57 = .ok (.ifCond .ne 7, 3) := by decide +kernel
theorem dX11_joined_60 : decode cX11_joined 60 = .ok (.iconst 0, 1) := by decide +kernel
theorem dX11_joined_61 : decode cX11_joined 61 = .ok (.goto 6, 3) := by decide +kernel
theorem dX11_joined_64 : decode cX11_joined 64 = .ok (.iload_n 1, 1) := by decide +kernel
theorem dX11_joined_65 : decode cX11_joined 65 = .ok (.iload_n 2, 1) := by decide +kernel
theorem dX11_joined_66 : decode cX11_joined 66 = .ok (.irem, 1) := by decide +kernel
theorem dX11_joined_67 : decode cX11_joined 67 = .ok (.ireturn, 1) := by decide +kernel
theorem dX11_worksOn_0 : decode cX11_worksOn 0 = .ok (.iload_n 1, 1) := by decide +kernel
theorem dX11_worksOn_1 : decode cX11_worksOn 1 = .ok (.bipush 13, 2) := by decide +kernel
theorem dX11_worksOn_3 : decode cX11_worksOn 3 = .ok (.if_icmp .ge 50, 3) := by decide +kernel
theorem dX11_worksOn_6 : decode cX11_worksOn 6 = .ok (.aload_n 0, 1) := by decide +kernel
theorem dX11_worksOn_7 : decode cX11_worksOn 7 = .ok (.getfield 61, 3) := by decide +kernel
theorem dX11_worksOn_10 : decode cX11_worksOn 10 = .ok (.aload_n 0, 1) := by decide +kernel
theorem dX11_worksOn_11 : decode cX11_worksOn 11 = .ok (.getfield 388, 3) := by decide +kernel
theorem dX11_worksOn_14 : decode cX11_worksOn 14 = .ok (.iload_n 1, 1) := by decide +kernel
theorem dX11_worksOn_15 : decode cX11_worksOn 15 = .ok (.bipush 10, 2) := by decide +kernel
theorem dX11_worksOn_17 : decode cX11_worksOn 17 = .ok (.if_icmp .ne 7, 3) := by decide +kernel
theorem dX11_worksOn_20 : decode cX11_worksOn 20 = .ok (.iload_n 2, 1) := by decide +kernel
theorem dX11_worksOn_21 : decode cX11_worksOn 21 = .ok (.goto 20, 3) := by decide +kernel
theorem dX11_worksOn_24 : decode cX11_worksOn 24 = .ok (.iload_n 1, 1) := by decide +kernel
theorem dX11_worksOn_25 : decode cX11_worksOn 25 = .ok (.bipush 11, 2) := by decide +kernel
theorem dX11_worksOn_27 : decode cX11_worksOn 27 = .ok (.if_icmp .ne 10, 3) := by decide +kernel
theorem dX11_worksOn_30 : decode cX11_worksOn 30 = .ok (.aload_n 0, 1) := by decide +kernel
theorem dX11_worksOn_31 : decode cX11_worksOn 31 = .ok (.invokevirtual 391, 3) := by decide +kernel
theorem dX11_worksOn_34 : decode cX11_worksOn 34 = .ok (.goto 7, 3) := by decide +kernel
theorem dX11_worksOn_37 : decode cX11_worksOn 37 = .ok (.aload_n 0, 1) := by decide +kernel
theorem dX11_worksOn_38 : decode cX11_worksOn 38 = .ok (.getfield 394, 3) := by decide +kernel
theorem dX11_worksOn_41 : decode cX11_worksOn 41 = .ok (.iastore, 1) := by decide +kernel
theorem dX11_worksOn_42 : decode cX11_worksOn 42 = .ok (.aload_n 0, 1) := by decide +kernel
theorem dX11_worksOn_43 : decode cX11_worksOn 43 = .ok (.dup, 1) := by decide +kernel
theorem dX11_worksOn_44 : decode cX11_worksOn 44 = .ok (.getfield 388, 3) := by decide +kernel
theorem dX11_worksOn_47 : decode cX11_worksOn 47 = .ok (.iconst 1, 1) := by decide +kernel
theorem dX11_worksOn_48 : decode cX11_worksOn 48 = .ok (.iadd, 1) := by decide +kernel
theorem dX11_worksOn_49 : decode cX11_worksOn 49 = .ok (.putfield 388, 3) := by decide +kernel
theorem dX11_worksOn_52 : decode cX11_worksOn 52 = .ok (.return_, 1) := by decide +kernel
theorem dX11_worksOn_53 : decode cX11_worksOn 53 = .ok (.aload_n 0, 1) := by decide +kernel
theorem dX11_worksOn_54 : decode cX11_worksOn 54 = .ok (.dup, 1) := by decide +kernel
theorem dX11_worksOn_55 : decode cX11_worksOn 55 = .ok (.getfield 388, 3) := by decide +kernel
theorem dX11_worksOn_58 : decode cX11_worksOn 58 = .ok (.iconst 1, 1) := by decide +kernel
theorem dX11_worksOn_59 : decode cX11_worksOn 59 = .ok (.isub, 1) := by decide +kernel
theorem dX11_worksOn_60 : decode cX11_worksOn 60 = .ok (.putfield 388, 3) := by decide +kernel
theorem dX11_worksOn_63 : decode cX11_worksOn 63 = .ok (.aload_n 0, 1) := by decide +kernel
theorem dX11_worksOn_64 : decode cX11_worksOn 64 = .ok (.getfield 61, 3) := by decide +kernel
theorem dX11_worksOn_67 : decode cX11_worksOn 67 = .ok (.aload_n 0, 1) := by decide +kernel
theorem dX11_worksOn_68 : decode cX11_worksOn 68 = .ok (.getfield 388, 3) := by decide +kernel
theorem dX11_worksOn_71 : decode cX11_worksOn 71 = .ok (.iconst 1, 1) := by decide +kernel
theorem dX11_worksOn_72 : decode cX11_worksOn 72 = .ok (.isub, 1) := by decide +kernel
theorem dX11_worksOn_73 : decode cX11_worksOn 73 = .ok (.iload_n 1, 1) := by decide +kernel
theorem dX11_worksOn_74 : decode cX11_worksOn 74 = .ok (.aload_n 0, 1) := by decide +kernel
theorem dX11_worksOn_75 : decode cX11_worksOn 75 = .ok (.getfield 61, 3) := by decide +kernel
theorem dX11_worksOn_78 : decode cX11_worksOn 78 = .ok (.aload_n 0, 1) := by decide +kernel
theorem dX11_worksOn_79 : decode cX11_worksOn 79 = .ok (.getfield 388, 3) := by decide +kernel
theorem dX11_worksOn_82 : decode cX11_worksOn 82 = .ok (.iconst 1, 1) := by decide +kernel
theorem dX11_worksOn_83 : decode cX11_worksOn 83 = .ok (.isub, 1) := by decide +kernel
theorem dX11_worksOn_84 : decode cX11_worksOn 84 = .ok (.iaload, 1) := by decide +kernel
theorem dX11_worksOn_85 : decode cX11_worksOn 85 = .ok (.aload_n 0, 1) := by decide +kernel
theorem dX11_worksOn_86 : decode cX11_worksOn 86 = .ok (.getfield 61, 3) := by decide +kernel
theorem dX11_worksOn_89 : decode cX11_worksOn 89 = .ok (.aload_n 0, 1) := by decide +kernel
theorem dX11_worksOn_90 : decode cX11_worksOn 90 = .ok (.getfield 388, 3) := by decide +kernel
theorem dX11_worksOn_93 : decode cX11_worksOn 93 = .ok (.iaload, 1) := by decide +kernel
theorem dX11_worksOn_94 : decode cX11_worksOn 94 = .ok (.invokestatic 397, 3) := by decide +kernel
theorem dX11_worksOn_97 : decode cX11_worksOn 97 = .ok (.iastore, 1) := by decide +kernel
theorem dX11_worksOn_98 : decode cX11_worksOn 98 = .ok (.return_, 1) := by decide +kernel
theorem dX11_isStep_0 : decode cX11_isStep 0 = .ok (.aload_n 0, 1) := by decide +kernel
theorem dX11_isStep_1 : decode cX11_isStep 1 = .ok (.aload_n 0, 1) := by decide +kernel
theorem dX11_isStep_2 : decode cX11_isStep 2 = .ok (.getfield 400, 3) := by decide +kernel
theorem dX11_isStep_5 : decode cX11_isStep 5 = .ok (.sipush 300, 3) := by decide +kernel
theorem dX11_isStep_8 : decode cX11_isStep 8 = .ok (.if_icmp .ne 7, 3) := by decide +kernel
theorem dX11_isStep_11 : decode cX11_isStep 11 = .ok (.iconst 1, 1) := by decide +kernel
theorem dX11_isStep_12 : decode cX11_isStep 12 = .ok (.goto 4, 3) := by decide +kernel
theorem dX11_isStep_15 : decode cX11_isStep 15 = .ok (.iconst 0, 1) := by decide +kernel
theorem dX11_isStep_16 : decode cX11_isStep 16 = .ok (.putfield 403, 3) := by decide +kernel
theorem dX11_isStep_19 : decode cX11_isStep 19 = .ok (.aload_n 0, 1) := by decide +kernel
theorem dX11_isStep_20 : decode cX11_isStep 20 = .ok (.getfield 403, 3) := by decide +kernel
theorem dX11_isStep_23 : decode cX11_isStep 23 = .ok (.ifCond .ne 13, 3) := by decide +kernel
theorem dX11_isStep_26 : decode cX11_isStep 26 = .ok (.aload_n 0, 1) := by decide +kernel
theorem dX11_isStep_27 : decode cX11_isStep 27 = .ok (.dup, 1) := by decide +kernel
theorem dX11_isStep_28 : decode cX11_isStep 28 = .ok (.getfield 400, 3) := by decide +kernel
theorem dX11_isStep_31 : decode cX11_isStep 31 = .ok (.iconst 1, 1) := by decide +kernel
theorem dX11_isStep_32 : decode cX11_isStep 32 = .ok (.iadd, 1) := by decide +kernel
theorem dX11_isStep_33 : decode cX11_isStep 33 = .ok (.putfield 400, 3) := by decide +kernel
theorem dX11_isStep_36 : decode cX11_isStep 36 = .ok (.aload_n 0, 1) := by decide +kernel
theorem dX11_isStep_37 : decode cX11_isStep 37 = .ok (.getfield 403, 3) := by decide +kernel
theorem dX11_isStep_40 : decode cX11_isStep 40 = .ok (.ifCond .ne 7, 3) := by decide +kernel
theorem dX11_isStep_43 : decode cX11_isStep 43 = .ok (.iconst 1, 1) := by decide +kernel
theorem dX11_isStep_44 : decode cX11_isStep 44 = .ok (.goto 4, 3) := by decide +kernel
theorem dX11_isStep_47 : decode cX11_isStep 47 = .ok (.iconst 0, 1) := by decide +kernel
theorem dX11_isStep_48 : decode cX11_isStep 48 = .ok (.ireturn, 1) := by decide +kernel
theorem dX11_isAbove_0 : decode cX11_isAbove 0 = .ok (.aload_n 0, 1) := by decide +kernel
theorem dX11_isAbove_1 : decode cX11_isAbove 1 = .ok (.dup, 1) := by decide +kernel
theorem dX11_isAbove_2 : decode cX11_isAbove 2 = .ok (.getfield 388, 3) := by decide +kernel
theorem dX11_isAbove_5 : decode cX11_isAbove 5 = .ok (.iconst 1, 1) := by decide +kernel
theorem dX11_isAbove_6 : decode cX11_isAbove 6 = .ok (.isub, 1) := by decide +kernel
theorem dX11_isAbove_7 : decode cX11_isAbove 7 = .ok (.putfield 388, 3) := by decide +kernel
theorem dX11_isAbove_10 : decode cX11_isAbove 10 = .ok (.aload_n 0, 1) := by decide +kernel
theorem dX11_isAbove_11 : decode cX11_isAbove 11 = .ok (.getfield 61, 3) := by decide +kernel
theorem dX11_isAbove_14 : decode cX11_isAbove 14 = .ok (.aload_n 0, 1) := by decide +kernel
theorem dX11_isAbove_15 : decode cX11_isAbove 15 = .ok (.getfield 388, 3) := by decide +kernel
theorem dX11_isAbove_18 : decode cX11_isAbove 18 = .ok (.iaload, 1) := by decide +kernel
theorem dX11_isAbove_19 : decode cX11_isAbove 19 = .ok (.ifCond .le 7, 3) := by decide +kernel
theorem dX11_isAbove_22 : decode cX11_isAbove 22 = .ok (.iconst 1, 1) := by decide +kernel
theorem dX11_isAbove_23 : decode cX11_isAbove 23 = .ok (.goto 4, 3) := by decide +kernel
theorem dX11_isAbove_26 : decode cX11_isAbove 26 = .ok (.iconst 0, 1) := by decide +kernel
theorem dX11_isAbove_27 : decode cX11_isAbove 27 = .ok (.ireturn, 1) := by decide +kernel
def gR (a : Nat → Nat) (i : Nat → Int32) (g : Nat → Int64) (cd rf la ic wm ns sp go : Int32) : List Value := [.int (i 0), .ref (a 1), .int (i 2), .ref (a 3), .ref (a 4), .ref (a 5), .ref (a 6), .ref (a 7), .ref (a 8), .ref (a 9), .ref (a 10), .ref (a 11), .long (g 12), .long (g 13), .long (g 14), .int (i 15), .ref (a 16), .int (i 17), .int (i 18), .ref (a 19), .int cd, .int (i 21), .int (i 22), .int (i 23), .int (i 24), .int (i 25), .int (i 26), .int (i 27), .ref (a 28), .ref (a 29), .int (i 30), .int (i 31), .int (i 32), .int (i 33), .int (i 34), .int rf, .int la, .int ic, .ref (a 38), .int wm, .ref (a 40), .ref (a 41), .int ns, .int sp, .int go, .ref (a 45), .int (i 46)]
def BoS (fx : Nat → Int32) (n : Nat) : Prop := ∀ j, j < n → ∃ b, fx j = nI b ∧ b ≤ 990
theorem BoS_0 (fx : Nat → Int32) : BoS fx 0 := fun j h => absurd h (Nat.not_lt_zero _)
theorem BoS_le {fx : Nat → Int32} {n q : Nat} (h : BoS fx n) (hq : q ≤ n) : BoS fx q := fun j hj => h j (by omega)
theorem BoS_up {fx : Nat → Int32} {n b : Nat} (h : BoS fx n) (hb : b ≤ 990) : BoS (upd fx n (nI b)) (n + 1) := by
  intro j hj
  by_cases e : j = n
  · subst e
    exact ⟨b, pk_us, hb⟩
  · rw [pk_un e]
    exact h j (by omega)
theorem rn1 {y : Nat} (h : 1 ≤ y) : (nI y - 1) + Int32.ofInt (-1) = nI (y - 1) - 1 := by
  rw [show nI y - 1 = nI (y - 1) from pk_sub (b := 1) h, Int32.sub_eq_add_neg]
  rfl
theorem sw13 {x : Int32} (h0 : ¬ x = 13) (h1 : ¬ x = 14) (h2 : ¬ x = 15) (h3 : ¬ x = 16) : x.toInt < 13 ∨ 16 < x.toInt := by
  have a0 := sw_ne (n := 13) h0 (by decide) (by decide)
  have a1 := sw_ne (n := 14) h1 (by decide) (by decide)
  have a2 := sw_ne (n := 15) h2 (by decide) (by decide)
  have a3 := sw_ne (n := 16) h3 (by decide) (by decide)
  omega
theorem nne {x n : Nat} (h : x ≠ n) (hx : x < 2 ^ 31) (hn : n < 2 ^ 31) : ¬ nI x = nI n := fun e => h ((nI_eq hx hn).mp e)
def own_c_roundNow : List Cond := [.fieldLink RX11 45 "ClashFreeModel" "code" "[I", .fieldLink RX11 67 "ClashFreeModel" "blockOf" "[I", .fieldLink RX11 385 "ClashFreeModel" "inside" "I", .fieldLink RX11 64 "ClashFreeModel" "roundOf" "[I"]
def wp_c_roundNow : List Cond := .code yX11_roundNow cX11_roundNow 2 (some .int) :: (own_c_roundNow ++ (wsX110 ++ ([] : List Cond)))
set_option maxRecDepth 20000 in
theorem inown_c_roundNow : ∀ w ∈ own_c_roundNow, w ∈ lw_tbl := mem_places [1235, 1257, 1258, 1256] (by decide +kernel)
set_option maxRecDepth 20000 in
theorem in_c_roundNow : ∀ w ∈ wp_c_roundNow, w ∈ lw_tbl := List.forall_mem_cons.mpr ⟨List.mem_of_getElem? (i := 1762) (by decide +kernel), List.forall_mem_append.mpr ⟨inown_c_roundNow, List.forall_mem_append.mpr ⟨lwb_X11, fun _ h => absurd h List.not_mem_nil⟩⟩⟩
set_option maxRecDepth 20000 in
theorem good_c_roundNow : wp_c_roundNow.all goodWord = true := by decide +kernel
set_option maxHeartbeats 4000000 in
set_option maxRecDepth 100000 in
theorem lp_roundNow (l : Launch) {p : Program} {e : Env} {s : State} {m : MethodId} {args : Array Value} {below : List Frame} {meth : Method} {c : Code} {Q : State → Prop} {A : Nat → Prop} (D : va_G) (h0 : Nat) (a : Nat → Nat) (cm : Nat → ClassId) (i : Nat → Int32) (g : Nat → Int64) (fc : Nat → Int32) (fq : Nat → Int32) (fx : Nat → Int32) (cd : Nat) (rf : Int32) (la : Int32) (ic : Int32) (wm : Nat) (ns : Nat) (sp : Nat) (go : Nat) (hn5 : ns ≤ 6) (hBo : BoS fx ns) (hx : p.tables.exec = Jvm.exec) (hb : c.code = cX11_roundNow) (hml : c.maxLocals = 2) (hown : s.vm.findClass RX11 = some m.cls) (hts : ∀ w ∈ wp_c_roundNow, w.before args s = true) (hA : ∀ q, s.heap.size ≤ q → A q) (hK : va_K D vwCl [(cm 19, .int), (cm 40, .int), (cm 41, .int)] s) (kx41 : ∀ (y : Nat), (y ≤ ns) → (∀ rk bs, ns = bs.length → BlM bs fx fq → BlC rk fc bs → ∃ t, y = t.length ∧ BlM t fx fq ∧ BlC rk fc t ∧ rndR rk bs = rndR rk t) → (y = 0) → ∀ (H : Heap) (locs : List Loc) (ls : Array Slot), va_P D vwCl [(h0, .inr (11, gR a i g (nI cd) rf la ic (nI wm) (nI ns) (nI sp) (nI go))), (a 19, .inl (cm 19, 2000, .inl fc)), (a 40, .inl (cm 40, 6, .inl fq)), (a 41, .inl (cm 41, 6, .inl fx))] H → va_S A s.heap H locs → lv_has ls 2 [(0, .ref h0)] → W p l e ({ frames := 0, cells := 0, slots := 0, locals := 0 }) s m args below meth c H locs 0 0 Q (F0 m 41 ls [])) (kx28 : ∀ (y : Nat), (y ≤ ns) → (∀ rk bs, ns = bs.length → BlM bs fx fq → BlC rk fc bs → ∃ t, y = t.length ∧ BlM t fx fq ∧ BlC rk fc t ∧ rndR rk bs = rndR rk t) → (1 ≤ y) → (∀ rk bs, ns = bs.length → BlM bs fx fq → BlC rk fc bs → fq (y - 1) = nI (rndR rk bs)) → ∀ (H : Heap) (locs : List Loc) (ls : Array Slot), va_P D vwCl [(h0, .inr (11, gR a i g (nI cd) rf la ic (nI wm) (nI ns) (nI sp) (nI go))), (a 19, .inl (cm 19, 2000, .inl fc)), (a 40, .inl (cm 40, 6, .inl fq)), (a 41, .inl (cm 41, 6, .inl fx))] H → va_S A s.heap H locs → lv_has ls 2 [(1, .int (nI y - 1)), (0, .ref h0)] → W p l e ({ frames := 0, cells := 0, slots := 0, locals := 0 }) s m args below meth c H locs 0 0 Q (F0 m 28 ls [])) : ∀ (N : Nat), ∀ (y : Nat), (y ≤ ns) → (∀ rk bs, ns = bs.length → BlM bs fx fq → BlC rk fc bs → ∃ t, y = t.length ∧ BlM t fx fq ∧ BlC rk fc t ∧ rndR rk bs = rndR rk t) → y < N → ∀ (H : Heap) (locs : List Loc) (ls : Array Slot), va_P D vwCl [(h0, .inr (11, gR a i g (nI cd) rf la ic (nI wm) (nI ns) (nI sp) (nI go))), (a 19, .inl (cm 19, 2000, .inl fc)), (a 40, .inl (cm 40, 6, .inl fq)), (a 41, .inl (cm 41, 6, .inl fx))] H → va_S A s.heap H locs → lv_has ls 2 [(1, .int (nI y - 1)), (0, .ref h0)] → W p l e ({ frames := 0, cells := 0, slots := 0, locals := 0 }) s m args below meth c H locs 0 0 Q (F0 m 7 ls []) := by
  have hin_X11 : ∀ w ∈ wsX110, w ∈ wp_c_roundNow := fun _ h => (List.mem_cons_of_mem _ (List.mem_append_right _ (List.mem_append_left _ h)))
  intro N
  induction N with
  | zero =>
    intro y hy2 hrn hm
    exact absurd hm (Nat.not_lt_zero _)
  | succ N ih =>
    intro y hy2 hrn hm H locs ls hP hS hl
    refine lv_iload_n hx hb dX11_roundNow_7 rfl (lv_at hl 0 rfl) ?_
    refine lv_if_lt (tgt := 41) hx hb dX11_roundNow_8 (by decide) (fun hc1 => ?_) (fun hc1 => ?_)
    ·
      have hy0 : y = 0 := by
        rcases Nat.eq_zero_or_pos y with z | z
        · exact z
        · exact absurd hc1 (by rw [show nI y - 1 = nI (y - 1) from pk_sub (b := 1) z]; exact Int32.not_lt.mpr (nI_pos' (by omega)))
      exact kx41 y (hy2) (hrn) (hy0) H locs ls (hP.sub [0, 1, 2, 3] rfl) hS (lv_sub hl [1] rfl)
    ·
      have hy1 : 1 ≤ y := by
        rcases Nat.eq_zero_or_pos y with z | z
        · exact absurd (by rw [z]; decide) hc1
        · exact z
      obtain ⟨b, eb, hb9⟩ := hBo (y - 1) (by omega)
      refine lv_aload_n hx hb dX11_roundNow_11 rfl (lv_at hl 1 rfl) ?_
      refine va_get (D := D) (ci := 11) (v := .ref (a 19)) (C := RX11) (T := TX11) (N := 47) hx hb hts hin_X11 hown hK hP 0 rfl rfl 19 (by decide) (hts (.fieldLink RX11 45 "ClashFreeModel" "code" "[I") (List.mem_of_getElem? (i := 1) rfl)) (fun _ h9 => h9) rfl dX11_roundNow_12 ?_
      refine lv_iconst (v := 2) hx hb dX11_roundNow_15 (by decide) ?_
      refine lv_aload_n hx hb dX11_roundNow_16 rfl (lv_at hl 1 rfl) ?_
      refine va_get (D := D) (ci := 11) (v := .ref (a 41)) (C := RX11) (T := TX11) (N := 47) hx hb hts hin_X11 hown hK hP 0 rfl rfl 41 (by decide) (hts (.fieldLink RX11 67 "ClashFreeModel" "blockOf" "[I") (List.mem_of_getElem? (i := 2) rfl)) (fun _ h9 => h9) rfl dX11_roundNow_17 ?_
      refine lv_iload_n hx hb dX11_roundNow_20 rfl (lv_at hl 0 rfl) ?_
      refine lv_topi (fun v2 ev2 => ?_)
      obtain rfl : v2 = nI (y - 1) := ev2.trans (pk_sub (b := 1) hy1)
      refine va_iald hx hb hK hP 3 2 rfl rfl (vp_in_nI (by omega) (by decide)) dX11_roundNow_21 ?_
      refine lv_topi (fun v3 ev3 => ?_)
      obtain rfl : v3 = nI b := ev3.trans (by rw [nI_clamp (by omega)]; exact eb)
      refine lv_imul hx hb dX11_roundNow_22 ?_
      refine lv_topi (fun v4 ev4 => ?_)
      obtain rfl : v4 = nI (2 * b) := ev4.trans (pk_mul 2 b)
      refine va_iald hx hb hK hP 1 0 rfl rfl (vp_in_nI (by omega) (by decide)) dX11_roundNow_23 ?_
      refine lv_topi (fun v5 ev5 => ?_)
      obtain rfl : v5 = fc (2 * b) := ev5.trans (by rw [nI_clamp (by omega)])
      refine lv_iconst (v := 4) hx hb dX11_roundNow_24 (by decide) ?_
      refine lv_icmp_ne (tgt := 35) hx hb dX11_roundNow_25 (by decide) (fun hc6 => ?_) (fun hc6 => ?_)
      ·
        refine lv_iinc (v := nI (y - 1) - 1) (lv' := [(1, .int (nI (y - 1) - 1)), (0, .ref h0)]) hx hb dX11_roundNow_35 hl (k := 0) rfl (rn1 hy1) (by decide) rfl (fun ls hl => ?_)
        refine lv_goto (tgt := 7) hx hb dX11_roundNow_38 (by decide) ?_
        exact ih (y - 1) (by omega) (fun rk bs e1 e2 e3 => by
            obtain ⟨t, t1, t2, t3, t4⟩ := hrn rk bs e1 e2 e3
            cases t with
            | nil => subst t1; exact absurd hy1 (by decide)
            | cons p9 t =>
              rw [List.length_cons] at t1
              obtain ⟨q1, q2, q3⟩ := t3 p9 List.mem_cons_self
              have hb : b = p9.1 := (nI_eq (by omega) (by omega)).mp (eb.symm.trans (by rw [show y - 1 = t.length by omega]; exact t2.1))
              refine ⟨t, by omega, t2.2.2, fun p hp => t3 p (List.mem_cons_of_mem _ hp), t4.trans ?_⟩
              show (if rk p9.1 = 4 then p9.2 else rndR rk t) = rndR rk t
              exact if_neg (fun q => hc6 (by rw [hb, q1, q]; rfl))) (by omega) H locs ls (hP.sub [0, 1, 2, 3] rfl) hS (lv_sub hl [0, 1] rfl)
      ·
        exact kx28 y (hy2) (hrn) (hy1) (fun rk bs e1 e2 e3 => by
            obtain ⟨t, t1, t2, t3, t4⟩ := hrn rk bs e1 e2 e3
            cases t with
            | nil => subst t1; exact absurd hy1 (by decide)
            | cons p9 t =>
              rw [List.length_cons] at t1
              obtain ⟨q1, q2, q3⟩ := t3 p9 List.mem_cons_self
              have hb : b = p9.1 := (nI_eq (by omega) (by omega)).mp (eb.symm.trans (by rw [show y - 1 = t.length by omega]; exact t2.1))
              have h4 : rk p9.1 = 4 := (nI_eq (b := 4) (by omega) (by decide)).mp (q1.symm.trans (by rw [← hb]; exact hc6))
              rw [show y - 1 = t.length by omega, t2.2.1, t4]
              show nI p9.2 = nI (if rk p9.1 = 4 then p9.2 else rndR rk t)
              rw [if_pos h4]) H locs ls (hP.sub [0, 1, 2, 3] rfl) hS (lv_sub hl [0, 1] rfl)
set_option maxHeartbeats 4000000 in
set_option maxRecDepth 100000 in
theorem c_roundNow (l : Launch) (D : va_G) (sz : Nat) (h0 : Nat) (a : Nat → Nat) (cm : Nat → ClassId) (i : Nat → Int32) (g : Nat → Int64) (fc : Nat → Int32) (fq : Nat → Int32) (fx : Nat → Int32) (cd : Nat) (rf : Int32) (la : Int32) (ic : Int32) (wm : Nat) (ns : Nat) (sp : Nat) (go : Nat) (hn5 : ns ≤ 6) (hBo : BoS fx ns) : Met l yX11_roundNow wp_c_roundNow ({ frames := 0, cells := 0, slots := 0, locals := 0 }) (PcR D [.ref h0] sz [(h0, .inr (11, gR a i g (nI cd) rf la ic (nI wm) (nI ns) (nI sp) (nI go))), (a 19, .inl (cm 19, 2000, .inl fc)), (a 40, .inl (cm 40, 6, .inl fq)), (a 41, .inl (cm 41, 6, .inl fx))] [(cm 19, .int), (cm 40, .int), (cm 41, .int)]) (va_Qi (fun (r : Int32) (u : Unit) => ∀ rk bs, ns = bs.length → BlM bs fx fq → BlC rk fc bs → r = nI (rndR rk bs)) (fun (_ : Unit) _ => True) (va_A [] sz)) 0 0 (va_A [] sz) := by
  refine Met.ofW (cc := cX11_roundNow) (maxL := 2) (ret := (some .int)) (by decide) rfl ?_
  intro p e s m args below meth c s₁ B hml hv
  obtain ⟨rfl, hsz, hP, hK⟩ := hv
  have hx := B.exec
  have hb := B.bytes
  have hr := B.returns
  have hts := atoms_spec (ws := wp_c_roundNow) B.pre
  have hin_X11 : ∀ w ∈ wsX110, w ∈ wp_c_roundNow := fun _ h => (List.mem_cons_of_mem _ (List.mem_append_right _ (List.mem_append_left _ h)))
  have hown : s.vm.findClass RX11 = some m.cls := findClass_of_methodNamed B.named
  have hlocks := B.notSynchronized
  subst hsz
  generalize hAe : va_A [] s.heap.size = A at ⊢
  have hA : ∀ q : Nat, s.heap.size ≤ q → A q := fun q h => by rw [← hAe]; exact Or.inr h
  have hS : va_S A s.heap s.heap [] := va_S.rf
  have hP : va_P D vwCl [(h0, .inr (11, gR a i g (nI cd) rf la ic (nI wm) (nI ns) (nI sp) (nI go))), (a 19, .inl (cm 19, 2000, .inl fc)), (a 40, .inl (cm 40, 6, .inl fq)), (a 41, .inl (cm 41, 6, .inl fx))] s.heap := hP
  have hl := lv_entry ([.ref h0]) (n := 2) (Nat.le_of_ble_eq_true rfl)
  rw [lg_entry_eq]
  generalize (lg_sl ([.ref h0]) ++ List.replicate (2 - (lg_sl ([.ref h0])).length) Slot.unset).toArray = ls at hl ⊢
  have hl : lv_has ls 2 [(0, .ref h0)] := hl
  refine lv_aload_n hx hb dX11_roundNow_0 rfl (lv_at hl 0 rfl) ?_
  refine va_get (D := D) (ci := 11) (v := .int (nI ns)) (C := RX11) (T := TX11) (N := 47) hx hb hts hin_X11 hown hK hP 0 rfl rfl 42 (by decide) (hts (.fieldLink RX11 385 "ClashFreeModel" "inside" "I") (List.mem_of_getElem? (i := 3) rfl)) (fun _ h9 => h9) rfl dX11_roundNow_1 ?_
  refine lv_iconst (v := 1) hx hb dX11_roundNow_4 (by decide) ?_
  refine lv_isub hx hb dX11_roundNow_5 ?_
  refine lv_istore_n (lv' := [(1, .int ((nI ns) - 1)), (0, .ref h0)]) hx hb dX11_roundNow_6 rfl hl (by decide) rfl (fun ls hl => ?_)
  refine lp_roundNow l D h0 a cm i g fc fq fx cd rf la ic wm ns sp go (hn5) (hBo) hx hb hml hown hts hA (hK.sub [0, 1, 2] rfl) ?_ ?_ (ns + 1) ns (Nat.le_refl _) (fun rk bs e1 e2 e3 => ⟨bs, e1, e2, e3, rfl⟩) (by omega) _ _ _ (hP.sub [0, 1, 2, 3] rfl) hS (lv_sub hl [0, 1] rfl)
  ·
    intro y_1 hy2_2 hrn_3 hx4 H locs ls hP hS hl
    refine lv_iconst (v := 0) hx hb dX11_roundNow_41 (by decide) ?_
    exact W.iret (v := 0) hx hb hr (fun t ht hW => ⟨⟨0, (), rfl, (fun rk bs e1 e2 e3 => by
        obtain ⟨t, t1, t2, t3, t4⟩ := hrn_3 rk bs e1 e2 e3
        cases t with
        | nil => rw [t4]; rfl
        | cons p9 t => rw [List.length_cons] at t1; omega), trivial⟩, hS.F ht⟩) hS.2.2 dX11_roundNow_42
  ·
    intro y_5 hy2_6 hrn_7 hx8 hx9 H locs ls hP hS hl
    refine lv_aload_n hx hb dX11_roundNow_28 rfl (lv_at hl 1 rfl) ?_
    refine va_get (D := D) (ci := 11) (v := .ref (a 40)) (C := RX11) (T := TX11) (N := 47) hx hb hts hin_X11 hown hK hP 0 rfl rfl 40 (by decide) (hts (.fieldLink RX11 64 "ClashFreeModel" "roundOf" "[I") (List.mem_of_getElem? (i := 4) rfl)) (fun _ h9 => h9) rfl dX11_roundNow_29 ?_
    refine lv_iload_n hx hb dX11_roundNow_32 rfl (lv_at hl 0 rfl) ?_
    refine lv_topi (fun v10 ev10 => ?_)
    obtain rfl : v10 = nI (y_5 - 1) := ev10.trans (pk_sub (b := 1) (by omega))
    refine va_iald hx hb hK hP 2 1 rfl rfl (vp_in_nI (by omega) (by decide)) dX11_roundNow_33 ?_
    refine lv_topi (fun v11 ev11 => ?_)
    obtain rfl : v11 = fq (y_5 - 1) := ev11.trans (by rw [nI_clamp (by omega)])
    exact W.iret (v := fq (y_5 - 1)) hx hb hr (fun t ht hW => ⟨⟨fq (y_5 - 1), (), rfl, hx9, trivial⟩, hS.F ht⟩) hS.2.2 dX11_roundNow_34

def own_c_joined : List Cond := []
def wp_c_joined : List Cond := .code yX11_joined cX11_joined 3 (some .int) :: (own_c_joined ++ ([] : List Cond))
set_option maxRecDepth 20000 in
theorem inown_c_joined : ∀ w ∈ own_c_joined, w ∈ lw_tbl := mem_places [] (by decide +kernel)
set_option maxRecDepth 20000 in
theorem in_c_joined : ∀ w ∈ wp_c_joined, w ∈ lw_tbl := List.forall_mem_cons.mpr ⟨List.mem_of_getElem? (i := 1765) (by decide +kernel), List.forall_mem_append.mpr ⟨inown_c_joined, fun _ h => absurd h List.not_mem_nil⟩⟩
set_option maxRecDepth 20000 in
theorem good_c_joined : wp_c_joined.all goodWord = true := by decide +kernel
set_option maxHeartbeats 4000000 in
set_option maxRecDepth 100000 in
theorem c_joined (l : Launch) (D : va_G) (sz : Nat) (z1 : Int32) (z2 : Int32) (z3 : Int32)  : Met l yX11_joined wp_c_joined ({ frames := 0, cells := 0, slots := 0, locals := 0 }) (PcR D [.int z1, .int z2, .int z3] sz [] []) (va_Qi (fun (r : Int32) (_ : Unit) => ∀ k, z1 = nI k → 13 ≤ k → k ≤ 17 → r = jnD (sgR k) z2 z3) (fun (_ : Unit) _ => True) (va_A [] sz)) 0 0 (va_A [] sz) := by
  refine Met.ofW (cc := cX11_joined) (maxL := 3) (ret := (some .int)) (by decide) rfl ?_
  intro p e s m args below meth c s₁ B hml hv
  obtain ⟨rfl, hsz, hP, hK⟩ := hv
  have hx := B.exec
  have hb := B.bytes
  have hr := B.returns
  have hts := atoms_spec (ws := wp_c_joined) B.pre
  have hown : s.vm.findClass RX11 = some m.cls := findClass_of_methodNamed B.named
  have hlocks := B.notSynchronized
  subst hsz
  generalize hAe : va_A [] s.heap.size = A at ⊢
  have hA : ∀ q : Nat, s.heap.size ≤ q → A q := fun q h => by rw [← hAe]; exact Or.inr h
  have hS : va_S A s.heap s.heap [] := va_S.rf
  have hP : va_P D vwCl [] s.heap := hP
  have hl := lv_entry ([.int z1, .int z2, .int z3]) (n := 3) (Nat.le_of_ble_eq_true rfl)
  rw [lg_entry_eq]
  generalize (lg_sl ([.int z1, .int z2, .int z3]) ++ List.replicate (3 - (lg_sl ([.int z1, .int z2, .int z3])).length) Slot.unset).toArray = ls at hl ⊢
  have hl : lv_has ls 3 [(0, .int z1), (1, .int z2), (2, .int z3)] := hl
  refine lv_iload_n hx hb dX11_joined_0 rfl (lv_at hl 0 rfl) ?_
  by_cases hs1 : z1 = 13
  ·
    subst hs1
    refine lv_tableIn (off := 31) (tgt := 32) hx hb dX11_joined_1 (by decide) (by decide) (by decide +kernel) (by decide) ?_
    refine lv_iload_n hx hb dX11_joined_32 rfl (lv_at hl 1 rfl) ?_
    refine lv_iload_n hx hb dX11_joined_33 rfl (lv_at hl 2 rfl) ?_
    refine lv_iadd hx hb dX11_joined_34 ?_
    exact W.iret (v := z2 + z3) hx hb hr (fun t ht hW => ⟨⟨z2 + z3, (), rfl, (fun k e9 h1 h2 => by
        obtain rfl : k = 13 := (nI_eq (b := 13) (by omega) (by decide)).mp e9.symm
        rfl), trivial⟩, hS.F ht⟩) hS.2.2 dX11_joined_35
  by_cases hs2 : z1 = 14
  ·
    subst hs2
    refine lv_tableIn (off := 35) (tgt := 36) hx hb dX11_joined_1 (by decide) (by decide) (by decide +kernel) (by decide) ?_
    refine lv_iload_n hx hb dX11_joined_36 rfl (lv_at hl 1 rfl) ?_
    refine lv_iload_n hx hb dX11_joined_37 rfl (lv_at hl 2 rfl) ?_
    refine lv_isub hx hb dX11_joined_38 ?_
    exact W.iret (v := z2 - z3) hx hb hr (fun t ht hW => ⟨⟨z2 - z3, (), rfl, (fun k e9 h1 h2 => by
        obtain rfl : k = 14 := (nI_eq (b := 14) (by omega) (by decide)).mp e9.symm
        rfl), trivial⟩, hS.F ht⟩) hS.2.2 dX11_joined_39
  by_cases hs3 : z1 = 15
  ·
    subst hs3
    refine lv_tableIn (off := 39) (tgt := 40) hx hb dX11_joined_1 (by decide) (by decide) (by decide +kernel) (by decide) ?_
    refine lv_iload_n hx hb dX11_joined_40 rfl (lv_at hl 1 rfl) ?_
    refine lv_iload_n hx hb dX11_joined_41 rfl (lv_at hl 2 rfl) ?_
    refine lv_imul hx hb dX11_joined_42 ?_
    exact W.iret (v := z2 * z3) hx hb hr (fun t ht hW => ⟨⟨z2 * z3, (), rfl, (fun k e9 h1 h2 => by
        obtain rfl : k = 15 := (nI_eq (b := 15) (by omega) (by decide)).mp e9.symm
        rfl), trivial⟩, hS.F ht⟩) hS.2.2 dX11_joined_43
  by_cases hs4 : z1 = 16
  ·
    subst hs4
    refine lv_tableIn (off := 43) (tgt := 44) hx hb dX11_joined_1 (by decide) (by decide) (by decide +kernel) (by decide) ?_
    refine lv_iload_n hx hb dX11_joined_44 rfl (lv_at hl 2 rfl) ?_
    refine lv_if_ne (tgt := 52) hx hb dX11_joined_45 (by decide) (fun hc5 => ?_) (fun hc5 => ?_)
    ·
      refine lv_iload_n hx hb dX11_joined_52 rfl (lv_at hl 1 rfl) ?_
      refine lv_iload_n hx hb dX11_joined_53 rfl (lv_at hl 2 rfl) ?_
      refine lv_idiv hx hb dX11_joined_54 (by assumption) ?_
      exact W.iret (v := z2 / z3) hx hb hr (fun t ht hW => ⟨⟨z2 / z3, (), rfl, (fun k e9 h1 h2 => by
          obtain rfl : k = 16 := (nI_eq (b := 16) (by omega) (by decide)).mp e9.symm
          show _ = if z3 = 0 then 0 else _
          rw [if_neg hc5]), trivial⟩, hS.F ht⟩) hS.2.2 dX11_joined_55
    ·
      refine lv_iconst (v := 0) hx hb dX11_joined_48 (by decide) ?_
      refine lv_goto (tgt := 55) hx hb dX11_joined_49 (by decide) ?_
      exact W.iret (v := 0) hx hb hr (fun t ht hW => ⟨⟨0, (), rfl, (fun k e9 h1 h2 => by
          obtain rfl : k = 16 := (nI_eq (b := 16) (by omega) (by decide)).mp e9.symm
          show _ = if z3 = 0 then 0 else _
          rw [if_pos hc5]), trivial⟩, hS.F ht⟩) hS.2.2 dX11_joined_55
  refine lv_tableOut (tgt := 56) hx hb dX11_joined_1 (sw13 (by assumption) (by assumption) (by assumption) (by assumption)) (by decide) ?_
  refine lv_iload_n hx hb dX11_joined_56 rfl (lv_at hl 2 rfl) ?_
  refine lv_if_ne (tgt := 64) hx hb dX11_joined_57 (by decide) (fun hc6 => ?_) (fun hc6 => ?_)
  ·
    refine lv_iload_n hx hb dX11_joined_64 rfl (lv_at hl 1 rfl) ?_
    refine lv_iload_n hx hb dX11_joined_65 rfl (lv_at hl 2 rfl) ?_
    refine lv_irem hx hb dX11_joined_66 (by assumption) ?_
    exact W.iret (v := z2 - z2 / z3 * z3) hx hb hr (fun t ht hW => ⟨⟨z2 - z2 / z3 * z3, (), rfl, (fun k e9 h1 h2 => by
        obtain rfl : k = 17 := by
          have a13 : ¬ k = 13 := fun q => absurd (e9.trans (congrArg nI q)) (by assumption)
          have a14 : ¬ k = 14 := fun q => absurd (e9.trans (congrArg nI q)) (by assumption)
          have a15 : ¬ k = 15 := fun q => absurd (e9.trans (congrArg nI q)) (by assumption)
          have a16 : ¬ k = 16 := fun q => absurd (e9.trans (congrArg nI q)) (by assumption)
          omega
        show _ = if z3 = 0 then 0 else _
        rw [if_neg hc6]), trivial⟩, hS.F ht⟩) hS.2.2 dX11_joined_67
  ·
    refine lv_iconst (v := 0) hx hb dX11_joined_60 (by decide) ?_
    refine lv_goto (tgt := 67) hx hb dX11_joined_61 (by decide) ?_
    exact W.iret (v := 0) hx hb hr (fun t ht hW => ⟨⟨0, (), rfl, (fun k e9 h1 h2 => by
        obtain rfl : k = 17 := by
          have a13 : ¬ k = 13 := fun q => absurd (e9.trans (congrArg nI q)) (by assumption)
          have a14 : ¬ k = 14 := fun q => absurd (e9.trans (congrArg nI q)) (by assumption)
          have a15 : ¬ k = 15 := fun q => absurd (e9.trans (congrArg nI q)) (by assumption)
          have a16 : ¬ k = 16 := fun q => absurd (e9.trans (congrArg nI q)) (by assumption)
          omega
        show _ = if z3 = 0 then 0 else _
        rw [if_pos hc6]), trivial⟩, hS.F ht⟩) hS.2.2 dX11_joined_67

def own_c_worksOn : List Cond := [.fieldLink RX11 388 "ClashFreeModel" "workedMany" "I", .fieldLink RX11 61 "ClashFreeModel" "worked" "[I", .methodLink RX11 397 yX11_joined, .static yX11_joined, .initialized RX11, .fieldLink RX11 394 "ClashFreeModel" "latest" "I", .methodLink RX11 391 yX11_roundNow, .instanceMethod yX11_roundNow, .selects RX11 yX11_roundNow yX11_roundNow]
def wp_c_worksOn : List Cond := .code yX11_worksOn cX11_worksOn 3 none :: (own_c_worksOn ++ (wp_c_joined ++ (wp_c_roundNow ++ (wsX110 ++ ([] : List Cond)))))
set_option maxRecDepth 20000 in
theorem inown_c_worksOn : ∀ w ∈ own_c_worksOn, w ∈ lw_tbl := mem_places [1255, 1254, 1763, 1764, 115, 1252, 1759, 1761, 95] (by decide +kernel)
set_option maxRecDepth 20000 in
theorem in_c_worksOn : ∀ w ∈ wp_c_worksOn, w ∈ lw_tbl := List.forall_mem_cons.mpr ⟨List.mem_of_getElem? (i := 1758) (by decide +kernel), List.forall_mem_append.mpr ⟨inown_c_worksOn, List.forall_mem_append.mpr ⟨in_c_joined, List.forall_mem_append.mpr ⟨in_c_roundNow, List.forall_mem_append.mpr ⟨lwb_X11, fun _ h => absurd h List.not_mem_nil⟩⟩⟩⟩⟩
set_option maxRecDepth 20000 in
theorem good_c_worksOn : wp_c_worksOn.all goodWord = true := by decide +kernel
set_option maxRecDepth 20000 in
theorem g_c_worksOn_c_joined_397 : GoodIn wp_c_worksOn (va_wsS RX11 397 yX11_joined wp_c_joined) := goodIn_sub (List.forall_mem_append.mpr ⟨List.forall_mem_cons.mpr ⟨(List.mem_of_getElem? (i := 3) rfl), List.forall_mem_cons.mpr ⟨(List.mem_of_getElem? (i := 4) rfl), List.forall_mem_cons.mpr ⟨(List.mem_of_getElem? (i := 5) rfl), fun _ h => absurd h List.not_mem_nil⟩⟩⟩, (fun _ h => (List.mem_cons_of_mem _ (List.mem_append_right _ (List.mem_append_left _ h))))⟩) (by decide +kernel)
set_option maxRecDepth 20000 in
theorem g_c_worksOn_c_roundNow_391 : GoodIn wp_c_worksOn (wsV RX11 391 RX11 yX11_roundNow wp_c_roundNow) := goodIn_sub (List.forall_mem_append.mpr ⟨List.forall_mem_cons.mpr ⟨(List.mem_of_getElem? (i := 7) rfl), List.forall_mem_cons.mpr ⟨(List.mem_of_getElem? (i := 8) rfl), List.forall_mem_cons.mpr ⟨(List.mem_of_getElem? (i := 9) rfl), List.forall_mem_cons.mpr ⟨(List.mem_of_getElem? (i := 5) rfl), fun _ h => absurd h List.not_mem_nil⟩⟩⟩⟩, (fun _ h => (List.mem_cons_of_mem _ (List.mem_append_right _ (List.mem_append_right _ (List.mem_append_left _ h)))))⟩) (by decide +kernel)
set_option maxHeartbeats 4000000 in
set_option maxRecDepth 100000 in
theorem c_worksOn (l : Launch) (D : va_G) (sz : Nat) (h0 : Nat) (a : Nat → Nat) (cm : Nat → ClassId) (i : Nat → Int32) (g : Nat → Int64) (fc : Nat → Int32) (fw : Nat → Int32) (fq : Nat → Int32) (fx : Nat → Int32) (cd : Nat) (rf : Int32) (la : Int32) (ic : Int32) (wm : Nat) (ns : Nat) (sp : Nat) (go : Nat) (x : Nat) (z2 : Int32) (hx1 : x ≤ 17) (hw6 : wm ≤ 690) (hw2 : 13 ≤ x → 2 ≤ wm) (hn5 : ns ≤ 6) (hBo : BoS fx ns) : Met l yX11_worksOn wp_c_worksOn ({ frames := 1, cells := 0, slots := 0, locals := 22 }) (PcW D [.ref h0, .int (nI x), .int z2] sz [(h0, .inr (11, gR a i g (nI cd) rf la ic (nI wm) (nI ns) (nI sp) (nI go))), (a 19, .inl (cm 19, 2000, .inl fc)), (a 38, .inl (cm 38, 700, .inl fw)), (a 40, .inl (cm 40, 6, .inl fq)), (a 41, .inl (cm 41, 6, .inl fx))] [(cm 19, .int), (cm 38, .int), (cm 40, .int), (cm 41, .int)]) (va_Qv (fun (u : (Nat → Int32) × (Nat)) => (x ≤ 12 → u.2 = wm + 1) ∧ (13 ≤ x → u.2 + 1 = wm) ∧ ∀ rk bs os, wm = os.length → OsM os fw → ns = bs.length → BlM bs fx fq → BlC rk fc bs → ∃ oQ, u.2 = oQ.length ∧ OsM oQ u.1 ∧ ((x = 10 ∧ oQ = z2 :: os) ∨ (x = 11 ∧ oQ = nI (rndR rk bs) :: os) ∨ (¬ x = 10 ∧ ¬ x = 11 ∧ x ≤ 12 ∧ oQ = la :: os) ∨ (13 ≤ x ∧ oQ = jnD (sgR x) (os.tail.headD 0) (os.headD 0) :: os.tail.tail))) (fun (u : (Nat → Int32) × (Nat)) t => va_P D vwCl [(h0, .inr (11, gR a i g (nI cd) rf la ic (nI u.2) (nI ns) (nI sp) (nI go))), (a 19, .inl (cm 19, 2000, .inl fc)), (a 38, .inl (cm 38, 700, .inl u.1)), (a 40, .inl (cm 40, 6, .inl fq)), (a 41, .inl (cm 41, 6, .inl fx))] t.heap ∧ va_K D vwCl [(cm 19, .int), (cm 38, .int), (cm 40, .int), (cm 41, .int)] t ∧ va_D (va_A [(h0, .inr (11, gR a i g (nI cd) rf la ic (nI wm) (nI ns) (nI sp) (nI go))), (a 19, .inl (cm 19, 2000, .inl fc)), (a 38, .inl (cm 38, 700, .inl fw)), (a 40, .inl (cm 40, 6, .inl fq)), (a 41, .inl (cm 41, 6, .inl fx))] sz) [(h0, .inr (11, gR a i g (nI cd) rf la ic (nI u.2) (nI ns) (nI sp) (nI go))), (a 19, .inl (cm 19, 2000, .inl fc)), (a 38, .inl (cm 38, 700, .inl u.1)), (a 40, .inl (cm 40, 6, .inl fq)), (a 41, .inl (cm 41, 6, .inl fx))]) (va_A [(h0, .inr (11, gR a i g (nI cd) rf la ic (nI wm) (nI ns) (nI sp) (nI go))), (a 19, .inl (cm 19, 2000, .inl fc)), (a 38, .inl (cm 38, 700, .inl fw)), (a 40, .inl (cm 40, 6, .inl fq)), (a 41, .inl (cm 41, 6, .inl fx))] sz)) 0 0 (va_A [(h0, .inr (11, gR a i g (nI cd) rf la ic (nI wm) (nI ns) (nI sp) (nI go))), (a 19, .inl (cm 19, 2000, .inl fc)), (a 38, .inl (cm 38, 700, .inl fw)), (a 40, .inl (cm 40, 6, .inl fq)), (a 41, .inl (cm 41, 6, .inl fx))] sz) := by
  refine Met.ofW (cc := cX11_worksOn) (maxL := 3) (ret := none) (by decide) rfl ?_
  intro p e s m args below meth c s₁ B hml hv
  obtain ⟨rfl, hsz, hP, hK, hD0⟩ := hv
  have hx := B.exec
  have hb := B.bytes
  have hr := B.returns
  have hts := atoms_spec (ws := wp_c_worksOn) B.pre
  have hin_X11 : ∀ w ∈ wsX110, w ∈ wp_c_worksOn := fun _ h => (List.mem_cons_of_mem _ (List.mem_append_right _ (List.mem_append_right _ (List.mem_append_right _ (List.mem_append_left _ h)))))
  have hown : s.vm.findClass RX11 = some m.cls := findClass_of_methodNamed B.named
  have hlocks := B.notSynchronized
  subst hsz
  have hD := hD0.self (sz := s.heap.size)
  generalize hAe : va_A [(h0, .inr (11, gR a i g (nI cd) rf la ic (nI wm) (nI ns) (nI sp) (nI go))), (a 19, .inl (cm 19, 2000, .inl fc)), (a 38, .inl (cm 38, 700, .inl fw)), (a 40, .inl (cm 40, 6, .inl fq)), (a 41, .inl (cm 41, 6, .inl fx))] s.heap.size = A at hD ⊢
  have hA : ∀ q : Nat, s.heap.size ≤ q → A q := fun q h => by rw [← hAe]; exact Or.inr h
  have hS : va_S A s.heap s.heap [] := va_S.rf
  have hP : va_P D vwCl [(h0, .inr (11, gR a i g (nI cd) rf la ic (nI wm) (nI ns) (nI sp) (nI go))), (a 19, .inl (cm 19, 2000, .inl fc)), (a 38, .inl (cm 38, 700, .inl fw)), (a 40, .inl (cm 40, 6, .inl fq)), (a 41, .inl (cm 41, 6, .inl fx))] s.heap := hP
  have hl := lv_entry ([.ref h0, .int (nI x), .int z2]) (n := 3) (Nat.le_of_ble_eq_true rfl)
  rw [lg_entry_eq]
  generalize (lg_sl ([.ref h0, .int (nI x), .int z2]) ++ List.replicate (3 - (lg_sl ([.ref h0, .int (nI x), .int z2])).length) Slot.unset).toArray = ls at hl ⊢
  have hl : lv_has ls 3 [(0, .ref h0), (1, .int (nI x)), (2, .int z2)] := hl
  refine lv_iload_n hx hb dX11_worksOn_0 rfl (lv_at hl 1 rfl) ?_
  refine lv_bipush (v := 13) hx hb dX11_worksOn_1 (by decide) ?_
  refine lv_icmp_ge (tgt := 53) hx hb dX11_worksOn_3 (by decide) (fun hc1 => ?_) (fun hc1 => ?_)
  ·
    have h13 : 13 ≤ x := (nI_leI (a := 13) (by decide) (by omega)).mp hc1
    have hwm2 := hw2 h13
    refine lv_aload_n hx hb dX11_worksOn_53 rfl (lv_at hl 0 rfl) ?_
    refine lv_dup hx hb dX11_worksOn_54 rfl ?_
    refine va_get (D := D) (ci := 11) (v := .int (nI wm)) (C := RX11) (T := TX11) (N := 47) hx hb hts hin_X11 hown hK hP 0 rfl rfl 39 (by decide) (hts (.fieldLink RX11 388 "ClashFreeModel" "workedMany" "I") (List.mem_of_getElem? (i := 1) rfl)) (fun _ h9 => h9) rfl dX11_worksOn_55 ?_
    refine lv_iconst (v := 1) hx hb dX11_worksOn_58 (by decide) ?_
    refine lv_isub hx hb dX11_worksOn_59 ?_
    refine lv_topi (fun v2 ev2 => ?_)
    obtain rfl : v2 = nI (wm - 1) := ev2.trans (pk_sub (b := 1) (by omega))
    refine va_put (D := D) (ci := 11) (v := .int (nI (wm - 1))) (ty := .int) (C := RX11) (T := TX11) (N := 47) hx hb hts hin_X11 tyX11 tyX11_ok nmX11 hown hK hP hD hS 0 rfl rfl 39 (by decide) (hts (.fieldLink RX11 388 "ClashFreeModel" "workedMany" "I") (List.mem_of_getElem? (i := 1) rfl)) (fun _ h9 => h9) rfl (by decide +kernel) rfl rfl (Nat.le_of_ble_eq_true rfl) dX11_worksOn_60 (fun H locs hP hD hS => ?_)
    have hP : va_P D vwCl [(h0, .inr (11, gR a i g (nI cd) rf la ic (nI (wm - 1)) (nI ns) (nI sp) (nI go))), (a 19, .inl (cm 19, 2000, .inl fc)), (a 38, .inl (cm 38, 700, .inl fw)), (a 40, .inl (cm 40, 6, .inl fq)), (a 41, .inl (cm 41, 6, .inl fx))] H := hP
    have hD : va_D A [(h0, .inr (11, gR a i g (nI cd) rf la ic (nI (wm - 1)) (nI ns) (nI sp) (nI go))), (a 19, .inl (cm 19, 2000, .inl fc)), (a 38, .inl (cm 38, 700, .inl fw)), (a 40, .inl (cm 40, 6, .inl fq)), (a 41, .inl (cm 41, 6, .inl fx))] := hD
    refine lv_aload_n hx hb dX11_worksOn_63 rfl (lv_at hl 0 rfl) ?_
    refine va_get (D := D) (ci := 11) (v := .ref (a 38)) (C := RX11) (T := TX11) (N := 47) hx hb hts hin_X11 hown hK hP 0 rfl rfl 38 (by decide) (hts (.fieldLink RX11 61 "ClashFreeModel" "worked" "[I") (List.mem_of_getElem? (i := 2) rfl)) (fun _ h9 => h9) rfl dX11_worksOn_64 ?_
    refine lv_aload_n hx hb dX11_worksOn_67 rfl (lv_at hl 0 rfl) ?_
    refine va_get (D := D) (ci := 11) (v := .int (nI (wm - 1))) (C := RX11) (T := TX11) (N := 47) hx hb hts hin_X11 hown hK hP 0 rfl rfl 39 (by decide) (hts (.fieldLink RX11 388 "ClashFreeModel" "workedMany" "I") (List.mem_of_getElem? (i := 1) rfl)) (fun _ h9 => h9) rfl dX11_worksOn_68 ?_
    refine lv_iconst (v := 1) hx hb dX11_worksOn_71 (by decide) ?_
    refine lv_isub hx hb dX11_worksOn_72 ?_
    refine lv_topi (fun v3 ev3 => ?_)
    obtain rfl : v3 = nI (wm - 1 - 1) := ev3.trans (pk_sub (b := 1) (by omega))
    refine lv_iload_n hx hb dX11_worksOn_73 rfl (lv_at hl 1 rfl) ?_
    refine lv_aload_n hx hb dX11_worksOn_74 rfl (lv_at hl 0 rfl) ?_
    refine va_get (D := D) (ci := 11) (v := .ref (a 38)) (C := RX11) (T := TX11) (N := 47) hx hb hts hin_X11 hown hK hP 0 rfl rfl 38 (by decide) (hts (.fieldLink RX11 61 "ClashFreeModel" "worked" "[I") (List.mem_of_getElem? (i := 2) rfl)) (fun _ h9 => h9) rfl dX11_worksOn_75 ?_
    refine lv_aload_n hx hb dX11_worksOn_78 rfl (lv_at hl 0 rfl) ?_
    refine va_get (D := D) (ci := 11) (v := .int (nI (wm - 1))) (C := RX11) (T := TX11) (N := 47) hx hb hts hin_X11 hown hK hP 0 rfl rfl 39 (by decide) (hts (.fieldLink RX11 388 "ClashFreeModel" "workedMany" "I") (List.mem_of_getElem? (i := 1) rfl)) (fun _ h9 => h9) rfl dX11_worksOn_79 ?_
    refine lv_iconst (v := 1) hx hb dX11_worksOn_82 (by decide) ?_
    refine lv_isub hx hb dX11_worksOn_83 ?_
    refine lv_topi (fun v4 ev4 => ?_)
    obtain rfl : v4 = nI (wm - 1 - 1) := ev4.trans (pk_sub (b := 1) (by omega))
    refine va_iald hx hb hK hP 2 1 rfl rfl (vp_in_nI (by omega) (by decide)) dX11_worksOn_84 ?_
    refine lv_topi (fun v5 ev5 => ?_)
    obtain rfl : v5 = fw (wm - 1 - 1) := ev5.trans (by rw [nI_clamp (by omega)])
    refine lv_aload_n hx hb dX11_worksOn_85 rfl (lv_at hl 0 rfl) ?_
    refine va_get (D := D) (ci := 11) (v := .ref (a 38)) (C := RX11) (T := TX11) (N := 47) hx hb hts hin_X11 hown hK hP 0 rfl rfl 38 (by decide) (hts (.fieldLink RX11 61 "ClashFreeModel" "worked" "[I") (List.mem_of_getElem? (i := 2) rfl)) (fun _ h9 => h9) rfl dX11_worksOn_86 ?_
    refine lv_aload_n hx hb dX11_worksOn_89 rfl (lv_at hl 0 rfl) ?_
    refine va_get (D := D) (ci := 11) (v := .int (nI (wm - 1))) (C := RX11) (T := TX11) (N := 47) hx hb hts hin_X11 hown hK hP 0 rfl rfl 39 (by decide) (hts (.fieldLink RX11 388 "ClashFreeModel" "workedMany" "I") (List.mem_of_getElem? (i := 1) rfl)) (fun _ h9 => h9) rfl dX11_worksOn_90 ?_
    refine va_iald hx hb hK hP 2 1 rfl rfl (vp_in_nI (by omega) (by decide)) dX11_worksOn_93 ?_
    refine lv_topi (fun v6 ev6 => ?_)
    obtain rfl : v6 = fw (wm - 1) := ev6.trans (by rw [nI_clamp (by omega)])
    have hPc := hP.sub (ws' := []) [] rfl
    have hKc := hK.sub (tys' := []) [] rfl
    have hFc := va_free0 hS hA
    refine va_calli (va_runS (As := [.int (nI x), .int (fw (wm - 1 - 1)), .int (fw (wm - 1))]) (rest := [.int (nI (wm - 1 - 1)), .ref (a 38)]) ⟨hx, hb, hml, hown, hts⟩ (c_joined l D _ (nI x) (fw (wm - 1 - 1)) (fw (wm - 1))) (va_cwS 3 hts g_c_worksOn_c_joined_397 rfl rfl rfl (by decide +kernel) ⟨(Nat.le_of_ble_eq_true rfl), (Nat.le_of_ble_eq_true rfl)⟩) (PcR_S hPc hKc) rfl rfl hl.1 rfl (lv_room (Nat.le_of_ble_eq_true rfl)) dX11_worksOn_94 ⟨(Nat.le_of_ble_eq_true rfl), (Nat.le_of_ble_eq_true rfl)⟩) hS (fun q _ h => hFc q h) hFc (fun r7 uu tt H locs htt hvm hw hB hz1 hk1 hS => ?_)
    have hP := va_keep hP hk1
    try dsimp only at hw
    clear hB hz1 hk1 hFc hPc hKc
    have hjn8 := hw
    refine va_iast hx hb hK hP hD hS 2 1 rfl rfl (vp_in_nI (by omega) (by decide)) dX11_worksOn_97 (fun H locs hP hD hS => ?_)
    have hP : va_P D vwCl [(h0, .inr (11, gR a i g (nI cd) rf la ic (nI (wm - 1)) (nI ns) (nI sp) (nI go))), (a 19, .inl (cm 19, 2000, .inl fc)), (a 38, .inl (cm 38, 700, .inl (upd fw (Int32.toNatClampNeg (nI (wm - 1 - 1))) r7))), (a 40, .inl (cm 40, 6, .inl fq)), (a 41, .inl (cm 41, 6, .inl fx))] H := hP
    have hD : va_D A [(h0, .inr (11, gR a i g (nI cd) rf la ic (nI (wm - 1)) (nI ns) (nI sp) (nI go))), (a 19, .inl (cm 19, 2000, .inl fc)), (a 38, .inl (cm 38, 700, .inl (upd fw (Int32.toNatClampNeg (nI (wm - 1 - 1))) r7))), (a 40, .inl (cm 40, 6, .inl fq)), (a 41, .inl (cm 41, 6, .inl fx))] := hD
    rw [show (upd fw (Int32.toNatClampNeg (nI (wm - 1 - 1))) r7) = (upd fw (wm - 1 - 1) r7) from by rw [nI_clamp (by omega)]] at hP hD
    exact W.vret hx hb hr (fun t ht hW => ⟨⟨((upd fw (wm - 1 - 1) r7), (wm - 1)), rfl, (by (try dsimp only); exact ⟨fun _ => by omega, fun _ => by omega, fun rk bs os e1 e2 e3 e4 e5 => by
        obtain ⟨c1, c2, c3⟩ := OsM_pop e1 e2 (by omega)
        obtain ⟨d1, d2, d3⟩ := OsM_pop c2 c3 (by omega)
        have hj := hjn8 x rfl h13 (by omega)
        rw [c1, d1] at hj
        exact ⟨_, by rw [List.length_cons]; omega, OsM_psh d2 d3, Or.inr (Or.inr (Or.inr ⟨h13, by rw [hj]⟩))⟩⟩), by rw [ht]; exact hP.sub [0, 1, 2, 3, 4] rfl, va_K.moved hW.alike (hK.sub [0, 1, 2, 3] rfl), hD.sub [0, 1, 2, 3, 4] (by decide) rfl⟩, hS.F ht⟩) hS.2.2 dX11_worksOn_98
  ·
    have h13 : x < 13 := by
      rcases Nat.lt_or_ge x 13 with z | z
      · exact z
      · exact absurd (nI_le (a := 13) z (by omega)) hc1
    refine lv_aload_n hx hb dX11_worksOn_6 rfl (lv_at hl 0 rfl) ?_
    refine va_get (D := D) (ci := 11) (v := .ref (a 38)) (C := RX11) (T := TX11) (N := 47) hx hb hts hin_X11 hown hK hP 0 rfl rfl 38 (by decide) (hts (.fieldLink RX11 61 "ClashFreeModel" "worked" "[I") (List.mem_of_getElem? (i := 2) rfl)) (fun _ h9 => h9) rfl dX11_worksOn_7 ?_
    refine lv_aload_n hx hb dX11_worksOn_10 rfl (lv_at hl 0 rfl) ?_
    refine va_get (D := D) (ci := 11) (v := .int (nI wm)) (C := RX11) (T := TX11) (N := 47) hx hb hts hin_X11 hown hK hP 0 rfl rfl 39 (by decide) (hts (.fieldLink RX11 388 "ClashFreeModel" "workedMany" "I") (List.mem_of_getElem? (i := 1) rfl)) (fun _ h9 => h9) rfl dX11_worksOn_11 ?_
    refine lv_iload_n hx hb dX11_worksOn_14 rfl (lv_at hl 1 rfl) ?_
    refine lv_bipush (v := 10) hx hb dX11_worksOn_15 (by decide) ?_
    refine lv_icmp_ne (tgt := 24) hx hb dX11_worksOn_17 (by decide) (fun hc9 => ?_) (fun hc9 => ?_)
    ·
      have hx10 : ¬ x = 10 := fun q => hc9 (congrArg nI q)
      refine lv_iload_n hx hb dX11_worksOn_24 rfl (lv_at hl 1 rfl) ?_
      refine lv_bipush (v := 11) hx hb dX11_worksOn_25 (by decide) ?_
      refine lv_icmp_ne (tgt := 37) hx hb dX11_worksOn_27 (by decide) (fun hc10 => ?_) (fun hc10 => ?_)
      ·
        have hx11 : ¬ x = 11 := fun q => hc10 (congrArg nI q)
        refine lv_aload_n hx hb dX11_worksOn_37 rfl (lv_at hl 0 rfl) ?_
        refine va_get (D := D) (ci := 11) (v := .int la) (C := RX11) (T := TX11) (N := 47) hx hb hts hin_X11 hown hK hP 0 rfl rfl 36 (by decide) (hts (.fieldLink RX11 394 "ClashFreeModel" "latest" "I") (List.mem_of_getElem? (i := 6) rfl)) (fun _ h9 => h9) rfl dX11_worksOn_38 ?_
        refine va_iast hx hb hK hP hD hS 2 1 rfl rfl (vp_in_nI (by omega) (by decide)) dX11_worksOn_41 (fun H locs hP hD hS => ?_)
        have hP : va_P D vwCl [(h0, .inr (11, gR a i g (nI cd) rf la ic (nI wm) (nI ns) (nI sp) (nI go))), (a 19, .inl (cm 19, 2000, .inl fc)), (a 38, .inl (cm 38, 700, .inl (upd fw (Int32.toNatClampNeg (nI wm)) la))), (a 40, .inl (cm 40, 6, .inl fq)), (a 41, .inl (cm 41, 6, .inl fx))] H := hP
        have hD : va_D A [(h0, .inr (11, gR a i g (nI cd) rf la ic (nI wm) (nI ns) (nI sp) (nI go))), (a 19, .inl (cm 19, 2000, .inl fc)), (a 38, .inl (cm 38, 700, .inl (upd fw (Int32.toNatClampNeg (nI wm)) la))), (a 40, .inl (cm 40, 6, .inl fq)), (a 41, .inl (cm 41, 6, .inl fx))] := hD
        rw [show (upd fw (Int32.toNatClampNeg (nI wm)) la) = (upd fw wm la) from by rw [nI_clamp (by omega)]] at hP hD
        refine lv_aload_n hx hb dX11_worksOn_42 rfl (lv_at hl 0 rfl) ?_
        refine lv_dup hx hb dX11_worksOn_43 rfl ?_
        refine va_get (D := D) (ci := 11) (v := .int (nI wm)) (C := RX11) (T := TX11) (N := 47) hx hb hts hin_X11 hown hK hP 0 rfl rfl 39 (by decide) (hts (.fieldLink RX11 388 "ClashFreeModel" "workedMany" "I") (List.mem_of_getElem? (i := 1) rfl)) (fun _ h9 => h9) rfl dX11_worksOn_44 ?_
        refine lv_iconst (v := 1) hx hb dX11_worksOn_47 (by decide) ?_
        refine lv_iadd hx hb dX11_worksOn_48 ?_
        refine lv_topi (fun v11 ev11 => ?_)
        obtain rfl : v11 = nI (wm + 1) := ev11.trans (nI_1 _)
        refine va_put (D := D) (ci := 11) (v := .int (nI (wm + 1))) (ty := .int) (C := RX11) (T := TX11) (N := 47) hx hb hts hin_X11 tyX11 tyX11_ok nmX11 hown hK hP hD hS 0 rfl rfl 39 (by decide) (hts (.fieldLink RX11 388 "ClashFreeModel" "workedMany" "I") (List.mem_of_getElem? (i := 1) rfl)) (fun _ h9 => h9) rfl (by decide +kernel) rfl rfl (Nat.le_of_ble_eq_true rfl) dX11_worksOn_49 (fun H locs hP hD hS => ?_)
        have hP : va_P D vwCl [(h0, .inr (11, gR a i g (nI cd) rf la ic (nI (wm + 1)) (nI ns) (nI sp) (nI go))), (a 19, .inl (cm 19, 2000, .inl fc)), (a 38, .inl (cm 38, 700, .inl (upd fw wm la))), (a 40, .inl (cm 40, 6, .inl fq)), (a 41, .inl (cm 41, 6, .inl fx))] H := hP
        have hD : va_D A [(h0, .inr (11, gR a i g (nI cd) rf la ic (nI (wm + 1)) (nI ns) (nI sp) (nI go))), (a 19, .inl (cm 19, 2000, .inl fc)), (a 38, .inl (cm 38, 700, .inl (upd fw wm la))), (a 40, .inl (cm 40, 6, .inl fq)), (a 41, .inl (cm 41, 6, .inl fx))] := hD
        exact W.vret hx hb hr (fun t ht hW => ⟨⟨((upd fw wm la), (wm + 1)), rfl, (by (try dsimp only); exact ⟨fun _ => by omega, fun _ => by omega, fun rk bs os e1 e2 e3 e4 e5 => ⟨_, by rw [List.length_cons]; omega, OsM_psh e1 e2, Or.inr (Or.inr (Or.inl ⟨hx10, hx11, by omega, rfl⟩))⟩⟩), by rw [ht]; exact hP.sub [0, 1, 2, 3, 4] rfl, va_K.moved hW.alike (hK.sub [0, 1, 2, 3] rfl), hD.sub [0, 1, 2, 3, 4] (by decide) rfl⟩, hS.F ht⟩) hS.2.2 dX11_worksOn_52
      ·
        have hx11 : x = 11 := (nI_eq (b := 11) (by omega) (by decide)).mp hc10
        refine lv_aload_n hx hb dX11_worksOn_30 rfl (lv_at hl 0 rfl) ?_
        have hPc := hP.sub (ws' := [(h0, .inr (11, gR a i g (nI cd) rf la ic (nI wm) (nI ns) (nI sp) (nI go))), (a 19, .inl (cm 19, 2000, .inl fc)), (a 40, .inl (cm 40, 6, .inl fq)), (a 41, .inl (cm 41, 6, .inl fx))]) [0, 1, 3, 4] rfl
        have hKc := hK.sub (tys' := [(cm 19, .int), (cm 40, .int), (cm 41, .int)]) [0, 2, 3] rfl
        have hFc := va_free0 hS hA
        refine va_calli (va_runV (As := []) (rest := [.int (nI wm), .ref (a 38)]) ⟨hx, hb, hml, hown, hts⟩ (c_roundNow l D _ h0 a cm i g fc fq fx cd rf la ic wm ns sp go (by first | assumption | omega) (by first | assumption | omega)) (cwV 0 hts g_c_worksOn_c_roundNow_391 rfl rfl rfl (by decide +kernel) ⟨(Nat.le_of_ble_eq_true rfl), (Nat.le_of_ble_eq_true rfl)⟩) (PcR_V (q0 := 0) hPc hKc rfl rfl) rfl rfl hl.1 rfl (lv_room (Nat.le_of_ble_eq_true rfl)) dX11_worksOn_31 ⟨(Nat.le_of_ble_eq_true rfl), (Nat.le_of_ble_eq_true rfl)⟩) hS (fun q _ h => hFc q h) hFc (fun r12 uu tt H locs htt hvm hw hB hz1 hk1 hS => ?_)
        have hP := va_keep hP hk1
        try dsimp only at hw
        clear hB hz1 hk1 hFc hPc hKc
        have hrn13 := hw
        refine lv_goto (tgt := 41) hx hb dX11_worksOn_34 (by decide) ?_
        refine va_iast hx hb hK hP hD hS 2 1 rfl rfl (vp_in_nI (by omega) (by decide)) dX11_worksOn_41 (fun H locs hP hD hS => ?_)
        have hP : va_P D vwCl [(h0, .inr (11, gR a i g (nI cd) rf la ic (nI wm) (nI ns) (nI sp) (nI go))), (a 19, .inl (cm 19, 2000, .inl fc)), (a 38, .inl (cm 38, 700, .inl (upd fw (Int32.toNatClampNeg (nI wm)) r12))), (a 40, .inl (cm 40, 6, .inl fq)), (a 41, .inl (cm 41, 6, .inl fx))] H := hP
        have hD : va_D A [(h0, .inr (11, gR a i g (nI cd) rf la ic (nI wm) (nI ns) (nI sp) (nI go))), (a 19, .inl (cm 19, 2000, .inl fc)), (a 38, .inl (cm 38, 700, .inl (upd fw (Int32.toNatClampNeg (nI wm)) r12))), (a 40, .inl (cm 40, 6, .inl fq)), (a 41, .inl (cm 41, 6, .inl fx))] := hD
        rw [show (upd fw (Int32.toNatClampNeg (nI wm)) r12) = (upd fw wm r12) from by rw [nI_clamp (by omega)]] at hP hD
        refine lv_aload_n hx hb dX11_worksOn_42 rfl (lv_at hl 0 rfl) ?_
        refine lv_dup hx hb dX11_worksOn_43 rfl ?_
        refine va_get (D := D) (ci := 11) (v := .int (nI wm)) (C := RX11) (T := TX11) (N := 47) hx hb hts hin_X11 hown hK hP 0 rfl rfl 39 (by decide) (hts (.fieldLink RX11 388 "ClashFreeModel" "workedMany" "I") (List.mem_of_getElem? (i := 1) rfl)) (fun _ h9 => h9) rfl dX11_worksOn_44 ?_
        refine lv_iconst (v := 1) hx hb dX11_worksOn_47 (by decide) ?_
        refine lv_iadd hx hb dX11_worksOn_48 ?_
        refine lv_topi (fun v14 ev14 => ?_)
        obtain rfl : v14 = nI (wm + 1) := ev14.trans (nI_1 _)
        refine va_put (D := D) (ci := 11) (v := .int (nI (wm + 1))) (ty := .int) (C := RX11) (T := TX11) (N := 47) hx hb hts hin_X11 tyX11 tyX11_ok nmX11 hown hK hP hD hS 0 rfl rfl 39 (by decide) (hts (.fieldLink RX11 388 "ClashFreeModel" "workedMany" "I") (List.mem_of_getElem? (i := 1) rfl)) (fun _ h9 => h9) rfl (by decide +kernel) rfl rfl (Nat.le_of_ble_eq_true rfl) dX11_worksOn_49 (fun H locs hP hD hS => ?_)
        have hP : va_P D vwCl [(h0, .inr (11, gR a i g (nI cd) rf la ic (nI (wm + 1)) (nI ns) (nI sp) (nI go))), (a 19, .inl (cm 19, 2000, .inl fc)), (a 38, .inl (cm 38, 700, .inl (upd fw wm r12))), (a 40, .inl (cm 40, 6, .inl fq)), (a 41, .inl (cm 41, 6, .inl fx))] H := hP
        have hD : va_D A [(h0, .inr (11, gR a i g (nI cd) rf la ic (nI (wm + 1)) (nI ns) (nI sp) (nI go))), (a 19, .inl (cm 19, 2000, .inl fc)), (a 38, .inl (cm 38, 700, .inl (upd fw wm r12))), (a 40, .inl (cm 40, 6, .inl fq)), (a 41, .inl (cm 41, 6, .inl fx))] := hD
        exact W.vret hx hb hr (fun t ht hW => ⟨⟨((upd fw wm r12), (wm + 1)), rfl, (by (try dsimp only); exact ⟨fun _ => by omega, fun _ => by omega, fun rk bs os e1 e2 e3 e4 e5 => ⟨_, by rw [List.length_cons]; omega, OsM_psh e1 e2, Or.inr (Or.inl ⟨hx11, by rw [hrn13 rk bs e3 e4 e5]⟩)⟩⟩), by rw [ht]; exact hP.sub [0, 1, 2, 3, 4] rfl, va_K.moved hW.alike (hK.sub [0, 1, 2, 3] rfl), hD.sub [0, 1, 2, 3, 4] (by decide) rfl⟩, hS.F ht⟩) hS.2.2 dX11_worksOn_52
    ·
      have hx10 : x = 10 := (nI_eq (b := 10) (by omega) (by decide)).mp hc9
      refine lv_iload_n hx hb dX11_worksOn_20 rfl (lv_at hl 2 rfl) ?_
      refine lv_goto (tgt := 41) hx hb dX11_worksOn_21 (by decide) ?_
      refine va_iast hx hb hK hP hD hS 2 1 rfl rfl (vp_in_nI (by omega) (by decide)) dX11_worksOn_41 (fun H locs hP hD hS => ?_)
      have hP : va_P D vwCl [(h0, .inr (11, gR a i g (nI cd) rf la ic (nI wm) (nI ns) (nI sp) (nI go))), (a 19, .inl (cm 19, 2000, .inl fc)), (a 38, .inl (cm 38, 700, .inl (upd fw (Int32.toNatClampNeg (nI wm)) z2))), (a 40, .inl (cm 40, 6, .inl fq)), (a 41, .inl (cm 41, 6, .inl fx))] H := hP
      have hD : va_D A [(h0, .inr (11, gR a i g (nI cd) rf la ic (nI wm) (nI ns) (nI sp) (nI go))), (a 19, .inl (cm 19, 2000, .inl fc)), (a 38, .inl (cm 38, 700, .inl (upd fw (Int32.toNatClampNeg (nI wm)) z2))), (a 40, .inl (cm 40, 6, .inl fq)), (a 41, .inl (cm 41, 6, .inl fx))] := hD
      rw [show (upd fw (Int32.toNatClampNeg (nI wm)) z2) = (upd fw wm z2) from by rw [nI_clamp (by omega)]] at hP hD
      refine lv_aload_n hx hb dX11_worksOn_42 rfl (lv_at hl 0 rfl) ?_
      refine lv_dup hx hb dX11_worksOn_43 rfl ?_
      refine va_get (D := D) (ci := 11) (v := .int (nI wm)) (C := RX11) (T := TX11) (N := 47) hx hb hts hin_X11 hown hK hP 0 rfl rfl 39 (by decide) (hts (.fieldLink RX11 388 "ClashFreeModel" "workedMany" "I") (List.mem_of_getElem? (i := 1) rfl)) (fun _ h9 => h9) rfl dX11_worksOn_44 ?_
      refine lv_iconst (v := 1) hx hb dX11_worksOn_47 (by decide) ?_
      refine lv_iadd hx hb dX11_worksOn_48 ?_
      refine lv_topi (fun v15 ev15 => ?_)
      obtain rfl : v15 = nI (wm + 1) := ev15.trans (nI_1 _)
      refine va_put (D := D) (ci := 11) (v := .int (nI (wm + 1))) (ty := .int) (C := RX11) (T := TX11) (N := 47) hx hb hts hin_X11 tyX11 tyX11_ok nmX11 hown hK hP hD hS 0 rfl rfl 39 (by decide) (hts (.fieldLink RX11 388 "ClashFreeModel" "workedMany" "I") (List.mem_of_getElem? (i := 1) rfl)) (fun _ h9 => h9) rfl (by decide +kernel) rfl rfl (Nat.le_of_ble_eq_true rfl) dX11_worksOn_49 (fun H locs hP hD hS => ?_)
      have hP : va_P D vwCl [(h0, .inr (11, gR a i g (nI cd) rf la ic (nI (wm + 1)) (nI ns) (nI sp) (nI go))), (a 19, .inl (cm 19, 2000, .inl fc)), (a 38, .inl (cm 38, 700, .inl (upd fw wm z2))), (a 40, .inl (cm 40, 6, .inl fq)), (a 41, .inl (cm 41, 6, .inl fx))] H := hP
      have hD : va_D A [(h0, .inr (11, gR a i g (nI cd) rf la ic (nI (wm + 1)) (nI ns) (nI sp) (nI go))), (a 19, .inl (cm 19, 2000, .inl fc)), (a 38, .inl (cm 38, 700, .inl (upd fw wm z2))), (a 40, .inl (cm 40, 6, .inl fq)), (a 41, .inl (cm 41, 6, .inl fx))] := hD
      exact W.vret hx hb hr (fun t ht hW => ⟨⟨((upd fw wm z2), (wm + 1)), rfl, (by (try dsimp only); exact ⟨fun _ => by omega, fun _ => by omega, fun rk bs os e1 e2 e3 e4 e5 => ⟨_, by rw [List.length_cons]; omega, OsM_psh e1 e2, Or.inl ⟨hx10, rfl⟩⟩⟩), by rw [ht]; exact hP.sub [0, 1, 2, 3, 4] rfl, va_K.moved hW.alike (hK.sub [0, 1, 2, 3] rfl), hD.sub [0, 1, 2, 3, 4] (by decide) rfl⟩, hS.F ht⟩) hS.2.2 dX11_worksOn_52

def own_c_isStep : List Cond := [.fieldLink RX11 400 "ClashFreeModel" "steps" "I", .fieldLink RX11 403 "ClashFreeModel" "isCut" "Z"]
def wp_c_isStep : List Cond := .code yX11_isStep cX11_isStep 1 (some .boolean) :: (own_c_isStep ++ (wsX110 ++ ([] : List Cond)))
set_option maxRecDepth 20000 in
theorem inown_c_isStep : ∀ w ∈ own_c_isStep, w ∈ lw_tbl := mem_places [1259, 1253] (by decide +kernel)
set_option maxRecDepth 20000 in
theorem in_c_isStep : ∀ w ∈ wp_c_isStep, w ∈ lw_tbl := List.forall_mem_cons.mpr ⟨List.mem_of_getElem? (i := 1777) (by decide +kernel), List.forall_mem_append.mpr ⟨inown_c_isStep, List.forall_mem_append.mpr ⟨lwb_X11, fun _ h => absurd h List.not_mem_nil⟩⟩⟩
set_option maxRecDepth 20000 in
theorem good_c_isStep : wp_c_isStep.all goodWord = true := by decide +kernel
set_option maxHeartbeats 4000000 in
set_option maxRecDepth 100000 in
theorem c_isStep (l : Launch) (D : va_G) (sz : Nat) (h0 : Nat) (a : Nat → Nat) (cm : Nat → ClassId) (i : Nat → Int32) (g : Nat → Int64) (cd : Nat) (rf : Int32) (la : Int32) (ic : Int32) (wm : Nat) (ns : Nat) (sp : Nat) (go : Nat) (hsp : sp ≤ 300) : Met l yX11_isStep wp_c_isStep ({ frames := 0, cells := 0, slots := 0, locals := 0 }) (PcW D [.ref h0] sz [(h0, .inr (11, gR a i g (nI cd) rf la ic (nI wm) (nI ns) (nI sp) (nI go)))] []) (va_Qi (fun (r : Int32) (u : (Int32) × (Nat)) => (r = 1 ∧ u.1 = 0 ∧ u.2 = sp + 1 ∧ sp < 300) ∨ (r = 0 ∧ u.1 = 1 ∧ u.2 = sp ∧ 300 ≤ sp)) (fun (u : (Int32) × (Nat)) t => va_P D vwCl [(h0, .inr (11, gR a i g (nI cd) rf la u.1 (nI wm) (nI ns) (nI u.2) (nI go)))] t.heap ∧ va_K D vwCl [] t ∧ va_D (va_A [(h0, .inr (11, gR a i g (nI cd) rf la ic (nI wm) (nI ns) (nI sp) (nI go)))] sz) [(h0, .inr (11, gR a i g (nI cd) rf la u.1 (nI wm) (nI ns) (nI u.2) (nI go)))]) (va_A [(h0, .inr (11, gR a i g (nI cd) rf la ic (nI wm) (nI ns) (nI sp) (nI go)))] sz)) 0 0 (va_A [(h0, .inr (11, gR a i g (nI cd) rf la ic (nI wm) (nI ns) (nI sp) (nI go)))] sz) := by
  refine Met.ofW (cc := cX11_isStep) (maxL := 1) (ret := (some .boolean)) (by decide) rfl ?_
  intro p e s m args below meth c s₁ B hml hv
  obtain ⟨rfl, hsz, hP, hK, hD0⟩ := hv
  have hx := B.exec
  have hb := B.bytes
  have hr := B.returns
  have hts := atoms_spec (ws := wp_c_isStep) B.pre
  have hin_X11 : ∀ w ∈ wsX110, w ∈ wp_c_isStep := fun _ h => (List.mem_cons_of_mem _ (List.mem_append_right _ (List.mem_append_left _ h)))
  have hown : s.vm.findClass RX11 = some m.cls := findClass_of_methodNamed B.named
  have hlocks := B.notSynchronized
  subst hsz
  have hD := hD0.self (sz := s.heap.size)
  generalize hAe : va_A [(h0, .inr (11, gR a i g (nI cd) rf la ic (nI wm) (nI ns) (nI sp) (nI go)))] s.heap.size = A at hD ⊢
  have hA : ∀ q : Nat, s.heap.size ≤ q → A q := fun q h => by rw [← hAe]; exact Or.inr h
  have hS : va_S A s.heap s.heap [] := va_S.rf
  have hP : va_P D vwCl [(h0, .inr (11, gR a i g (nI cd) rf la ic (nI wm) (nI ns) (nI sp) (nI go)))] s.heap := hP
  have hl := lv_entry ([.ref h0]) (n := 1) (Nat.le_of_ble_eq_true rfl)
  rw [lg_entry_eq]
  generalize (lg_sl ([.ref h0]) ++ List.replicate (1 - (lg_sl ([.ref h0])).length) Slot.unset).toArray = ls at hl ⊢
  have hl : lv_has ls 1 [(0, .ref h0)] := hl
  refine lv_aload_n hx hb dX11_isStep_0 rfl (lv_at hl 0 rfl) ?_
  refine lv_aload_n hx hb dX11_isStep_1 rfl (lv_at hl 0 rfl) ?_
  refine va_get (D := D) (ci := 11) (v := .int (nI sp)) (C := RX11) (T := TX11) (N := 47) hx hb hts hin_X11 hown hK hP 0 rfl rfl 43 (by decide) (hts (.fieldLink RX11 400 "ClashFreeModel" "steps" "I") (List.mem_of_getElem? (i := 1) rfl)) (fun _ h9 => h9) rfl dX11_isStep_2 ?_
  refine lv_sipush (v := 300) hx hb dX11_isStep_5 (by decide) ?_
  refine lv_icmp_ne (tgt := 15) hx hb dX11_isStep_8 (by decide) (fun hc1 => ?_) (fun hc1 => ?_)
  ·
    have hs3 : sp < 300 := by
      rcases Nat.lt_or_ge sp 300 with z | z
      · exact z
      · exact absurd (by rw [show sp = 300 by omega]; rfl) hc1
    refine lv_iconst (v := 0) hx hb dX11_isStep_15 (by decide) ?_
    refine va_put (D := D) (ci := 11) (v := .int 0) (ty := .boolean) (C := RX11) (T := TX11) (N := 47) hx hb hts hin_X11 tyX11 tyX11_ok nmX11 hown hK hP hD hS 0 rfl rfl 37 (by decide) (hts (.fieldLink RX11 403 "ClashFreeModel" "isCut" "Z") (List.mem_of_getElem? (i := 2) rfl)) (fun _ h9 => h9) rfl (by decide +kernel) rfl rfl (Nat.le_of_ble_eq_true rfl) dX11_isStep_16 (fun H locs hP hD hS => ?_)
    have hP : va_P D vwCl [(h0, .inr (11, gR a i g (nI cd) rf la 0 (nI wm) (nI ns) (nI sp) (nI go)))] H := hP
    have hD : va_D A [(h0, .inr (11, gR a i g (nI cd) rf la 0 (nI wm) (nI ns) (nI sp) (nI go)))] := hD
    refine lv_aload_n hx hb dX11_isStep_19 rfl (lv_at hl 0 rfl) ?_
    refine va_get (D := D) (ci := 11) (v := .int 0) (C := RX11) (T := TX11) (N := 47) hx hb hts hin_X11 hown hK hP 0 rfl rfl 37 (by decide) (hts (.fieldLink RX11 403 "ClashFreeModel" "isCut" "Z") (List.mem_of_getElem? (i := 2) rfl)) (fun _ h9 => h9) rfl dX11_isStep_20 ?_
    refine lv_if_ne (tgt := 36) hx hb dX11_isStep_23 (by decide) (fun hc => absurd (by decide) hc) (fun hc => ?_)
    refine lv_aload_n hx hb dX11_isStep_26 rfl (lv_at hl 0 rfl) ?_
    refine lv_dup hx hb dX11_isStep_27 rfl ?_
    refine va_get (D := D) (ci := 11) (v := .int (nI sp)) (C := RX11) (T := TX11) (N := 47) hx hb hts hin_X11 hown hK hP 0 rfl rfl 43 (by decide) (hts (.fieldLink RX11 400 "ClashFreeModel" "steps" "I") (List.mem_of_getElem? (i := 1) rfl)) (fun _ h9 => h9) rfl dX11_isStep_28 ?_
    refine lv_iconst (v := 1) hx hb dX11_isStep_31 (by decide) ?_
    refine lv_iadd hx hb dX11_isStep_32 ?_
    refine lv_topi (fun v2 ev2 => ?_)
    obtain rfl : v2 = nI (sp + 1) := ev2.trans (nI_1 _)
    refine va_put (D := D) (ci := 11) (v := .int (nI (sp + 1))) (ty := .int) (C := RX11) (T := TX11) (N := 47) hx hb hts hin_X11 tyX11 tyX11_ok nmX11 hown hK hP hD hS 0 rfl rfl 43 (by decide) (hts (.fieldLink RX11 400 "ClashFreeModel" "steps" "I") (List.mem_of_getElem? (i := 1) rfl)) (fun _ h9 => h9) rfl (by decide +kernel) rfl rfl (Nat.le_of_ble_eq_true rfl) dX11_isStep_33 (fun H locs hP hD hS => ?_)
    have hP : va_P D vwCl [(h0, .inr (11, gR a i g (nI cd) rf la 0 (nI wm) (nI ns) (nI (sp + 1)) (nI go)))] H := hP
    have hD : va_D A [(h0, .inr (11, gR a i g (nI cd) rf la 0 (nI wm) (nI ns) (nI (sp + 1)) (nI go)))] := hD
    refine lv_aload_n hx hb dX11_isStep_36 rfl (lv_at hl 0 rfl) ?_
    refine va_get (D := D) (ci := 11) (v := .int 0) (C := RX11) (T := TX11) (N := 47) hx hb hts hin_X11 hown hK hP 0 rfl rfl 37 (by decide) (hts (.fieldLink RX11 403 "ClashFreeModel" "isCut" "Z") (List.mem_of_getElem? (i := 2) rfl)) (fun _ h9 => h9) rfl dX11_isStep_37 ?_
    refine lv_if_ne (tgt := 47) hx hb dX11_isStep_40 (by decide) (fun hc => absurd (by decide) hc) (fun hc => ?_)
    refine lv_iconst (v := 1) hx hb dX11_isStep_43 (by decide) ?_
    refine lv_goto (tgt := 48) hx hb dX11_isStep_44 (by decide) ?_
    exact W.zret (v := 1) hx hb hr rfl (fun t ht hW => ⟨⟨1, (0, (sp + 1)), rfl, (by (try dsimp only); exact Or.inl ⟨rfl, rfl, rfl, hs3⟩), by rw [ht]; exact hP.sub [0] rfl, va_K.moved hW.alike (hK.sub [] rfl), hD.sub [0] (by decide) rfl⟩, hS.F ht⟩) hS.2.2 dX11_isStep_48
  ·
    have hs3 : 300 ≤ sp := by
      have := (nI_eq (b := 300) (by omega) (by decide)).mp hc1
      omega
    refine lv_iconst (v := 1) hx hb dX11_isStep_11 (by decide) ?_
    refine lv_goto (tgt := 16) hx hb dX11_isStep_12 (by decide) ?_
    refine va_put (D := D) (ci := 11) (v := .int 1) (ty := .boolean) (C := RX11) (T := TX11) (N := 47) hx hb hts hin_X11 tyX11 tyX11_ok nmX11 hown hK hP hD hS 0 rfl rfl 37 (by decide) (hts (.fieldLink RX11 403 "ClashFreeModel" "isCut" "Z") (List.mem_of_getElem? (i := 2) rfl)) (fun _ h9 => h9) rfl (by decide +kernel) rfl rfl (Nat.le_of_ble_eq_true rfl) dX11_isStep_16 (fun H locs hP hD hS => ?_)
    have hP : va_P D vwCl [(h0, .inr (11, gR a i g (nI cd) rf la 1 (nI wm) (nI ns) (nI sp) (nI go)))] H := hP
    have hD : va_D A [(h0, .inr (11, gR a i g (nI cd) rf la 1 (nI wm) (nI ns) (nI sp) (nI go)))] := hD
    refine lv_aload_n hx hb dX11_isStep_19 rfl (lv_at hl 0 rfl) ?_
    refine va_get (D := D) (ci := 11) (v := .int 1) (C := RX11) (T := TX11) (N := 47) hx hb hts hin_X11 hown hK hP 0 rfl rfl 37 (by decide) (hts (.fieldLink RX11 403 "ClashFreeModel" "isCut" "Z") (List.mem_of_getElem? (i := 2) rfl)) (fun _ h9 => h9) rfl dX11_isStep_20 ?_
    refine lv_if_ne (tgt := 36) hx hb dX11_isStep_23 (by decide) (fun hc => ?_) (fun hc => absurd hc (by decide))
    refine lv_aload_n hx hb dX11_isStep_36 rfl (lv_at hl 0 rfl) ?_
    refine va_get (D := D) (ci := 11) (v := .int 1) (C := RX11) (T := TX11) (N := 47) hx hb hts hin_X11 hown hK hP 0 rfl rfl 37 (by decide) (hts (.fieldLink RX11 403 "ClashFreeModel" "isCut" "Z") (List.mem_of_getElem? (i := 2) rfl)) (fun _ h9 => h9) rfl dX11_isStep_37 ?_
    refine lv_if_ne (tgt := 47) hx hb dX11_isStep_40 (by decide) (fun hc => ?_) (fun hc => absurd hc (by decide))
    refine lv_iconst (v := 0) hx hb dX11_isStep_47 (by decide) ?_
    exact W.zret (v := 0) hx hb hr rfl (fun t ht hW => ⟨⟨0, (1, sp), rfl, (by (try dsimp only); exact Or.inr ⟨rfl, rfl, rfl, hs3⟩), by rw [ht]; exact hP.sub [0] rfl, va_K.moved hW.alike (hK.sub [] rfl), hD.sub [0] (by decide) rfl⟩, hS.F ht⟩) hS.2.2 dX11_isStep_48

def own_c_isAbove : List Cond := [.fieldLink RX11 388 "ClashFreeModel" "workedMany" "I", .fieldLink RX11 61 "ClashFreeModel" "worked" "[I"]
def wp_c_isAbove : List Cond := .code yX11_isAbove cX11_isAbove 1 (some .boolean) :: (own_c_isAbove ++ (wsX110 ++ ([] : List Cond)))
set_option maxRecDepth 20000 in
theorem inown_c_isAbove : ∀ w ∈ own_c_isAbove, w ∈ lw_tbl := mem_places [1255, 1254] (by decide +kernel)
set_option maxRecDepth 20000 in
theorem in_c_isAbove : ∀ w ∈ wp_c_isAbove, w ∈ lw_tbl := List.forall_mem_cons.mpr ⟨List.mem_of_getElem? (i := 1773) (by decide +kernel), List.forall_mem_append.mpr ⟨inown_c_isAbove, List.forall_mem_append.mpr ⟨lwb_X11, fun _ h => absurd h List.not_mem_nil⟩⟩⟩
set_option maxRecDepth 20000 in
theorem good_c_isAbove : wp_c_isAbove.all goodWord = true := by decide +kernel
set_option maxHeartbeats 4000000 in
set_option maxRecDepth 100000 in
theorem c_isAbove (l : Launch) (D : va_G) (sz : Nat) (h0 : Nat) (a : Nat → Nat) (cm : Nat → ClassId) (i : Nat → Int32) (g : Nat → Int64) (fw : Nat → Int32) (cd : Nat) (rf : Int32) (la : Int32) (ic : Int32) (wm : Nat) (ns : Nat) (sp : Nat) (go : Nat) (hw1 : 1 ≤ wm) (hw6 : wm ≤ 690) : Met l yX11_isAbove wp_c_isAbove ({ frames := 0, cells := 0, slots := 0, locals := 0 }) (PcW D [.ref h0] sz [(h0, .inr (11, gR a i g (nI cd) rf la ic (nI wm) (nI ns) (nI sp) (nI go))), (a 38, .inl (cm 38, 700, .inl fw))] [(cm 38, .int)]) (va_Qi (fun (r : Int32) (u : (Nat)) => (r = 1 ∧ u + 1 = wm ∧ 0 < fw (wm - 1)) ∨ (r = 0 ∧ u + 1 = wm ∧ ¬ 0 < fw (wm - 1))) (fun (u : (Nat)) t => va_P D vwCl [(h0, .inr (11, gR a i g (nI cd) rf la ic (nI u) (nI ns) (nI sp) (nI go))), (a 38, .inl (cm 38, 700, .inl fw))] t.heap ∧ va_K D vwCl [(cm 38, .int)] t ∧ va_D (va_A [(h0, .inr (11, gR a i g (nI cd) rf la ic (nI wm) (nI ns) (nI sp) (nI go))), (a 38, .inl (cm 38, 700, .inl fw))] sz) [(h0, .inr (11, gR a i g (nI cd) rf la ic (nI u) (nI ns) (nI sp) (nI go))), (a 38, .inl (cm 38, 700, .inl fw))]) (va_A [(h0, .inr (11, gR a i g (nI cd) rf la ic (nI wm) (nI ns) (nI sp) (nI go))), (a 38, .inl (cm 38, 700, .inl fw))] sz)) 0 0 (va_A [(h0, .inr (11, gR a i g (nI cd) rf la ic (nI wm) (nI ns) (nI sp) (nI go))), (a 38, .inl (cm 38, 700, .inl fw))] sz) := by
  refine Met.ofW (cc := cX11_isAbove) (maxL := 1) (ret := (some .boolean)) (by decide) rfl ?_
  intro p e s m args below meth c s₁ B hml hv
  obtain ⟨rfl, hsz, hP, hK, hD0⟩ := hv
  have hx := B.exec
  have hb := B.bytes
  have hr := B.returns
  have hts := atoms_spec (ws := wp_c_isAbove) B.pre
  have hin_X11 : ∀ w ∈ wsX110, w ∈ wp_c_isAbove := fun _ h => (List.mem_cons_of_mem _ (List.mem_append_right _ (List.mem_append_left _ h)))
  have hown : s.vm.findClass RX11 = some m.cls := findClass_of_methodNamed B.named
  have hlocks := B.notSynchronized
  subst hsz
  have hD := hD0.self (sz := s.heap.size)
  generalize hAe : va_A [(h0, .inr (11, gR a i g (nI cd) rf la ic (nI wm) (nI ns) (nI sp) (nI go))), (a 38, .inl (cm 38, 700, .inl fw))] s.heap.size = A at hD ⊢
  have hA : ∀ q : Nat, s.heap.size ≤ q → A q := fun q h => by rw [← hAe]; exact Or.inr h
  have hS : va_S A s.heap s.heap [] := va_S.rf
  have hP : va_P D vwCl [(h0, .inr (11, gR a i g (nI cd) rf la ic (nI wm) (nI ns) (nI sp) (nI go))), (a 38, .inl (cm 38, 700, .inl fw))] s.heap := hP
  have hl := lv_entry ([.ref h0]) (n := 1) (Nat.le_of_ble_eq_true rfl)
  rw [lg_entry_eq]
  generalize (lg_sl ([.ref h0]) ++ List.replicate (1 - (lg_sl ([.ref h0])).length) Slot.unset).toArray = ls at hl ⊢
  have hl : lv_has ls 1 [(0, .ref h0)] := hl
  refine lv_aload_n hx hb dX11_isAbove_0 rfl (lv_at hl 0 rfl) ?_
  refine lv_dup hx hb dX11_isAbove_1 rfl ?_
  refine va_get (D := D) (ci := 11) (v := .int (nI wm)) (C := RX11) (T := TX11) (N := 47) hx hb hts hin_X11 hown hK hP 0 rfl rfl 39 (by decide) (hts (.fieldLink RX11 388 "ClashFreeModel" "workedMany" "I") (List.mem_of_getElem? (i := 1) rfl)) (fun _ h9 => h9) rfl dX11_isAbove_2 ?_
  refine lv_iconst (v := 1) hx hb dX11_isAbove_5 (by decide) ?_
  refine lv_isub hx hb dX11_isAbove_6 ?_
  refine lv_topi (fun v1 ev1 => ?_)
  obtain rfl : v1 = nI (wm - 1) := ev1.trans (pk_sub (b := 1) (by omega))
  refine va_put (D := D) (ci := 11) (v := .int (nI (wm - 1))) (ty := .int) (C := RX11) (T := TX11) (N := 47) hx hb hts hin_X11 tyX11 tyX11_ok nmX11 hown hK hP hD hS 0 rfl rfl 39 (by decide) (hts (.fieldLink RX11 388 "ClashFreeModel" "workedMany" "I") (List.mem_of_getElem? (i := 1) rfl)) (fun _ h9 => h9) rfl (by decide +kernel) rfl rfl (Nat.le_of_ble_eq_true rfl) dX11_isAbove_7 (fun H locs hP hD hS => ?_)
  have hP : va_P D vwCl [(h0, .inr (11, gR a i g (nI cd) rf la ic (nI (wm - 1)) (nI ns) (nI sp) (nI go))), (a 38, .inl (cm 38, 700, .inl fw))] H := hP
  have hD : va_D A [(h0, .inr (11, gR a i g (nI cd) rf la ic (nI (wm - 1)) (nI ns) (nI sp) (nI go))), (a 38, .inl (cm 38, 700, .inl fw))] := hD
  refine lv_aload_n hx hb dX11_isAbove_10 rfl (lv_at hl 0 rfl) ?_
  refine va_get (D := D) (ci := 11) (v := .ref (a 38)) (C := RX11) (T := TX11) (N := 47) hx hb hts hin_X11 hown hK hP 0 rfl rfl 38 (by decide) (hts (.fieldLink RX11 61 "ClashFreeModel" "worked" "[I") (List.mem_of_getElem? (i := 2) rfl)) (fun _ h9 => h9) rfl dX11_isAbove_11 ?_
  refine lv_aload_n hx hb dX11_isAbove_14 rfl (lv_at hl 0 rfl) ?_
  refine va_get (D := D) (ci := 11) (v := .int (nI (wm - 1))) (C := RX11) (T := TX11) (N := 47) hx hb hts hin_X11 hown hK hP 0 rfl rfl 39 (by decide) (hts (.fieldLink RX11 388 "ClashFreeModel" "workedMany" "I") (List.mem_of_getElem? (i := 1) rfl)) (fun _ h9 => h9) rfl dX11_isAbove_15 ?_
  refine va_iald hx hb hK hP 1 0 rfl rfl (vp_in_nI (by omega) (by decide)) dX11_isAbove_18 ?_
  refine lv_topi (fun v2 ev2 => ?_)
  obtain rfl : v2 = fw (wm - 1) := ev2.trans (by rw [nI_clamp (by omega)])
  refine lv_if_le (tgt := 26) hx hb dX11_isAbove_19 (by decide) (fun hc3 => ?_) (fun hc3 => ?_)
  ·
    refine lv_iconst (v := 0) hx hb dX11_isAbove_26 (by decide) ?_
    exact W.zret (v := 0) hx hb hr rfl (fun t ht hW => ⟨⟨0, (wm - 1), rfl, Or.inr ⟨rfl, by omega, Int32.not_lt.mpr hc3⟩, by rw [ht]; exact hP.sub [0, 1] rfl, va_K.moved hW.alike (hK.sub [0] rfl), hD.sub [0, 1] (by decide) rfl⟩, hS.F ht⟩) hS.2.2 dX11_isAbove_27
  ·
    refine lv_iconst (v := 1) hx hb dX11_isAbove_22 (by decide) ?_
    refine lv_goto (tgt := 27) hx hb dX11_isAbove_23 (by decide) ?_
    exact W.zret (v := 1) hx hb hr rfl (fun t ht hW => ⟨⟨1, (wm - 1), rfl, Or.inl ⟨rfl, by omega, Int32.not_le.mp hc3⟩, by rw [ht]; exact hP.sub [0, 1] rfl, va_K.moved hW.alike (hK.sub [0] rfl), hD.sub [0, 1] (by decide) rfl⟩, hS.F ht⟩) hS.2.2 dX11_isAbove_27

