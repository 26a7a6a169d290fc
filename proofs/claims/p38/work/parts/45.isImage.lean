theorem dX11_isImage_0 : decode cX11_isImage 0 = .ok (.iload_n 1, 1) := by decide +kernel
theorem dX11_isImage_1 : decode cX11_isImage 1 = .ok (.bipush 14, 2) := by decide +kernel
theorem dX11_isImage_3 : decode cX11_isImage 3 = .ok (.if_icmp .lt 41, 3) := by decide +kernel
theorem dX11_isImage_6 : decode cX11_isImage 6 = .ok (.iload_n 1, 1) := by decide +kernel
theorem dX11_isImage_7 : decode cX11_isImage 7 = .ok (.bipush 14, 2) := by decide +kernel
theorem dX11_isImage_9 : decode cX11_isImage 9 = .ok (.bipush 8, 2) := by decide +kernel
theorem dX11_isImage_11 : decode cX11_isImage 11 = .ok (.aload_n 0, 1) := by decide +kernel
theorem dX11_isImage_12 : decode cX11_isImage 12 = .ok (.getfield 7, 3) := by decide +kernel
theorem dX11_isImage_15 : decode cX11_isImage 15 = .ok (.bipush 12, 2) := by decide +kernel
theorem dX11_isImage_17 : decode cX11_isImage 17 = .ok (.baload, 1) := by decide +kernel
theorem dX11_isImage_18 : decode cX11_isImage 18 = .ok (.sipush 255, 3) := by decide +kernel
theorem dX11_isImage_21 : decode cX11_isImage 21 = .ok (.iand, 1) := by decide +kernel
theorem dX11_isImage_22 : decode cX11_isImage 22 = .ok (.imul, 1) := by decide +kernel
theorem dX11_isImage_23 : decode cX11_isImage 23 = .ok (.iadd, 1) := by decide +kernel
theorem dX11_isImage_24 : decode cX11_isImage 24 = .ok (.if_icmp .ne 20, 3) := by decide +kernel
theorem dX11_isImage_27 : decode cX11_isImage 27 = .ok (.aload_n 0, 1) := by decide +kernel
theorem dX11_isImage_28 : decode cX11_isImage 28 = .ok (.getfield 7, 3) := by decide +kernel
theorem dX11_isImage_31 : decode cX11_isImage 31 = .ok (.bipush 12, 2) := by decide +kernel
theorem dX11_isImage_33 : decode cX11_isImage 33 = .ok (.baload, 1) := by decide +kernel
theorem dX11_isImage_34 : decode cX11_isImage 34 = .ok (.sipush 255, 3) := by decide +kernel
theorem dX11_isImage_37 : decode cX11_isImage 37 = .ok (.iand, 1) := by decide +kernel
theorem dX11_isImage_38 : decode cX11_isImage 38 = .ok (.sipush 160, 3) := by decide +kernel
theorem dX11_isImage_41 : decode cX11_isImage 41 = .ok (.if_icmp .le 5, 3) := by decide +kernel
theorem dX11_isImage_44 : decode cX11_isImage 44 = .ok (.iconst 0, 1) := by decide +kernel
theorem dX11_isImage_45 : decode cX11_isImage 45 = .ok (.ireturn, 1) := by decide +kernel
theorem dX11_isImage_46 : decode cX11_isImage 46 = .ok (.bipush 7, 2) := by decide +kernel
theorem dX11_isImage_48 : decode cX11_isImage 48 = .ok (.istore_n 2, 1) := by decide +kernel
theorem dX11_isImage_49 : decode cX11_isImage 49 = .ok (.iconst 0, 1) := by decide +kernel
theorem dX11_isImage_50 : decode cX11_isImage 50 = .ok (.istore_n 3, 1) := by decide +kernel
theorem dX11_isImage_51 : decode cX11_isImage 51 = .ok (.iload_n 3, 1) := by decide +kernel
theorem dX11_isImage_52 : decode cX11_isImage 52 = .ok (.iload_n 1, 1) := by decide +kernel
theorem dX11_isImage_53 : decode cX11_isImage 53 = .ok (.iconst 1, 1) := by decide +kernel
theorem dX11_isImage_54 : decode cX11_isImage 54 = .ok (.isub, 1) := by decide +kernel
theorem dX11_isImage_55 : decode cX11_isImage 55 = .ok (.if_icmp .ge 28, 3) := by decide +kernel
theorem dX11_isImage_58 : decode cX11_isImage 58 = .ok (.iconst 5, 1) := by decide +kernel
theorem dX11_isImage_59 : decode cX11_isImage 59 = .ok (.iload_n 2, 1) := by decide +kernel
theorem dX11_isImage_60 : decode cX11_isImage 60 = .ok (.imul, 1) := by decide +kernel
theorem dX11_isImage_61 : decode cX11_isImage 61 = .ok (.aload_n 0, 1) := by decide +kernel
theorem dX11_isImage_62 : decode cX11_isImage 62 = .ok (.getfield 7, 3) := by decide +kernel
theorem dX11_isImage_65 : decode cX11_isImage 65 = .ok (.iload_n 3, 1) := by decide +kernel
theorem dX11_isImage_66 : decode cX11_isImage 66 = .ok (.baload, 1) := by decide +kernel
theorem dX11_isImage_67 : decode cX11_isImage 67 = .ok (.sipush 255, 3) := by decide +kernel
theorem dX11_isImage_70 : decode cX11_isImage 70 = .ok (.iand, 1) := by decide +kernel
theorem dX11_isImage_71 : decode cX11_isImage 71 = .ok (.iadd, 1) := by decide +kernel
theorem dX11_isImage_72 : decode cX11_isImage 72 = .ok (.sipush 253, 3) := by decide +kernel
theorem dX11_isImage_75 : decode cX11_isImage 75 = .ok (.irem, 1) := by decide +kernel
theorem dX11_isImage_76 : decode cX11_isImage 76 = .ok (.istore_n 2, 1) := by decide +kernel
theorem dX11_isImage_77 : decode cX11_isImage 77 = .ok (.iinc 3 1, 3) := by decide +kernel
theorem dX11_isImage_80 : decode cX11_isImage 80 = .ok (.goto (-29), 3) := by decide +kernel
theorem dX11_isImage_83 : decode cX11_isImage 83 = .ok (.iload_n 2, 1) := by decide +kernel
theorem dX11_isImage_84 : decode cX11_isImage 84 = .ok (.aload_n 0, 1) := by decide +kernel
theorem dX11_isImage_85 : decode cX11_isImage 85 = .ok (.getfield 7, 3) := by decide +kernel
theorem dX11_isImage_88 : decode cX11_isImage 88 = .ok (.iload_n 1, 1) := by decide +kernel
theorem dX11_isImage_89 : decode cX11_isImage 89 = .ok (.iconst 1, 1) := by decide +kernel
theorem dX11_isImage_90 : decode cX11_isImage 90 = .ok (.isub, 1) := by decide +kernel
theorem dX11_isImage_91 : decode cX11_isImage 91 = .ok (.baload, 1) := by decide +kernel
theorem dX11_isImage_92 : decode cX11_isImage 92 = .ok (.sipush 255, 3) := by decide +kernel
theorem dX11_isImage_95 : decode cX11_isImage 95 = .ok (.iand, 1) := by decide +kernel
theorem dX11_isImage_96 : decode cX11_isImage 96 = .ok (.if_icmp .ne 55, 3) := by decide +kernel
theorem dX11_isImage_99 : decode cX11_isImage 99 = .ok (.aload_n 0, 1) := by decide +kernel
theorem dX11_isImage_100 : decode cX11_isImage 100 = .ok (.iconst 0, 1) := by decide +kernel
theorem dX11_isImage_101 : decode cX11_isImage 101 = .ok (.iconst 1, 1) := by decide +kernel
theorem dX11_isImage_102 : decode cX11_isImage 102 = .ok (.invokevirtual 450, 3) := by decide +kernel
theorem dX11_isImage_105 : decode cX11_isImage 105 = .ok (.ldc2_w 178, 3) := by decide +kernel
theorem dX11_isImage_108 : decode cX11_isImage 108 = .ok (.ldc2_w 180, 3) := by decide +kernel
theorem dX11_isImage_111 : decode cX11_isImage 111 = .ok (.invokestatic 83, 3) := by decide +kernel
theorem dX11_isImage_114 : decode cX11_isImage 114 = .ok (.ifCond .eq 37, 3) := by decide +kernel
theorem dX11_isImage_117 : decode cX11_isImage 117 = .ok (.aload_n 0, 1) := by decide +kernel
theorem dX11_isImage_118 : decode cX11_isImage 118 = .ok (.iconst 1, 1) := by decide +kernel
theorem dX11_isImage_119 : decode cX11_isImage 119 = .ok (.iconst 2, 1) := by decide +kernel
theorem dX11_isImage_120 : decode cX11_isImage 120 = .ok (.invokevirtual 450, 3) := by decide +kernel
theorem dX11_isImage_123 : decode cX11_isImage 123 = .ok (.ldc2_w 182, 3) := by decide +kernel
theorem dX11_isImage_126 : decode cX11_isImage 126 = .ok (.ldc2_w 184, 3) := by decide +kernel
theorem dX11_isImage_129 : decode cX11_isImage 129 = .ok (.invokestatic 83, 3) := by decide +kernel
theorem dX11_isImage_132 : decode cX11_isImage 132 = .ok (.ifCond .eq 19, 3) := by decide +kernel
theorem dX11_isImage_135 : decode cX11_isImage 135 = .ok (.aload_n 0, 1) := by decide +kernel
theorem dX11_isImage_136 : decode cX11_isImage 136 = .ok (.iconst 3, 1) := by decide +kernel
theorem dX11_isImage_137 : decode cX11_isImage 137 = .ok (.iconst 1, 1) := by decide +kernel
theorem dX11_isImage_138 : decode cX11_isImage 138 = .ok (.invokevirtual 450, 3) := by decide +kernel
theorem dX11_isImage_141 : decode cX11_isImage 141 = .ok (.lconst 0, 1) := by decide +kernel
theorem dX11_isImage_142 : decode cX11_isImage 142 = .ok (.ldc2_w 186, 3) := by decide +kernel
theorem dX11_isImage_145 : decode cX11_isImage 145 = .ok (.invokestatic 83, 3) := by decide +kernel
theorem dX11_isImage_148 : decode cX11_isImage 148 = .ok (.ifCond .ne 5, 3) := by decide +kernel
theorem dX11_isImage_151 : decode cX11_isImage 151 = .ok (.iconst 0, 1) := by decide +kernel
theorem dX11_isImage_152 : decode cX11_isImage 152 = .ok (.ireturn, 1) := by decide +kernel
theorem dX11_isImage_153 : decode cX11_isImage 153 = .ok (.ldc2_w 237, 3) := by decide +kernel
theorem dX11_isImage_156 : decode cX11_isImage 156 = .ok (.lstore_n 3, 1) := by decide +kernel
theorem dX11_isImage_157 : decode cX11_isImage 157 = .ok (.bipush 13, 2) := by decide +kernel
theorem dX11_isImage_159 : decode cX11_isImage 159 = .ok (.istore 5, 2) := by decide +kernel
theorem dX11_isImage_161 : decode cX11_isImage 161 = .ok (.iload 5, 2) := by decide +kernel
theorem dX11_isImage_163 : decode cX11_isImage 163 = .ok (.iload_n 1, 1) := by decide +kernel
theorem dX11_isImage_164 : decode cX11_isImage 164 = .ok (.iconst 1, 1) := by decide +kernel
theorem dX11_isImage_165 : decode cX11_isImage 165 = .ok (.isub, 1) := by decide +kernel
theorem dX11_isImage_166 : decode cX11_isImage 166 = .ok (.if_icmp .ge 39, 3) := by decide +kernel
theorem dX11_isImage_169 : decode cX11_isImage 169 = .ok (.aload_n 0, 1) := by decide +kernel
theorem dX11_isImage_170 : decode cX11_isImage 170 = .ok (.iload 5, 2) := by decide +kernel
theorem dX11_isImage_172 : decode cX11_isImage 172 = .ok (.iconst 4, 1) := by decide +kernel
theorem dX11_isImage_173 : decode cX11_isImage 173 = .ok (.invokevirtual 450, 3) := by decide +kernel
theorem dX11_isImage_176 : decode cX11_isImage 176 = .ok (.lstore 6, 2) := by decide +kernel
theorem dX11_isImage_178 : decode cX11_isImage 178 = .ok (.lload 6, 2) := by decide +kernel
theorem dX11_isImage_180 : decode cX11_isImage 180 = .ok (.lload_n 3, 1) := by decide +kernel
theorem dX11_isImage_181 : decode cX11_isImage 181 = .ok (.lcmp, 1) := by decide +kernel
theorem dX11_isImage_182 : decode cX11_isImage 182 = .ok (.ifCond .le 12, 3) := by decide +kernel
theorem dX11_isImage_185 : decode cX11_isImage 185 = .ok (.lload 6, 2) := by decide +kernel
theorem dX11_isImage_187 : decode cX11_isImage 187 = .ok (.ldc2_w 103, 3) := by decide +kernel
theorem dX11_isImage_190 : decode cX11_isImage 190 = .ok (.lcmp, 1) := by decide +kernel
theorem dX11_isImage_191 : decode cX11_isImage 191 = .ok (.ifCond .lt 5, 3) := by decide +kernel
theorem dX11_isImage_194 : decode cX11_isImage 194 = .ok (.iconst 0, 1) := by decide +kernel
theorem dX11_isImage_195 : decode cX11_isImage 195 = .ok (.ireturn, 1) := by decide +kernel
theorem dX11_isImage_196 : decode cX11_isImage 196 = .ok (.lload 6, 2) := by decide +kernel
theorem dX11_isImage_198 : decode cX11_isImage 198 = .ok (.lstore_n 3, 1) := by decide +kernel
theorem dX11_isImage_199 : decode cX11_isImage 199 = .ok (.iinc 5 8, 3) := by decide +kernel
theorem dX11_isImage_202 : decode cX11_isImage 202 = .ok (.goto (-41), 3) := by decide +kernel
theorem dX11_isImage_205 : decode cX11_isImage 205 = .ok (.iconst 1, 1) := by decide +kernel
theorem dX11_isImage_206 : decode cX11_isImage 206 = .ok (.ireturn, 1) := by decide +kernel
def own_c_isImage : List Cond := [.fieldLink RX11 7 "ClashFreeModel" "tape" "[B", .methodLink RX11 450 yX11_bytesAt, .instanceMethod yX11_bytesAt, .selects RX11 yX11_bytesAt yX11_bytesAt, .initialized RX11, .constantLong RX11 103 (2147483647), .constantLong RX11 178 (8), .constantLong RX11 180 (64), .methodLink RX11 83 yX11_isIn, .static yX11_isIn, .constantLong RX11 182 (25), .constantLong RX11 184 (400), .constantLong RX11 186 (200), .constantLong RX11 237 (-1)]
def wp_c_isImage : List Cond := .code yX11_isImage cX11_isImage 8 (some .boolean) :: (own_c_isImage ++ (wp_c_bytesAt ++ (wp_c_isIn ++ (wsX110 ++ ([] : List Cond)))))
set_option maxRecDepth 20000 in
theorem inown_c_isImage : ∀ w ∈ own_c_isImage, w ∈ lw_tbl := mem_places [1217, 1815, 1817, 104, 115, 1421, 1379, 1380, 1371, 1372, 1381, 1382, 1383, 1526] (by decide +kernel)
set_option maxRecDepth 20000 in
theorem in_c_isImage : ∀ w ∈ wp_c_isImage, w ∈ lw_tbl := List.forall_mem_cons.mpr ⟨List.mem_of_getElem? (i := 1814) (by decide +kernel), List.forall_mem_append.mpr ⟨inown_c_isImage, List.forall_mem_append.mpr ⟨in_c_bytesAt, List.forall_mem_append.mpr ⟨in_c_isIn, List.forall_mem_append.mpr ⟨lwb_X11, fun _ h => absurd h List.not_mem_nil⟩⟩⟩⟩⟩
set_option maxRecDepth 20000 in
theorem good_c_isImage : wp_c_isImage.all goodWord = true := by decide +kernel
set_option maxRecDepth 20000 in
theorem g_c_isImage_c_bytesAt_450 : GoodIn wp_c_isImage (wsV RX11 450 RX11 yX11_bytesAt wp_c_bytesAt) := goodIn_sub (List.forall_mem_append.mpr ⟨List.forall_mem_cons.mpr ⟨(List.mem_of_getElem? (i := 2) rfl), List.forall_mem_cons.mpr ⟨(List.mem_of_getElem? (i := 3) rfl), List.forall_mem_cons.mpr ⟨(List.mem_of_getElem? (i := 4) rfl), List.forall_mem_cons.mpr ⟨(List.mem_of_getElem? (i := 5) rfl), fun _ h => absurd h List.not_mem_nil⟩⟩⟩⟩, (fun _ h => (List.mem_cons_of_mem _ (List.mem_append_right _ (List.mem_append_left _ h))))⟩) (by decide +kernel)
set_option maxRecDepth 20000 in
theorem g_c_isImage_c_isIn_83 : GoodIn wp_c_isImage (va_wsS RX11 83 yX11_isIn wp_c_isIn) := goodIn_sub (List.forall_mem_append.mpr ⟨List.forall_mem_cons.mpr ⟨(List.mem_of_getElem? (i := 9) rfl), List.forall_mem_cons.mpr ⟨(List.mem_of_getElem? (i := 10) rfl), List.forall_mem_cons.mpr ⟨(List.mem_of_getElem? (i := 5) rfl), fun _ h => absurd h List.not_mem_nil⟩⟩⟩, (fun _ h => (List.mem_cons_of_mem _ (List.mem_append_right _ (List.mem_append_right _ (List.mem_append_left _ h)))))⟩) (by decide +kernel)
set_option maxHeartbeats 4000000 in
set_option maxRecDepth 100000 in
theorem lp_ii1 (l : Launch) {p : Program} {e : Env} {s : State} {m : MethodId} {args : Array Value} {below : List Frame} {meth : Method} {c : Code} {Q : State → Prop} {A : Nat → Prop} (D : va_G) (h0 : Nat) (a : Nat → Nat) (cm : Nat → ClassId) (i : Nat → Int32) (g : Nat → Int64) (fT : Nat → Int32) (tp : Nat) (bt : Nat → Nat) (cn : Nat) (htp2 : tp ≤ 1400) (hbt : TieR fT bt) (hcn : cn ≤ 160) (htc : tp = 14 + 8 * cn) (hx : p.tables.exec = Jvm.exec) (hb : c.code = cX11_isImage) (hml : c.maxLocals = 8) (hown : s.vm.findClass RX11 = some m.cls) (hts : ∀ w ∈ wp_c_isImage, w.before args s = true) (hA : ∀ q, s.heap.size ≤ q → A q) (hK : va_K D vwCl [(cm 1, .byte)] s) (kx83 : ∀ (y : Nat), (y ≤ tp - 1) → (tp - 1 ≤ y) → ∀ (H : Heap) (locs : List Loc) (ls : Array Slot), va_P D vwCl [(h0, .inr (11, gM a i g)), (a 1, .inl (cm 1, 1400, .inl fT))] H → va_S A s.heap H locs → lv_has ls 8 [(2, .int (nI (ckN bt y))), (0, .ref h0), (1, .int (nI tp))] → W p l e ({ frames := 4, cells := 0, slots := 0, locals := 60 }) s m args below meth c H locs 0 0 Q (F0 m 83 ls [])) : ∀ (N : Nat), ∀ (y : Nat), (y ≤ tp - 1) → tp - y < N → ∀ (H : Heap) (locs : List Loc) (ls : Array Slot), va_P D vwCl [(h0, .inr (11, gM a i g)), (a 1, .inl (cm 1, 1400, .inl fT))] H → va_S A s.heap H locs → lv_has ls 8 [(3, .int (nI y)), (2, .int (nI (ckN bt y))), (0, .ref h0), (1, .int (nI tp))] → W p l e ({ frames := 4, cells := 0, slots := 0, locals := 60 }) s m args below meth c H locs 0 0 Q (F0 m 51 ls []) := by
  have hin_X11 : ∀ w ∈ wsX110, w ∈ wp_c_isImage := fun _ h => (List.mem_cons_of_mem _ (List.mem_append_right _ (List.mem_append_right _ (List.mem_append_right _ (List.mem_append_left _ h)))))
  intro N
  induction N with
  | zero =>
    intro y hy1 hm
    exact absurd hm (Nat.not_lt_zero _)
  | succ N ih =>
    intro y hy1 hm H locs ls hP hS hl
    refine lv_iload_n hx hb dX11_isImage_51 rfl (lv_at hl 0 rfl) ?_
    refine lv_iload_n hx hb dX11_isImage_52 rfl (lv_at hl 3 rfl) ?_
    refine lv_iconst (v := 1) hx hb dX11_isImage_53 (by decide) ?_
    refine lv_isub hx hb dX11_isImage_54 ?_
    refine lv_topi (fun v1 ev1 => ?_)
    obtain rfl : v1 = nI (tp - 1) := ev1.trans (pk_sub (b := 1) (by omega))
    refine lv_icmp_ge (tgt := 83) hx hb dX11_isImage_55 (by decide) (fun hc2 => ?_) (fun hc2 => ?_)
    ·
      have hge_y : tp - 1 ≤ y := (nI_leI (by omega) (by omega)).mp hc2
      exact kx83 y (hy1) (by omega) H locs ls (hP.sub [0, 1] rfl) hS (lv_sub hl [1, 2, 3] rfl)
    ·
      have hlt_y : y < tp - 1 := by
        rcases Nat.lt_or_ge y (tp - 1) with z | z
        · exact z
        · exact absurd (nI_le z (by omega)) hc2
      refine lv_iconst (v := 5) hx hb dX11_isImage_58 (by decide) ?_
      refine lv_iload_n hx hb dX11_isImage_59 rfl (lv_at hl 1 rfl) ?_
      refine lv_imul hx hb dX11_isImage_60 ?_
      refine lv_aload_n hx hb dX11_isImage_61 rfl (lv_at hl 2 rfl) ?_
      refine va_get (D := D) (ci := 11) (v := .ref (a 1)) (C := RX11) (T := TX11) (N := 47) hx hb hts hin_X11 hown hK hP 0 rfl rfl 1 (by decide) (hts (.fieldLink RX11 7 "ClashFreeModel" "tape" "[B") (List.mem_of_getElem? (i := 1) rfl)) (fun _ h9 => h9) rfl dX11_isImage_62 ?_
      refine lv_iload_n hx hb dX11_isImage_65 rfl (lv_at hl 0 rfl) ?_
      refine va_bald hx hb hK hP 1 0 rfl rfl (vp_in_nI (by omega) (by decide)) dX11_isImage_66 ?_
      refine lv_sipush (v := 255) hx hb dX11_isImage_67 (by decide) ?_
      refine lv_iand hx hb dX11_isImage_70 ?_
      refine lv_topi (fun v3 ev3 => ?_)
      obtain rfl : v3 = nI (bt y) := ev3.trans (by rw [nI_clamp (by omega)]; exact (hbt _).1)
      refine lv_iadd hx hb dX11_isImage_71 ?_
      refine lv_sipush (v := 253) hx hb dX11_isImage_72 (by decide) ?_
      refine lv_irem hx hb dX11_isImage_75 (by decide) ?_
      refine lv_topi (fun v4 ev4 => ?_)
      obtain rfl : v4 = nI (ckN bt (y + 1)) := ev4.trans (ck_rem (ckN_lt _ _) (hbt _).2)
      refine lv_istore_n (lv' := [(2, .int (nI (ckN bt (y + 1)))), (3, .int (nI y)), (0, .ref h0), (1, .int (nI tp))]) hx hb dX11_isImage_76 rfl hl (by decide) rfl (fun ls hl => ?_)
      refine lv_iinc (v := nI (y + 1)) (lv' := [(3, .int (nI (y + 1))), (2, .int (nI (ckN bt (y + 1)))), (0, .ref h0), (1, .int (nI tp))]) hx hb dX11_isImage_77 hl (k := 1) rfl (nI_1 _) (by decide) rfl (fun ls hl => ?_)
      refine lv_goto (tgt := 51) hx hb dX11_isImage_80 (by decide) ?_
      exact ih (y + 1) (by omega) (by omega) H locs ls (hP.sub [0, 1] rfl) hS (lv_sub hl [0, 1, 2, 3] rfl)
set_option maxHeartbeats 4000000 in
set_option maxRecDepth 100000 in
theorem lp_ii2 (l : Launch) {p : Program} {e : Env} {s : State} {m : MethodId} {args : Array Value} {below : List Frame} {meth : Method} {c : Code} {Q : State → Prop} {A : Nat → Prop} (D : va_G) (h0 : Nat) (a : Nat → Nat) (cm : Nat → ClassId) (i : Nat → Int32) (g : Nat → Int64) (fT : Nat → Int32) (tp : Nat) (bt : Nat → Nat) (cn : Nat) (htp2 : tp ≤ 1400) (hbt : TieR fT bt) (hcn : cn ≤ 160) (htc : tp = 14 + 8 * cn) (hx : p.tables.exec = Jvm.exec) (hb : c.code = cX11_isImage) (hml : c.maxLocals = 8) (hown : s.vm.findClass RX11 = some m.cls) (hts : ∀ w ∈ wp_c_isImage, w.before args s = true) (hA : ∀ q, s.heap.size ≤ q → A q) (hK : va_K D vwCl [(cm 1, .byte)] s) (kx205 : ∀ (x : Nat), ∀ (la : Int64), (x ≤ cn) → (Rise fT x) → (Last fT x la) → (RsN bt x) → (la = laN bt x) → (cn ≤ x) → ∀ (H : Heap) (locs : List Loc) (ls : Array Slot), va_P D vwCl [(h0, .inr (11, gM a i g)), (a 1, .inl (cm 1, 1400, .inl fT))] H → va_S A s.heap H locs → lv_has ls 8 [(0, .ref h0)] → W p l e ({ frames := 4, cells := 0, slots := 0, locals := 60 }) s m args below meth c H locs 0 0 Q (F0 m 205 ls [])) (kx194 : ∀ (x : Nat), ∀ (la : Int64), (x ≤ cn) → (Rise fT x) → (Last fT x la) → (RsN bt x) → (la = laN bt x) → (x < cn ∧ ¬ RsN bt (x + 1)) → ∀ (H : Heap) (locs : List Loc) (ls : Array Slot), va_P D vwCl [(h0, .inr (11, gM a i g)), (a 1, .inl (cm 1, 1400, .inl fT))] H → va_S A s.heap H locs → lv_has ls 8 [(0, .ref h0)] → W p l e ({ frames := 4, cells := 0, slots := 0, locals := 60 }) s m args below meth c H locs 0 0 Q (F0 m 194 ls [])) : ∀ (N : Nat), ∀ (x : Nat), ∀ (la : Int64), (x ≤ cn) → (Rise fT x) → (Last fT x la) → (RsN bt x) → (la = laN bt x) → cn - x < N → ∀ (H : Heap) (locs : List Loc) (ls : Array Slot), va_P D vwCl [(h0, .inr (11, gM a i g)), (a 1, .inl (cm 1, 1400, .inl fT))] H → va_S A s.heap H locs → lv_has ls 8 [(5, .int (nI (13 + 8 * x))), (3, .long la), (0, .ref h0), (1, .int (nI tp))] → W p l e ({ frames := 4, cells := 0, slots := 0, locals := 60 }) s m args below meth c H locs 0 0 Q (F0 m 161 ls []) := by
  have hin_X11 : ∀ w ∈ wsX110, w ∈ wp_c_isImage := fun _ h => (List.mem_cons_of_mem _ (List.mem_append_right _ (List.mem_append_right _ (List.mem_append_right _ (List.mem_append_left _ h)))))
  intro N
  induction N with
  | zero =>
    intro x la hx1 hR hL hQ hla hm
    exact absurd hm (Nat.not_lt_zero _)
  | succ N ih =>
    intro x la hx1 hR hL hQ hla hm H locs ls hP hS hl
    refine lv_iload hx hb dX11_isImage_161 (lv_at hl 0 rfl) ?_
    refine lv_iload_n hx hb dX11_isImage_163 rfl (lv_at hl 3 rfl) ?_
    refine lv_iconst (v := 1) hx hb dX11_isImage_164 (by decide) ?_
    refine lv_isub hx hb dX11_isImage_165 ?_
    refine lv_topi (fun v1 ev1 => ?_)
    obtain rfl : v1 = nI (tp - 1) := ev1.trans (pk_sub (b := 1) (by omega))
    refine lv_icmp_ge (tgt := 205) hx hb dX11_isImage_166 (by decide) (fun hc2 => ?_) (fun hc2 => ?_)
    ·
      have hge_x : tp - 1 ≤ 13 + 8 * x := (nI_leI (by omega) (by omega)).mp hc2
      exact kx205 x la (hx1) (hR) (hL) (hQ) (hla) (by omega) H locs ls (hP.sub [0, 1] rfl) hS (lv_sub hl [2] rfl)
    ·
      have hlt_x : x < cn := by
        rcases Nat.lt_or_ge x cn with z | z
        · exact z
        · exact absurd (nI_le (show tp - 1 ≤ 13 + 8 * x by omega) (by omega)) hc2
      refine lv_aload_n hx hb dX11_isImage_169 rfl (lv_at hl 2 rfl) ?_
      refine lv_iload hx hb dX11_isImage_170 (lv_at hl 0 rfl) ?_
      refine lv_iconst (v := 4) hx hb dX11_isImage_172 (by decide) ?_
      have hPc := hP.sub (ws' := [(h0, .inr (11, gM a i g)), (a 1, .inl (cm 1, 1400, .inl fT))]) [0, 1] rfl
      have hKc := hK.sub (tys' := [(cm 1, .byte)]) [0] rfl
      have hFc := va_free0 hS hA
      refine va_calll (va_runV (As := [.int (nI (13 + 8 * x)), .int (nI 4)]) (rest := []) ⟨hx, hb, hml, hown, hts⟩ (c_bytesAt l D _ h0 a cm i g fT (13 + 8 * x) 4 (by first | assumption | omega)) (cwV 2 hts g_c_isImage_c_bytesAt_450 rfl rfl rfl (by decide +kernel) ⟨(Nat.le_of_ble_eq_true rfl), (Nat.le_of_ble_eq_true rfl)⟩) (PcR_V (q0 := 0) hPc hKc rfl rfl) rfl rfl hl.1 rfl (lv_room (Nat.le_of_ble_eq_true rfl)) dX11_isImage_173 ⟨(Nat.le_of_ble_eq_true rfl), (Nat.le_of_ble_eq_true rfl)⟩) hS (fun q _ h => hFc q h) hFc (fun r3 uu tt H locs htt hvm hw hB hz1 hk1 hS => ?_)
      have hP := va_keep hP hk1
      try dsimp only at hw
      clear hB hz1 hk1 hFc hPc hKc
      obtain rfl : r3 = bF fT (13 + 8 * x) 4 := hw
      refine lv_lstore (lv' := [(6, .long (bF fT (13 + 8 * x) 4)), (5, .int (nI (13 + 8 * x))), (3, .long la), (0, .ref h0), (1, .int (nI tp))]) hx hb dX11_isImage_176 hl (by decide) rfl (fun ls hl => ?_)
      refine lv_lload hx hb dX11_isImage_178 (lv_at hl 0 rfl) ?_
      refine lv_lload_n hx hb dX11_isImage_180 rfl (lv_at hl 2 rfl) ?_
      refine W.lcmp hx hb dX11_isImage_181 ?_
      refine lv_if_le (tgt := 194) hx hb dX11_isImage_182 (by decide) (fun hc4 => ?_) (fun hc4 => ?_)
      ·
        have hno9 := rs_no1 hbt hla ((lg_cmp_le _ _).mp hc4)
        exact kx194 x la (hx1) (hR) (hL) (hQ) (hla) (⟨hlt_x, hno9⟩) H locs ls (hP.sub [0, 1] rfl) hS (lv_sub hl [3] rfl)
      ·
        have hk1 := Int64.not_le.mp (mt (lg_cmp_le _ _).mpr hc4)
        refine lv_lload hx hb dX11_isImage_185 (lv_at hl 0 rfl) ?_
        refine lv_ldc2 (v := 2147483647) hx hb hown (hts (.constantLong RX11 103 (2147483647)) (List.mem_of_getElem? (i := 6) rfl)) dX11_isImage_187 ?_
        refine W.lcmp hx hb dX11_isImage_190 ?_
        refine lv_if_lt (tgt := 196) hx hb dX11_isImage_191 (by decide) (fun hc5 => ?_) (fun hc5 => ?_)
        ·
          have hk2 := (lg_cmp_lt _ _).mp hc5
          refine lv_lload hx hb dX11_isImage_196 (lv_at hl 0 rfl) ?_
          refine lv_lstore_n (lv' := [(3, .long (bF fT (13 + 8 * x) 4)), (6, .long (bF fT (13 + 8 * x) 4)), (5, .int (nI (13 + 8 * x))), (0, .ref h0), (1, .int (nI tp))]) hx hb dX11_isImage_198 rfl hl (by decide) rfl (fun ls hl => ?_)
          refine lv_iinc (v := nI (13 + 8 * (x + 1))) (lv' := [(5, .int (nI (13 + 8 * (x + 1)))), (3, .long (bF fT (13 + 8 * x) 4)), (6, .long (bF fT (13 + 8 * x) 4)), (0, .ref h0), (1, .int (nI tp))]) hx hb dX11_isImage_199 hl (k := 2) rfl ((nI_add (13 + 8 * x) 8).trans (congrArg nI (by omega))) (by decide) rfl (fun ls hl => ?_)
          refine lv_goto (tgt := 161) hx hb dX11_isImage_202 (by decide) ?_
          exact ih (x + 1) (bF fT (13 + 8 * x) 4) (by omega) (Rise_s hR hL hk1 hk2) (Last_s hL hk1) (rs_ok hbt hQ hla hk1 hk2) (key_tie hbt _) (by omega) H locs ls (hP.sub [0, 1] rfl) hS (lv_sub hl [0, 1, 3, 4] rfl)
        ·
          have hno9 := rs_no2 hbt (mt (lg_cmp_lt _ _).mpr hc5)
          exact kx194 x la (hx1) (hR) (hL) (hQ) (hla) (⟨hlt_x, hno9⟩) H locs ls (hP.sub [0, 1] rfl) hS (lv_sub hl [3] rfl)
set_option maxHeartbeats 4000000 in
set_option maxRecDepth 100000 in
theorem c_isImage (l : Launch) (D : va_G) (sz : Nat) (h0 : Nat) (a : Nat → Nat) (cm : Nat → ClassId) (i : Nat → Int32) (g : Nat → Int64) (fT : Nat → Int32) (tp : Nat) (bt : Nat → Nat) (htp2 : tp ≤ 1400) (hbt : TieR fT bt) : Met l yX11_isImage wp_c_isImage ({ frames := 4, cells := 0, slots := 0, locals := 60 }) (PcR D [.ref h0, .int (nI tp)] sz [(h0, .inr (11, gM a i g)), (a 1, .inl (cm 1, 1400, .inl fT))] [(cm 1, .byte)]) (va_Qi (fun (r : Int32) (u : Unit) => (r = 1 ∧ (ImgS fT tp ∧ IMG bt tp)) ∨ (r = 0 ∧ ¬ IMG bt tp)) (fun (_ : Unit) _ => True) (va_A [] sz)) 0 0 (va_A [] sz) := by
  refine Met.ofW (cc := cX11_isImage) (maxL := 8) (ret := (some .boolean)) (by decide) rfl ?_
  intro p e s m args below meth c s₁ B hml hv
  obtain ⟨rfl, hsz, hP, hK⟩ := hv
  have hx := B.exec
  have hb := B.bytes
  have hr := B.returns
  have hts := atoms_spec (ws := wp_c_isImage) B.pre
  have hin_X11 : ∀ w ∈ wsX110, w ∈ wp_c_isImage := fun _ h => (List.mem_cons_of_mem _ (List.mem_append_right _ (List.mem_append_right _ (List.mem_append_right _ (List.mem_append_left _ h)))))
  have hown : s.vm.findClass RX11 = some m.cls := findClass_of_methodNamed B.named
  have hlocks := B.notSynchronized
  subst hsz
  generalize hAe : va_A [] s.heap.size = A at ⊢
  have hA : ∀ q : Nat, s.heap.size ≤ q → A q := fun q h => by rw [← hAe]; exact Or.inr h
  have hS : va_S A s.heap s.heap [] := va_S.rf
  have hP : va_P D vwCl [(h0, .inr (11, gM a i g)), (a 1, .inl (cm 1, 1400, .inl fT))] s.heap := hP
  have hl := lv_entry ([.ref h0, .int (nI tp)]) (n := 8) (Nat.le_of_ble_eq_true rfl)
  rw [lg_entry_eq]
  generalize (lg_sl ([.ref h0, .int (nI tp)]) ++ List.replicate (8 - (lg_sl ([.ref h0, .int (nI tp)])).length) Slot.unset).toArray = ls at hl ⊢
  have hl : lv_has ls 8 [(0, .ref h0), (1, .int (nI tp))] := hl
  obtain ⟨cn, ecn9⟩ : ∃ cn, cn = bt 12 := ⟨_, rfl⟩
  have hc255 : cn ≤ 255 := by rw [ecn9]; exact (hbt 12).2
  have ecn : fT 12 &&& 255 = nI cn := by rw [ecn9]; exact (hbt 12).1
  refine lv_iload_n hx hb dX11_isImage_0 rfl (lv_at hl 1 rfl) ?_
  refine lv_bipush (v := 14) hx hb dX11_isImage_1 (by decide) ?_
  refine lv_icmp_lt (tgt := 44) hx hb dX11_isImage_3 (by decide) (fun hc1 => ?_) (fun hc1 => ?_)
  ·
    have hno : ¬ IMG bt tp := fun q => by
      have h8 := q.1
      have h9 := (nI_ltI (b := 14) (by omega) (by decide)).mp hc1
      omega
    refine lv_iconst (v := 0) hx hb dX11_isImage_44 (by decide) ?_
    exact W.zret (v := 0) hx hb hr rfl (fun t ht hW => ⟨⟨0, (), rfl, Or.inr ⟨rfl, hno⟩, trivial⟩, hS.F ht⟩) hS.2.2 dX11_isImage_45
  ·
    refine lv_iload_n hx hb dX11_isImage_6 rfl (lv_at hl 1 rfl) ?_
    refine lv_bipush (v := 14) hx hb dX11_isImage_7 (by decide) ?_
    refine lv_bipush (v := 8) hx hb dX11_isImage_9 (by decide) ?_
    refine lv_aload_n hx hb dX11_isImage_11 rfl (lv_at hl 0 rfl) ?_
    refine va_get (D := D) (ci := 11) (v := .ref (a 1)) (C := RX11) (T := TX11) (N := 47) hx hb hts hin_X11 hown hK hP 0 rfl rfl 1 (by decide) (hts (.fieldLink RX11 7 "ClashFreeModel" "tape" "[B") (List.mem_of_getElem? (i := 1) rfl)) (fun _ h9 => h9) rfl dX11_isImage_12 ?_
    refine lv_bipush (v := 12) hx hb dX11_isImage_15 (by decide) ?_
    refine va_bald hx hb hK hP 1 0 rfl rfl (show ¬ ((12 : Int32) < 0 ∨ 1400 ≤ Int32.toNatClampNeg 12) by decide) dX11_isImage_17 ?_
    refine lv_sipush (v := 255) hx hb dX11_isImage_18 (by decide) ?_
    refine lv_iand hx hb dX11_isImage_21 ?_
    refine lv_topi (fun v2 ev2 => ?_)
    obtain rfl : v2 = nI cn := ev2.trans (ecn)
    refine lv_imul hx hb dX11_isImage_22 ?_
    refine lv_topi (fun v3 ev3 => ?_)
    obtain rfl : v3 = nI (8 * cn) := ev3.trans (pk_mul 8 cn)
    refine lv_iadd hx hb dX11_isImage_23 ?_
    refine lv_topi (fun v4 ev4 => ?_)
    obtain rfl : v4 = nI (14 + 8 * cn) := ev4.trans (nI_add 14 (8 * cn))
    refine lv_icmp_ne (tgt := 44) hx hb dX11_isImage_24 (by decide) (fun hc5 => ?_) (fun hc5 => ?_)
    ·
      have hno : ¬ IMG bt tp := fun q => hc5 (by rw [ecn9]; exact congrArg nI q.1)
      refine lv_iconst (v := 0) hx hb dX11_isImage_44 (by decide) ?_
      exact W.zret (v := 0) hx hb hr rfl (fun t ht hW => ⟨⟨0, (), rfl, Or.inr ⟨rfl, hno⟩, trivial⟩, hS.F ht⟩) hS.2.2 dX11_isImage_45
    ·
      have htc : tp = 14 + 8 * cn := by
        rcases Nat.lt_or_ge (14 + 8 * cn) 2147483648 with z | z
        · exact (nI_eq (by omega) (by omega)).mp hc5
        · omega
      refine lv_aload_n hx hb dX11_isImage_27 rfl (lv_at hl 0 rfl) ?_
      refine va_get (D := D) (ci := 11) (v := .ref (a 1)) (C := RX11) (T := TX11) (N := 47) hx hb hts hin_X11 hown hK hP 0 rfl rfl 1 (by decide) (hts (.fieldLink RX11 7 "ClashFreeModel" "tape" "[B") (List.mem_of_getElem? (i := 1) rfl)) (fun _ h9 => h9) rfl dX11_isImage_28 ?_
      refine lv_bipush (v := 12) hx hb dX11_isImage_31 (by decide) ?_
      refine va_bald hx hb hK hP 1 0 rfl rfl (show ¬ ((12 : Int32) < 0 ∨ 1400 ≤ Int32.toNatClampNeg 12) by decide) dX11_isImage_33 ?_
      refine lv_sipush (v := 255) hx hb dX11_isImage_34 (by decide) ?_
      refine lv_iand hx hb dX11_isImage_37 ?_
      refine lv_topi (fun v6 ev6 => ?_)
      obtain rfl : v6 = nI cn := ev6.trans (ecn)
      refine lv_sipush (v := 160) hx hb dX11_isImage_38 (by decide) ?_
      refine lv_icmp_le (tgt := 46) hx hb dX11_isImage_41 (by decide) (fun hc7 => ?_) (fun hc7 => ?_)
      ·
        have hcn : cn ≤ 160 := (nI_leI (b := 160) (by omega) (by decide)).mp hc7
        refine lv_bipush (v := 7) hx hb dX11_isImage_46 (by decide) ?_
        refine lv_istore_n (lv' := [(2, .int 7), (0, .ref h0), (1, .int (nI tp))]) hx hb dX11_isImage_48 rfl hl (by decide) rfl (fun ls hl => ?_)
        refine lv_iconst (v := 0) hx hb dX11_isImage_49 (by decide) ?_
        refine lv_istore_n (lv' := [(3, .int 0), (2, .int 7), (0, .ref h0), (1, .int (nI tp))]) hx hb dX11_isImage_50 rfl hl (by decide) rfl (fun ls hl => ?_)
        refine lp_ii1 l D h0 a cm i g fT tp bt cn (htp2) (hbt) (hcn) (htc) hx hb hml hown hts hA (hK.sub [0] rfl) ?_ (tp + 1) 0 (Nat.zero_le _) (by omega) _ _ _ (hP.sub [0, 1] rfl) hS (lv_sub hl [0, 1, 2, 3] rfl)
        intro y_8 hy1_9 hx10 H locs ls hP hS hl
        refine lv_iload_n hx hb dX11_isImage_83 rfl (lv_at hl 0 rfl) ?_
        refine lv_aload_n hx hb dX11_isImage_84 rfl (lv_at hl 1 rfl) ?_
        refine va_get (D := D) (ci := 11) (v := .ref (a 1)) (C := RX11) (T := TX11) (N := 47) hx hb hts hin_X11 hown hK hP 0 rfl rfl 1 (by decide) (hts (.fieldLink RX11 7 "ClashFreeModel" "tape" "[B") (List.mem_of_getElem? (i := 1) rfl)) (fun _ h9 => h9) rfl dX11_isImage_85 ?_
        refine lv_iload_n hx hb dX11_isImage_88 rfl (lv_at hl 2 rfl) ?_
        refine lv_iconst (v := 1) hx hb dX11_isImage_89 (by decide) ?_
        refine lv_isub hx hb dX11_isImage_90 ?_
        refine lv_topi (fun v11 ev11 => ?_)
        obtain rfl : v11 = nI (tp - 1) := ev11.trans (pk_sub (b := 1) (by omega))
        refine va_bald hx hb hK hP 1 0 rfl rfl (vp_in_nI (by omega) (by decide)) dX11_isImage_91 ?_
        refine lv_sipush (v := 255) hx hb dX11_isImage_92 (by decide) ?_
        refine lv_iand hx hb dX11_isImage_95 ?_
        refine lv_topi (fun v12 ev12 => ?_)
        obtain rfl : v12 = nI (bt (tp - 1)) := ev12.trans (by rw [nI_clamp (by omega)]; exact (hbt _).1)
        refine lv_icmp_ne (tgt := 151) hx hb dX11_isImage_96 (by decide) (fun hc13 => ?_) (fun hc13 => ?_)
        ·
          have hno : ¬ IMG bt tp := fun q => hc13 (by rw [q.2.2.2.2.2.2, show y_8 = tp - 1 by omega])
          refine lv_iconst (v := 0) hx hb dX11_isImage_151 (by decide) ?_
          exact W.zret (v := 0) hx hb hr rfl (fun t ht hW => ⟨⟨0, (), rfl, Or.inr ⟨rfl, hno⟩, trivial⟩, hS.F ht⟩) hS.2.2 dX11_isImage_152
        ·
          have hck : bt (tp - 1) = ckN bt (tp - 1) := by
            have h9 := ckN_lt bt y_8
            have h8 := (hbt (tp - 1)).2
            rw [← (nI_eq (by omega) (by omega)).mp hc13, show y_8 = tp - 1 by omega]
          refine lv_aload_n hx hb dX11_isImage_99 rfl (lv_at hl 1 rfl) ?_
          refine lv_iconst (v := 0) hx hb dX11_isImage_100 (by decide) ?_
          refine lv_iconst (v := 1) hx hb dX11_isImage_101 (by decide) ?_
          have hPc := hP.sub (ws' := [(h0, .inr (11, gM a i g)), (a 1, .inl (cm 1, 1400, .inl fT))]) [0, 1] rfl
          have hKc := hK.sub (tys' := [(cm 1, .byte)]) [0] rfl
          have hFc := va_free0 hS hA
          refine va_calll (va_runV (As := [.int (nI 0), .int (nI 1)]) (rest := []) ⟨hx, hb, hml, hown, hts⟩ (c_bytesAt l D _ h0 a cm i g fT 0 1 (by first | assumption | omega)) (cwV 2 hts g_c_isImage_c_bytesAt_450 rfl rfl rfl (by decide +kernel) ⟨(Nat.le_of_ble_eq_true rfl), (Nat.le_of_ble_eq_true rfl)⟩) (PcR_V (q0 := 0) hPc hKc rfl rfl) rfl rfl hl.1 rfl (lv_room (Nat.le_of_ble_eq_true rfl)) dX11_isImage_102 ⟨(Nat.le_of_ble_eq_true rfl), (Nat.le_of_ble_eq_true rfl)⟩) hS (fun q _ h => hFc q h) hFc (fun r14 uu tt H locs htt hvm hw hB hz1 hk1 hS => ?_)
          have hP := va_keep hP hk1
          try dsimp only at hw
          clear hB hz1 hk1 hFc hPc hKc
          obtain rfl : r14 = bF fT 0 1 := hw
          refine lv_ldc2 (v := 8) hx hb hown (hts (.constantLong RX11 178 (8)) (List.mem_of_getElem? (i := 7) rfl)) dX11_isImage_105 ?_
          refine lv_ldc2 (v := 64) hx hb hown (hts (.constantLong RX11 180 (64)) (List.mem_of_getElem? (i := 8) rfl)) dX11_isImage_108 ?_
          have hPc := hP.sub (ws' := []) [] rfl
          have hKc := hK.sub (tys' := []) [] rfl
          have hFc := va_free0 hS hA
          refine va_calli (va_runS (As := [.long (bF fT 0 1), .long 8, .long 64]) (rest := []) ⟨hx, hb, hml, hown, hts⟩ (c_isIn l D _ (bF fT 0 1) 8 64) (va_cwS 3 hts g_c_isImage_c_isIn_83 rfl rfl rfl (by decide +kernel) ⟨(Nat.le_of_ble_eq_true rfl), (Nat.le_of_ble_eq_true rfl)⟩) (PcR_S hPc hKc) rfl rfl hl.1 rfl (lv_room (Nat.le_of_ble_eq_true rfl)) dX11_isImage_111 ⟨(Nat.le_of_ble_eq_true rfl), (Nat.le_of_ble_eq_true rfl)⟩) hS (fun q _ h => hFc q h) hFc (fun r15 uu tt H locs htt hvm hw hB hz1 hk1 hS => ?_)
          have hP := va_keep hP hk1
          try dsimp only at hw
          clear hB hz1 hk1 hFc hPc hKc
          rcases hw with ⟨rfl, hA_r15⟩ | ⟨rfl, hA_r15⟩
          ·
            have hI1 := hA_r15
            refine lv_if_eq (tgt := 151) hx hb dX11_isImage_114 (by decide) (fun hc => absurd hc (by decide)) (fun hc => ?_)
            refine lv_aload_n hx hb dX11_isImage_117 rfl (lv_at hl 1 rfl) ?_
            refine lv_iconst (v := 1) hx hb dX11_isImage_118 (by decide) ?_
            refine lv_iconst (v := 2) hx hb dX11_isImage_119 (by decide) ?_
            have hPc := hP.sub (ws' := [(h0, .inr (11, gM a i g)), (a 1, .inl (cm 1, 1400, .inl fT))]) [0, 1] rfl
            have hKc := hK.sub (tys' := [(cm 1, .byte)]) [0] rfl
            have hFc := va_free0 hS hA
            refine va_calll (va_runV (As := [.int (nI 1), .int (nI 2)]) (rest := []) ⟨hx, hb, hml, hown, hts⟩ (c_bytesAt l D _ h0 a cm i g fT 1 2 (by first | assumption | omega)) (cwV 2 hts g_c_isImage_c_bytesAt_450 rfl rfl rfl (by decide +kernel) ⟨(Nat.le_of_ble_eq_true rfl), (Nat.le_of_ble_eq_true rfl)⟩) (PcR_V (q0 := 0) hPc hKc rfl rfl) rfl rfl hl.1 rfl (lv_room (Nat.le_of_ble_eq_true rfl)) dX11_isImage_120 ⟨(Nat.le_of_ble_eq_true rfl), (Nat.le_of_ble_eq_true rfl)⟩) hS (fun q _ h => hFc q h) hFc (fun r16 uu tt H locs htt hvm hw hB hz1 hk1 hS => ?_)
            have hP := va_keep hP hk1
            try dsimp only at hw
            clear hB hz1 hk1 hFc hPc hKc
            obtain rfl : r16 = bF fT 1 2 := hw
            refine lv_ldc2 (v := 25) hx hb hown (hts (.constantLong RX11 182 (25)) (List.mem_of_getElem? (i := 11) rfl)) dX11_isImage_123 ?_
            refine lv_ldc2 (v := 400) hx hb hown (hts (.constantLong RX11 184 (400)) (List.mem_of_getElem? (i := 12) rfl)) dX11_isImage_126 ?_
            have hPc := hP.sub (ws' := []) [] rfl
            have hKc := hK.sub (tys' := []) [] rfl
            have hFc := va_free0 hS hA
            refine va_calli (va_runS (As := [.long (bF fT 1 2), .long 25, .long 400]) (rest := []) ⟨hx, hb, hml, hown, hts⟩ (c_isIn l D _ (bF fT 1 2) 25 400) (va_cwS 3 hts g_c_isImage_c_isIn_83 rfl rfl rfl (by decide +kernel) ⟨(Nat.le_of_ble_eq_true rfl), (Nat.le_of_ble_eq_true rfl)⟩) (PcR_S hPc hKc) rfl rfl hl.1 rfl (lv_room (Nat.le_of_ble_eq_true rfl)) dX11_isImage_129 ⟨(Nat.le_of_ble_eq_true rfl), (Nat.le_of_ble_eq_true rfl)⟩) hS (fun q _ h => hFc q h) hFc (fun r17 uu tt H locs htt hvm hw hB hz1 hk1 hS => ?_)
            have hP := va_keep hP hk1
            try dsimp only at hw
            clear hB hz1 hk1 hFc hPc hKc
            rcases hw with ⟨rfl, hA_r17⟩ | ⟨rfl, hA_r17⟩
            ·
              have hI2 := hA_r17
              refine lv_if_eq (tgt := 151) hx hb dX11_isImage_132 (by decide) (fun hc => absurd hc (by decide)) (fun hc => ?_)
              refine lv_aload_n hx hb dX11_isImage_135 rfl (lv_at hl 1 rfl) ?_
              refine lv_iconst (v := 3) hx hb dX11_isImage_136 (by decide) ?_
              refine lv_iconst (v := 1) hx hb dX11_isImage_137 (by decide) ?_
              have hPc := hP.sub (ws' := [(h0, .inr (11, gM a i g)), (a 1, .inl (cm 1, 1400, .inl fT))]) [0, 1] rfl
              have hKc := hK.sub (tys' := [(cm 1, .byte)]) [0] rfl
              have hFc := va_free0 hS hA
              refine va_calll (va_runV (As := [.int (nI 3), .int (nI 1)]) (rest := []) ⟨hx, hb, hml, hown, hts⟩ (c_bytesAt l D _ h0 a cm i g fT 3 1 (by first | assumption | omega)) (cwV 2 hts g_c_isImage_c_bytesAt_450 rfl rfl rfl (by decide +kernel) ⟨(Nat.le_of_ble_eq_true rfl), (Nat.le_of_ble_eq_true rfl)⟩) (PcR_V (q0 := 0) hPc hKc rfl rfl) rfl rfl hl.1 rfl (lv_room (Nat.le_of_ble_eq_true rfl)) dX11_isImage_138 ⟨(Nat.le_of_ble_eq_true rfl), (Nat.le_of_ble_eq_true rfl)⟩) hS (fun q _ h => hFc q h) hFc (fun r18 uu tt H locs htt hvm hw hB hz1 hk1 hS => ?_)
              have hP := va_keep hP hk1
              try dsimp only at hw
              clear hB hz1 hk1 hFc hPc hKc
              obtain rfl : r18 = bF fT 3 1 := hw
              refine lv_lconst (v := 0) hx hb dX11_isImage_141 (by decide) ?_
              refine lv_ldc2 (v := 200) hx hb hown (hts (.constantLong RX11 186 (200)) (List.mem_of_getElem? (i := 13) rfl)) dX11_isImage_142 ?_
              have hPc := hP.sub (ws' := []) [] rfl
              have hKc := hK.sub (tys' := []) [] rfl
              have hFc := va_free0 hS hA
              refine va_calli (va_runS (As := [.long (bF fT 3 1), .long 0, .long 200]) (rest := []) ⟨hx, hb, hml, hown, hts⟩ (c_isIn l D _ (bF fT 3 1) 0 200) (va_cwS 3 hts g_c_isImage_c_isIn_83 rfl rfl rfl (by decide +kernel) ⟨(Nat.le_of_ble_eq_true rfl), (Nat.le_of_ble_eq_true rfl)⟩) (PcR_S hPc hKc) rfl rfl hl.1 rfl (lv_room (Nat.le_of_ble_eq_true rfl)) dX11_isImage_145 ⟨(Nat.le_of_ble_eq_true rfl), (Nat.le_of_ble_eq_true rfl)⟩) hS (fun q _ h => hFc q h) hFc (fun r19 uu tt H locs htt hvm hw hB hz1 hk1 hS => ?_)
              have hP := va_keep hP hk1
              try dsimp only at hw
              clear hB hz1 hk1 hFc hPc hKc
              rcases hw with ⟨rfl, hA_r19⟩ | ⟨rfl, hA_r19⟩
              ·
                have hI3 := hA_r19
                refine lv_if_ne (tgt := 153) hx hb dX11_isImage_148 (by decide) (fun hc => ?_) (fun hc => absurd hc (by decide))
                refine lv_ldc2 (v := (-1)) hx hb hown (hts (.constantLong RX11 237 (-1)) (List.mem_of_getElem? (i := 14) rfl)) dX11_isImage_153 ?_
                refine lv_lstore_n (lv' := [(3, .long (-1)), (2, .int (nI (ckN bt y_8))), (0, .ref h0), (1, .int (nI tp))]) hx hb dX11_isImage_156 rfl hl (by decide) rfl (fun ls hl => ?_)
                refine lv_bipush (v := 13) hx hb dX11_isImage_157 (by decide) ?_
                refine lv_istore (lv' := [(5, .int 13), (3, .long (-1)), (2, .int (nI (ckN bt y_8))), (0, .ref h0), (1, .int (nI tp))]) hx hb dX11_isImage_159 hl (by decide) rfl (fun ls hl => ?_)
                refine lp_ii2 l D h0 a cm i g fT tp bt cn (htp2) (hbt) (hcn) (htc) hx hb hml hown hts hA (hK.sub [0] rfl) ?_ ?_ (cn + 1) 0 (-1) (Nat.zero_le _) (Rise_0 _) (⟨by decide, fun j h => absurd h (Nat.not_lt_zero _)⟩) (RsN_0 _) (rfl) (by omega) _ _ _ (hP.sub [0, 1] rfl) hS (lv_sub hl [0, 1, 3, 4] rfl)
                ·
                  intro x_20 la_21 hx1_22 hR_23 hL_24 hQ_25 hla_26 hx27 H locs ls hP hS hl
                  refine lv_iconst (v := 1) hx hb dX11_isImage_205 (by decide) ?_
                  exact W.zret (v := 1) hx hb hr rfl (fun t ht hW => ⟨⟨1, (), rfl, Or.inl ⟨rfl, ⟨cn, hcn, htc, ecn, hI1, hI2, hI3, (show x_20 = cn by omega) ▸ hR_23⟩, by omega, by omega, (st1 hbt).mp hI1, (st2 hbt).mp hI2, (st3 hbt).mp hI3, (show x_20 = bt 12 by omega) ▸ hQ_25, hck⟩, trivial⟩, hS.F ht⟩) hS.2.2 dX11_isImage_206
                ·
                  intro x_28 la_29 hx1_30 hR_31 hL_32 hQ_33 hla_34 hx35 H locs ls hP hS hl
                  have hno : ¬ IMG bt tp := fun q => hx35.2 (RsN_m q.2.2.2.2.2.1 (by have := hx35.1; omega))
                  refine lv_iconst (v := 0) hx hb dX11_isImage_194 (by decide) ?_
                  exact W.zret (v := 0) hx hb hr rfl (fun t ht hW => ⟨⟨0, (), rfl, Or.inr ⟨rfl, hno⟩, trivial⟩, hS.F ht⟩) hS.2.2 dX11_isImage_195
              ·
                have hno : ¬ IMG bt tp := fun q => hA_r19 ((st3 hbt).mpr q.2.2.2.2.1)
                refine lv_if_ne (tgt := 153) hx hb dX11_isImage_148 (by decide) (fun hc => absurd (by decide) hc) (fun hc => ?_)
                refine lv_iconst (v := 0) hx hb dX11_isImage_151 (by decide) ?_
                exact W.zret (v := 0) hx hb hr rfl (fun t ht hW => ⟨⟨0, (), rfl, Or.inr ⟨rfl, hno⟩, trivial⟩, hS.F ht⟩) hS.2.2 dX11_isImage_152
            ·
              have hno : ¬ IMG bt tp := fun q => hA_r17 ((st2 hbt).mpr q.2.2.2.1)
              refine lv_if_eq (tgt := 151) hx hb dX11_isImage_132 (by decide) (fun hc => ?_) (fun hc => absurd (by decide) hc)
              refine lv_iconst (v := 0) hx hb dX11_isImage_151 (by decide) ?_
              exact W.zret (v := 0) hx hb hr rfl (fun t ht hW => ⟨⟨0, (), rfl, Or.inr ⟨rfl, hno⟩, trivial⟩, hS.F ht⟩) hS.2.2 dX11_isImage_152
          ·
            have hno : ¬ IMG bt tp := fun q => hA_r15 ((st1 hbt).mpr q.2.2.1)
            refine lv_if_eq (tgt := 151) hx hb dX11_isImage_114 (by decide) (fun hc => ?_) (fun hc => absurd (by decide) hc)
            refine lv_iconst (v := 0) hx hb dX11_isImage_151 (by decide) ?_
            exact W.zret (v := 0) hx hb hr rfl (fun t ht hW => ⟨⟨0, (), rfl, Or.inr ⟨rfl, hno⟩, trivial⟩, hS.F ht⟩) hS.2.2 dX11_isImage_152
      ·
        have hno : ¬ IMG bt tp := fun q => hc7 (nI_le (b := 160) (by have := q.2.1; omega) (by decide))
        refine lv_iconst (v := 0) hx hb dX11_isImage_44 (by decide) ?_
        exact W.zret (v := 0) hx hb hr rfl (fun t ht hW => ⟨⟨0, (), rfl, Or.inr ⟨rfl, hno⟩, trivial⟩, hS.F ht⟩) hS.2.2 dX11_isImage_45

